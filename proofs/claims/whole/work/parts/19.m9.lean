/-! what is asked of the reference -/
def RIc (h : Hp) (b : Nat) (V : Hv) (T : Tb) : Prop := SC h b V T none false ∧ RPc h (T.1 7 0) none ∧ T.1 7 2 ≤ 9999
theorem RIc.end {h h' : Hp} {b : Nat} {V : Hv} {T T' : Tb} (C : RIc h b V T) (hR : RTb h' T') (hT : TbOK T') (hd : T'.1 7 2 ≤ 9999) (hF : Fr scrF h h') (hc : Calm h') : RIc h' b V T' ∧ Fr scrF h h' :=
  ⟨⟨⟨hR, hT, C.1.2.2.1.fr hF (fun j => ⟨rfl, rfl, rfl, rfl, rfl, rfl⟩) rfl, ⟨hc.2.1, C.1.2.2.2.1.2⟩, hc.1⟩, hc.2.2, hd⟩, hF⟩
theorem RIc.calm {h : Hp} {b : Nat} {V : Hv} {T : Tb} (C : RIc h b V T) : Calm h := ⟨C.1.2.2.2.2, C.1.2.2.2.1.1, C.2.1⟩
theorem goF_calm {h h' : Hp} (H : Calm h) (hF : Fr goF h h') : Calm h' := ⟨by rw [hF.1 _ _ rfl]; exact H.1, by rw [hF.1 _ _ rfl]; exact H.2.1, by rw [hF.1 _ _ rfl]; exact H.2.2⟩
theorem kpF_calm {h h' : Hp} (H : Calm h) (hF : Fr kpF h h') : Calm h' := ⟨by rw [hF.1 _ _ rfl]; exact H.1, by rw [hF.1 _ _ rfl]; exact H.2.1, by rw [hF.1 _ _ rfl]; exact H.2.2⟩
theorem pbF_calm {h h' : Hp} (H : Calm h) (hF : Fr pbF h h') : Calm h' := ⟨by rw [hF.1 _ _ rfl]; exact H.1, by rw [hF.1 _ _ rfl]; exact H.2.1, by rw [hF.1 _ _ rfl]; exact H.2.2⟩
set_option maxRecDepth 100000 in
theorem m_X7_supper {G : WT} {l : Launch} (hG : GOK G) {h : Hp} {b : Nat} {V : Hv} {T : Tb} (C : RIc h b V T) : Cl G l 10 yX7_supper cX7_supper 1 (some .int) [.ref (gA G 134)] h (fun r h' => r = some (.int (supperA T (supS V (P0 V) T))) ∧ RIc h' b V (if T.1 7 2 = 9999 then T else supS V (P0 V) T) ∧ Fr scrF h h') := by
  refine Cl.of hG (by decide) (Nat.le_of_ble_eq_true rfl) ?_
  show Wp G l 10 RX7 cX7_supper 1 (some .int) 0 [.ref (gA G 134)] [] h _
  have hE := C.1.2.1.1
  have hdy := C.2.2
  refine r_aload_n dX7_supper_0 rfl ?_
  refine r_getI dX7_supper_1 k_X7_16 rfl (by decide) rfl ?_
  refine r_sipush (v := 9999) dX7_supper_4 (by decide) ?_
  rw [C.1.1.2.2.1]
  refine r_icmp_ne (tgt := 13) dX7_supper_7 (by decide) (fun c_7 => ?_) (fun c_7 => ?_)
  · have y : ¬ T.1 7 2 = 9999 := fun q => c_7 (by rw [q]; rfl)
    have hok := supS_ok (V := V) (P := P0 V) C.1.2.1 (by omega)
    refine r_aload_n dX7_supper_13 rfl ?_
    refine r_callV dX7_supper_14 l_X7_336 o_X7_goSupper v_X7_goSupper rfl (by decide) rfl rfl (m_X7_goSupper (pact := none) hG C.1 C.2.1 (by omega)) (by decide) rfl (Nat.le_of_ble_eq_true rfl) (fun r14 h14 hq14 => ?_)
    obtain ⟨rfl, hR, hF, -⟩ := hq14
    have hR : RTb h14 (supS V (P0 V) T) := hR
    refine r_aload_n dX7_supper_17 rfl ?_
    refine r_getI dX7_supper_18 k_X7_7 rfl (by decide) rfl ?_
    rw [hR.1, supS_E]
    refine r_if_ne (tgt := 29) dX7_supper_21 (by decide) (fun c_21 => ?_) (fun c_21 => ?_)
    · have z : ¬ T.1 7 0 = 0 := fun q => c_21 (by rw [q]; rfl)
      refine r_aload_n dX7_supper_29 rfl ?_
      refine r_getI dX7_supper_30 k_X7_19 rfl (by decide) rfl ?_
      refine r_ireturn dX7_supper_33 ⟨_, rfl, rfl⟩ ?_
      rw [if_neg y]
      refine ⟨?_, C.end hR hok (by have := supS_day (V := V) (P := P0 V) (T := T); omega) (goF_scr hF) (goF_calm C.calm hF)⟩
      have hb : ¬ (supS V (P0 V) T).1 7 3 = 0 := by
        rw [supS, if_neg z]
        show ¬ bkS V (P0 V) T (wishP V (P0 V) T) + 1 = 0
        omega
      obtain ⟨n, hn⟩ : ∃ n, (supS V (P0 V) T).1 7 3 = n + 1 := ⟨(supS V (P0 V) T).1 7 3 - 1, by omega⟩
      rw [supperA, if_neg y, bkA, if_neg hb, hR.2.2.2.1, hn, nI_pred]
      rfl
    · have z : T.1 7 0 = 0 := (nI_eq' (b := 0) (by omega) (by omega)).mp c_21
      refine r_bipush (v := -5) dX7_supper_24 (by decide) ?_
      refine r_goto (tgt := 33) dX7_supper_26 (by decide) ?_
      refine r_ireturn dX7_supper_33 ⟨_, rfl, rfl⟩ ?_
      rw [if_neg y]
      refine ⟨?_, C.end hR hok (by have := supS_day (V := V) (P := P0 V) (T := T); omega) (goF_scr hF) (goF_calm C.calm hF)⟩
      have h3 := hok.2.2.2.1
      rw [supS_E, z] at h3
      rw [supperA, if_neg y, bkA, if_pos (by omega)]
  · have y : T.1 7 2 = 9999 := (nI_eq' (b := 9999) (by omega) (by omega)).mp c_7
    refine r_bipush (v := -3) dX7_supper_10 (by decide) ?_
    refine r_ireturn dX7_supper_12 ⟨_, rfl, rfl⟩ ?_
    rw [if_pos y]
    exact ⟨by rw [supperA, if_pos y], C, Fr.rf⟩
/-! in(x, a, b), by dec -/
theorem inP_dec {x : Int32} {a c E : Nat} (ha : a + E < 1000000) (hc : c + 1 = a + E) : inP x (nI a) (nI c) = (dec (x - nI a) E).isSome := by
  cases hd : dec (x - nI a) E with
  | some j =>
    obtain ⟨h1, h2⟩ := (dec_sub (by omega) (by omega)).mp hd
    exact (in_nn (by omega) (by omega)).mpr ⟨a + j, by omega, by omega, h2⟩
  | none =>
    cases hi : inP x (nI a) (nI c) with
    | false => rfl
    | true =>
      obtain ⟨j, h1, h2, h3⟩ := (in_nn (by omega) (by omega)).mp hi
      have := (dec_sub (x := x) (j := j - a) (a := a) (E := E) (by omega) (by omega)).mpr ⟨by omega, by rw [h3]; congr 1; omega⟩
      rw [hd] at this
      cases this
theorem inP_dec0 {x : Int32} {c E : Nat} (hE : E < 1000000) (hc : c + 1 = E) : inP x 0 (nI c) = (dec x E).isSome := by
  have := inP_dec (x := x) (a := 0) (c := c) (E := E) (by omega) (by omega)
  rw [nI_0, Int32.sub_zero] at this
  exact this
theorem isE_dec {x : Int32} {E : Nat} (hE : E < 1000000) : inP x 0 (nI E - 1) = (dec x E).isSome := by
  cases hd : dec x E with
  | some j =>
    obtain ⟨h1, h2, h3⟩ := dec_some.mp hd
    exact (in_lt hE).mpr ⟨j, h1, h2⟩
  | none =>
    cases hi : inP x 0 (nI E - 1) with
    | false => rfl
    | true =>
      obtain ⟨j, h1, h2⟩ := (in_lt hE).mp hi
      have := dec_some.mpr ⟨h1, h2, by omega⟩
      rw [hd] at this
      cases this
theorem isSome_f {α : Type} {o : Option α} (h : o.isSome = false) : o = none := by cases o <;> simp_all
theorem isSome_t {α : Type} {o : Option α} (h : o.isSome = true) : ∃ a, o = some a := by cases o <;> simp_all
/-- run, behind its questions -/
theorem run_48 {G : WT} {l : Launch} (hG : GOK G) {h : Hp} {b : Nat} {V : Hv} {T : Tb} {n what : Int32} (C : RIc h b V T) (hok : what = 0 ∨ what = 1 ∨ (∃ i, i < T.1 7 0 ∧ what = nI (10 + i)) ∨ ∃ i, i < T.1 7 0 ∧ what = nI (20 + i)) : ∀ v3, Wp G l 11 RX7 cX7_run 4 (some .int) 48 [.ref (gA G 134), .int n, .int what, v3] [] h (fun r h' => r = some (.int (runA V T n what)) ∧ RIc h' b V T ∧ Fr scrF h h') := by
  intro v3
  have hE := C.1.2.1.1
  have hdy := C.2.2
  have hfar : ¬ (dec what 2 = none ∧ dec (what - nI 10) (T.1 7 0) = none ∧ dec (what - nI 20) (T.1 7 0) = none) := by
    rintro ⟨d1, d2, d3⟩
    rcases hok with rfl | rfl | ⟨i, hi, rfl⟩ | ⟨i, hi, rfl⟩
    · rw [show (0 : Int32) = nI 0 from rfl, dec_nI (by omega) (by omega)] at d1; cases d1
    · rw [show (1 : Int32) = nI 1 from rfl, dec_nI (by omega) (by omega)] at d1; cases d1
    · rw [(dec_sub (by omega) (by omega)).mpr ⟨hi, rfl⟩] at d2; cases d2
    · rw [(dec_sub (by omega) (by omega)).mpr ⟨hi, rfl⟩] at d3; cases d3
  cases hn : dec n 61 with
  | none =>
    refine r_aload_n dX7_run_48 rfl ?_
    refine r_iload_n dX7_run_49 rfl ?_
    refine r_iconst (v := 0) dX7_run_50 (by decide) ?_
    refine r_bipush (v := 60) dX7_run_51 (by decide) ?_
    refine r_callV dX7_run_53 l_X7_212 o_X7_in v_X7_in rfl (by decide) rfl rfl (m_X7_in hG) (by decide) rfl (Nat.le_of_ble_eq_true rfl) (fun r53 h53 hq53 => ?_)
    obtain ⟨rfl, e53⟩ := hq53
    rw [e53]
    clear e53 h53
    rw [show inP n 0 60 = (dec n 61).isSome from inP_dec0 (c := 60) (by omega) rfl, hn]
    refine r_if_ne (tgt := 63) dX7_run_56 (by decide) (fun c_56 => ?_) (fun c_56 => ?_)
    · exact absurd rfl c_56
    · refine r_ldcw dX7_run_59 n_X7_340 ?_
      refine r_ireturn dX7_run_62 ⟨_, rfl, rfl⟩ ?_
      exact ⟨by rw [runA, if_neg hfar, hn]; rfl, C, Fr.rf⟩
  | some k =>
    obtain ⟨hk, rfl, -⟩ := dec_some.mp hn
    have fin : ∀ (x : Int32) (g1 g2 g3 : Hp), x = runA V T (nI k) what → Fr kpF h g1 → Kept h g1 → Fr goF g1 g2 → Fr pbF g2 g3 → Back1 g2 g3 → (some (Value.int x) = some (Value.int (runA V T (nI k) what)) ∧ RIc g3 b V T ∧ Fr scrF h g3) := by
      intro x g1 g2 g3 hx f1 k1 f2 f3 b3
      exact ⟨by rw [hx], C.end (back_tb C.1.1 hE k1 f1 f2 f3 b3) C.1.2.1 hdy (((kpF_scr f1).tr (goF_scr f2)).tr (pbF_scr f3)) (pbF_calm (goF_calm (kpF_calm C.calm f1) f2) f3)⟩
    have body : ∀ (g1 g2 : Hp), Fr kpF h g1 → Kept h g1 → (∀ j, j < 6 → g1.1 155 j = 0) → Fr goF g1 g2 → RTb g2 (supN V (P0 V) T k) → (∀ i, g2.1 155 i = g1.1 155 i + nI (bakeN V (P0 V) T i k)) → ∀ v3, Wp G l 11 RX7 cX7_run 4 (some .int) 72 [.ref (gA G 134), .int (nI k), .int what, v3] [] g2 (fun r h' => r = some (.int (runA V T (nI k) what)) ∧ RIc h' b V T ∧ Fr scrF h h') := by
      intro g1 g2 f1 k1 z1 f2 hR hB v3
      have hok2 := supN_ok (V := V) (P := P0 V) C.1.2.1 k (by omega)
      have hb3 := hok2.2.2.2.1
      rw [supN_E] at hb3
      have ans : runA V T (nI k) what = if what = 0 then nI ((supN V (P0 V) T k).1 7 1) else if what = 1 then bkA ((supN V (P0 V) T k).1 7 3) else
        match dec (what - nI 10) (T.1 7 0) with
        | some i => (supN V (P0 V) T k).2 i
        | none => match dec (what - nI 20) (T.1 7 0) with
          | some i => nI (bakeN V (P0 V) T i k)
          | none => 0 := by rw [runA, if_neg hfar, hn]; rfl
      rcases hok with rfl | rfl | ⟨i, hi, rfl⟩ | ⟨i, hi, rfl⟩
      · refine r_iload_n dX7_run_72 rfl ?_
        refine r_if_ne (tgt := 83) dX7_run_73 (by decide) (fun c_73 => ?_) (fun c_73 => ?_)
        · exact absurd rfl c_73
        · refine r_aload_n dX7_run_76 rfl ?_
          refine r_getI dX7_run_77 k_X7_13 rfl (by decide) rfl ?_
          rw [hR.2.1]
          refine r_goto (tgt := 134) dX7_run_80 (by decide) ?_
          refine r_istore_n dX7_run_134 (by decide) rfl rfl ?_
          dsimp only [List.set]
          refine r_aload_n dX7_run_135 rfl ?_
          refine r_callV dX7_run_136 l_X7_347 o_X7_putBack v_X7_putBack rfl (by decide) rfl rfl (m_X7_putBack hG) (by decide) rfl (Nat.le_of_ble_eq_true rfl) (fun r136 h136 hq136 => ?_)
          obtain ⟨rfl, f3, b3⟩ := hq136
          refine r_iload_n dX7_run_139 rfl ?_
          refine r_ireturn dX7_run_140 ⟨_, rfl, rfl⟩ ?_
          exact fin _ _ _ _ (by rw [ans, if_pos rfl]) f1 k1 f2 f3 b3
      · refine r_iload_n dX7_run_72 rfl ?_
        refine r_if_ne (tgt := 83) dX7_run_73 (by decide) (fun c_73 => ?_) (fun c_73 => ?_)
        · refine r_iload_n dX7_run_83 rfl ?_
          refine r_iconst (v := 1) dX7_run_84 (by decide) ?_
          refine r_icmp_ne (tgt := 107) dX7_run_85 (by decide) (fun c_85 => ?_) (fun c_85 => ?_)
          · exact absurd rfl c_85
          · refine r_aload_n dX7_run_88 rfl ?_
            refine r_getI dX7_run_89 k_X7_19 rfl (by decide) rfl ?_
            rw [hR.2.2.2.1]
            refine r_if_ge (tgt := 100) dX7_run_92 (by decide) (fun c_92 => ?_) (fun c_92 => ?_)
            · have y : ¬ (supN V (P0 V) T k).1 7 3 = 0 := fun q => by rw [q] at c_92; exact absurd c_92 (by decide)
              refine r_aload_n dX7_run_100 rfl ?_
              refine r_getI dX7_run_101 k_X7_19 rfl (by decide) rfl ?_
              rw [hR.2.2.2.1]
              refine r_goto (tgt := 134) dX7_run_104 (by decide) ?_
              refine r_istore_n dX7_run_134 (by decide) rfl rfl ?_
              dsimp only [List.set]
              refine r_aload_n dX7_run_135 rfl ?_
              refine r_callV dX7_run_136 l_X7_347 o_X7_putBack v_X7_putBack rfl (by decide) rfl rfl (m_X7_putBack hG) (by decide) rfl (Nat.le_of_ble_eq_true rfl) (fun r136 h136 hq136 => ?_)
              obtain ⟨rfl, f3, b3⟩ := hq136
              refine r_iload_n dX7_run_139 rfl ?_
              refine r_ireturn dX7_run_140 ⟨_, rfl, rfl⟩ ?_
              refine fin _ _ _ _ ?_ f1 k1 f2 f3 b3
              obtain ⟨m, hm⟩ : ∃ m, (supN V (P0 V) T k).1 7 3 = m + 1 := ⟨(supN V (P0 V) T k).1 7 3 - 1, by omega⟩
              rw [ans, if_neg (by decide), if_pos rfl, bkA, if_neg y, hm, nI_pred]
              rfl
            · have y : (supN V (P0 V) T k).1 7 3 = 0 := Classical.byContradiction fun q => by
                obtain ⟨m, hm⟩ : ∃ m, (supN V (P0 V) T k).1 7 3 = m + 1 := ⟨(supN V (P0 V) T k).1 7 3 - 1, by omega⟩
                rw [hm, nI_pred] at c_92
                exact c_92 (nI_pos' (by omega))
              refine r_bipush (v := -5) dX7_run_95 (by decide) ?_
              refine r_goto (tgt := 134) dX7_run_97 (by decide) ?_
              refine r_istore_n dX7_run_134 (by decide) rfl rfl ?_
              dsimp only [List.set]
              refine r_aload_n dX7_run_135 rfl ?_
              refine r_callV dX7_run_136 l_X7_347 o_X7_putBack v_X7_putBack rfl (by decide) rfl rfl (m_X7_putBack hG) (by decide) rfl (Nat.le_of_ble_eq_true rfl) (fun r136 h136 hq136 => ?_)
              obtain ⟨rfl, f3, b3⟩ := hq136
              refine r_iload_n dX7_run_139 rfl ?_
              refine r_ireturn dX7_run_140 ⟨_, rfl, rfl⟩ ?_
              exact fin _ _ _ _ (by rw [ans, if_neg (by decide), if_pos rfl, bkA, if_pos y]) f1 k1 f2 f3 b3
        · exact absurd c_73 (by decide)
      · have e0 : ¬ nI (10 + i) = 0 := nI_ne0 (by omega) (by omega)
        have e1 : ¬ nI (10 + i) = 1 := fun q => by have := (nI_eq' (b := 1) (by omega) (by omega)).mp q; omega
        have e2 : nI (10 + i) - 10 = nI i := by rw [show (10 : Int32) = nI 10 from rfl, pk_sub (by omega)]; congr 1; omega
        refine r_iload_n dX7_run_72 rfl ?_
        refine r_if_ne (tgt := 83) dX7_run_73 (by decide) (fun c_73 => ?_) (fun c_73 => ?_)
        · refine r_iload_n dX7_run_83 rfl ?_
          refine r_iconst (v := 1) dX7_run_84 (by decide) ?_
          refine r_icmp_ne (tgt := 107) dX7_run_85 (by decide) (fun c_85 => ?_) (fun c_85 => ?_)
          · refine r_iload_n dX7_run_107 rfl ?_
            refine r_bipush (v := 20) dX7_run_108 (by decide) ?_
            refine r_icmp_ge (tgt := 125) dX7_run_110 (by decide) (fun c_110 => ?_) (fun c_110 => ?_)
            · exact absurd c_110 (nI_ge (a := 10 + i) (b := 20) (by omega) (by omega))
            · refine r_aload_n dX7_run_113 rfl ?_
              refine r_getR (j := 139) dX7_run_114 k_X7_35 rfl (by decide) rfl rfl ?_
              refine r_iload_n dX7_run_117 rfl ?_
              refine r_bipush (v := 10) dX7_run_118 (by decide) ?_
              refine r_isub dX7_run_120 ?_
              refine r_iald (i) dX7_run_121 rfl e2 (show i < 6 by omega) ?_
              rw [(hR.2.2.2.2 i (by rw [supN_E]; exact hi)).2.2.2.2.1]
              refine r_goto (tgt := 134) dX7_run_122 (by decide) ?_
              refine r_istore_n dX7_run_134 (by decide) rfl rfl ?_
              dsimp only [List.set]
              refine r_aload_n dX7_run_135 rfl ?_
              refine r_callV dX7_run_136 l_X7_347 o_X7_putBack v_X7_putBack rfl (by decide) rfl rfl (m_X7_putBack hG) (by decide) rfl (Nat.le_of_ble_eq_true rfl) (fun r136 h136 hq136 => ?_)
              obtain ⟨rfl, f3, b3⟩ := hq136
              refine r_iload_n dX7_run_139 rfl ?_
              refine r_ireturn dX7_run_140 ⟨_, rfl, rfl⟩ ?_
              exact fin _ _ _ _ (by rw [ans, if_neg e0, if_neg e1, (dec_sub (by omega) (by omega)).mpr ⟨hi, rfl⟩]) f1 k1 f2 f3 b3
          · exact absurd c_85 e1
        · exact absurd c_73 e0
      · have e0 : ¬ nI (20 + i) = 0 := nI_ne0 (by omega) (by omega)
        have e1 : ¬ nI (20 + i) = 1 := fun q => by have := (nI_eq' (b := 1) (by omega) (by omega)).mp q; omega
        have e2 : nI (20 + i) - 20 = nI i := by rw [show (20 : Int32) = nI 20 from rfl, pk_sub (by omega)]; congr 1; omega
        have e3 : dec (nI (20 + i) - nI 10) (T.1 7 0) = none := by
          cases hd : dec (nI (20 + i) - nI 10) (T.1 7 0) with
          | none => rfl
          | some j =>
            have q := (dec_sub (by omega) (by omega)).mp hd
            have := (nI_eq' (by omega) (by omega)).mp q.2
            omega
        refine r_iload_n dX7_run_72 rfl ?_
        refine r_if_ne (tgt := 83) dX7_run_73 (by decide) (fun c_73 => ?_) (fun c_73 => ?_)
        · refine r_iload_n dX7_run_83 rfl ?_
          refine r_iconst (v := 1) dX7_run_84 (by decide) ?_
          refine r_icmp_ne (tgt := 107) dX7_run_85 (by decide) (fun c_85 => ?_) (fun c_85 => ?_)
          · refine r_iload_n dX7_run_107 rfl ?_
            refine r_bipush (v := 20) dX7_run_108 (by decide) ?_
            refine r_icmp_ge (tgt := 125) dX7_run_110 (by decide) (fun c_110 => ?_) (fun c_110 => ?_)
            · refine r_aload_n dX7_run_125 rfl ?_
              refine r_getR (j := 155) dX7_run_126 k_X7_124 rfl (by decide) rfl rfl ?_
              refine r_iload_n dX7_run_129 rfl ?_
              refine r_bipush (v := 20) dX7_run_130 (by decide) ?_
              refine r_isub dX7_run_132 ?_
              refine r_iald (i) dX7_run_133 rfl e2 (show i < 6 by omega) ?_
              rw [hB, z1 i (by omega), Int32.zero_add]
              refine r_istore_n dX7_run_134 (by decide) rfl rfl ?_
              dsimp only [List.set]
              refine r_aload_n dX7_run_135 rfl ?_
              refine r_callV dX7_run_136 l_X7_347 o_X7_putBack v_X7_putBack rfl (by decide) rfl rfl (m_X7_putBack hG) (by decide) rfl (Nat.le_of_ble_eq_true rfl) (fun r136 h136 hq136 => ?_)
              obtain ⟨rfl, f3, b3⟩ := hq136
              refine r_iload_n dX7_run_139 rfl ?_
              refine r_ireturn dX7_run_140 ⟨_, rfl, rfl⟩ ?_
              exact fin _ _ _ _ (by rw [ans, if_neg e0, if_neg e1, e3, (dec_sub (by omega) (by omega)).mpr ⟨hi, rfl⟩]) f1 k1 f2 f3 b3
            · exact absurd (nI_le (a := 20) (b := 20 + i) (by omega) (by omega)) c_110
          · exact absurd c_85 e1
        · exact absurd c_73 e0
    refine r_aload_n dX7_run_48 rfl ?_
    refine r_iload_n dX7_run_49 rfl ?_
    refine r_iconst (v := 0) dX7_run_50 (by decide) ?_
    refine r_bipush (v := 60) dX7_run_51 (by decide) ?_
    refine r_callV dX7_run_53 l_X7_212 o_X7_in v_X7_in rfl (by decide) rfl rfl (m_X7_in hG) (by decide) rfl (Nat.le_of_ble_eq_true rfl) (fun r53 h53 hq53 => ?_)
    obtain ⟨rfl, e53⟩ := hq53
    rw [e53]
    clear e53 h53
    rw [show inP (nI k) 0 60 = (dec (nI k) 61).isSome from inP_dec0 (c := 60) (by omega) rfl, hn]
    refine r_if_ne (tgt := 63) dX7_run_56 (by decide) (fun c_56 => ?_) (fun c_56 => ?_)
    · refine r_aload_n dX7_run_63 rfl ?_
      refine r_callV dX7_run_64 l_X7_341 o_X7_keep v_X7_keep rfl (by decide) rfl rfl (m_X7_keep hG) (by decide) rfl (Nat.le_of_ble_eq_true rfl) (fun r64 h64 hq64 => ?_)
      obtain ⟨rfl, f1, k1, z1⟩ := hq64
      refine r_aload_n dX7_run_67 rfl ?_
      refine r_iload_n dX7_run_68 rfl ?_
      refine r_callV dX7_run_69 l_X7_344 o_X7_goOn v_X7_goOn rfl (by decide) rfl rfl (m_X7_goOn (pact := none) hG (show k ≤ 1000 by omega) (by omega) (C.1.fr f1 kpF_dom) (C.2.1.fr f1 rfl rfl)) (by decide) rfl (Nat.le_of_ble_eq_true rfl) (fun r69 h69 hq69 => ?_)
      obtain ⟨rfl, f2, hR, hB⟩ := hq69
      exact body _ _ f1 k1 z1 f2 hR hB _
    · exact absurd c_56 (b01_n0.mpr rfl)
set_option maxRecDepth 100000 in
theorem m_X7_run {G : WT} {l : Launch} (hG : GOK G) {h : Hp} {b : Nat} {V : Hv} {T : Tb} {n what : Int32} (C : RIc h b V T) : Cl G l 11 yX7_run cX7_run 4 (some .int) [.ref (gA G 134), .int n, .int what] h (fun r h' => r = some (.int (runA V T n what)) ∧ RIc h' b V T ∧ Fr scrF h h') := by
  refine Cl.of hG (by decide) (Nat.le_of_ble_eq_true rfl) ?_
  show Wp G l 11 RX7 cX7_run 4 (some .int) 0 [.ref (gA G 134), .int n, .int what, mk0] [] h _
  have hE := C.1.2.1.1
  refine r_aload_n dX7_run_0 rfl ?_
  refine r_iload_n dX7_run_1 rfl ?_
  refine r_iconst (v := 0) dX7_run_2 (by decide) ?_
  refine r_iconst (v := 1) dX7_run_3 (by decide) ?_
  refine r_callV dX7_run_4 l_X7_212 o_X7_in v_X7_in rfl (by decide) rfl rfl (m_X7_in hG) (by decide) rfl (Nat.le_of_ble_eq_true rfl) (fun r4 h4 hq4 => ?_)
  obtain ⟨rfl, e4⟩ := hq4
  rw [e4]
  clear e4 h4
  rw [show inP what 0 1 = (dec what 2).isSome from inP_dec0 (c := 1) (by omega) rfl]
  refine r_if_ne (tgt := 48) dX7_run_7 (by decide) (fun c_7 => ?_) (fun c_7 => ?_)
  · obtain ⟨j, hj⟩ := isSome_t (b01_n0.mp c_7)
    obtain ⟨h1, h2, -⟩ := dec_some.mp hj
    exact run_48 hG C (by rcases (show j = 0 ∨ j = 1 by omega) with rfl | rfl; exact Or.inl h2; exact Or.inr (Or.inl h2)) _
  · refine r_aload_n dX7_run_10 rfl ?_
    refine r_iload_n dX7_run_11 rfl ?_
    refine r_bipush (v := 10) dX7_run_12 (by decide) ?_
    refine r_bipush (v := 9) dX7_run_14 (by decide) ?_
    refine r_aload_n dX7_run_16 rfl ?_
    refine r_getI dX7_run_17 k_X7_7 rfl (by decide) rfl ?_
    refine r_iadd dX7_run_20 ?_
    rw [C.1.1.1, show (9 : Int32) = nI 9 from rfl, nI_add]
    refine r_callV dX7_run_21 l_X7_212 o_X7_in v_X7_in rfl (by decide) rfl rfl (m_X7_in hG) (by decide) rfl (Nat.le_of_ble_eq_true rfl) (fun r21 h21 hq21 => ?_)
    obtain ⟨rfl, e21⟩ := hq21
    rw [e21]
    clear e21 h21
    rw [show inP what 10 (nI (9 + T.1 7 0)) = (dec (what - nI 10) (T.1 7 0)).isSome from inP_dec (a := 10) (by omega) (by omega)]
    refine r_if_ne (tgt := 48) dX7_run_24 (by decide) (fun c_24 => ?_) (fun c_24 => ?_)
    · obtain ⟨j, hj⟩ := isSome_t (b01_n0.mp c_24)
      obtain ⟨h1, h2⟩ := (dec_sub (by omega) (by omega)).mp hj
      exact run_48 hG C (Or.inr (Or.inr (Or.inl ⟨j, h1, h2⟩))) _
    · refine r_aload_n dX7_run_27 rfl ?_
      refine r_iload_n dX7_run_28 rfl ?_
      refine r_bipush (v := 20) dX7_run_29 (by decide) ?_
      refine r_bipush (v := 19) dX7_run_31 (by decide) ?_
      refine r_aload_n dX7_run_33 rfl ?_
      refine r_getI dX7_run_34 k_X7_7 rfl (by decide) rfl ?_
      refine r_iadd dX7_run_37 ?_
      rw [C.1.1.1, show (19 : Int32) = nI 19 from rfl, nI_add]
      refine r_callV dX7_run_38 l_X7_212 o_X7_in v_X7_in rfl (by decide) rfl rfl (m_X7_in hG) (by decide) rfl (Nat.le_of_ble_eq_true rfl) (fun r38 h38 hq38 => ?_)
      obtain ⟨rfl, e38⟩ := hq38
      rw [e38]
      clear e38 h38
      rw [show inP what 20 (nI (19 + T.1 7 0)) = (dec (what - nI 20) (T.1 7 0)).isSome from inP_dec (a := 20) (by omega) (by omega)]
      refine r_if_ne (tgt := 48) dX7_run_41 (by decide) (fun c_41 => ?_) (fun c_41 => ?_)
      · obtain ⟨j, hj⟩ := isSome_t (b01_n0.mp c_41)
        obtain ⟨h1, h2⟩ := (dec_sub (by omega) (by omega)).mp hj
        exact run_48 hG C (Or.inr (Or.inr (Or.inr ⟨j, h1, h2⟩))) _
      · refine r_ldcw dX7_run_44 n_X7_339 ?_
        refine r_ireturn dX7_run_47 ⟨_, rfl, rfl⟩ ?_
        exact ⟨by rw [runA, if_pos ⟨isSome_f (b01_0.mp c_7), isSome_f (b01_0.mp c_24), isSome_f (b01_0.mp c_41)⟩]; rfl, C, Fr.rf⟩
