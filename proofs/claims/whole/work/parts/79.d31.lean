/-! of -/
theorem wi_as {h h' : Hp} (H : Fr wiF h h') : Fx asF h h' := H.x.wk (fun x i y => by
  simp only [asF, wiF, svF, haF, Bool.or_eq_false_iff, Bool.and_eq_false_iff, decide_eq_false_iff_not, beq_eq_false_iff_ne, ne_eq] at y ⊢
  omega)
theorem DIc.back2 {h g g2 : Hp} {n q : Nat} {V : Hv} {T : Tb} (C : DIc h n q V T) (F1 : Fx beF h g) (F2 : Fr wiF g g2) (Ev : EvC g2 1 q V T (lawS V) false) : DIc g2 n q V T ∧ Fx asF h g2 := by
  have FF := (be_as F1).tr (wi_as F2)
  have e37 : ∀ i, i = 13 ∨ i = 14 ∨ i = 15 ∨ i = 16 → g2.1 37 i = h.1 37 i := fun i hi => by
    rcases hi with rfl | rfl | rfl | rfl <;> exact (F2.1 _ _ rfl).trans (F1.1 _ _ rfl)
  exact ⟨C.fx FF (C.2.2.2.2.2.1.eq (fun i hi => e37 i (by omega))) (C.2.2.2.2.2.2.1.eq (fun i hi => e37 i (by omega))) Ev.2.2.2.2.2.2.2, FF⟩
def ofR (V : Hv) (T : Tb) (i : Nat) (w : Int32) : Int32 := match dec (w - nI 11) 9 with
  | some a => nI (worthS V (ltS T i (a + 1)))
  | none => if w = 5 then nI (wishS V (P0 V) T i) else if w = 6 then nI (costS V (ltS T i (T.1 3 i))) else farN
set_option maxRecDepth 100000 in
theorem m_X6_reckonedOf {G : WT} {l : Launch} (hG : GOK G) {h : Hp} {n q i : Nat} {V : Hv} {T : Tb} {x : Int32} (C : DIc h n q V T) (i1 : i < T.1 7 0) : Cl G l 5 yX6_reckonedOf cX6_reckonedOf 3 (some .int) [.ref (gA G 0), .int (nI i), .int x] h (fun r h' => r = some (.int (ofR V T i x)) ∧ DIc h' n q V T ∧ Fx asF h h') := by
  refine Cl.of hG (by decide) (Nat.le_of_ble_eq_true rfl) ?_
  show Wp G l 5 RX6 cX6_reckonedOf 3 (some .int) 0 [.ref (gA G 0), .int (nI i), .int x] [] h _
  have hE5 := C.2.1.1
  have t9 := (C.2.1.2.2.2.2.2.2.1 i).2.2.2
  have c4 := ((C.1.2.1 i (by omega)).1 i1).2.2.2.1
  cases hw : dec (x - nI 11) 9 with
  | some a =>
    obtain ⟨a1, rfl⟩ := (dec_sub (a := 11) (by omega) (by omega)).mp hw
    have es : ofR V T i (nI (11 + a)) = nI (worthS V (ltS T i (a + 1))) := by rw [ofR, hw]
    have e2 : nI (11 + a) - 10 = nI (a + 1) := by rw [show (10 : Int32) = nI 10 from rfl, pk_sub (by omega)]; congr 1; omega
    refine r_aload_n dX6_reckonedOf_0 rfl ?_
    refine r_getR (j := 37) dX6_reckonedOf_1 k_X6_38 rfl (by decide) rfl rfl ?_
    refine r_aload_n dX6_reckonedOf_4 rfl ?_
    refine r_getR (j := 1) dX6_reckonedOf_5 k_X6_12 rfl (by decide) rfl rfl ?_
    refine r_aload_n dX6_reckonedOf_8 rfl ?_
    refine r_callV dX6_reckonedOf_9 l_X6_113 o_X6_holding v_X6_holding rfl (by decide) rfl rfl (m_X6_holding hG C.hd) (by decide) rfl (Nat.le_of_ble_eq_true rfl) (fun r9 h9 hq9 => ?_)
    obtain ⟨rfl, e9⟩ := hq9
    rw [e9]
    clear e9 h9
    rw [← C.2.2.2.1.2.2.2]
    refine r_callV dX6_reckonedOf_12 l_X6_117 o_X3_begin v_X3_begin rfl (by decide) rfl rfl (m_X3_begin hG (t := 1) (q := q) rfl (Or.inl rfl) C.ks C.1 C.2.1 C.2.2.2.2.1 C.2.2.2.2.2.1 C.2.2.2.2.2.2.2) (by decide) rfl (Nat.le_of_ble_eq_true rfl) (fun r12 h12 hq12 => ?_)
    obtain ⟨rfl, Ev, F1⟩ := hq12
    have Ev : EvC h12 1 q V T (lawS V) false := Ev
    refine r_iload_n dX6_reckonedOf_15 rfl ?_
    refine r_iconst (v := 5) dX6_reckonedOf_16 (by decide) ?_
    refine r_icmp_ne (tgt := 29) dX6_reckonedOf_17 (by decide) (fun c_17 => ?_) (fun c_17 => ?_)
    · refine r_iload_n dX6_reckonedOf_29 rfl ?_
      refine r_bipush (v := 6) dX6_reckonedOf_30 (by decide) ?_
      refine r_icmp_ne (tgt := 54) dX6_reckonedOf_32 (by decide) (fun c_32 => ?_) (fun c_32 => ?_)
      · refine r_iload_n dX6_reckonedOf_54 rfl ?_
        refine r_bipush (v := 11) dX6_reckonedOf_55 (by decide) ?_
        refine r_icmp_lt (tgt := 66) dX6_reckonedOf_57 (by decide) (fun c_57 => ?_) (fun c_57 => ?_)
        · exact absurd ((nI_lt' (b := 11) (by omega) (by omega)).mp c_57) (by omega)
        · refine r_iload_n dX6_reckonedOf_60 rfl ?_
          refine r_bipush (v := 19) dX6_reckonedOf_61 (by decide) ?_
          refine r_icmp_le (tgt := 69) dX6_reckonedOf_63 (by decide) (fun c_63 => ?_) (fun c_63 => ?_)
          · refine r_aload_n dX6_reckonedOf_69 rfl ?_
            refine r_getR (j := 37) dX6_reckonedOf_70 k_X6_38 rfl (by decide) rfl rfl ?_
            refine r_iconst (v := 0) dX6_reckonedOf_73 (by decide) ?_
            refine r_iload_n dX6_reckonedOf_74 rfl ?_
            refine r_iload_n dX6_reckonedOf_75 rfl ?_
            refine r_bipush (v := 10) dX6_reckonedOf_76 (by decide) ?_
            refine r_isub dX6_reckonedOf_78 ?_
            rw [e2, show (0 : Int32) = nI 0 from rfl]
            refine r_callV dX6_reckonedOf_79 l_X6_125 o_X3_ask v_X3_ask rfl (by decide) rfl rfl (m_X3_ask hG Ev i1 (w := 0) (n := a + 1) (by omega) (by omega)) (by decide) rfl (Nat.le_of_ble_eq_true rfl) (fun r79 h79 hq79 => ?_)
            obtain ⟨rfl, Ev2, F2⟩ := hq79
            have B := C.back2 F1 (ha_wi F2) Ev2
            refine r_ireturn dX6_reckonedOf_82 ⟨_, rfl, rfl⟩ ?_
            exact ⟨by rw [es, if_pos rfl], B⟩
          · exact absurd (nI_le (b := 19) (by omega) (by omega)) c_63
      · exact absurd ((nI_eq' (b := 6) (by omega) (by omega)).mp c_32) (by omega)
    · exact absurd ((nI_eq' (b := 5) (by omega) (by omega)).mp c_17) (by omega)
  | none =>
    have far : ¬ (11 ≤ x.toInt ∧ x.toInt ≤ 19) := fun y => by
      have h2 : x = nI x.toInt.toNat := by
        apply Int32.toInt_inj.mp
        rw [nI_toInt (by omega)]
        omega
      have h3 := (dec_sub (x := x) (a := 11) (E := 9) (j := x.toInt.toNat - 11) (by omega) (by omega)).mpr ⟨by omega, by rw [show 11 + (x.toInt.toNat - 11) = x.toInt.toNat by omega]; exact h2⟩
      rw [hw] at h3
      cases h3
    by_cases x5 : x = 5
    · subst x5
      have es : ofR V T i 5 = nI (wishS V (P0 V) T i) := by rw [ofR, hw]; rfl
      refine r_aload_n dX6_reckonedOf_0 rfl ?_
      refine r_getR (j := 37) dX6_reckonedOf_1 k_X6_38 rfl (by decide) rfl rfl ?_
      refine r_aload_n dX6_reckonedOf_4 rfl ?_
      refine r_getR (j := 1) dX6_reckonedOf_5 k_X6_12 rfl (by decide) rfl rfl ?_
      refine r_aload_n dX6_reckonedOf_8 rfl ?_
      refine r_callV dX6_reckonedOf_9 l_X6_113 o_X6_holding v_X6_holding rfl (by decide) rfl rfl (m_X6_holding hG C.hd) (by decide) rfl (Nat.le_of_ble_eq_true rfl) (fun r9 h9 hq9 => ?_)
      obtain ⟨rfl, e9⟩ := hq9
      rw [e9]
      clear e9 h9
      rw [← C.2.2.2.1.2.2.2]
      refine r_callV dX6_reckonedOf_12 l_X6_117 o_X3_begin v_X3_begin rfl (by decide) rfl rfl (m_X3_begin hG (t := 1) (q := q) rfl (Or.inl rfl) C.ks C.1 C.2.1 C.2.2.2.2.1 C.2.2.2.2.2.1 C.2.2.2.2.2.2.2) (by decide) rfl (Nat.le_of_ble_eq_true rfl) (fun r12 h12 hq12 => ?_)
      obtain ⟨rfl, Ev, F1⟩ := hq12
      have Ev : EvC h12 1 q V T (lawS V) false := Ev
      have D2 := C.1.be rfl F1
      refine r_iload_n dX6_reckonedOf_15 rfl ?_
      refine r_iconst (v := 5) dX6_reckonedOf_16 (by decide) ?_
      refine r_icmp_ne (tgt := 29) dX6_reckonedOf_17 (by decide) (fun c_17 => ?_) (fun c_17 => ?_)
      · exact absurd rfl c_17
      · refine r_aload_n dX6_reckonedOf_20 rfl ?_
        refine r_getR (j := 37) dX6_reckonedOf_21 k_X6_38 rfl (by decide) rfl rfl ?_
        refine r_iload_n dX6_reckonedOf_24 rfl ?_
        refine r_callV dX6_reckonedOf_25 l_X6_121 o_X3_wishOf v_X3_wishOf rfl (by decide) rfl rfl (m_X3_wishOf hG Ev D2 i1 (lawS_lt V) (pact := none)) (by decide) rfl (Nat.le_of_ble_eq_true rfl) (fun r25 h25 hq25 => ?_)
        obtain ⟨rfl, Ev2, F2⟩ := hq25
        have B := C.back2 F1 F2 Ev2
        refine r_ireturn dX6_reckonedOf_28 ⟨_, rfl, rfl⟩ ?_
        exact ⟨by rw [es]; rfl, B⟩
    · by_cases x6 : x = 6
      · subst x6
        have es : ofR V T i 6 = nI (costS V (ltS T i (T.1 3 i))) := by rw [ofR, hw]; rfl
        refine r_aload_n dX6_reckonedOf_0 rfl ?_
        refine r_getR (j := 37) dX6_reckonedOf_1 k_X6_38 rfl (by decide) rfl rfl ?_
        refine r_aload_n dX6_reckonedOf_4 rfl ?_
        refine r_getR (j := 1) dX6_reckonedOf_5 k_X6_12 rfl (by decide) rfl rfl ?_
        refine r_aload_n dX6_reckonedOf_8 rfl ?_
        refine r_callV dX6_reckonedOf_9 l_X6_113 o_X6_holding v_X6_holding rfl (by decide) rfl rfl (m_X6_holding hG C.hd) (by decide) rfl (Nat.le_of_ble_eq_true rfl) (fun r9 h9 hq9 => ?_)
        obtain ⟨rfl, e9⟩ := hq9
        rw [e9]
        clear e9 h9
        rw [← C.2.2.2.1.2.2.2]
        refine r_callV dX6_reckonedOf_12 l_X6_117 o_X3_begin v_X3_begin rfl (by decide) rfl rfl (m_X3_begin hG (t := 1) (q := q) rfl (Or.inl rfl) C.ks C.1 C.2.1 C.2.2.2.2.1 C.2.2.2.2.2.1 C.2.2.2.2.2.2.2) (by decide) rfl (Nat.le_of_ble_eq_true rfl) (fun r12 h12 hq12 => ?_)
        obtain ⟨rfl, Ev, F1⟩ := hq12
        have Ev : EvC h12 1 q V T (lawS V) false := Ev
        have c5 : h12.1 5 i = nI (T.1 3 i) := by rw [F1.1 _ _ rfl]; exact c4
        refine r_iload_n dX6_reckonedOf_15 rfl ?_
        refine r_iconst (v := 5) dX6_reckonedOf_16 (by decide) ?_
        refine r_icmp_ne (tgt := 29) dX6_reckonedOf_17 (by decide) (fun c_17 => ?_) (fun c_17 => ?_)
        · refine r_iload_n dX6_reckonedOf_29 rfl ?_
          refine r_bipush (v := 6) dX6_reckonedOf_30 (by decide) ?_
          refine r_icmp_ne (tgt := 54) dX6_reckonedOf_32 (by decide) (fun c_32 => ?_) (fun c_32 => ?_)
          · exact absurd rfl c_32
          · refine r_aload_n dX6_reckonedOf_35 rfl ?_
            refine r_getR (j := 37) dX6_reckonedOf_36 k_X6_38 rfl (by decide) rfl rfl ?_
            refine r_iconst (v := 1) dX6_reckonedOf_39 (by decide) ?_
            refine r_iload_n dX6_reckonedOf_40 rfl ?_
            refine r_aload_n dX6_reckonedOf_41 rfl ?_
            refine r_getR (j := 1) dX6_reckonedOf_42 k_X6_12 rfl (by decide) rfl rfl ?_
            refine r_getR (j := 5) dX6_reckonedOf_45 k_X6_103 rfl (by decide) rfl rfl ?_
            refine r_iload_n dX6_reckonedOf_48 rfl ?_
            refine r_iald (i) dX6_reckonedOf_49 rfl rfl (show i < 5 by omega) ?_
            rw [c5, show (1 : Int32) = nI 1 from rfl]
            refine r_callV dX6_reckonedOf_50 l_X6_125 o_X3_ask v_X3_ask rfl (by decide) rfl rfl (m_X3_ask hG Ev i1 (w := 1) (n := T.1 3 i) (by omega) t9) (by decide) rfl (Nat.le_of_ble_eq_true rfl) (fun r50 h50 hq50 => ?_)
            obtain ⟨rfl, Ev2, F2⟩ := hq50
            have B := C.back2 F1 (ha_wi F2) Ev2
            refine r_ireturn dX6_reckonedOf_53 ⟨_, rfl, rfl⟩ ?_
            exact ⟨by rw [es, if_neg (by decide)], B⟩
        · exact absurd c_17 (by decide)
      · have es : ofR V T i x = farN := by rw [ofR, hw]; dsimp only; rw [if_neg x5, if_neg x6]
        refine r_aload_n dX6_reckonedOf_0 rfl ?_
        refine r_getR (j := 37) dX6_reckonedOf_1 k_X6_38 rfl (by decide) rfl rfl ?_
        refine r_aload_n dX6_reckonedOf_4 rfl ?_
        refine r_getR (j := 1) dX6_reckonedOf_5 k_X6_12 rfl (by decide) rfl rfl ?_
        refine r_aload_n dX6_reckonedOf_8 rfl ?_
        refine r_callV dX6_reckonedOf_9 l_X6_113 o_X6_holding v_X6_holding rfl (by decide) rfl rfl (m_X6_holding hG C.hd) (by decide) rfl (Nat.le_of_ble_eq_true rfl) (fun r9 h9 hq9 => ?_)
        obtain ⟨rfl, e9⟩ := hq9
        rw [e9]
        clear e9 h9
        rw [← C.2.2.2.1.2.2.2]
        refine r_callV dX6_reckonedOf_12 l_X6_117 o_X3_begin v_X3_begin rfl (by decide) rfl rfl (m_X3_begin hG (t := 1) (q := q) rfl (Or.inl rfl) C.ks C.1 C.2.1 C.2.2.2.2.1 C.2.2.2.2.2.1 C.2.2.2.2.2.2.2) (by decide) rfl (Nat.le_of_ble_eq_true rfl) (fun r12 h12 hq12 => ?_)
        obtain ⟨rfl, Ev, F1⟩ := hq12
        have Ev : EvC h12 1 q V T (lawS V) false := Ev
        refine r_iload_n dX6_reckonedOf_15 rfl ?_
        refine r_iconst (v := 5) dX6_reckonedOf_16 (by decide) ?_
        refine r_icmp_ne (tgt := 29) dX6_reckonedOf_17 (by decide) (fun c_17 => ?_) (fun c_17 => ?_)
        · refine r_iload_n dX6_reckonedOf_29 rfl ?_
          refine r_bipush (v := 6) dX6_reckonedOf_30 (by decide) ?_
          refine r_icmp_ne (tgt := 54) dX6_reckonedOf_32 (by decide) (fun c_32 => ?_) (fun c_32 => ?_)
          · refine r_iload_n dX6_reckonedOf_54 rfl ?_
            refine r_bipush (v := 11) dX6_reckonedOf_55 (by decide) ?_
            refine r_icmp_lt (tgt := 66) dX6_reckonedOf_57 (by decide) (fun c_57 => ?_) (fun c_57 => ?_)
            · refine r_ldc dX6_reckonedOf_66 n_X6_93 ?_
              refine r_ireturn dX6_reckonedOf_68 ⟨_, rfl, rfl⟩ ?_
              exact ⟨by rw [es]; rfl, C.back2 F1 Fr.rf Ev⟩
            · refine r_iload_n dX6_reckonedOf_60 rfl ?_
              refine r_bipush (v := 19) dX6_reckonedOf_61 (by decide) ?_
              refine r_icmp_le (tgt := 69) dX6_reckonedOf_63 (by decide) (fun c_63 => ?_) (fun c_63 => ?_)
              · exfalso
                have z1 : ¬ x.toInt < 11 := fun y => c_57 (by rw [Int32.lt_iff_toInt_lt]; exact y)
                have z2 : x.toInt ≤ 19 := Int32.le_iff_toInt_le.mp c_63
                exact far ⟨by omega, z2⟩
              · refine r_ldc dX6_reckonedOf_66 n_X6_93 ?_
                refine r_ireturn dX6_reckonedOf_68 ⟨_, rfl, rfl⟩ ?_
                exact ⟨by rw [es]; rfl, C.back2 F1 Fr.rf Ev⟩
          · exact absurd c_32 x6
        · exact absurd c_17 x5
theorem of_n {V : Hv} {T : Tb} {x : Int32} (e : Int32) (he : dec e (T.1 7 0) = none) : ofA V T e x = farN := by rw [ofA, he]
theorem of_big {V : Hv} {T : Tb} {x : Int32} {i : Nat} (he : dec (nI i) (T.1 7 0) = some i) (h0 : ¬ x = 0) (h1 : ¬ x = 1) (h2 : ¬ x = 2) (h3 : ¬ x = 3) (h4 : ¬ x = 4) : ofA V T (nI i) x = ofR V T i x := by
  rw [ofA, he]
  unfold ofR
  dsimp only
  cases dec (x - nI 11) 9 with
  | some a => rfl
  | none =>
    dsimp only
    rw [if_neg h0, if_neg h1, if_neg h2, if_neg h3, if_neg h4]
theorem of_sm {V : Hv} {T : Tb} {i k : Nat} (he : dec (nI i) (T.1 7 0) = some i) (hk : k ≤ 4) : ofA V T (nI i) (nI k) = if k = 0 then nI (T.1 0 i) else if k = 1 then nI (T.1 1 i) else if k = 2 then nI (T.1 2 i) else if k = 3 then nI (T.1 3 i) else T.2 i := by
  have hd : dec (nI k - nI 11) 9 = none := by rw [dec_off (by omega) (by omega), if_neg (by omega)]
  rw [ofA, he]
  dsimp only
  rw [hd]
  rcases (show k = 0 ∨ k = 1 ∨ k = 2 ∨ k = 3 ∨ k = 4 by omega) with rfl | rfl | rfl | rfl | rfl <;> rfl
set_option maxRecDepth 100000 in
theorem m_X6_of {G : WT} {l : Launch} (hG : GOK G) {h : Hp} {n q : Nat} {V : Hv} {T : Tb} {e x : Int32} (C : DIc h n q V T) : Cl G l 6 yX6_of cX6_of 3 (some .int) [.ref (gA G 0), .int e, .int x] h (fun r h' => r = some (.int (ofA V T e x)) ∧ DIc h' n q V T ∧ Fx asF h h') := by
  refine Cl.of hG (by decide) (Nat.le_of_ble_eq_true rfl) ?_
  show Wp G l 6 RX6 cX6_of 3 (some .int) 0 [.ref (gA G 0), .int e, .int x] [] h _
  have hE5 := C.2.1.1
  cases he : dec e (T.1 7 0) with
  | none =>
    refine r_aload_n dX6_of_0 rfl ?_
    refine r_iload_n dX6_of_1 rfl ?_
    refine r_callV dX6_of_2 l_X6_89 o_X6_isEater v_X6_isEater rfl (by decide) rfl rfl (m_X6_isEater hG hE5 C.1.1.1) (by decide) rfl (Nat.le_of_ble_eq_true rfl) (fun r2 h2 hq2 => ?_)
    obtain ⟨rfl, rfl⟩ := hq2
    rw [he]
    refine r_if_ne (tgt := 11) dX6_of_5 (by decide) (fun c_5 => ?_) (fun c_5 => ?_)
    · exact absurd none_f c_5
    · refine r_ldc dX6_of_8 n_X6_93 ?_
      refine r_ireturn dX6_of_10 ⟨_, rfl, rfl⟩ ?_
      exact ⟨by rw [of_n e he]; rfl, C, Fx.rf⟩
  | some i =>
    obtain ⟨i1, rfl, -⟩ := dec_some.mp he
    obtain ⟨b1, b2, b3, b4, b5, b6⟩ := (C.1.2.1 i (by omega)).1 i1
    have b1 : h.1 2 i = nI (T.1 0 i) := b1
    have b2 : h.1 3 i = nI (T.1 1 i) := b2
    have b3 : h.1 4 i = nI (T.1 2 i) := b3
    have b4 : h.1 5 i = nI (T.1 3 i) := b4
    have b5 : h.1 6 i = T.2 i := b5
    by_cases hx : 0 ≤ x.toInt ∧ x.toInt ≤ 4
    · obtain ⟨k, hk, rfl⟩ : ∃ k, k ≤ 4 ∧ x = nI k := ⟨x.toInt.toNat, by omega, by
        apply Int32.toInt_inj.mp
        rw [nI_toInt (by omega)]
        omega⟩
      have es := of_sm (V := V) he hk
      rcases (show k = 0 ∨ k = 1 ∨ k = 2 ∨ k = 3 ∨ k = 4 by omega) with rfl | rfl | rfl | rfl | rfl
      · refine r_aload_n dX6_of_0 rfl ?_
        refine r_iload_n dX6_of_1 rfl ?_
        refine r_callV dX6_of_2 l_X6_89 o_X6_isEater v_X6_isEater rfl (by decide) rfl rfl (m_X6_isEater hG hE5 C.1.1.1) (by decide) rfl (Nat.le_of_ble_eq_true rfl) (fun r2 h2 hq2 => ?_)
        obtain ⟨rfl, rfl⟩ := hq2
        rw [he]
        refine r_if_ne (tgt := 11) dX6_of_5 (by decide) (fun c_5 => ?_) (fun c_5 => ?_)
        · refine r_iload_n dX6_of_11 rfl ?_
          · refine r_tsw 48 dX6_of_12 rfl (by decide) rfl ?_
            refine r_aload_n dX6_of_48 rfl ?_
            refine r_getR (j := 1) dX6_of_49 k_X6_12 rfl (by decide) rfl rfl ?_
            refine r_getR (j := 2) dX6_of_52 k_X6_94 rfl (by decide) rfl rfl ?_
            refine r_iload_n dX6_of_55 rfl ?_
            refine r_iald (i) dX6_of_56 rfl rfl (show i < 5 by omega) ?_
            refine r_ireturn dX6_of_57 ⟨_, rfl, rfl⟩ ?_
            exact ⟨by rw [es, b1]; rfl, C, Fx.rf⟩
        · exact absurd c_5 some_t
      · refine r_aload_n dX6_of_0 rfl ?_
        refine r_iload_n dX6_of_1 rfl ?_
        refine r_callV dX6_of_2 l_X6_89 o_X6_isEater v_X6_isEater rfl (by decide) rfl rfl (m_X6_isEater hG hE5 C.1.1.1) (by decide) rfl (Nat.le_of_ble_eq_true rfl) (fun r2 h2 hq2 => ?_)
        obtain ⟨rfl, rfl⟩ := hq2
        rw [he]
        refine r_if_ne (tgt := 11) dX6_of_5 (by decide) (fun c_5 => ?_) (fun c_5 => ?_)
        · refine r_iload_n dX6_of_11 rfl ?_
          · refine r_tsw 58 dX6_of_12 rfl (by decide) rfl ?_
            refine r_aload_n dX6_of_58 rfl ?_
            refine r_getR (j := 1) dX6_of_59 k_X6_12 rfl (by decide) rfl rfl ?_
            refine r_getR (j := 3) dX6_of_62 k_X6_97 rfl (by decide) rfl rfl ?_
            refine r_iload_n dX6_of_65 rfl ?_
            refine r_iald (i) dX6_of_66 rfl rfl (show i < 5 by omega) ?_
            refine r_ireturn dX6_of_67 ⟨_, rfl, rfl⟩ ?_
            exact ⟨by rw [es, b2]; rfl, C, Fx.rf⟩
        · exact absurd c_5 some_t
      · refine r_aload_n dX6_of_0 rfl ?_
        refine r_iload_n dX6_of_1 rfl ?_
        refine r_callV dX6_of_2 l_X6_89 o_X6_isEater v_X6_isEater rfl (by decide) rfl rfl (m_X6_isEater hG hE5 C.1.1.1) (by decide) rfl (Nat.le_of_ble_eq_true rfl) (fun r2 h2 hq2 => ?_)
        obtain ⟨rfl, rfl⟩ := hq2
        rw [he]
        refine r_if_ne (tgt := 11) dX6_of_5 (by decide) (fun c_5 => ?_) (fun c_5 => ?_)
        · refine r_iload_n dX6_of_11 rfl ?_
          · refine r_tsw 68 dX6_of_12 rfl (by decide) rfl ?_
            refine r_aload_n dX6_of_68 rfl ?_
            refine r_getR (j := 1) dX6_of_69 k_X6_12 rfl (by decide) rfl rfl ?_
            refine r_getR (j := 4) dX6_of_72 k_X6_100 rfl (by decide) rfl rfl ?_
            refine r_iload_n dX6_of_75 rfl ?_
            refine r_iald (i) dX6_of_76 rfl rfl (show i < 5 by omega) ?_
            refine r_ireturn dX6_of_77 ⟨_, rfl, rfl⟩ ?_
            exact ⟨by rw [es, b3]; rfl, C, Fx.rf⟩
        · exact absurd c_5 some_t
      · refine r_aload_n dX6_of_0 rfl ?_
        refine r_iload_n dX6_of_1 rfl ?_
        refine r_callV dX6_of_2 l_X6_89 o_X6_isEater v_X6_isEater rfl (by decide) rfl rfl (m_X6_isEater hG hE5 C.1.1.1) (by decide) rfl (Nat.le_of_ble_eq_true rfl) (fun r2 h2 hq2 => ?_)
        obtain ⟨rfl, rfl⟩ := hq2
        rw [he]
        refine r_if_ne (tgt := 11) dX6_of_5 (by decide) (fun c_5 => ?_) (fun c_5 => ?_)
        · refine r_iload_n dX6_of_11 rfl ?_
          · refine r_tsw 78 dX6_of_12 rfl (by decide) rfl ?_
            refine r_aload_n dX6_of_78 rfl ?_
            refine r_getR (j := 1) dX6_of_79 k_X6_12 rfl (by decide) rfl rfl ?_
            refine r_getR (j := 5) dX6_of_82 k_X6_103 rfl (by decide) rfl rfl ?_
            refine r_iload_n dX6_of_85 rfl ?_
            refine r_iald (i) dX6_of_86 rfl rfl (show i < 5 by omega) ?_
            refine r_ireturn dX6_of_87 ⟨_, rfl, rfl⟩ ?_
            exact ⟨by rw [es, b4]; rfl, C, Fx.rf⟩
        · exact absurd c_5 some_t
      · refine r_aload_n dX6_of_0 rfl ?_
        refine r_iload_n dX6_of_1 rfl ?_
        refine r_callV dX6_of_2 l_X6_89 o_X6_isEater v_X6_isEater rfl (by decide) rfl rfl (m_X6_isEater hG hE5 C.1.1.1) (by decide) rfl (Nat.le_of_ble_eq_true rfl) (fun r2 h2 hq2 => ?_)
        obtain ⟨rfl, rfl⟩ := hq2
        rw [he]
        refine r_if_ne (tgt := 11) dX6_of_5 (by decide) (fun c_5 => ?_) (fun c_5 => ?_)
        · refine r_iload_n dX6_of_11 rfl ?_
          · refine r_tsw 88 dX6_of_12 rfl (by decide) rfl ?_
            refine r_aload_n dX6_of_88 rfl ?_
            refine r_getR (j := 1) dX6_of_89 k_X6_12 rfl (by decide) rfl rfl ?_
            refine r_getR (j := 6) dX6_of_92 k_X6_106 rfl (by decide) rfl rfl ?_
            refine r_iload_n dX6_of_95 rfl ?_
            refine r_iald (i) dX6_of_96 rfl rfl (show i < 5 by omega) ?_
            refine r_ireturn dX6_of_97 ⟨_, rfl, rfl⟩ ?_
            exact ⟨by rw [es, b5]; rfl, C, Fx.rf⟩
        · exact absurd c_5 some_t
    · have n0 : ∀ k : Int32, (0 ≤ k.toInt ∧ k.toInt ≤ 4) → ¬ x = k := fun k hk y => hx (by rw [y]; exact hk)
      have far : tswT 86 0 4 #[36, 46, 56, 66, 76].toList 12 x.toInt = 98 := by
        unfold tswT
        rw [if_pos (by omega)]
        rfl
      have es := of_big (V := V) (x := x) he (n0 0 (by decide)) (n0 1 (by decide)) (n0 2 (by decide)) (n0 3 (by decide)) (n0 4 (by decide))
      refine r_aload_n dX6_of_0 rfl ?_
      refine r_iload_n dX6_of_1 rfl ?_
      refine r_callV dX6_of_2 l_X6_89 o_X6_isEater v_X6_isEater rfl (by decide) rfl rfl (m_X6_isEater hG hE5 C.1.1.1) (by decide) rfl (Nat.le_of_ble_eq_true rfl) (fun r2 h2 hq2 => ?_)
      obtain ⟨rfl, rfl⟩ := hq2
      rw [he]
      refine r_if_ne (tgt := 11) dX6_of_5 (by decide) (fun c_5 => ?_) (fun c_5 => ?_)
      · refine r_iload_n dX6_of_11 rfl ?_
        · refine r_tsw 98 dX6_of_12 rfl (by decide) far ?_
          refine r_aload_n dX6_of_98 rfl ?_
          refine r_iload_n dX6_of_99 rfl ?_
          refine r_iload_n dX6_of_100 rfl ?_
          refine r_callV dX6_of_101 l_X6_109 o_X6_reckonedOf v_X6_reckonedOf rfl (by decide) rfl rfl (m_X6_reckonedOf hG C i1) (by decide) rfl (Nat.le_of_ble_eq_true rfl) (fun r101 h101 hq101 => ?_)
          obtain ⟨rfl, B1, B2⟩ := hq101
          refine r_ireturn dX6_of_104 ⟨_, rfl, rfl⟩ ?_
          exact ⟨by rw [es], B1, B2⟩
      · exact absurd c_5 some_t
