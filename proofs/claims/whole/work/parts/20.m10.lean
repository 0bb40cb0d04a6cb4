/-! round, looked, gladness together -/
theorem like_loop {G : WT} {l : Launch} {h : Hp} {T T' : Tb} (hE : T'.1 7 0 ≤ 5) (h0 : h.1 134 0 = nI (T'.1 7 0)) (ha : ∀ e, e < T'.1 7 0 → h.1 138 e = nI (T.1 3 e)) (hk : ∀ e, e < T'.1 7 0 → h.1 156 e = nI (T'.1 3 e)) (hb : h.1 134 1 = nI (T.1 7 1)) (hk2 : h.1 134 40 = nI (T'.1 7 1)) (hb1 : ∀ e, T.1 3 e ≤ 9) (hb2 : ∀ e, T'.1 3 e ≤ 9) (hb3 : T.1 7 1 ≤ 99) (hb4 : T'.1 7 1 ≤ 99) :
    ∀ m i : Nat, i + m = T'.1 7 0 → likeTo T T' i = true → Wp G l 1 RX7 cX7_isAsKept 2 (some .boolean) 2 [.ref (gA G 134), .int (nI i)] [] h (fun r h' => r = some (.int (b01 (likeS T T'))) ∧ h' = h) := by
  intro m
  induction m with
  | zero =>
    intro i hi hl
    obtain rfl : i = T'.1 7 0 := by omega
    refine r_iload_n dX7_isAsKept_2 rfl ?_
    refine r_aload_n dX7_isAsKept_3 rfl ?_
    refine r_getI dX7_isAsKept_4 k_X7_7 rfl (by decide) rfl ?_
    rw [h0]
    refine r_icmp_ge (tgt := 33) dX7_isAsKept_7 (by decide) (fun c_7 => ?_) (fun c_7 => ?_)
    · refine r_aload_n dX7_isAsKept_33 rfl ?_
      refine r_getI dX7_isAsKept_34 k_X7_13 rfl (by decide) rfl ?_
      refine r_aload_n dX7_isAsKept_37 rfl ?_
      refine r_getI dX7_isAsKept_38 k_X7_133 rfl (by decide) rfl ?_
      rw [hb, hk2]
      refine r_icmp_ne (tgt := 48) dX7_isAsKept_41 (by decide) (fun c_41 => ?_) (fun c_41 => ?_)
      · refine r_iconst (v := 0) dX7_isAsKept_48 (by decide) ?_
        refine r_ireturn dX7_isAsKept_49 ⟨_, rfl, rfl⟩ ?_
        exact ⟨by rw [likeS, hl, show decide (T.1 7 1 = T'.1 7 1) = false from decide_eq_false (fun q => c_41 (by rw [q]))]; rfl, rfl⟩
      · refine r_iconst (v := 1) dX7_isAsKept_44 (by decide) ?_
        refine r_goto (tgt := 49) dX7_isAsKept_45 (by decide) ?_
        refine r_ireturn dX7_isAsKept_49 ⟨_, rfl, rfl⟩ ?_
        exact ⟨by rw [likeS, hl, show decide (T.1 7 1 = T'.1 7 1) = true from decide_eq_true ((nI_eq' (by omega) (by omega)).mp c_41)]; rfl, rfl⟩
    · exact absurd (Int32.le_refl _) c_7
  | succ m ih =>
    intro i hi hl
    have mono : ∀ k n, likeTo T T' n = false → likeTo T T' (n + k) = false := by
      intro k
      induction k with
      | zero => intro n hn; exact hn
      | succ k ih2 => intro n hn; show (likeTo T T' (n + k) && _) = false; rw [ih2 n hn]; rfl
    have b1 := hb1 i
    have b2 := hb2 i
    refine r_iload_n dX7_isAsKept_2 rfl ?_
    refine r_aload_n dX7_isAsKept_3 rfl ?_
    refine r_getI dX7_isAsKept_4 k_X7_7 rfl (by decide) rfl ?_
    rw [h0]
    refine r_icmp_ge (tgt := 33) dX7_isAsKept_7 (by decide) (fun c_7 => ?_) (fun c_7 => ?_)
    · exact absurd c_7 (nI_ge (by omega) (by omega))
    · refine r_aload_n dX7_isAsKept_10 rfl ?_
      refine r_getR (j := 138) dX7_isAsKept_11 k_X7_32 rfl (by decide) rfl rfl ?_
      refine r_iload_n dX7_isAsKept_14 rfl ?_
      refine r_iald (i) dX7_isAsKept_15 rfl rfl (show i < 6 by omega) ?_
      refine r_aload_n dX7_isAsKept_16 rfl ?_
      refine r_getR (j := 156) dX7_isAsKept_17 k_X7_127 rfl (by decide) rfl rfl ?_
      refine r_iload_n dX7_isAsKept_20 rfl ?_
      refine r_iald (i) dX7_isAsKept_21 rfl rfl (show i < 6 by omega) ?_
      rw [ha i (by omega), hk i (by omega)]
      refine r_icmp_eq (tgt := 27) dX7_isAsKept_22 (by decide) (fun c_22 => ?_) (fun c_22 => ?_)
      · refine r_iinc dX7_isAsKept_27 rfl (by first | exact nI_inc _ | rfl) (by decide) rfl rfl ?_
        dsimp only [List.set]
        refine r_goto (tgt := 2) dX7_isAsKept_30 (by decide) ?_
        exact ih (i + 1) (by omega) (by show (likeTo T T' i && decide (T.1 3 i = T'.1 3 i)) = true; rw [hl, show decide (T.1 3 i = T'.1 3 i) = true from decide_eq_true ((nI_eq' (by omega) (by omega)).mp c_22)]; rfl)
      · refine r_iconst (v := 0) dX7_isAsKept_25 (by decide) ?_
        refine r_ireturn dX7_isAsKept_26 ⟨_, rfl, rfl⟩ ?_
        refine ⟨?_, rfl⟩
        have q1 : likeTo T T' (i + 1) = false := by show (likeTo T T' i && decide (T.1 3 i = T'.1 3 i)) = false; rw [show decide (T.1 3 i = T'.1 3 i) = false from decide_eq_false (fun q => c_22 (by rw [q]))]; simp
        have q2 := mono m (i + 1) q1
        rw [likeS, show T'.1 7 0 = i + 1 + m by omega, q2]
        rfl
set_option maxRecDepth 100000 in
theorem m_X7_isAsKept {G : WT} {l : Launch} (hG : GOK G) {h : Hp} {T T' : Tb} {h0 : Hp} (hR : RTb h T) (hR0 : RTb h0 T') (hT : TbOK T) (hT' : TbOK T') (hEE : T.1 7 0 = T'.1 7 0) (hK : Kept h0 h) : Cl G l 1 yX7_isAsKept cX7_isAsKept 2 (some .boolean) [.ref (gA G 134)] h (fun r h' => r = some (.int (b01 (likeS T T'))) ∧ h' = h) := by
  refine Cl.of hG (by decide) (Nat.le_of_ble_eq_true rfl) ?_
  show Wp G l 1 RX7 cX7_isAsKept 2 (some .boolean) 0 [.ref (gA G 134), mk0] [] h _
  refine r_iconst (v := 0) dX7_isAsKept_0 (by decide) ?_
  refine r_istore_n dX7_isAsKept_1 (by decide) rfl rfl ?_
  dsimp only [List.set]
  exact like_loop hT'.1 (by rw [← hEE]; exact hR.1) (fun e he => (hR.2.2.2.2 e (by omega)).2.2.2.1) (fun e he => by have := hT'.1; rw [(hK.1 e (by omega)).1]; exact (hR0.2.2.2.2 e he).2.2.2.1) hR.2.1 (by rw [hK.2.1]; exact hR0.2.1) (fun e => (hT.2.2.2.2.2.2.1 e).2.2.2) (fun e => (hT'.2.2.2.2.2.2.1 e).2.2.2) hT.2.1 hT'.2.1 (T'.1 7 0) 0 (by omega) rfl
theorem RIc.back {h g1 g2 g3 : Hp} {b : Nat} {V : Hv} {T : Tb} (C : RIc h b V T) (f1 : Fr kpF h g1) (k1 : Kept h g1) (f2 : Fr goF g1 g2) (f3 : Fr pbF g2 g3) (b3 : Back1 g2 g3) : RIc g3 b V T ∧ Fr scrF h g3 :=
  C.end (back_tb C.1.1 C.1.2.1.1 k1 f1 f2 f3 b3) C.1.2.1 C.2.2 (((kpF_scr f1).tr (goF_scr f2)).tr (pbF_scr f3)) (pbF_calm (goF_calm (kpF_calm C.calm f1) f2) f3)
theorem SC.sup {h g1 g2 : Hp} {b : Nat} {V : Hv} {T : Tb} {k : Nat} (C : RIc h b V T) (hk : k ≤ 1000) (f1 : Fr kpF h g1) (f2 : Fr goF g1 g2) (hR : RTb g2 (supN V (P0 V) T k)) : SC g2 b V (supN V (P0 V) T k) none false ∧ RPc g2 ((supN V (P0 V) T k).1 7 0) none ∧ (supN V (P0 V) T k).1 7 2 ≤ 9999 + k := by
  have hd := supN_day (V := V) (P := P0 V) (T := T) k
  have h99 := C.2.2
  exact ⟨(C.1.fr f1 kpF_dom).go f2 hR (supN_ok C.1.2.1 k (by omega)), by rw [supN_E]; exact (C.2.1.fr f1 rfl rfl).fr f2 rfl rfl, by omega⟩
theorem round_loop {G : WT} {l : Launch} (hG : GOK G) {h g1 : Hp} {b : Nat} {V : Hv} {T : Tb} (C : RIc h b V T) (f1 : Fr kpF h g1) (k1 : Kept h g1) :
    ∀ (m k : Nat) (g : Hp), k + m = 60 → Fr goF g1 g → RTb g (supN V (P0 V) T k) → (∀ j, j < k → likeS (supN V (P0 V) T (j + 1)) T = false) → Wp G l 10 RX7 cX7_round 3 (some .int) 9 [.ref (gA G 134), .int (-5), .int (nI (k + 1))] [] g (fun r h' => r = some (.int (roundA V T)) ∧ RIc h' b V T ∧ Fr scrF h h') := by
  intro m
  induction m with
  | zero =>
    intro k g hk hF hR hno
    obtain rfl : k = 60 := by omega
    refine r_iload_n dX7_round_9 rfl ?_
    refine r_bipush (v := 61) dX7_round_10 (by decide) ?_
    refine r_icmp_ge (tgt := 43) dX7_round_12 (by decide) (fun c_12 => ?_) (fun c_12 => ?_)
    · refine r_aload_n dX7_round_43 rfl ?_
      refine r_callV dX7_round_44 l_X7_347 o_X7_putBack v_X7_putBack rfl (by decide) rfl rfl (m_X7_putBack hG) (by decide) rfl (Nat.le_of_ble_eq_true rfl) (fun r44 h44 hq44 => ?_)
      obtain ⟨rfl, f3, b3⟩ := hq44
      refine r_iload_n dX7_round_47 rfl ?_
      refine r_ireturn dX7_round_48 ⟨_, rfl, rfl⟩ ?_
      have e : roundF V T = 60 := firstTo_none 60 hno
      exact ⟨by rw [roundA, e, if_neg (by omega)], C.back f1 k1 hF f3 b3⟩
    · exact absurd (Int32.le_refl _) c_12
  | succ m ih =>
    intro k g hk hF hR hno
    obtain ⟨C2, P2, hd2⟩ := SC.sup C (by omega) f1 hF hR
    have hd := C.2.2
    have cont : ∀ (g9 : Hp) (x : Int32), Fr goF g1 g9 → RTb g9 (supN V (P0 V) T (k + 1)) → x = (if likeS (supN V (P0 V) T (k + 1)) T = true then nI (k + 1) else -5) → Wp G l 10 RX7 cX7_round 3 (some .int) 9 [.ref (gA G 134), .int x, .int (nI (k + 1 + 1))] [] g9 (fun r h' => r = some (.int (roundA V T)) ∧ RIc h' b V T ∧ Fr scrF h h') := by
      intro g9 x hF9 hR9 hx
      by_cases hl : likeS (supN V (P0 V) T (k + 1)) T = true
      · rw [hx, if_pos hl]
        have e : roundF V T = k := firstTo_at hno hl 60 (by omega)
        refine r_iload_n dX7_round_9 rfl ?_
        refine r_bipush (v := 61) dX7_round_10 (by decide) ?_
        refine r_icmp_ge (tgt := 43) dX7_round_12 (by decide) (fun c_12 => ?_) (fun c_12 => ?_)
        · refine r_aload_n dX7_round_43 rfl ?_
          refine r_callV dX7_round_44 l_X7_347 o_X7_putBack v_X7_putBack rfl (by decide) rfl rfl (m_X7_putBack hG) (by decide) rfl (Nat.le_of_ble_eq_true rfl) (fun r44 h44 hq44 => ?_)
          obtain ⟨rfl, f3, b3⟩ := hq44
          refine r_iload_n dX7_round_47 rfl ?_
          refine r_ireturn dX7_round_48 ⟨_, rfl, rfl⟩ ?_
          exact ⟨by rw [roundA, e, if_pos (by omega)], C.back f1 k1 hF9 f3 b3⟩
        · refine r_iload_n dX7_round_15 rfl ?_
          refine r_if_ge (tgt := 43) dX7_round_16 (by decide) (fun c_16 => ?_) (fun c_16 => ?_)
          · refine r_aload_n dX7_round_43 rfl ?_
            refine r_callV dX7_round_44 l_X7_347 o_X7_putBack v_X7_putBack rfl (by decide) rfl rfl (m_X7_putBack hG) (by decide) rfl (Nat.le_of_ble_eq_true rfl) (fun r44 h44 hq44 => ?_)
            obtain ⟨rfl, f3, b3⟩ := hq44
            refine r_iload_n dX7_round_47 rfl ?_
            refine r_ireturn dX7_round_48 ⟨_, rfl, rfl⟩ ?_
            exact ⟨by rw [roundA, e, if_pos (by omega)], C.back f1 k1 hF9 f3 b3⟩
          · exact absurd (nI_pos' (n := k + 1) (by omega)) c_16
      · rw [hx, if_neg hl]
        refine ih (k + 1) g9 (by omega) hF9 hR9 (fun j hj => ?_)
        by_cases hjk : j = k
        · rw [hjk]; simpa using hl
        · exact hno j (by omega)
    refine r_iload_n dX7_round_9 rfl ?_
    refine r_bipush (v := 61) dX7_round_10 (by decide) ?_
    refine r_icmp_ge (tgt := 43) dX7_round_12 (by decide) (fun c_12 => ?_) (fun c_12 => ?_)
    · exact absurd c_12 (nI_ge (a := k + 1) (b := 61) (by omega) (by omega))
    · refine r_iload_n dX7_round_15 rfl ?_
      refine r_if_ge (tgt := 43) dX7_round_16 (by decide) (fun c_16 => ?_) (fun c_16 => ?_)
      · exact absurd c_16 (by decide)
      · refine r_aload_n dX7_round_19 rfl ?_
        refine r_callV dX7_round_20 l_X7_336 o_X7_goSupper v_X7_goSupper rfl (by decide) rfl rfl (m_X7_goSupper (pact := none) hG C2 P2 (by omega)) (by decide) rfl (Nat.le_of_ble_eq_true rfl) (fun r20 h20 hq20 => ?_)
        obtain ⟨rfl, hR20, hF20, -⟩ := hq20
        have hR9 : RTb h20 (supN V (P0 V) T (k + 1)) := hR20
        refine r_aload_n dX7_round_23 rfl ?_
        refine r_callV dX7_round_24 l_X7_350 o_X7_isAsKept v_X7_isAsKept rfl (by decide) rfl rfl (m_X7_isAsKept hG hR9 C.1.1 (supN_ok C.1.2.1 (k + 1) (by omega)) C.1.2.1 (supN_E (k + 1)) (goF_kept k1 (hF.tr hF20))) (by decide) rfl (Nat.le_of_ble_eq_true rfl) (fun r24 h24 hq24 => ?_)
        obtain ⟨rfl, e24⟩ := hq24
        rw [e24]
        clear e24 h24
        refine r_if_eq (tgt := 34) dX7_round_27 (by decide) (fun c_27 => ?_) (fun c_27 => ?_)
        · refine r_bipush (v := -5) dX7_round_34 (by decide) ?_
          refine r_istore_n dX7_round_36 (by decide) rfl rfl ?_
          dsimp only [List.set]
          refine r_iinc dX7_round_37 rfl (by first | exact nI_inc _ | rfl) (by decide) rfl rfl ?_
          dsimp only [List.set]
          refine r_goto (tgt := 9) dX7_round_40 (by decide) ?_
          exact cont _ _ (hF.tr hF20) hR9 (by rw [if_neg (by rw [b01_0.mp c_27]; exact Bool.false_ne_true)])
        · refine r_iload_n dX7_round_30 rfl ?_
          refine r_goto (tgt := 36) dX7_round_31 (by decide) ?_
          refine r_istore_n dX7_round_36 (by decide) rfl rfl ?_
          dsimp only [List.set]
          refine r_iinc dX7_round_37 rfl (by first | exact nI_inc _ | rfl) (by decide) rfl rfl ?_
          dsimp only [List.set]
          refine r_goto (tgt := 9) dX7_round_40 (by decide) ?_
          exact cont _ _ (hF.tr hF20) hR9 (by rw [if_pos (b01_n0.mp c_27)])
set_option maxRecDepth 100000 in
theorem m_X7_round {G : WT} {l : Launch} (hG : GOK G) {h : Hp} {b : Nat} {V : Hv} {T : Tb} (C : RIc h b V T) : Cl G l 10 yX7_round cX7_round 3 (some .int) [.ref (gA G 134)] h (fun r h' => r = some (.int (roundA V T)) ∧ RIc h' b V T ∧ Fr scrF h h') := by
  refine Cl.of hG (by decide) (Nat.le_of_ble_eq_true rfl) ?_
  show Wp G l 10 RX7 cX7_round 3 (some .int) 0 [.ref (gA G 134), mk0, mk0] [] h _
  refine r_aload_n dX7_round_0 rfl ?_
  refine r_callV dX7_round_1 l_X7_341 o_X7_keep v_X7_keep rfl (by decide) rfl rfl (m_X7_keep hG) (by decide) rfl (Nat.le_of_ble_eq_true rfl) (fun r1 h1 hq1 => ?_)
  obtain ⟨rfl, f1, k1, -⟩ := hq1
  refine r_bipush (v := -5) dX7_round_4 (by decide) ?_
  refine r_istore_n dX7_round_6 (by decide) rfl rfl ?_
  dsimp only [List.set]
  refine r_iconst (v := 1) dX7_round_7 (by decide) ?_
  refine r_istore_n dX7_round_8 (by decide) rfl rfl ?_
  dsimp only [List.set]
  exact round_loop hG C f1 k1 60 0 _ (by omega) Fr.rf (C.1.fr f1 kpF_dom).1 (fun j hj => absurd hj (by omega))
theorem allGlad_loop {G : WT} {l : Launch} {h : Hp} {T : Tb} (hE : T.1 7 0 ≤ 5) (hR : RTb h T) : ∀ m i : Nat, i + m = T.1 7 0 → Wp G l 1 RX7 cX7_allGlad 3 (some .int) 4 [.ref (gA G 134), .int (gladTo T i), .int (nI i)] [] h (fun r h' => r = some (.int (gladA T)) ∧ h' = h) := by
  intro m
  induction m with
  | zero =>
    intro i hi
    obtain rfl : i = T.1 7 0 := by omega
    refine r_iload_n dX7_allGlad_4 rfl ?_
    refine r_aload_n dX7_allGlad_5 rfl ?_
    refine r_getI dX7_allGlad_6 k_X7_7 rfl (by decide) rfl ?_
    rw [hR.1]
    refine r_icmp_ge (tgt := 27) dX7_allGlad_9 (by decide) (fun c_9 => ?_) (fun c_9 => ?_)
    · refine r_iload_n dX7_allGlad_27 rfl ?_
      refine r_ireturn dX7_allGlad_28 ⟨_, rfl, rfl⟩ ?_
      exact ⟨rfl, rfl⟩
    · exact absurd (Int32.le_refl _) c_9
  | succ m ih =>
    intro i hi
    refine r_iload_n dX7_allGlad_4 rfl ?_
    refine r_aload_n dX7_allGlad_5 rfl ?_
    refine r_getI dX7_allGlad_6 k_X7_7 rfl (by decide) rfl ?_
    rw [hR.1]
    refine r_icmp_ge (tgt := 27) dX7_allGlad_9 (by decide) (fun c_9 => ?_) (fun c_9 => ?_)
    · exact absurd c_9 (nI_ge (by omega) (by omega))
    · refine r_iload_n dX7_allGlad_12 rfl ?_
      refine r_aload_n dX7_allGlad_13 rfl ?_
      refine r_getR (j := 139) dX7_allGlad_14 k_X7_35 rfl (by decide) rfl rfl ?_
      refine r_iload_n dX7_allGlad_17 rfl ?_
      refine r_iald (i) dX7_allGlad_18 rfl rfl (show i < 6 by omega) ?_
      rw [(hR.2.2.2.2 i (by omega)).2.2.2.2.1]
      refine r_iadd dX7_allGlad_19 ?_
      refine r_istore_n dX7_allGlad_20 (by decide) rfl rfl ?_
      dsimp only [List.set]
      refine r_iinc dX7_allGlad_21 rfl (by first | exact nI_inc _ | rfl) (by decide) rfl rfl ?_
      dsimp only [List.set]
      refine r_goto (tgt := 4) dX7_allGlad_24 (by decide) ?_
      exact ih (i + 1) (by omega)
set_option maxRecDepth 100000 in
theorem m_X7_allGlad {G : WT} {l : Launch} (hG : GOK G) {h : Hp} {T : Tb} (hE : T.1 7 0 ≤ 5) (hR : RTb h T) : Cl G l 1 yX7_allGlad cX7_allGlad 3 (some .int) [.ref (gA G 134)] h (fun r h' => r = some (.int (gladA T)) ∧ h' = h) := by
  refine Cl.of hG (by decide) (Nat.le_of_ble_eq_true rfl) ?_
  show Wp G l 1 RX7 cX7_allGlad 3 (some .int) 0 [.ref (gA G 134), mk0, mk0] [] h _
  refine r_iconst (v := 0) dX7_allGlad_0 (by decide) ?_
  refine r_istore_n dX7_allGlad_1 (by decide) rfl rfl ?_
  dsimp only [List.set]
  refine r_iconst (v := 0) dX7_allGlad_2 (by decide) ?_
  refine r_istore_n dX7_allGlad_3 (by decide) rfl rfl ?_
  dsimp only [List.set]
  exact allGlad_loop hE hR (T.1 7 0) 0 (by omega)
theorem lawsGlad {P : Sup} {V : Hv} {T : Tb} {k : Nat} : gladA (supN V P T k) = gladTo (supN V P T k) (T.1 7 0) := by rw [gladA, supN_E]
theorem laws_loop {G : WT} {l : Launch} (hG : GOK G) {h : Hp} {b : Nat} {V : Hv} {T : Tb} {k : Nat} {f : Nat → Int32} (hk : k ≤ 60) (C : RIc h b V T) (hf : ∀ w, f w = gladA (supN V (w, false, none) T k)) : ∀ (m w : Nat) (g : Hp) (x5 : Value), w + m = 3 → Fr scrF h g → RTb g T → RHs g b V → g.1 134 28 = 0 → g.1 134 35 = -1 → Wp G l 11 RX7 cX7_laws 6 (some .int) 21 [.ref (gA G 134), .int (nI k), .int (if w = 0 then -1 else nI (bestI f (w - 1))), .int (if w = 0 then 0 else f (bestI f (w - 1))), .int (nI w), x5] [] g (fun r h' => r = some (.int (nI (bestI f 2))) ∧ RIc h' b V T ∧ Fr scrF h h') := by
  intro m
  induction m with
  | zero =>
    intro w g x5 hw hF hR hV h1 h2
    obtain rfl : w = 3 := by omega
    refine r_iload dX7_laws_21 rfl ?_
    refine r_iconst (v := 3) dX7_laws_23 (by decide) ?_
    refine r_icmp_ge (tgt := 77) dX7_laws_24 (by decide) (fun c_24 => ?_) (fun c_24 => ?_)
    · refine r_aload_n dX7_laws_77 rfl ?_
      refine r_iconst (v := -1) dX7_laws_78 (by decide) ?_
      refine r_putI dX7_laws_79 k_X7_100 rfl (by decide) rfl rfl rfl rfl ?_
      refine r_iload_n dX7_laws_82 rfl ?_
      refine r_ireturn dX7_laws_83 ⟨_, rfl, rfl⟩ ?_
      have F3 : Fr scrF g (setI g 134 29 (-1)) := Fr.set rfl
      refine ⟨rfl, C.end ?_ C.1.2.1 C.2.2 (hF.tr F3) ⟨by rw [setI_nj (by decide)]; exact h1, setI_at, by rw [setI_nj (by decide)]; exact h2⟩⟩
      obtain ⟨r1, r2, r3, r4, r5⟩ := hR
      exact ⟨by rw [setI_nj (by decide)]; exact r1, by rw [setI_nj (by decide)]; exact r2, by rw [setI_nj (by decide)]; exact r3, by rw [setI_nj (by decide)]; exact r4, fun e he => r5 e he⟩
    · exact absurd (Int32.le_refl _) c_24
  | succ m ih =>
    intro w g x5 hw hF hR hV h1 h2
    have hd := C.2.2
    have C2 : SC (setI g 134 29 (nI w)) b V T (some w) false := by
      have F3 : Fr (fun a i => a == 134 && i == 29) g (setI g 134 29 (nI w)) := Fr.set rfl
      refine ⟨?_, C.1.2.1, hV.fr F3 (fun j => ⟨rfl, rfl, rfl, rfl, rfl, rfl⟩) rfl, ⟨setI_at, fun k hk => by cases hk; omega⟩, by rw [setI_nj (by decide)]; exact h1⟩
      obtain ⟨r1, r2, r3, r4, r5⟩ := hR
      exact ⟨by rw [setI_nj (by decide)]; exact r1, by rw [setI_nj (by decide)]; exact r2, by rw [setI_nj (by decide)]; exact r3, by rw [setI_nj (by decide)]; exact r4, fun e he => r5 e he⟩
    have P2 : RPc (setI g 134 29 (nI w)) (T.1 7 0) none := by show (setI g 134 29 (nI w)).1 134 35 = -1; rw [setI_nj (by decide)]; exact h2
    have F3 : Fr scrF g (setI g 134 29 (nI w)) := Fr.set rfl
    have cont : ∀ (g3 : Hp) (x y : Int32) (x5 : Value), Fr scrF g g3 → RTb g3 T → RHs g3 b V → g3.1 134 28 = 0 → g3.1 134 35 = -1 → x = nI (bestI f w) → y = f (bestI f w) → Wp G l 11 RX7 cX7_laws 6 (some .int) 21 [.ref (gA G 134), .int (nI k), .int x, .int y, .int (nI (w + 1)), x5] [] g3 (fun r h' => r = some (.int (nI (bestI f 2))) ∧ RIc h' b V T ∧ Fr scrF h h') := by
      intro g3 x y x5 F9 hR9 hV9 i1 i2 hx hy
      have q := ih (w + 1) g3 x5 (by omega) (hF.tr F9) hR9 hV9 i1 i2
      rw [if_neg (by omega), if_neg (by omega), Nat.add_sub_cancel] at q
      rw [hx, hy]
      exact q
    have hbl : ∀ n, bestI f n ≤ n := by
      intro n
      induction n with
      | zero => exact Nat.le_refl _
      | succ n ih => show (if f (bestI f n) < f (n + 1) then n + 1 else bestI f n) ≤ n + 1; split <;> omega
    refine r_iload dX7_laws_21 rfl ?_
    refine r_iconst (v := 3) dX7_laws_23 (by decide) ?_
    refine r_icmp_ge (tgt := 77) dX7_laws_24 (by decide) (fun c_24 => ?_) (fun c_24 => ?_)
    · exact absurd c_24 (nI_ge (a := w) (b := 3) (by omega) (by omega))
    · refine r_aload_n dX7_laws_27 rfl ?_
      refine r_iload dX7_laws_28 rfl ?_
      refine r_putI dX7_laws_30 k_X7_100 rfl (by decide) rfl rfl rfl rfl ?_
      refine r_aload_n dX7_laws_33 rfl ?_
      refine r_callV dX7_laws_34 l_X7_341 o_X7_keep v_X7_keep rfl (by decide) rfl rfl (m_X7_keep hG) (by decide) rfl (Nat.le_of_ble_eq_true rfl) (fun r34 h34 hq34 => ?_)
      obtain ⟨rfl, f1, k1, -⟩ := hq34
      refine r_aload_n dX7_laws_37 rfl ?_
      refine r_iload_n dX7_laws_38 rfl ?_
      refine r_callV dX7_laws_39 l_X7_344 o_X7_goOn v_X7_goOn rfl (by decide) rfl rfl (m_X7_goOn (pact := none) hG (show k ≤ 1000 by omega) (by omega) (C2.fr f1 kpF_dom) (P2.fr f1 rfl rfl)) (by decide) rfl (Nat.le_of_ble_eq_true rfl) (fun r39 h39 hq39 => ?_)
      obtain ⟨rfl, f2, hR2, -⟩ := hq39
      refine r_aload_n dX7_laws_42 rfl ?_
      refine r_callV dX7_laws_43 l_X7_365 o_X7_allGlad v_X7_allGlad rfl (by decide) rfl rfl (m_X7_allGlad hG (by rw [supN_E]; exact C.1.2.1.1) hR2) (by decide) rfl (Nat.le_of_ble_eq_true rfl) (fun r43 h43 hq43 => ?_)
      obtain ⟨rfl, e43⟩ := hq43
      rw [e43]
      clear e43 h43
      refine r_istore dX7_laws_46 (by decide) rfl rfl ?_
      dsimp only [List.set]
      refine r_aload_n dX7_laws_48 rfl ?_
      refine r_callV dX7_laws_49 l_X7_347 o_X7_putBack v_X7_putBack rfl (by decide) rfl rfl (m_X7_putBack hG) (by decide) rfl (Nat.le_of_ble_eq_true rfl) (fun r49 h49 hq49 => ?_)
      obtain ⟨rfl, f3, b3⟩ := hq49
      have F9 : Fr scrF g h49 := ((F3.tr (kpF_scr f1)).tr (goF_scr f2)).tr (pbF_scr f3)
      have R9 := back_tb C2.1 C.1.2.1.1 k1 f1 f2 f3 b3
      have V9 : RHs h49 b V := hV.fr F9 (fun j => ⟨rfl, rfl, rfl, rfl, rfl, rfl⟩) rfl
      have i1 : h49.1 134 28 = 0 := by rw [f3.1 _ _ rfl, f2.1 _ _ rfl, f1.1 _ _ rfl, setI_nj (by decide)]; exact h1
      have i2 : h49.1 134 35 = -1 := by rw [f3.1 _ _ rfl, f2.1 _ _ rfl, f1.1 _ _ rfl, setI_nj (by decide)]; exact h2
      have ef : gladA (supN V (supE V (some w) false none) T k) = f w := (hf w).symm
      rw [ef]
      refine r_iload_n dX7_laws_52 rfl ?_
      refine r_if_lt (tgt := 65) dX7_laws_53 (by decide) (fun c_53 => ?_) (fun c_53 => ?_)
      · have y : w = 0 := Classical.byContradiction fun q => by rw [if_neg q] at c_53; exact absurd c_53 (nI_pos (by have := hbl (w - 1); omega))
        refine r_iload dX7_laws_65 rfl ?_
        refine r_istore_n dX7_laws_67 (by decide) rfl rfl ?_
        dsimp only [List.set]
        refine r_iload dX7_laws_68 rfl ?_
        refine r_istore_n dX7_laws_70 (by decide) rfl rfl ?_
        dsimp only [List.set]
        refine r_iinc dX7_laws_71 rfl (by first | exact nI_inc _ | rfl) (by decide) rfl rfl ?_
        dsimp only [List.set]
        refine r_goto (tgt := 21) dX7_laws_74 (by decide) ?_
        exact cont _ _ _ _ F9 R9 V9 i1 i2 (by rw [y]; rfl) (by rw [y]; rfl)
      · have y : ¬ w = 0 := fun q => by rw [if_pos q] at c_53; exact absurd c_53 (by decide)
        obtain ⟨w1, hw1⟩ : ∃ n, w = n + 1 := ⟨w - 1, by omega⟩
        have ebs : bestI f w = if f (bestI f (w - 1)) < f w then w else bestI f (w - 1) := by rw [hw1]; rfl
        rw [if_neg y, if_neg y]
        refine r_iload dX7_laws_56 rfl ?_
        refine r_iload_n dX7_laws_58 rfl ?_
        refine r_icmp_gt (tgt := 65) dX7_laws_59 (by decide) (fun c_59 => ?_) (fun c_59 => ?_)
        · refine r_iload dX7_laws_65 rfl ?_
          refine r_istore_n dX7_laws_67 (by decide) rfl rfl ?_
          dsimp only [List.set]
          refine r_iload dX7_laws_68 rfl ?_
          refine r_istore_n dX7_laws_70 (by decide) rfl rfl ?_
          dsimp only [List.set]
          refine r_iinc dX7_laws_71 rfl (by first | exact nI_inc _ | rfl) (by decide) rfl rfl ?_
          dsimp only [List.set]
          refine r_goto (tgt := 21) dX7_laws_74 (by decide) ?_
          exact cont _ _ _ _ F9 R9 V9 i1 i2 (by rw [ebs, if_pos c_59]) (by rw [ebs, if_pos c_59])
        · refine r_goto (tgt := 71) dX7_laws_62 (by decide) ?_
          refine r_iinc dX7_laws_71 rfl (by first | exact nI_inc _ | rfl) (by decide) rfl rfl ?_
          dsimp only [List.set]
          refine r_goto (tgt := 21) dX7_laws_74 (by decide) ?_
          exact cont _ _ _ _ F9 R9 V9 i1 i2 (by rw [ebs, if_neg c_59]) (by rw [ebs, if_neg c_59])
set_option maxRecDepth 100000 in
theorem m_X7_laws {G : WT} {l : Launch} (hG : GOK G) {h : Hp} {b : Nat} {V : Hv} {T : Tb} {n : Int32} (C : RIc h b V T) : Cl G l 11 yX7_laws cX7_laws 6 (some .int) [.ref (gA G 134), .int n] h (fun r h' => r = some (.int (lawsA V T n)) ∧ RIc h' b V T ∧ Fr scrF h h') := by
  refine Cl.of hG (by decide) (Nat.le_of_ble_eq_true rfl) ?_
  show Wp G l 11 RX7 cX7_laws 6 (some .int) 0 [.ref (gA G 134), .int n, mk0, mk0, mk0, mk0] [] h _
  cases hn : dec n 61 with
  | none =>
    refine r_aload_n dX7_laws_0 rfl ?_
    refine r_iload_n dX7_laws_1 rfl ?_
    refine r_iconst (v := 0) dX7_laws_2 (by decide) ?_
    refine r_bipush (v := 60) dX7_laws_3 (by decide) ?_
    refine r_callV dX7_laws_5 l_X7_212 o_X7_in v_X7_in rfl (by decide) rfl rfl (m_X7_in hG) (by decide) rfl (Nat.le_of_ble_eq_true rfl) (fun r5 h5 hq5 => ?_)
    obtain ⟨rfl, e5⟩ := hq5
    rw [e5]
    clear e5 h5
    rw [show inP n 0 60 = (dec n 61).isSome from inP_dec0 (c := 60) (by omega) rfl, hn]
    refine r_if_ne (tgt := 14) dX7_laws_8 (by decide) (fun c_8 => ?_) (fun c_8 => ?_)
    · exact absurd rfl c_8
    · refine r_bipush (v := -2) dX7_laws_11 (by decide) ?_
      refine r_ireturn dX7_laws_13 ⟨_, rfl, rfl⟩ ?_
      exact ⟨by rw [lawsA, hn], C, Fr.rf⟩
  | some k =>
    obtain ⟨hk, rfl, -⟩ := dec_some.mp hn
    refine r_aload_n dX7_laws_0 rfl ?_
    refine r_iload_n dX7_laws_1 rfl ?_
    refine r_iconst (v := 0) dX7_laws_2 (by decide) ?_
    refine r_bipush (v := 60) dX7_laws_3 (by decide) ?_
    refine r_callV dX7_laws_5 l_X7_212 o_X7_in v_X7_in rfl (by decide) rfl rfl (m_X7_in hG) (by decide) rfl (Nat.le_of_ble_eq_true rfl) (fun r5 h5 hq5 => ?_)
    obtain ⟨rfl, e5⟩ := hq5
    rw [e5]
    clear e5 h5
    rw [show inP (nI k) 0 60 = (dec (nI k) 61).isSome from inP_dec0 (c := 60) (by omega) rfl, hn]
    refine r_if_ne (tgt := 14) dX7_laws_8 (by decide) (fun c_8 => ?_) (fun c_8 => ?_)
    · refine r_iconst (v := -1) dX7_laws_14 (by decide) ?_
      refine r_istore_n dX7_laws_15 (by decide) rfl rfl ?_
      dsimp only [List.set]
      refine r_iconst (v := 0) dX7_laws_16 (by decide) ?_
      refine r_istore_n dX7_laws_17 (by decide) rfl rfl ?_
      dsimp only [List.set]
      refine r_iconst (v := 0) dX7_laws_18 (by decide) ?_
      refine r_istore dX7_laws_19 (by decide) rfl rfl ?_
      dsimp only [List.set]
      exact Wp.mono (laws_loop hG (f := fun w => gladA (supN V (w, false, none) T k)) (by omega) C (fun _ => rfl) 3 0 h _ (by omega) Fr.rf C.1.1 C.1.2.2.1 C.1.2.2.2.2 C.2.1) (fun r h' q => ⟨by rw [lawsA, hn]; exact q.1, q.2⟩)
    · exact absurd c_8 (b01_n0.mpr rfl)
