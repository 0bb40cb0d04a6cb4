/-! who bakes, by the developers' class -/
def PtC (h : Hp) (t E : Nat) (p : Nat → Nat) : Prop := h.2.2 37 8 = t ∧ h.1 t 7 = nI E ∧ E ≤ 5 ∧ ∀ e, e < E → h.1 41 e = nI (p e) ∧ p e ≤ 99
theorem sub_pos {a b : Nat} (ha : a < 1000) (hb : b < 1000) : (0 : Int32) < nI a - nI b ↔ b < a := by
  rw [Int32.lt_iff_toInt_lt, pk_sub_toInt (by omega) (by omega)]
  show (0 : Int) < _ ↔ _
  omega
theorem sub_neg {a b : Nat} (ha : a < 1000) (hb : b < 1000) : nI a - nI b < (0 : Int32) ↔ a < b := by
  rw [Int32.lt_iff_toInt_lt, pk_sub_toInt (by omega) (by omega)]
  show _ < (0 : Int) ↔ _
  omega
theorem sub_zero {a b : Nat} (ha : a < 1000) (hb : b < 1000) : nI a - nI b = (0 : Int32) ↔ a = b := by
  rw [← Int32.toInt_inj, pk_sub_toInt (by omega) (by omega)]
  show _ = (0 : Int) ↔ _
  omega
theorem place_lp {G : WT} {l : Launch} {h : Hp} {t E e : Nat} {p : Nat → Nat} (ht : ksh t = 4) (H : PtC h t E p) (he : e < E) : ∀ (n j : Nat) (x4 : Value), j + n = E → Wp G l 1 RX3 cX3_placeOf 5 (some .int) 4 [.ref (gA G 37), .int (nI e), .int (nI (cntTo (fun o => aheadS p o e) j)), .int (nI j), x4] [] h (fun r h' => r = some (.int (nI (placeS p E e))) ∧ h' = h) := by
  have h5 := H.2.2.1
  intro n
  induction n with
  | zero =>
    intro j x4 hj
    refine r_iload_n dX3_placeOf_4 rfl ?_
    refine r_aload_n dX3_placeOf_5 rfl ?_
    refine r_getR (j := t) dX3_placeOf_6 k_X3_39 rfl (by decide) rfl H.1 ?_
    refine r_getI dX3_placeOf_9 k_X3_86 (by assumption) (by decide) rfl ?_
    rw [H.2.1]
    refine r_icmp_ge (tgt := 54) dX3_placeOf_12 (by decide) (fun c_12 => ?_) (fun c_12 => ?_)
    · refine r_iload_n dX3_placeOf_54 rfl ?_
      refine r_ireturn dX3_placeOf_55 ⟨_, rfl, rfl⟩ ?_
      exact ⟨by rw [show j = E by omega]; rfl, rfl⟩
    · exact absurd (nI_le (by omega) (by omega)) c_12
  | succ n ih =>
    intro j x4 hj
    obtain ⟨p1, p2⟩ := H.2.2.2 e he
    obtain ⟨q1, q2⟩ := H.2.2.2 j (by omega)
    have yes : ∀ x, aheadS p j e = true → Wp G l 1 RX3 cX3_placeOf 5 (some .int) 4 [.ref (gA G 37), .int (nI e), .int (nI (cntTo (fun o => aheadS p o e) j + 1)), .int (nI (j + 1)), x] [] h (fun r h' => r = some (.int (nI (placeS p E e))) ∧ h' = h) := by
      intro x y
      have k9 := ih (j + 1) x (by omega)
      have e9 : cntTo (fun o => aheadS p o e) (j + 1) = cntTo (fun o => aheadS p o e) j + 1 := by show _ + (if aheadS p j e = true then 1 else 0) = _; rw [if_pos y]
      rw [e9] at k9
      exact k9
    have no : ∀ x, aheadS p j e = false → Wp G l 1 RX3 cX3_placeOf 5 (some .int) 4 [.ref (gA G 37), .int (nI e), .int (nI (cntTo (fun o => aheadS p o e) j)), .int (nI (j + 1)), x] [] h (fun r h' => r = some (.int (nI (placeS p E e))) ∧ h' = h) := by
      intro x y
      have k9 := ih (j + 1) x (by omega)
      have e9 : cntTo (fun o => aheadS p o e) (j + 1) = cntTo (fun o => aheadS p o e) j := by show _ + (if aheadS p j e = true then 1 else 0) = _; rw [y, if_neg Bool.false_ne_true, Nat.add_zero]
      rw [e9] at k9
      exact k9
    refine r_iload_n dX3_placeOf_4 rfl ?_
    refine r_aload_n dX3_placeOf_5 rfl ?_
    refine r_getR (j := t) dX3_placeOf_6 k_X3_39 rfl (by decide) rfl H.1 ?_
    refine r_getI dX3_placeOf_9 k_X3_86 (by assumption) (by decide) rfl ?_
    rw [H.2.1]
    refine r_icmp_ge (tgt := 54) dX3_placeOf_12 (by decide) (fun c_12 => ?_) (fun c_12 => ?_)
    · exact absurd c_12 (nI_ge (by omega) (by omega))
    · refine r_aload_n dX3_placeOf_15 rfl ?_
      refine r_getR (j := 41) dX3_placeOf_16 k_X3_21 rfl (by decide) rfl rfl ?_
      refine r_iload_n dX3_placeOf_19 rfl ?_
      refine r_iald (e) dX3_placeOf_20 rfl rfl (show e < 5 by omega) ?_
      rw [p1]
      refine r_aload_n dX3_placeOf_21 rfl ?_
      refine r_getR (j := 41) dX3_placeOf_22 k_X3_21 rfl (by decide) rfl rfl ?_
      refine r_iload_n dX3_placeOf_25 rfl ?_
      refine r_iald (j) dX3_placeOf_26 rfl rfl (show j < 5 by omega) ?_
      rw [q1]
      refine r_isub dX3_placeOf_27 ?_
      refine r_istore dX3_placeOf_28 (by decide) rfl rfl ?_
      dsimp only [List.set]
      refine r_iload dX3_placeOf_30 rfl ?_
      refine r_if_gt (tgt := 45) dX3_placeOf_32 (by decide) (fun c_32 => ?_) (fun c_32 => ?_)
      · refine r_iinc dX3_placeOf_45 rfl (by first | exact nI_inc _ | rfl) (by decide) rfl rfl ?_
        dsimp only [List.set]
        refine r_iinc dX3_placeOf_48 rfl (by first | exact nI_inc _ | rfl) (by decide) rfl rfl ?_
        dsimp only [List.set]
        refine r_goto (tgt := 4) dX3_placeOf_51 (by decide) ?_
        exact yes _ (decide_eq_true (Or.inl ((sub_pos (by omega) (by omega)).mp c_32)))
      · refine r_iload dX3_placeOf_35 rfl ?_
        refine r_if_ne (tgt := 48) dX3_placeOf_37 (by decide) (fun c_37 => ?_) (fun c_37 => ?_)
        · refine r_iinc dX3_placeOf_48 rfl (by first | exact nI_inc _ | rfl) (by decide) rfl rfl ?_
          dsimp only [List.set]
          refine r_goto (tgt := 4) dX3_placeOf_51 (by decide) ?_
          exact no _ (decide_eq_false (fun y => by
            rcases y with y | y
            · exact c_32 ((sub_pos (by omega) (by omega)).mpr y)
            · exact c_37 ((sub_zero (by omega) (by omega)).mpr y.1.symm)))
        · refine r_iload_n dX3_placeOf_40 rfl ?_
          refine r_iload_n dX3_placeOf_41 rfl ?_
          refine r_icmp_ge (tgt := 48) dX3_placeOf_42 (by decide) (fun c_42 => ?_) (fun c_42 => ?_)
          · refine r_iinc dX3_placeOf_48 rfl (by first | exact nI_inc _ | rfl) (by decide) rfl rfl ?_
            dsimp only [List.set]
            refine r_goto (tgt := 4) dX3_placeOf_51 (by decide) ?_
            exact no _ (decide_eq_false (fun y => by
              rcases y with y | y
              · exact c_32 ((sub_pos (by omega) (by omega)).mpr y)
              · exact absurd c_42 (nI_ge (by omega) (by omega))))
          · refine r_iinc dX3_placeOf_45 rfl (by first | exact nI_inc _ | rfl) (by decide) rfl rfl ?_
            dsimp only [List.set]
            refine r_iinc dX3_placeOf_48 rfl (by first | exact nI_inc _ | rfl) (by decide) rfl rfl ?_
            dsimp only [List.set]
            refine r_goto (tgt := 4) dX3_placeOf_51 (by decide) ?_
            exact yes _ (decide_eq_true (Or.inr ⟨((sub_zero (by omega) (by omega)).mp c_37).symm, Classical.byContradiction (fun y => c_42 (nI_le (by omega) (by omega)))⟩))
set_option maxRecDepth 100000 in
theorem m_X3_placeOf {G : WT} {l : Launch} (hG : GOK G) {h : Hp} {t E e : Nat} {p : Nat → Nat} (ht : ksh t = 4) (H : PtC h t E p) (he : e < E) : Cl G l 1 yX3_placeOf cX3_placeOf 5 (some .int) [.ref (gA G 37), .int (nI e)] h (fun r h' => r = some (.int (nI (placeS p E e))) ∧ h' = h) := by
  refine Cl.of hG (by decide) (Nat.le_of_ble_eq_true rfl) ?_
  show Wp G l 1 RX3 cX3_placeOf 5 (some .int) 0 [.ref (gA G 37), .int (nI e), mk0, mk0, mk0] [] h _
  refine r_iconst (v := 0) dX3_placeOf_0 (by decide) ?_
  refine r_istore_n dX3_placeOf_1 (by decide) rfl rfl ?_
  dsimp only [List.set]
  refine r_iconst (v := 0) dX3_placeOf_2 (by decide) ?_
  refine r_istore_n dX3_placeOf_3 (by decide) rfl rfl ?_
  dsimp only [List.set]
  exact place_lp ht H he E 0 _ (by omega)
def bk5 (E b : Nat) : Int32 := if E = 0 then -5 else nI b
theorem mid_lp {G : WT} {l : Launch} (hG : GOK G) {h : Hp} {t E : Nat} {p : Nat → Nat} (ht : ksh t = 4) (H : PtC h t E p) : ∀ (n j : Nat), j + n = E → (∀ i, i < j → ¬ placeS p E i = E / 2) → Wp G l 2 RX3 cX3_middle 2 (some .int) 2 [.ref (gA G 37), .int (nI j)] [] h (fun r h' => r = some (.int (bk5 E (midS p E))) ∧ h' = h) := by
  have h5 := H.2.2.1
  intro n
  induction n with
  | zero =>
    intro j hj hi
    have e0 : E = 0 := by
      by_cases z : 0 < E
      · obtain ⟨m1, m2, m3⟩ := midS_ok (p := p) z
        exact absurd m2 (hi _ (by omega))
      · omega
    refine r_iload_n dX3_middle_2 rfl ?_
    refine r_aload_n dX3_middle_3 rfl ?_
    refine r_getR (j := t) dX3_middle_4 k_X3_39 rfl (by decide) rfl H.1 ?_
    refine r_getI dX3_middle_7 k_X3_86 (by assumption) (by decide) rfl ?_
    rw [H.2.1]
    refine r_icmp_ge (tgt := 38) dX3_middle_10 (by decide) (fun c_10 => ?_) (fun c_10 => ?_)
    · refine r_bipush (v := -5) dX3_middle_38 (by decide) ?_
      refine r_ireturn dX3_middle_40 ⟨_, rfl, rfl⟩ ?_
      exact ⟨by rw [bk5, if_pos e0], rfl⟩
    · exact absurd (nI_le (by omega) (by omega)) c_10
  | succ n ih =>
    intro j hj hi
    have pl := placeS_lt (p := p) (E := E) (e := j) (by omega)
    refine r_iload_n dX3_middle_2 rfl ?_
    refine r_aload_n dX3_middle_3 rfl ?_
    refine r_getR (j := t) dX3_middle_4 k_X3_39 rfl (by decide) rfl H.1 ?_
    refine r_getI dX3_middle_7 k_X3_86 (by assumption) (by decide) rfl ?_
    rw [H.2.1]
    refine r_icmp_ge (tgt := 38) dX3_middle_10 (by decide) (fun c_10 => ?_) (fun c_10 => ?_)
    · exact absurd c_10 (nI_ge (by omega) (by omega))
    · refine r_aload_n dX3_middle_13 rfl ?_
      refine r_iload_n dX3_middle_14 rfl ?_
      refine r_callV dX3_middle_15 l_X3_142 o_X3_placeOf v_X3_placeOf rfl (by decide) rfl rfl (m_X3_placeOf hG ht H (show j < E by omega)) (by decide) rfl (Nat.le_of_ble_eq_true rfl) (fun r15 h15 hq15 => ?_)
      obtain ⟨rfl, e15⟩ := hq15
      rw [e15]
      clear e15 h15
      refine r_aload_n dX3_middle_18 rfl ?_
      refine r_getR (j := t) dX3_middle_19 k_X3_39 rfl (by decide) rfl H.1 ?_
      refine r_getI dX3_middle_22 k_X3_86 (by assumption) (by decide) rfl ?_
      rw [H.2.1]
      refine r_iconst (v := 2) dX3_middle_25 (by decide) ?_
      refine r_idiv dX3_middle_26 (by decide) ?_
      rw [show (2 : Int32) = nI 2 from rfl, nI_div (by omega) (by omega) (by omega)]
      refine r_icmp_ne (tgt := 32) dX3_middle_27 (by decide) (fun c_27 => ?_) (fun c_27 => ?_)
      · refine r_iinc dX3_middle_32 rfl (by first | exact nI_inc _ | rfl) (by decide) rfl rfl ?_
        dsimp only [List.set]
        refine r_goto (tgt := 2) dX3_middle_35 (by decide) ?_
        exact ih (j + 1) (by omega) (fun i h9 => by
          by_cases z : i = j
          · rw [z]; exact fun y => c_27 (by rw [y])
          · exact hi i (by omega))
      · refine r_iload_n dX3_middle_30 rfl ?_
        refine r_ireturn dX3_middle_31 ⟨_, rfl, rfl⟩ ?_
        have e9 := (nI_eq' (by omega) (by omega)).mp c_27
        have m9 : midS p E = j := firstTo_at (q := fun e => decide (placeS p E e = E / 2)) (k := j) (fun i h9 => decide_eq_false (hi i h9)) (decide_eq_true e9) E (by omega)
        exact ⟨by rw [bk5, if_neg (by omega), m9], rfl⟩
set_option maxRecDepth 100000 in
theorem m_X3_middle {G : WT} {l : Launch} (hG : GOK G) {h : Hp} {t E : Nat} {p : Nat → Nat} (ht : ksh t = 4) (H : PtC h t E p) : Cl G l 2 yX3_middle cX3_middle 2 (some .int) [.ref (gA G 37)] h (fun r h' => r = some (.int (bk5 E (midS p E))) ∧ h' = h) := by
  refine Cl.of hG (by decide) (Nat.le_of_ble_eq_true rfl) ?_
  show Wp G l 2 RX3 cX3_middle 2 (some .int) 0 [.ref (gA G 37), mk0] [] h _
  refine r_iconst (v := 0) dX3_middle_0 (by decide) ?_
  refine r_istore_n dX3_middle_1 (by decide) rfl rfl ?_
  dsimp only [List.set]
  exact mid_lp hG ht H E 0 (by omega) (fun i y => absurd y (by omega))
theorem out_lp {G : WT} {l : Launch} {h : Hp} {t E law : Nat} {p : Nat → Nat} (ht : ksh t = 4) (H : PtC h t E p) (hE : 0 < E) (hl : h.1 37 10 = nI law) (hl3 : law < 3) : ∀ (n j : Nat) (x3 : Value), j + n + 1 = E → Wp G l 1 RX3 cX3_outermost 4 (some .int) 19 [.ref (gA G 37), .int (nI (argS law p j)), .int (nI (j + 1)), x3] [] h (fun r h' => r = some (.int (nI (argS law p (E - 1)))) ∧ h' = h) := by
  have h5 := H.2.2.1
  intro n
  induction n with
  | zero =>
    intro j x3 hj
    refine r_iload_n dX3_outermost_19 rfl ?_
    refine r_aload_n dX3_outermost_20 rfl ?_
    refine r_getR (j := t) dX3_outermost_21 k_X3_39 rfl (by decide) rfl H.1 ?_
    refine r_getI dX3_outermost_24 k_X3_86 (by assumption) (by decide) rfl ?_
    rw [H.2.1]
    refine r_icmp_ge (tgt := 70) dX3_outermost_27 (by decide) (fun c_27 => ?_) (fun c_27 => ?_)
    · refine r_iload_n dX3_outermost_70 rfl ?_
      refine r_ireturn dX3_outermost_71 ⟨_, rfl, rfl⟩ ?_
      exact ⟨by rw [show j = E - 1 by omega], rfl⟩
    · exact absurd (nI_le (by omega) (by omega)) c_27
  | succ n ih =>
    intro j x3 hj
    have al := argS_lt law p j
    obtain ⟨p1, p2⟩ := H.2.2.2 (j + 1) (by omega)
    obtain ⟨q1, q2⟩ := H.2.2.2 (argS law p j) (by omega)
    have ed : argS law p (j + 1) = if (if law = 0 then p (j + 1) < p (argS law p j) else p (argS law p j) < p (j + 1)) then j + 1 else argS law p j := rfl
    have yes : ∀ x, (if law = 0 then p (j + 1) < p (argS law p j) else p (argS law p j) < p (j + 1)) → Wp G l 1 RX3 cX3_outermost 4 (some .int) 19 [.ref (gA G 37), .int (nI (j + 1)), .int (nI (j + 1 + 1)), x] [] h (fun r h' => r = some (.int (nI (argS law p (E - 1)))) ∧ h' = h) := by
      intro x y
      have k9 := ih (j + 1) x (by omega)
      rw [ed, if_pos y] at k9
      exact k9
    have no : ∀ x, ¬ (if law = 0 then p (j + 1) < p (argS law p j) else p (argS law p j) < p (j + 1)) → Wp G l 1 RX3 cX3_outermost 4 (some .int) 19 [.ref (gA G 37), .int (nI (argS law p j)), .int (nI (j + 1 + 1)), x] [] h (fun r h' => r = some (.int (nI (argS law p (E - 1)))) ∧ h' = h) := by
      intro x y
      have k9 := ih (j + 1) x (by omega)
      rw [ed, if_neg y] at k9
      exact k9
    by_cases hl0 : law = 0
    · subst hl0
      rw [if_pos rfl] at yes no
      refine r_iload_n dX3_outermost_19 rfl ?_
      refine r_aload_n dX3_outermost_20 rfl ?_
      refine r_getR (j := t) dX3_outermost_21 k_X3_39 rfl (by decide) rfl H.1 ?_
      refine r_getI dX3_outermost_24 k_X3_86 (by assumption) (by decide) rfl ?_
      rw [H.2.1]
      refine r_icmp_ge (tgt := 70) dX3_outermost_27 (by decide) (fun c_27 => ?_) (fun c_27 => ?_)
      · exact absurd c_27 (nI_ge (by omega) (by omega))
      · refine r_aload_n dX3_outermost_30 rfl ?_
        refine r_getR (j := 41) dX3_outermost_31 k_X3_21 rfl (by decide) rfl rfl ?_
        refine r_iload_n dX3_outermost_34 rfl ?_
        refine r_iald (j + 1) dX3_outermost_35 rfl rfl (show j + 1 < 5 by omega) ?_
        rw [p1]
        refine r_aload_n dX3_outermost_36 rfl ?_
        refine r_getR (j := 41) dX3_outermost_37 k_X3_21 rfl (by decide) rfl rfl ?_
        refine r_iload_n dX3_outermost_40 rfl ?_
        refine r_iald (argS 0 p j) dX3_outermost_41 rfl rfl (show argS 0 p j < 5 by omega) ?_
        rw [q1]
        refine r_isub dX3_outermost_42 ?_
        refine r_istore_n dX3_outermost_43 (by decide) rfl rfl ?_
        dsimp only [List.set]
        refine r_aload_n dX3_outermost_44 rfl ?_
        refine r_getI dX3_outermost_45 k_X3_50 rfl (by decide) rfl ?_
        rw [hl]
        refine r_if_ne (tgt := 58) dX3_outermost_48 (by decide) (fun c_48 => ?_) (fun c_48 => ?_)
        · exact absurd rfl c_48
        · refine r_iload_n dX3_outermost_51 rfl ?_
          refine r_if_ge (tgt := 64) dX3_outermost_52 (by decide) (fun c_52 => ?_) (fun c_52 => ?_)
          · refine r_iinc dX3_outermost_64 rfl (by first | exact nI_inc _ | rfl) (by decide) rfl rfl ?_
            dsimp only [List.set]
            refine r_goto (tgt := 19) dX3_outermost_67 (by decide) ?_
            exact no _ (fun y => absurd ((sub_neg (by omega) (by omega)).mpr y) (Int32.not_lt.mpr c_52))
          · refine r_goto (tgt := 62) dX3_outermost_55 (by decide) ?_
            refine r_iload_n dX3_outermost_62 rfl ?_
            refine r_istore_n dX3_outermost_63 (by decide) rfl rfl ?_
            dsimp only [List.set]
            refine r_iinc dX3_outermost_64 rfl (by first | exact nI_inc _ | rfl) (by decide) rfl rfl ?_
            dsimp only [List.set]
            refine r_goto (tgt := 19) dX3_outermost_67 (by decide) ?_
            exact yes _ ((sub_neg (by omega) (by omega)).mp (Int32.not_le.mp c_52))
    · rw [if_neg hl0] at yes no
      refine r_iload_n dX3_outermost_19 rfl ?_
      refine r_aload_n dX3_outermost_20 rfl ?_
      refine r_getR (j := t) dX3_outermost_21 k_X3_39 rfl (by decide) rfl H.1 ?_
      refine r_getI dX3_outermost_24 k_X3_86 (by assumption) (by decide) rfl ?_
      rw [H.2.1]
      refine r_icmp_ge (tgt := 70) dX3_outermost_27 (by decide) (fun c_27 => ?_) (fun c_27 => ?_)
      · exact absurd c_27 (nI_ge (by omega) (by omega))
      · refine r_aload_n dX3_outermost_30 rfl ?_
        refine r_getR (j := 41) dX3_outermost_31 k_X3_21 rfl (by decide) rfl rfl ?_
        refine r_iload_n dX3_outermost_34 rfl ?_
        refine r_iald (j + 1) dX3_outermost_35 rfl rfl (show j + 1 < 5 by omega) ?_
        rw [p1]
        refine r_aload_n dX3_outermost_36 rfl ?_
        refine r_getR (j := 41) dX3_outermost_37 k_X3_21 rfl (by decide) rfl rfl ?_
        refine r_iload_n dX3_outermost_40 rfl ?_
        refine r_iald (argS law p j) dX3_outermost_41 rfl rfl (show argS law p j < 5 by omega) ?_
        rw [q1]
        refine r_isub dX3_outermost_42 ?_
        refine r_istore_n dX3_outermost_43 (by decide) rfl rfl ?_
        dsimp only [List.set]
        refine r_aload_n dX3_outermost_44 rfl ?_
        refine r_getI dX3_outermost_45 k_X3_50 rfl (by decide) rfl ?_
        rw [hl]
        refine r_if_ne (tgt := 58) dX3_outermost_48 (by decide) (fun c_48 => ?_) (fun c_48 => ?_)
        · refine r_iload_n dX3_outermost_58 rfl ?_
          refine r_if_le (tgt := 64) dX3_outermost_59 (by decide) (fun c_59 => ?_) (fun c_59 => ?_)
          · refine r_iinc dX3_outermost_64 rfl (by first | exact nI_inc _ | rfl) (by decide) rfl rfl ?_
            dsimp only [List.set]
            refine r_goto (tgt := 19) dX3_outermost_67 (by decide) ?_
            exact no _ (fun y => absurd ((sub_pos (by omega) (by omega)).mpr y) (Int32.not_lt.mpr c_59))
          · refine r_iload_n dX3_outermost_62 rfl ?_
            refine r_istore_n dX3_outermost_63 (by decide) rfl rfl ?_
            dsimp only [List.set]
            refine r_iinc dX3_outermost_64 rfl (by first | exact nI_inc _ | rfl) (by decide) rfl rfl ?_
            dsimp only [List.set]
            refine r_goto (tgt := 19) dX3_outermost_67 (by decide) ?_
            exact yes _ ((sub_pos (by omega) (by omega)).mp (Int32.not_le.mp c_59))
        · exact absurd ((nI_eq' (b := 0) (by omega) (by omega)).mp c_48) hl0
set_option maxRecDepth 100000 in
theorem m_X3_outermost {G : WT} {l : Launch} (hG : GOK G) {h : Hp} {t E law : Nat} {p : Nat → Nat} (ht : ksh t = 4) (H : PtC h t E p) (hl : h.1 37 10 = nI law) (hl3 : law < 3) : Cl G l 1 yX3_outermost cX3_outermost 4 (some .int) [.ref (gA G 37)] h (fun r h' => r = some (.int (bk5 E (argS law p (E - 1)))) ∧ h' = h) := by
  refine Cl.of hG (by decide) (Nat.le_of_ble_eq_true rfl) ?_
  show Wp G l 1 RX3 cX3_outermost 4 (some .int) 0 [.ref (gA G 37), mk0, mk0, mk0] [] h _
  have h5 := H.2.2.1
  by_cases h0 : E = 0
  · rw [bk5, if_pos h0]
    refine r_aload_n dX3_outermost_0 rfl ?_
    refine r_getR (j := t) dX3_outermost_1 k_X3_39 rfl (by decide) rfl H.1 ?_
    refine r_getI dX3_outermost_4 k_X3_86 (by assumption) (by decide) rfl ?_
    rw [H.2.1]
    refine r_if_le (tgt := 14) dX3_outermost_7 (by decide) (fun c_7 => ?_) (fun c_7 => ?_)
    · refine r_bipush (v := -5) dX3_outermost_14 (by decide) ?_
      refine r_istore_n dX3_outermost_16 (by decide) rfl rfl ?_
      dsimp only [List.set]
      refine r_iconst (v := 1) dX3_outermost_17 (by decide) ?_
      refine r_istore_n dX3_outermost_18 (by decide) rfl rfl ?_
      dsimp only [List.set]
      refine r_iload_n dX3_outermost_19 rfl ?_
      refine r_aload_n dX3_outermost_20 rfl ?_
      refine r_getR (j := t) dX3_outermost_21 k_X3_39 rfl (by decide) rfl H.1 ?_
      refine r_getI dX3_outermost_24 k_X3_86 (by assumption) (by decide) rfl ?_
      rw [H.2.1]
      refine r_icmp_ge (tgt := 70) dX3_outermost_27 (by decide) (fun c_27 => ?_) (fun c_27 => ?_)
      · refine r_iload_n dX3_outermost_70 rfl ?_
        refine r_ireturn dX3_outermost_71 ⟨_, rfl, rfl⟩ ?_
        exact ⟨rfl, rfl⟩
      · exact absurd (nI_le (b := 1) (by omega) (by omega)) c_27
    · exact absurd (by rw [h0]; exact Int32.le_refl _) c_7
  · rw [bk5, if_neg h0]
    refine r_aload_n dX3_outermost_0 rfl ?_
    refine r_getR (j := t) dX3_outermost_1 k_X3_39 rfl (by decide) rfl H.1 ?_
    refine r_getI dX3_outermost_4 k_X3_86 (by assumption) (by decide) rfl ?_
    rw [H.2.1]
    refine r_if_le (tgt := 14) dX3_outermost_7 (by decide) (fun c_7 => ?_) (fun c_7 => ?_)
    · exact absurd c_7 (nI_ge (a := 0) (by omega) (by omega))
    · refine r_iconst (v := 0) dX3_outermost_10 (by decide) ?_
      refine r_goto (tgt := 16) dX3_outermost_11 (by decide) ?_
      refine r_istore_n dX3_outermost_16 (by decide) rfl rfl ?_
      dsimp only [List.set]
      refine r_iconst (v := 1) dX3_outermost_17 (by decide) ?_
      refine r_istore_n dX3_outermost_18 (by decide) rfl rfl ?_
      dsimp only [List.set]
      exact out_lp ht H (by omega) hl hl3 (E - 1) 0 _ (by omega)
/-! all are served -/
def svF (a i : Nat) : Bool := a == 40 || a == 41 || (a == 37 && (i == 11 || i == 12))
theorem serve_lp {G : WT} {l : Launch} {h0 : Hp} {t q a E bin sc : Nat} {w : Nat → Nat} (ht : ksh t = 4) (hq : ksh q = 1) (ha : ksh a = 8) (hla : 5 ≤ lnt a) (ha1 : ¬ a = 40) (ha2 : ¬ a = 41) (hE : E ≤ 5) (hb : bin ≤ 99) (hs : 0 < sc) (hs2 : sc ≤ 99) (r1 : h0.2.2 37 8 = t) (r2 : h0.2.2 37 9 = q) (e1 : h0.1 t 7 = nI E) (e3 : h0.1 q 11 = nI sc) (hw : ∀ e, e < E → h0.1 a e = nI (w e) ∧ w e ≤ 9) {Q : Option Value → Hp → Prop}
    (k : ∀ g, Fr svF h0 g → (∀ e, e < E → g.1 40 e = nI (ateS bin w e) ∧ g.1 41 e = nI (ateS bin w e / sc)) → g.1 37 11 = nI (leftS bin w E) → Wp G l 3 RX3 cX3_serve 3 none 85 [.ref (gA G 37), .ref (gA G a), .int (nI E)] [] g Q) : ∀ (n j : Nat) (g : Hp), j + n = E → Fr svF h0 g → (∀ e, e < j → g.1 40 e = nI (ateS bin w e) ∧ g.1 41 e = nI (ateS bin w e / sc)) → g.1 37 11 = nI (leftS bin w j) → Wp G l 3 RX3 cX3_serve 3 none 13 [.ref (gA G 37), .ref (gA G a), .int (nI j)] [] g Q := by
  obtain ⟨u, u1, u2⟩ := ts_at ht
  obtain ⟨v, v1, v2⟩ := hs_at hq
  intro n
  induction n with
  | zero =>
    intro j g hj hF hD hL
    have t1 : g.2.2 37 8 = t := by rw [hF.2]; exact r1
    have t2 : g.1 t 7 = nI E := by rw [hF.1 _ _ (by simp [svF]; omega)]; exact e1
    have ej : j = E := by omega
    subst ej
    refine r_iload_n dX3_serve_13 rfl ?_
    refine r_aload_n dX3_serve_14 rfl ?_
    refine r_getR (j := t) dX3_serve_15 k_X3_39 rfl (by decide) rfl t1 ?_
    refine r_getI dX3_serve_18 k_X3_86 (by assumption) (by decide) rfl ?_
    rw [t2]
    refine r_icmp_ge (tgt := 85) dX3_serve_21 (by decide) (fun c_21 => ?_) (fun c_21 => ?_)
    · exact k g hF hD hL
    · exact absurd (nI_le (by omega) (by omega)) c_21
  | succ n ih =>
    intro j g hj hF hD hL
    have t1 : g.2.2 37 8 = t := by rw [hF.2]; exact r1
    have t2 : g.1 t 7 = nI E := by rw [hF.1 _ _ (by simp [svF]; omega)]; exact e1
    have t3 : g.2.2 37 9 = q := by rw [hF.2]; exact r2
    have t4 : g.1 q 11 = nI sc := by rw [hF.1 _ _ (by simp [svF]; omega)]; exact e3
    obtain ⟨w1, w2⟩ := hw j (by omega)
    have w3 : ∀ a9 : Nat, a9 = a → g.1 a9 j = nI (w j) := fun a9 y => by
      subst y
      rw [hF.1 _ _ (by simp [svF, ha1, ha2]; intro y; subst y; exact absurd ha (by decide))]
      exact w1
    have ll := leftS_le bin w j
    have al := ateS_le bin w j
    have em : (if nI (leftS bin w j) < nI (w j) then nI (leftS bin w j) else nI (w j)) = nI (ateS bin w j) := minI (a := w j) (by omega) (by omega)
    have ex : (if (1 : Int32) < nI sc then nI sc else 1) = nI sc := (maxI (a := 1) (by omega) (by omega)).trans (by rw [Nat.max_eq_right (by omega)])
    have le : leftS bin w (j + 1) = leftS bin w j - ateS bin w j := rfl
    have l2 : ateS bin w j ≤ leftS bin w j := Nat.min_le_right _ _
    obtain ⟨g1, hg1⟩ : ∃ g1, g1 = setI g 40 j (nI (ateS bin w j)) := ⟨_, rfl⟩
    obtain ⟨g2, hg2⟩ : ∃ g2, g2 = setI g1 37 11 (nI (leftS bin w (j + 1))) := ⟨_, rfl⟩
    obtain ⟨g3, hg3⟩ : ∃ g3, g3 = setI g2 41 j (nI (ateS bin w j / sc)) := ⟨_, rfl⟩
    have F1 : Fr svF g g1 := by rw [hg1]; exact Fr.set rfl
    have F2 : Fr svF g1 g2 := by rw [hg2]; exact Fr.set rfl
    have F3 : Fr svF g2 g3 := by rw [hg3]; exact Fr.set rfl
    have d1 : g1.1 40 j = nI (ateS bin w j) := by rw [hg1, setI_at]
    have d2 : g2.1 40 j = nI (ateS bin w j) := by rw [hg2, setI_ne (by decide)]; exact d1
    have d3 : g1.1 37 11 = nI (leftS bin w j) := by rw [hg1, setI_ne (by decide)]; exact hL
    have t5 : g2.1 q 11 = nI sc := by rw [(F1.tr F2).1 _ _ (by simp [svF]; omega)]; exact t4
    have t6 : g2.2.2 37 9 = q := by rw [(F1.tr F2).2]; exact t3
    have kk := ih (j + 1) g3 (by omega) (((hF.tr F1).tr F2).tr F3) (fun e he => by
      rw [hg3, hg2, hg1]
      by_cases z : e = j
      · subst z
        exact ⟨by rw [setI_ne (by decide), setI_ne (by decide), setI_at], by rw [setI_at]⟩
      · obtain ⟨y1, y2⟩ := hD e (by omega)
        exact ⟨by rw [setI_ne (by decide), setI_ne (by decide), setI_nj z]; exact y1, by rw [setI_nj z, setI_ne (by decide), setI_ne (by decide)]; exact y2⟩) (by rw [hg3, setI_ne (by decide), hg2, setI_at])
    refine r_iload_n dX3_serve_13 rfl ?_
    refine r_aload_n dX3_serve_14 rfl ?_
    refine r_getR (j := t) dX3_serve_15 k_X3_39 rfl (by decide) rfl t1 ?_
    refine r_getI dX3_serve_18 k_X3_86 (by assumption) (by decide) rfl ?_
    rw [t2]
    refine r_icmp_ge (tgt := 85) dX3_serve_21 (by decide) (fun c_21 => ?_) (fun c_21 => ?_)
    · exact absurd c_21 (nI_ge (by omega) (by omega))
    · refine r_aload_n dX3_serve_24 rfl ?_
      refine r_getR (j := 40) dX3_serve_25 k_X3_18 rfl (by decide) rfl rfl ?_
      refine r_iload_n dX3_serve_28 rfl ?_
      refine r_aload_n dX3_serve_29 rfl ?_
      refine r_iload_n dX3_serve_30 rfl ?_
      refine r_iald (j) dX3_serve_31 (by assumption) rfl (show j < lnt a by omega) ?_
      refine r_aload_n dX3_serve_32 rfl ?_
      refine r_getI dX3_serve_33 k_X3_54 rfl (by decide) rfl ?_
      rw [w3 a rfl, hL]
      refine r_min dX3_serve_36 l_X3_116 o_J9_min_7cf53 rfl s_J9_min_7cf53 (by decide) (Nat.le_of_ble_eq_true rfl) ?_
      rw [em]
      refine r_iast (j) dX3_serve_39 rfl rfl (show j < 5 by omega) ?_
      rw [← hg1]
      refine r_aload_n dX3_serve_40 rfl ?_
      refine r_dup dX3_serve_41 rfl ?_
      refine r_getI dX3_serve_42 k_X3_54 rfl (by decide) rfl ?_
      refine r_aload_n dX3_serve_45 rfl ?_
      refine r_getR (j := 40) dX3_serve_46 k_X3_18 rfl (by decide) rfl rfl ?_
      refine r_iload_n dX3_serve_49 rfl ?_
      refine r_iald (j) dX3_serve_50 rfl rfl (show j < 5 by omega) ?_
      rw [d1, d3]
      refine r_isub dX3_serve_51 ?_
      rw [pk_sub l2, ← le]
      refine r_putI dX3_serve_52 k_X3_54 rfl (by decide) rfl rfl rfl rfl ?_
      rw [← hg2]
      refine r_aload_n dX3_serve_55 rfl ?_
      refine r_getR (j := 41) dX3_serve_56 k_X3_21 rfl (by decide) rfl rfl ?_
      refine r_iload_n dX3_serve_59 rfl ?_
      refine r_aload_n dX3_serve_60 rfl ?_
      refine r_getR (j := 40) dX3_serve_61 k_X3_18 rfl (by decide) rfl rfl ?_
      refine r_iload_n dX3_serve_64 rfl ?_
      refine r_iald (j) dX3_serve_65 rfl rfl (show j < 5 by omega) ?_
      refine r_iconst (v := 1) dX3_serve_66 (by decide) ?_
      refine r_aload_n dX3_serve_67 rfl ?_
      refine r_getR (j := q) dX3_serve_68 k_X3_46 rfl (by decide) rfl t6 ?_
      refine r_getI dX3_serve_71 k_X3_129 (by assumption) (by decide) rfl ?_
      rw [d2, t5]
      refine r_max dX3_serve_74 l_X3_132 o_J9_max_7cf53 rfl s_J9_max_7cf53 (by decide) (Nat.le_of_ble_eq_true rfl) ?_
      rw [ex]
      refine r_idiv dX3_serve_77 (fun y => absurd ((nI_eq' (b := 0) (by omega) (by omega)).mp y) (by omega)) ?_
      rw [nI_div (by omega) (by omega) (by omega)]
      refine r_iast (j) dX3_serve_78 rfl rfl (show j < 5 by omega) ?_
      rw [← hg3]
      refine r_iinc dX3_serve_79 rfl (by first | exact nI_inc _ | rfl) (by decide) rfl rfl ?_
      dsimp only [List.set]
      refine r_goto (tgt := 13) dX3_serve_82 (by decide) ?_
      exact kk
theorem serve_end {G : WT} {l : Launch} (hG : GOK G) {g : Hp} {t E law : Nat} {x1 x2 : Value} {p : Nat → Nat} (ht : ksh t = 4) (hl3 : law < 3) (P : PtC g t E p) (hl : g.1 37 10 = nI law) {Q : Option Value → Hp → Prop} (k : Q none (setI g 37 12 (bk5 E (bakeS law p E)))) : Wp G l 3 RX3 cX3_serve 3 none 85 [.ref (gA G 37), x1, x2] [] g Q := by
  by_cases h2 : law = 2
  · have e9 : bakeS law p E = midS p E := by rw [bakeS, if_pos h2]
    rw [e9] at k
    refine r_aload_n dX3_serve_85 rfl ?_
    refine r_aload_n dX3_serve_86 rfl ?_
    refine r_getI dX3_serve_87 k_X3_50 rfl (by decide) rfl ?_
    refine r_iconst (v := 2) dX3_serve_90 (by decide) ?_
    rw [hl, h2]
    refine r_icmp_ne (tgt := 101) dX3_serve_91 (by decide) (fun c_91 => ?_) (fun c_91 => ?_)
    · exact absurd rfl c_91
    · refine r_aload_n dX3_serve_94 rfl ?_
      refine r_callV dX3_serve_95 l_X3_135 o_X3_middle v_X3_middle rfl (by decide) rfl rfl (m_X3_middle hG ht P) (by decide) rfl (Nat.le_of_ble_eq_true rfl) (fun r95 h95 hq95 => ?_)
      obtain ⟨rfl, e95⟩ := hq95
      rw [e95]
      clear e95 h95
      refine r_goto (tgt := 105) dX3_serve_98 (by decide) ?_
      refine r_putI dX3_serve_105 k_X3_57 rfl (by decide) rfl rfl rfl rfl ?_
      refine r_return dX3_serve_108 rfl ?_
      exact k
  · have e9 : bakeS law p E = argS law p (E - 1) := by rw [bakeS, if_neg h2]
    rw [e9] at k
    refine r_aload_n dX3_serve_85 rfl ?_
    refine r_aload_n dX3_serve_86 rfl ?_
    refine r_getI dX3_serve_87 k_X3_50 rfl (by decide) rfl ?_
    refine r_iconst (v := 2) dX3_serve_90 (by decide) ?_
    rw [hl]
    refine r_icmp_ne (tgt := 101) dX3_serve_91 (by decide) (fun c_91 => ?_) (fun c_91 => ?_)
    · refine r_aload_n dX3_serve_101 rfl ?_
      refine r_callV dX3_serve_102 l_X3_139 o_X3_outermost v_X3_outermost rfl (by decide) rfl rfl (m_X3_outermost hG ht P hl hl3) (by decide) rfl (Nat.le_of_ble_eq_true rfl) (fun r102 h102 hq102 => ?_)
      obtain ⟨rfl, e102⟩ := hq102
      rw [e102]
      clear e102 h102
      refine r_putI dX3_serve_105 k_X3_57 rfl (by decide) rfl rfl rfl rfl ?_
      refine r_return dX3_serve_108 rfl ?_
      exact k
    · exact absurd ((nI_eq' (b := 2) (by omega) (by omega)).mp c_91) h2
set_option maxRecDepth 100000 in
theorem m_X3_serve {G : WT} {l : Launch} (hG : GOK G) {h : Hp} {t q a E bin sc law : Nat} {w : Nat → Nat} (ht : ksh t = 4) (hq : ksh q = 1) (ha : ksh a = 8) (hla : 5 ≤ lnt a) (ha1 : ¬ a = 40) (ha2 : ¬ a = 41) (hE : E ≤ 5) (hb : bin ≤ 99) (hs : 0 < sc) (hs2 : sc ≤ 99) (r1 : h.2.2 37 8 = t) (r2 : h.2.2 37 9 = q) (e1 : h.1 t 7 = nI E) (e2 : h.1 t 8 = nI bin) (e3 : h.1 q 11 = nI sc) (hl : h.1 37 10 = nI law) (hl3 : law < 3) (hw : ∀ e, e < E → h.1 a e = nI (w e) ∧ w e ≤ 9) : Cl G l 3 yX3_serve cX3_serve 3 none [.ref (gA G 37), .ref (gA G a)] h (fun r h' => r = none ∧ Fr svF h h' ∧ (∀ e, e < E → h'.1 40 e = nI (ateS bin w e) ∧ h'.1 41 e = nI (ateS bin w e / sc)) ∧ h'.1 37 11 = nI (leftS bin w E) ∧ h'.1 37 12 = bk5 E (bakeS law (fun e => ateS bin w e / sc) E)) := by
  refine Cl.of hG (by decide) (Nat.le_of_ble_eq_true rfl) ?_
  show Wp G l 3 RX3 cX3_serve 3 none 0 [.ref (gA G 37), .ref (gA G a), mk0] [] h _
  obtain ⟨u, u1, u2⟩ := ts_at ht
  obtain ⟨v, v1, v2⟩ := hs_at hq
  refine r_aload_n dX3_serve_0 rfl ?_
  refine r_aload_n dX3_serve_1 rfl ?_
  refine r_getR (j := t) dX3_serve_2 k_X3_39 rfl (by decide) rfl r1 ?_
  refine r_getI dX3_serve_5 k_X3_74 (by assumption) (by decide) rfl ?_
  rw [e2]
  refine r_putI dX3_serve_8 k_X3_54 rfl (by decide) rfl rfl rfl rfl ?_
  refine r_iconst (v := 0) dX3_serve_11 (by decide) ?_
  refine r_istore_n dX3_serve_12 (by decide) rfl rfl ?_
  dsimp only [List.set]
  refine serve_lp ht hq ha hla ha1 ha2 hE hb hs hs2 (h0 := h) r1 r2 e1 e3 hw (fun g hF hD hL => ?_) E 0 _ (by omega) (Fr.set rfl) (fun e y => absurd y (by omega)) setI_at
  have P : PtC g t E (fun e => ateS bin w e / sc) := ⟨by rw [hF.2]; exact r1, by rw [hF.1 _ _ (by simp [svF]; omega)]; exact e1, hE, fun e he => ⟨(hD e he).2, by
    have := ateS_le bin w e
    have := (hw e he).2
    have := Nat.div_le_self (ateS bin w e) sc
    show ateS bin w e / sc ≤ 99
    omega⟩⟩
  have hl2 : g.1 37 10 = nI law := by rw [hF.1 _ _ rfl]; exact hl
  exact serve_end hG ht hl3 P hl2 ⟨rfl, hF.tr (Fr.set rfl), fun e he => ⟨by rw [setI_ne (by decide)]; exact (hD e he).1, by rw [setI_ne (by decide)]; exact (hD e he).2⟩, by rw [setI_nj (by decide)]; exact hL, setI_at⟩
