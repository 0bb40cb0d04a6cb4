/-! judge -/
theorem djudge_loop {G : WT} {l : Launch} (hG : GOK G) {h : Hp} {T : Tb} {P : Tp} {t tp : Nat} {i : Int32} (hR : DTb h 1 T) (hT : TbOK T) (H : DTp h P) (hP : TpOK P) (ht : t < 6) (etp : tp = 122 + 2 * t) :
    ∀ (m k : Nat), k + m = T.1 7 0 → (∀ c, c < k → judgeQ T (P t) i c = false) → Wp G l 2 RX6 cX6_judge 5 (some .int) 39 [.ref (gA G 0), .int (nI t), .int i, .ref (gA G tp), .int (nI k)] [] h (fun r h' => r = some (.int (if firstTo (judgeQ T (P t) i) (T.1 7 0) < T.1 7 0 then
      (if 0 ≤ i.toInt ∧ i.toInt + firstTo (judgeQ T (P t) i) (T.1 7 0) < ((P t).2.1 : Int) then nI (firstTo (judgeQ T (P t) i) (T.1 7 0)) else nI (100 + firstTo (judgeQ T (P t) i) (T.1 7 0)))
    else -5)) ∧ h' = h) := by
  have hE := hT.1
  obtain ⟨p1, p2, p3⟩ := hP t ht
  have q0 := H t ht
  have s2 : ksh tp = 5 := by rw [etp]; exact (tp_s ht).2
  have e3 : 123 + 2 * t = tp + 1 := by omega
  rw [← etp, e3] at q0
  obtain ⟨q1, q2, q3⟩ := q0
  have s4 : lnt (tp + 1) = 60 := ln_P s2
  intro m
  induction m with
  | zero =>
    intro k hk hno
    obtain rfl : k = T.1 7 0 := by omega
    refine r_iload dX6_judge_39 rfl ?_
    refine r_aload_n dX6_judge_41 rfl ?_
    refine r_getR (j := 1) dX6_judge_42 k_X6_12 rfl (by decide) rfl rfl ?_
    refine r_getI dX6_judge_45 k_X6_82 rfl (by decide) rfl ?_
    rw [hR.1.1]
    refine r_icmp_ge (tgt := 109) dX6_judge_48 (by decide) (fun c_48 => ?_) (fun c_48 => ?_)
    · refine r_bipush (v := -5) dX6_judge_109 (by decide) ?_
      refine r_ireturn dX6_judge_111 ⟨_, rfl, rfl⟩ ?_
      exact ⟨by rw [firstTo_none _ hno, if_neg (Nat.lt_irrefl _)], rfl⟩
    · exact absurd (Int32.le_refl _) c_48
  | succ m ih =>
    intro k hk hno
    have at1 : judgeQ T (P t) i k = true → firstTo (judgeQ T (P t) i) (T.1 7 0) = k := fun y => firstTo_at hno y (T.1 7 0) (by omega)
    have no : ¬ (0 ≤ i.toInt ∧ i.toInt + k < ((P t).2.1 : Int)) → Wp G l 2 RX6 cX6_judge 5 (some .int) 70 [.ref (gA G 0), .int (nI t), .int i, .ref (gA G tp), .int (nI k)] [] h (fun r h' => r = some (.int (if firstTo (judgeQ T (P t) i) (T.1 7 0) < T.1 7 0 then
      (if 0 ≤ i.toInt ∧ i.toInt + firstTo (judgeQ T (P t) i) (T.1 7 0) < ((P t).2.1 : Int) then nI (firstTo (judgeQ T (P t) i) (T.1 7 0)) else nI (100 + firstTo (judgeQ T (P t) i) (T.1 7 0)))
      else -5)) ∧ h' = h) := by
      intro y
      have e := at1 (decide_eq_true (Or.inl y))
      rw [e, if_pos (by omega), if_neg y]
      refine r_bipush (v := 100) dX6_judge_70 (by decide) ?_
      refine r_iload dX6_judge_72 rfl ?_
      refine r_iadd dX6_judge_74 ?_
      rw [show (100 : Int32) = nI 100 from rfl, nI_add]
      refine r_ireturn dX6_judge_75 ⟨_, rfl, rfl⟩ ?_
      exact ⟨rfl, rfl⟩
    have ex : i.toInt < ((P t).2.1 : Int) → (i + nI k).toInt = i.toInt + k := fun y => by
      have := Int32.le_toInt i
      rw [Int32.toInt_add, nI_toInt (by omega)]
      apply Int.bmod_eq_of_le <;> omega
    have cl : ∀ y : (P t).2.1 ≤ i.toInt, ¬ (0 ≤ i.toInt ∧ i.toInt + k < ((P t).2.1 : Int)) := fun y z => by omega
    by_cases hi : i.toInt < ((P t).2.1 : Int)
    · have c56 : ¬ nI (P t).2.1 ≤ i := fun y => by
        have := Int32.le_iff_toInt_le.mp y
        rw [nI_toInt (by omega)] at this
        omega
      cases hd : dec (i + nI k) (P t).2.1 with
      | none =>
        have q9 := dec_none.mp hd
        rw [ex hi] at q9
        have hn : ¬ (0 ≤ i.toInt ∧ i.toInt + k < ((P t).2.1 : Int)) := fun y => q9 (by omega)
        refine r_iload dX6_judge_39 rfl ?_
        refine r_aload_n dX6_judge_41 rfl ?_
        refine r_getR (j := 1) dX6_judge_42 k_X6_12 rfl (by decide) rfl rfl ?_
        refine r_getI dX6_judge_45 k_X6_82 rfl (by decide) rfl ?_
        rw [hR.1.1]
        refine r_icmp_ge (tgt := 109) dX6_judge_48 (by decide) (fun c_48 => ?_) (fun c_48 => ?_)
        · exact absurd c_48 (nI_ge (by omega) (by omega))
        · refine r_iload_n dX6_judge_51 rfl ?_
          refine r_aload_n dX6_judge_52 rfl ?_
          refine r_getI dX6_judge_53 k_X6_271 (by assumption) (by decide) rfl ?_
          rw [q2]
          refine r_icmp_ge (tgt := 70) dX6_judge_56 (by decide) (fun c_56 => ?_) (fun c_56 => ?_)
          · exact absurd c_56 c56
          · refine r_aload_n dX6_judge_59 rfl ?_
            refine r_iload_n dX6_judge_60 rfl ?_
            refine r_iload dX6_judge_61 rfl ?_
            refine r_iadd dX6_judge_63 ?_
            refine r_callV dX6_judge_64 l_X6_272 o_X5_has v_X5_has (by assumption) (by decide) rfl rfl (m_X5_has hG (x := i + nI k) s2 p2 q2) (by decide) rfl (Nat.le_of_ble_eq_true rfl) (fun r64 h64 hq64 => ?_)
            obtain ⟨rfl, rfl⟩ := hq64
            rw [hd]
            refine r_if_ne (tgt := 76) dX6_judge_67 (by decide) (fun c_67 => ?_) (fun c_67 => ?_)
            · exact absurd none_f c_67
            · exact no hn
      | some x =>
        obtain ⟨hx, exx, -⟩ := dec_some.mp hd
        have ext := congrArg Int32.toInt exx
        rw [ex hi, nI_toInt (by omega)] at ext
        have es := ((hR.2.1 k (by omega)).1 (by omega)).2.2.2.2.1
        have i0 : 0 ≤ i.toInt := by
          by_cases hk0 : k = 0
          · omega
          · have y := of_decide_eq_false (hno 0 (by omega))
            have y2 := Classical.not_not.mp (fun z => y (Or.inl z))
            exact y2.1
        have hx2 : x = i.toInt.toNat + k := by omega
        have ev : h.2.1 (tp + 1) x = (P t).2.2 (i.toInt.toNat + k) := by rw [q3 x (by omega), hx2]
        refine r_iload dX6_judge_39 rfl ?_
        refine r_aload_n dX6_judge_41 rfl ?_
        refine r_getR (j := 1) dX6_judge_42 k_X6_12 rfl (by decide) rfl rfl ?_
        refine r_getI dX6_judge_45 k_X6_82 rfl (by decide) rfl ?_
        rw [hR.1.1]
        refine r_icmp_ge (tgt := 109) dX6_judge_48 (by decide) (fun c_48 => ?_) (fun c_48 => ?_)
        · exact absurd c_48 (nI_ge (by omega) (by omega))
        · refine r_iload_n dX6_judge_51 rfl ?_
          refine r_aload_n dX6_judge_52 rfl ?_
          refine r_getI dX6_judge_53 k_X6_271 (by assumption) (by decide) rfl ?_
          rw [q2]
          refine r_icmp_ge (tgt := 70) dX6_judge_56 (by decide) (fun c_56 => ?_) (fun c_56 => ?_)
          · exact absurd c_56 c56
          · refine r_aload_n dX6_judge_59 rfl ?_
            refine r_iload_n dX6_judge_60 rfl ?_
            refine r_iload dX6_judge_61 rfl ?_
            refine r_iadd dX6_judge_63 ?_
            refine r_callV dX6_judge_64 l_X6_272 o_X5_has v_X5_has (by assumption) (by decide) rfl rfl (m_X5_has hG (x := i + nI k) s2 p2 q2) (by decide) rfl (Nat.le_of_ble_eq_true rfl) (fun r64 h64 hq64 => ?_)
            obtain ⟨rfl, rfl⟩ := hq64
            rw [hd]
            refine r_if_ne (tgt := 76) dX6_judge_67 (by decide) (fun c_67 => ?_) (fun c_67 => ?_)
            · refine r_aload_n dX6_judge_76 rfl ?_
              refine r_getR (j := tp + 1) dX6_judge_77 k_X6_274 (by assumption) (by decide) rfl (rf_P (by assumption)) ?_
              refine r_iload_n dX6_judge_80 rfl ?_
              refine r_iload dX6_judge_81 rfl ?_
              refine r_iadd dX6_judge_83 ?_
              refine r_lald (x) dX6_judge_84 (ks_P (by assumption)) exx (show x < lnt (tp + 1) by omega) ?_
              refine r_aload_n dX6_judge_85 rfl ?_
              refine r_getR (j := 1) dX6_judge_86 k_X6_12 rfl (by decide) rfl rfl ?_
              refine r_getR (j := 6) dX6_judge_89 k_X6_106 rfl (by decide) rfl rfl ?_
              refine r_iload dX6_judge_92 rfl ?_
              refine r_iald (k) dX6_judge_94 rfl rfl (show k < 5 by omega) ?_
              refine r_i2l dX6_judge_95 ?_
              refine r_lcmp dX6_judge_96 ?_
              refine r_if_eq (tgt := 103) dX6_judge_97 (by decide) (fun c_97 => ?_) (fun c_97 => ?_)
              · refine r_iinc dX6_judge_103 rfl (by first | exact nI_inc _ | rfl) (by decide) rfl rfl ?_
                dsimp only [List.set]
                refine r_goto (tgt := 39) dX6_judge_106 (by decide) ?_
                have y : (P t).2.2 (i.toInt.toNat + k) = (T.2 k).toInt64 := by rw [← ev, ← es]; exact lcmp_0.mp c_97
                refine ih (k + 1) (by omega) (fun c hc => ?_)
                by_cases hck : c = k
                · rw [hck]
                  refine decide_eq_false ?_
                  rintro (z | z)
                  · omega
                  · exact z y
                · exact hno c (by omega)
              · refine r_iload dX6_judge_100 rfl ?_
                refine r_ireturn dX6_judge_102 ⟨_, rfl, rfl⟩ ?_
                have y : ¬ (P t).2.2 (i.toInt.toNat + k) = (T.2 k).toInt64 := fun y => c_97 (lcmp_0.mpr (by rw [← ev, ← es] at y; exact y))
                have e := at1 (decide_eq_true (Or.inr y))
                exact ⟨by rw [e, if_pos (by omega), if_pos (by omega)], rfl⟩
            · exact absurd c_67 some_t
    · refine r_iload dX6_judge_39 rfl ?_
      refine r_aload_n dX6_judge_41 rfl ?_
      refine r_getR (j := 1) dX6_judge_42 k_X6_12 rfl (by decide) rfl rfl ?_
      refine r_getI dX6_judge_45 k_X6_82 rfl (by decide) rfl ?_
      rw [hR.1.1]
      refine r_icmp_ge (tgt := 109) dX6_judge_48 (by decide) (fun c_48 => ?_) (fun c_48 => ?_)
      · exact absurd c_48 (nI_ge (by omega) (by omega))
      · refine r_iload_n dX6_judge_51 rfl ?_
        refine r_aload_n dX6_judge_52 rfl ?_
        refine r_getI dX6_judge_53 k_X6_271 (by assumption) (by decide) rfl ?_
        rw [q2]
        refine r_icmp_ge (tgt := 70) dX6_judge_56 (by decide) (fun c_56 => ?_) (fun c_56 => ?_)
        · exact no (cl (by omega))
        · exact absurd (by rw [Int32.le_iff_toInt_le, nI_toInt (by omega)]; omega) c_56
set_option maxRecDepth 100000 in
theorem m_X6_judge {G : WT} {l : Launch} (hG : GOK G) {h : Hp} {T : Tb} {P : Tp} {t i : Int32} (hR : DTb h 1 T) (hT : TbOK T) (H : DTp h P) (hP : TpOK P) : Cl G l 2 yX6_judge cX6_judge 5 (some .int) [.ref (gA G 0), .int t, .int i] h (fun r h' => r = some (.int (judgeA T P t i)) ∧ h' = h) := by
  refine Cl.of hG (by decide) (Nat.le_of_ble_eq_true rfl) ?_
  show Wp G l 2 RX6 cX6_judge 5 (some .int) 0 [.ref (gA G 0), .int t, .int i, mk0, mk0] [] h _
  cases ht : dec t 6 with
  | none =>
    refine r_iload_n dX6_judge_0 rfl ?_
    refine r_iconst (v := 5) dX6_judge_1 (by decide) ?_
    rw [show (5 : Int32) = nI 5 from rfl]
    refine r_callS dX6_judge_2 l_X6_78 o_X6_within s_X6_within rfl (m_X6_within hG (x := t) (m := 5) (by omega)) (by decide) rfl (Nat.le_of_ble_eq_true rfl) (fun r2 h2 hq2 => ?_)
    obtain ⟨rfl, rfl⟩ := hq2
    rw [ht]
    refine r_if_ne (tgt := 10) dX6_judge_5 (by decide) (fun c_5 => ?_) (fun c_5 => ?_)
    · exact absurd none_f c_5
    · refine r_iconst (v := -1) dX6_judge_8 (by decide) ?_
      refine r_ireturn dX6_judge_9 ⟨_, rfl, rfl⟩ ?_
      exact ⟨by rw [judgeA, ht], rfl⟩
  | some t1 =>
    obtain ⟨ht1, rfl, -⟩ := dec_some.mp ht
    obtain ⟨p1, p2, p3⟩ := hP t1 ht1
    obtain ⟨q1, q2, q3⟩ := H t1 ht1
    obtain ⟨s1, s2⟩ := tp_s ht1
    have es : judgeA T P (nI t1) i = if ¬ ((P t1).1 = 0 ∨ (P t1).1 = 3) then -12 else
      if firstTo (judgeQ T (P t1) i) (T.1 7 0) < T.1 7 0 then
        (if 0 ≤ i.toInt ∧ i.toInt + firstTo (judgeQ T (P t1) i) (T.1 7 0) < ((P t1).2.1 : Int) then nI (firstTo (judgeQ T (P t1) i) (T.1 7 0)) else nI (100 + firstTo (judgeQ T (P t1) i) (T.1 7 0)))
      else -5 := by rw [judgeA, ht]
    have eq2 : nI (P t1).1 - 1 = 2 ↔ (P t1).1 = 3 := by
      constructor
      · intro y
        have := congrArg Int32.toInt y
        rw [nI_pred0 (by omega), show (2 : Int32).toInt = 2 from rfl] at this
        omega
      · intro y; rw [y]; rfl
    have fin : ((P t1).1 = 0 ∨ (P t1).1 = 3) → Wp G l 2 RX6 cX6_judge 5 (some .int) 39 [.ref (gA G 0), .int (nI t1), .int i, .ref (gA G (122 + 2 * t1)), .int 0] [] h (fun r h' => r = some (.int (judgeA T P (nI t1) i)) ∧ h' = h) := by
      intro y
      rw [es, if_neg (Classical.not_not.mpr y)]
      exact djudge_loop hG hR hT H hP ht1 rfl (T.1 7 0) 0 (by omega) (fun c hc => absurd hc (by omega))
    refine r_iload_n dX6_judge_0 rfl ?_
    refine r_iconst (v := 5) dX6_judge_1 (by decide) ?_
    rw [show (5 : Int32) = nI 5 from rfl]
    refine r_callS dX6_judge_2 l_X6_78 o_X6_within s_X6_within rfl (m_X6_within hG (x := nI t1) (m := 5) (by omega)) (by decide) rfl (Nat.le_of_ble_eq_true rfl) (fun r2 h2 hq2 => ?_)
    obtain ⟨rfl, rfl⟩ := hq2
    rw [ht]
    refine r_if_ne (tgt := 10) dX6_judge_5 (by decide) (fun c_5 => ?_) (fun c_5 => ?_)
    · refine r_aload_n dX6_judge_10 rfl ?_
      refine r_getR (j := 34) dX6_judge_11 k_X6_58 rfl (by decide) rfl rfl ?_
      refine r_iload_n dX6_judge_14 rfl ?_
      refine r_aald (t1) dX6_judge_15 rfl (by decide) rfl (show t1 < 6 by omega) ?_
      rw [s1]
      refine r_astore_n dX6_judge_16 (by decide) rfl rfl ?_
      dsimp only [List.set]
      refine r_aload_n dX6_judge_17 rfl ?_
      refine r_getI dX6_judge_18 k_X6_268 (by assumption) (by decide) rfl ?_
      refine r_iconst (v := -1) dX6_judge_21 (by decide) ?_
      rw [q1]
      refine r_icmp_eq (tgt := 36) dX6_judge_22 (by decide) (fun c_22 => ?_) (fun c_22 => ?_)
      · refine r_iconst (v := 0) dX6_judge_36 (by decide) ?_
        refine r_istore dX6_judge_37 (by decide) rfl rfl ?_
        dsimp only [List.set]
        exact fin (Or.inl ((sort_m1 (by omega)).mp c_22))
      · refine r_aload_n dX6_judge_25 rfl ?_
        refine r_getI dX6_judge_26 k_X6_268 (by assumption) (by decide) rfl ?_
        refine r_iconst (v := 2) dX6_judge_29 (by decide) ?_
        rw [q1]
        refine r_icmp_eq (tgt := 36) dX6_judge_30 (by decide) (fun c_30 => ?_) (fun c_30 => ?_)
        · refine r_iconst (v := 0) dX6_judge_36 (by decide) ?_
          refine r_istore dX6_judge_37 (by decide) rfl rfl ?_
          dsimp only [List.set]
          exact fin (Or.inr (eq2.mp c_30))
        · refine r_bipush (v := -12) dX6_judge_33 (by decide) ?_
          refine r_ireturn dX6_judge_35 ⟨_, rfl, rfl⟩ ?_
          exact ⟨by rw [es, if_pos (by rintro (y | y); exact c_22 ((sort_m1 (by omega)).mpr y); exact c_30 (eq2.mpr y))], rfl⟩
    · exact absurd c_5 some_t
