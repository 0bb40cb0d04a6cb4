/-! judge -/
theorem judge_loop {G : WT} {l : Launch} {h : Hp} {T : Tb} {P : Tp} {t : Nat} {i : Int32} (hR : RTb h T) (hT : TbOK T) (H : RTp h P) (hP : TpOK P) (ht : t < 6) (hs : (P t).1 = 0 ∨ (P t).1 = 3) :
    ∀ (m k : Nat), k + m = T.1 7 0 → (∀ c, c < k → judgeQ T (P t) i c = false) → Wp G l 3 RX7 cX7_judge 4 (some .int) 34 [.ref (gA G 134), .int (nI t), .int i, .int (nI k)] [] h (fun r h' => r = some (.int (if firstTo (judgeQ T (P t) i) (T.1 7 0) < T.1 7 0 then
      (if 0 ≤ i.toInt ∧ i.toInt + firstTo (judgeQ T (P t) i) (T.1 7 0) < ((P t).2.1 : Int) then nI (firstTo (judgeQ T (P t) i) (T.1 7 0)) else nI (100 + firstTo (judgeQ T (P t) i) (T.1 7 0)))
    else -5)) ∧ h' = h) := by
  have hE := hT.1
  obtain ⟨p1, p2, p3⟩ := hP t ht
  obtain ⟨q1, q2, q3⟩ := H t ht
  intro m
  induction m with
  | zero =>
    intro k hk hno
    obtain rfl : k = T.1 7 0 := by omega
    refine r_iload_n dX7_judge_34 rfl ?_
    refine r_aload_n dX7_judge_35 rfl ?_
    refine r_getI dX7_judge_36 k_X7_7 rfl (by decide) rfl ?_
    rw [hR.1]
    refine r_icmp_ge (tgt := 106) dX7_judge_39 (by decide) (fun c_39 => ?_) (fun c_39 => ?_)
    · refine r_bipush (v := -5) dX7_judge_106 (by decide) ?_
      refine r_ireturn dX7_judge_108 ⟨_, rfl, rfl⟩ ?_
      exact ⟨by rw [firstTo_none _ hno, if_neg (Nat.lt_irrefl _)], rfl⟩
    · exact absurd (Int32.le_refl _) c_39
  | succ m ih =>
    intro k hk hno
    have at1 : judgeQ T (P t) i k = true → firstTo (judgeQ T (P t) i) (T.1 7 0) = k := fun y => firstTo_at hno y (T.1 7 0) (by omega)
    have no : ¬ (0 ≤ i.toInt ∧ i.toInt + k < ((P t).2.1 : Int)) → Wp G l 3 RX7 cX7_judge 4 (some .int) 69 [.ref (gA G 134), .int (nI t), .int i, .int (nI k)] [] h (fun r h' => r = some (.int (if firstTo (judgeQ T (P t) i) (T.1 7 0) < T.1 7 0 then
      (if 0 ≤ i.toInt ∧ i.toInt + firstTo (judgeQ T (P t) i) (T.1 7 0) < ((P t).2.1 : Int) then nI (firstTo (judgeQ T (P t) i) (T.1 7 0)) else nI (100 + firstTo (judgeQ T (P t) i) (T.1 7 0)))
      else -5)) ∧ h' = h) := by
      intro y
      have e := at1 (decide_eq_true (Or.inl y))
      rw [e, if_pos (by omega), if_neg y]
      refine r_bipush (v := 100) dX7_judge_69 (by decide) ?_
      refine r_iload_n dX7_judge_71 rfl ?_
      refine r_iadd dX7_judge_72 ?_
      rw [show (100 : Int32) = nI 100 from rfl, nI_add]
      refine r_ireturn dX7_judge_73 ⟨_, rfl, rfl⟩ ?_
      exact ⟨rfl, rfl⟩
    by_cases h0 : (P t).1 = 0
    · refine r_iload_n dX7_judge_34 rfl ?_
      refine r_aload_n dX7_judge_35 rfl ?_
      refine r_getI dX7_judge_36 k_X7_7 rfl (by decide) rfl ?_
      rw [hR.1]
      refine r_icmp_ge (tgt := 106) dX7_judge_39 (by decide) (fun c_39 => ?_) (fun c_39 => ?_)
      · exact absurd c_39 (nI_ge (by omega) (by omega))
      · refine r_aload_n dX7_judge_42 rfl ?_
        refine r_getR (j := 168) dX7_judge_43 k_X7_199 rfl (by decide) rfl rfl ?_
        refine r_iload_n dX7_judge_46 rfl ?_
        refine r_iald (t) dX7_judge_47 rfl rfl (show t < 6 by omega) ?_
        rw [q1]
        refine r_if_lt (tgt := 69) dX7_judge_48 (by decide) (fun c_48 => ?_) (fun c_48 => ?_)
        · exact no (by have := p3 h0; omega)
        · exact absurd ((sort_lt (by omega)).mpr h0) c_48
    · have el : (nI (P t).2.1 - nI k - 1).toInt = ((P t).2.1 : Int) - k - 1 := by
        rw [show (1 : Int32) = nI 1 from rfl, Int32.toInt_sub, Int32.toInt_sub, nI_toInt (by omega), nI_toInt (by omega), nI_toInt (by omega)]
        rw [show (((P t).2.1 : Int) - (k : Int)).bmod (2 ^ 32) = ((P t).2.1 : Int) - k from Int.bmod_eq_of_le (by omega) (by omega)]
        apply Int.bmod_eq_of_le <;> omega
      have eix : ∀ ii, i = nI ii → 60 * nI t + i + nI k = nI (60 * t + (ii + k)) := fun ii e => by rw [e, show (60 : Int32) = nI 60 from rfl, pk_mul, nI_add, nI_add, Nat.add_assoc]
      refine r_iload_n dX7_judge_34 rfl ?_
      refine r_aload_n dX7_judge_35 rfl ?_
      refine r_getI dX7_judge_36 k_X7_7 rfl (by decide) rfl ?_
      rw [hR.1]
      refine r_icmp_ge (tgt := 106) dX7_judge_39 (by decide) (fun c_39 => ?_) (fun c_39 => ?_)
      · exact absurd c_39 (nI_ge (by omega) (by omega))
      · refine r_aload_n dX7_judge_42 rfl ?_
        refine r_getR (j := 168) dX7_judge_43 k_X7_199 rfl (by decide) rfl rfl ?_
        refine r_iload_n dX7_judge_46 rfl ?_
        refine r_iald (t) dX7_judge_47 rfl rfl (show t < 6 by omega) ?_
        rw [q1]
        refine r_if_lt (tgt := 69) dX7_judge_48 (by decide) (fun c_48 => ?_) (fun c_48 => ?_)
        · exact absurd ((sort_lt (by omega)).mp c_48) h0
        · refine r_iload_n dX7_judge_51 rfl ?_
          refine r_if_lt (tgt := 69) dX7_judge_52 (by decide) (fun c_52 => ?_) (fun c_52 => ?_)
          · have i0 := i_lt0.mp c_52
            exact no (by omega)
          · have i0 : ¬ i.toInt < 0 := fun y => c_52 (i_lt0.mpr y)
            refine r_iload_n dX7_judge_55 rfl ?_
            refine r_aload_n dX7_judge_56 rfl ?_
            refine r_getR (j := 169) dX7_judge_57 k_X7_202 rfl (by decide) rfl rfl ?_
            refine r_iload_n dX7_judge_60 rfl ?_
            refine r_iald (t) dX7_judge_61 rfl rfl (show t < 6 by omega) ?_
            rw [q2]
            refine r_iload_n dX7_judge_62 rfl ?_
            refine r_isub dX7_judge_63 ?_
            refine r_iconst (v := 1) dX7_judge_64 (by decide) ?_
            refine r_isub dX7_judge_65 ?_
            refine r_icmp_le (tgt := 74) dX7_judge_66 (by decide) (fun c_66 => ?_) (fun c_66 => ?_)
            · have f1 := Int32.le_iff_toInt_le.mp c_66
              rw [el] at f1
              have ei : i = nI i.toInt.toNat := i_nn i0
              have eq3 := q3 (i.toInt.toNat + k) (by omega)
              have es := (hR.2.2.2.2 k (by omega)).2.2.2.2.1
              refine r_aload_n dX7_judge_74 rfl ?_
              refine r_getR (j := 170) dX7_judge_75 k_X7_205 rfl (by decide) rfl rfl ?_
              refine r_bipush (v := 60) dX7_judge_78 (by decide) ?_
              refine r_iload_n dX7_judge_80 rfl ?_
              refine r_imul dX7_judge_81 ?_
              refine r_iload_n dX7_judge_82 rfl ?_
              refine r_iadd dX7_judge_83 ?_
              refine r_iload_n dX7_judge_84 rfl ?_
              refine r_iadd dX7_judge_85 ?_
              refine r_lald (60 * t + (i.toInt.toNat + k)) dX7_judge_86 rfl (eix _ ei) (show 60 * t + (i.toInt.toNat + k) < 360 by omega) ?_
              rw [eq3]
              refine r_aload_n dX7_judge_87 rfl ?_
              refine r_getR (j := 139) dX7_judge_88 k_X7_35 rfl (by decide) rfl rfl ?_
              refine r_iload_n dX7_judge_91 rfl ?_
              refine r_iald (k) dX7_judge_92 rfl rfl (show k < 6 by omega) ?_
              rw [es]
              refine r_i2l dX7_judge_93 ?_
              refine r_lcmp dX7_judge_94 ?_
              refine r_if_eq (tgt := 100) dX7_judge_95 (by decide) (fun c_95 => ?_) (fun c_95 => ?_)
              · refine r_iinc dX7_judge_100 rfl (by first | exact nI_inc _ | rfl) (by decide) rfl rfl ?_
                dsimp only [List.set]
                refine r_goto (tgt := 34) dX7_judge_103 (by decide) ?_
                have y := lcmp_0.mp c_95
                refine ih (k + 1) (by omega) (fun c hc => ?_)
                by_cases hck : c = k
                · rw [hck]
                  refine decide_eq_false ?_
                  rintro (z | z)
                  · omega
                  · exact z y
                · exact hno c (by omega)
              · refine r_iload_n dX7_judge_98 rfl ?_
                refine r_ireturn dX7_judge_99 ⟨_, rfl, rfl⟩ ?_
                have y : ¬ (P t).2.2 (i.toInt.toNat + k) = (T.2 k).toInt64 := fun y => c_95 (lcmp_0.mpr y)
                have e := at1 (decide_eq_true (Or.inr y))
                exact ⟨by rw [e, if_pos (by omega), if_pos (by omega)], rfl⟩
            · have f1 : ¬ i.toInt ≤ (nI (P t).2.1 - nI k - 1).toInt := fun y => c_66 (Int32.le_iff_toInt_le.mpr y)
              rw [el] at f1
              exact no (by omega)
set_option maxRecDepth 100000 in
theorem m_X7_judge {G : WT} {l : Launch} (hG : GOK G) {h : Hp} {T : Tb} {P : Tp} {t i : Int32} (hR : RTb h T) (hT : TbOK T) (H : RTp h P) (hP : TpOK P) : Cl G l 3 yX7_judge cX7_judge 4 (some .int) [.ref (gA G 134), .int t, .int i] h (fun r h' => r = some (.int (judgeA T P t i)) ∧ h' = h) := by
  refine Cl.of hG (by decide) (Nat.le_of_ble_eq_true rfl) ?_
  show Wp G l 3 RX7 cX7_judge 4 (some .int) 0 [.ref (gA G 134), .int t, .int i, mk0] [] h _
  cases ht : dec t 6 with
  | none =>
    refine r_aload_n dX7_judge_0 rfl ?_
    refine r_iload_n dX7_judge_1 rfl ?_
    refine r_callV dX7_judge_2 l_X7_384 o_X7_isTape v_X7_isTape rfl (by decide) rfl rfl (m_X7_isTape hG) (by decide) rfl (Nat.le_of_ble_eq_true rfl) (fun r2 h2 hq2 => ?_)
    obtain ⟨rfl, e2⟩ := hq2
    rw [e2]
    clear e2 h2
    refine r_if_ne (tgt := 10) dX7_judge_5 (by decide) (fun c_5 => ?_) (fun c_5 => ?_)
    · exact absurd (by rw [ht]; rfl) c_5
    · refine r_iconst (v := -1) dX7_judge_8 (by decide) ?_
      refine r_ireturn dX7_judge_9 ⟨_, rfl, rfl⟩ ?_
      exact ⟨by rw [judgeA, ht], rfl⟩
  | some t1 =>
    obtain ⟨ht1, rfl, -⟩ := dec_some.mp ht
    obtain ⟨p1, p2, p3⟩ := hP t1 ht1
    obtain ⟨q1, q2, q3⟩ := H t1 ht1
    have es : judgeA T P (nI t1) i = if ¬ ((P t1).1 = 0 ∨ (P t1).1 = 3) then -12 else
      if firstTo (judgeQ T (P t1) i) (T.1 7 0) < T.1 7 0 then
        (if 0 ≤ i.toInt ∧ i.toInt + firstTo (judgeQ T (P t1) i) (T.1 7 0) < ((P t1).2.1 : Int) then nI (firstTo (judgeQ T (P t1) i) (T.1 7 0)) else nI (100 + firstTo (judgeQ T (P t1) i) (T.1 7 0)))
      else -5 := by rw [judgeA, ht]
    have eq2 : nI (P t1).1 - 1 = 2 ↔ (P t1).1 = 3 := by
      constructor
      · intro y
        have := congrArg Int32.toInt y
        rw [nI_pred0 (by omega), show (2 : Int32).toInt = 2 from rfl] at this
        omega
      · intro y; rw [y]; rfl
    have fin : ((P t1).1 = 0 ∨ (P t1).1 = 3) → Wp G l 3 RX7 cX7_judge 4 (some .int) 34 [.ref (gA G 134), .int (nI t1), .int i, .int 0] [] h (fun r h' => r = some (.int (judgeA T P (nI t1) i)) ∧ h' = h) := by
      intro y
      rw [es, if_neg (Classical.not_not.mpr y)]
      exact judge_loop hR hT H hP ht1 y (T.1 7 0) 0 (by omega) (fun c hc => absurd hc (by omega))
    refine r_aload_n dX7_judge_0 rfl ?_
    refine r_iload_n dX7_judge_1 rfl ?_
    refine r_callV dX7_judge_2 l_X7_384 o_X7_isTape v_X7_isTape rfl (by decide) rfl rfl (m_X7_isTape hG) (by decide) rfl (Nat.le_of_ble_eq_true rfl) (fun r2 h2 hq2 => ?_)
    obtain ⟨rfl, e2⟩ := hq2
    rw [e2]
    clear e2 h2
    refine r_if_ne (tgt := 10) dX7_judge_5 (by decide) (fun c_5 => ?_) (fun c_5 => ?_)
    · refine r_aload_n dX7_judge_10 rfl ?_
      refine r_getR (j := 168) dX7_judge_11 k_X7_199 rfl (by decide) rfl rfl ?_
      refine r_iload_n dX7_judge_14 rfl ?_
      refine r_iald (t1) dX7_judge_15 rfl rfl (show t1 < 6 by omega) ?_
      rw [q1]
      refine r_if_lt (tgt := 32) dX7_judge_16 (by decide) (fun c_16 => ?_) (fun c_16 => ?_)
      · refine r_iconst (v := 0) dX7_judge_32 (by decide) ?_
        refine r_istore_n dX7_judge_33 (by decide) rfl rfl ?_
        dsimp only [List.set]
        exact fin (Or.inl ((sort_lt (by omega)).mp c_16))
      · refine r_aload_n dX7_judge_19 rfl ?_
        refine r_getR (j := 168) dX7_judge_20 k_X7_199 rfl (by decide) rfl rfl ?_
        refine r_iload_n dX7_judge_23 rfl ?_
        refine r_iald (t1) dX7_judge_24 rfl rfl (show t1 < 6 by omega) ?_
        rw [q1]
        refine r_iconst (v := 2) dX7_judge_25 (by decide) ?_
        refine r_icmp_eq (tgt := 32) dX7_judge_26 (by decide) (fun c_26 => ?_) (fun c_26 => ?_)
        · refine r_iconst (v := 0) dX7_judge_32 (by decide) ?_
          refine r_istore_n dX7_judge_33 (by decide) rfl rfl ?_
          dsimp only [List.set]
          exact fin (Or.inr (eq2.mp c_26))
        · refine r_bipush (v := -12) dX7_judge_29 (by decide) ?_
          refine r_ireturn dX7_judge_31 ⟨_, rfl, rfl⟩ ?_
          exact ⟨by rw [es, if_pos (by rintro (y | y); exact c_16 ((sort_lt (by omega)).mpr y); exact c_26 (eq2.mpr y))], rfl⟩
    · exact absurd c_5 (b01_n0.mpr (by rw [ht]; rfl))
