/-! judge -/
theorem djudge_loop {G : WT} {l : Launch} (hG : GOK G) {h : Hp} {T : Tb} {P : Tp} {t tp : Nat} {i : Int32} (hR : DTb h 1 T) (hT : TbOK T) (H : DTp h P) (hP : TpOK P) (ht : t < 6) (etp : tp = 122 + 2 * t) :
    ∀ (m k : Nat), k + m = T.1 7 0 → (∀ c, c < k → judgeQ T (P t) i c = false) → Wp G l 2 RX6 cX6_judge 5 (some .int) 39 [.ref (gA G 0), .int (nI t), .int i, .ref (gA G tp), .int (nI k)] [] h (fun r h' => r = some (.int (if firstTo (judgeQ T (P t) i) (T.1 7 0) < T.1 7 0 then
      (if 0 ≤ i.toInt ∧ i.toInt + firstTo (judgeQ T (P t) i) (T.1 7 0) < ((P t).2.1 : Int) then nI (firstTo (judgeQ T (P t) i) (T.1 7 0)) else nI (100 + firstTo (judgeQ T (P t) i) (T.1 7 0)))
    else -5)) ∧ h' = h) := by
  have hE := hT.1
  obtain ⟨p1, p2, p3⟩ := hP t ht
  have q0 := H t ht
  have s2 : ksh tp = 5 := by rw [etp]; exact (tp_s ht).2
  have e3 : 123 + 2 * t = tp + 1 := by omega
  rw [← etp, e3] at q0
  obtain ⟨q1, q2, q3⟩ := q0
  have s4 : lnt (tp + 1) = 60 := ln_P s2
  intro m
  induction m with
  | zero =>
    intro k hk hno
    obtain rfl : k = T.1 7 0 := by omega
    refine r_iload dX6_judge_39 rfl ?_
    refine r_aload_n dX6_judge_41 rfl ?_
    refine r_getR (j := 1) dX6_judge_42 k_X6_12 rfl (by decide) rfl rfl ?_
    refine r_getI dX6_judge_45 k_X6_82 rfl (by decide) rfl ?_
    rw [hR.1.1]
    refine r_icmp_ge (tgt := 109) dX6_judge_48 (by decide) (fun c_48 => ?_) (fun c_48 => ?_)
    · refine r_bipush (v := -5) dX6_judge_109 (by decide) ?_
      refine r_ireturn dX6_judge_111 ⟨_, rfl, rfl⟩ ?_
      exact ⟨by rw [firstTo_none _ hno, if_neg (Nat.lt_irrefl _)], rfl⟩
    · exact absurd (Int32.le_refl _) c_48
  | succ m ih =>
    intro k hk hno
    have at1 : judgeQ T (P t) i k = true → firstTo (judgeQ T (P t) i) (T.1 7 0) = k := fun y => firstTo_at hno y (T.1 7 0) (by omega)
    have no : ¬ (0 ≤ i.toInt ∧ i.toInt + k < ((P t).2.1 : Int)) → Wp G l 2 RX6 cX6_judge 5 (some .int) 70 [.ref (gA G 0), .int (nI t), .int i, .ref (gA G tp), .int (nI k)] [] h (fun r h' => r = some (.int (if firstTo (judgeQ T (P t) i) (T.1 7 0) < T.1 7 0 then
      (if 0 ≤ i.toInt ∧ i.toInt + firstTo (judgeQ T (P t) i) (T.1 7 0) < ((P t).2.1 : Int) then nI (firstTo (judgeQ T (P t) i) (T.1 7 0)) else nI (100 + firstTo (judgeQ T (P t) i) (T.1 7 0)))
      else -5)) ∧ h' = h) := by
      intro y
      have e := at1 (decide_eq_true (Or.inl y))
      rw [e, if_pos (by omega), if_neg y]
      refine r_bipush (v := 100) dX6_judge_70 (by decide) ?_
      refine r_iload dX6_judge_72 rfl ?_
      refine r_iadd dX6_judge_74 ?_
      rw [show (100 : Int32) = nI 100 from rfl, nI_add]
      refine r_ireturn dX6_judge_75 ⟨_, rfl, rfl⟩ ?_
      exact ⟨rfl, rfl⟩
    have ex : i.toInt < ((P t).2.1 : Int) → (i + nI k).toInt = i.toInt + k := fun y => by
      have := Int32.le_toInt i
      rw [Int32.toInt_add, nI_toInt (by omega)]
      apply Int.bmod_eq_of_le <;> omega
    have cl : ∀ y : (P t).2.1 ≤ i.toInt, ¬ (0 ≤ i.toInt ∧ i.toInt + k < ((P t).2.1 : Int)) := fun y z => by omega
    sorry
