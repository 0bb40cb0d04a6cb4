/-! shift -/
set_option maxRecDepth 100000 in
theorem m_X6_shift {G : WT} {l : Launch} (hG : GOK G) {h : Hp} {P : Tp} {t i o j n : Int32} (H : DTp h P) (hP : TpOK P) : Cl G l 2 yX6_shift cX6_shift 8 (some .int) [.ref (gA G 0), .int t, .int i, .int o, .int j, .int n] h (fun r h' => r = some (.int (shiftS P t i o j n).1) ∧ DTp h' (shiftS P t i o j n).2 ∧ TpOK (shiftS P t i o j n).2 ∧ FrT h h') := by
  refine Cl.of hG (by decide) (Nat.le_of_ble_eq_true rfl) ?_
  show Wp G l 2 RX6 cX6_shift 8 (some .int) 0 [.ref (gA G 0), .int t, .int i, .int o, .int j, .int n, mk0, mk0] [] h _
  cases ht : dec t 6 with
  | none =>
    have es : shiftS P t i o j n = (-1, P) := by rw [shiftS, ht]
    rw [es]
    refine r_iload_n dX6_shift_0 rfl ?_
    refine r_iconst (v := 5) dX6_shift_1 (by decide) ?_
    rw [show (5 : Int32) = nI 5 from rfl]
    refine r_callS dX6_shift_2 l_X6_78 o_X6_within s_X6_within rfl (m_X6_within hG (x := t) (m := 5) (by omega)) (by decide) rfl (Nat.le_of_ble_eq_true rfl) (fun r2 h2 hq2 => ?_)
    obtain ⟨rfl, rfl⟩ := hq2
    rw [ht]
    refine r_if_eq (tgt := 16) dX6_shift_5 (by decide) (fun c_5 => ?_) (fun c_5 => ?_)
    · refine r_iconst (v := -1) dX6_shift_16 (by decide) ?_
      refine r_ireturn dX6_shift_17 ⟨_, rfl, rfl⟩ ?_
      exact ⟨rfl, H, hP, FrT.rf⟩
    · exact absurd none_f c_5
  | some t1 =>
   obtain ⟨ht1, rfl, -⟩ := dec_some.mp ht
   cases ho : dec o 6 with
   | none =>
    have es : shiftS P (nI t1) i o j n = (-1, P) := by rw [shiftS, ht, ho]
    rw [es]
    refine r_iload_n dX6_shift_0 rfl ?_
    refine r_iconst (v := 5) dX6_shift_1 (by decide) ?_
    rw [show (5 : Int32) = nI 5 from rfl]
    refine r_callS dX6_shift_2 l_X6_78 o_X6_within s_X6_within rfl (m_X6_within hG (x := nI t1) (m := 5) (by omega)) (by decide) rfl (Nat.le_of_ble_eq_true rfl) (fun r2 h2 hq2 => ?_)
    obtain ⟨rfl, rfl⟩ := hq2
    rw [ht]
    refine r_if_eq (tgt := 16) dX6_shift_5 (by decide) (fun c_5 => ?_) (fun c_5 => ?_)
    · exact absurd c_5 some_t
    · refine r_iload_n dX6_shift_8 rfl ?_
      refine r_iconst (v := 5) dX6_shift_9 (by decide) ?_
      rw [show (5 : Int32) = nI 5 from rfl]
      refine r_callS dX6_shift_10 l_X6_78 o_X6_within s_X6_within rfl (m_X6_within hG (x := o) (m := 5) (by omega)) (by decide) rfl (Nat.le_of_ble_eq_true rfl) (fun r10 h10 hq10 => ?_)
      obtain ⟨rfl, rfl⟩ := hq10
      rw [ho]
      refine r_if_ne (tgt := 18) dX6_shift_13 (by decide) (fun c_13 => ?_) (fun c_13 => ?_)
      · exact absurd none_f c_13
      · refine r_iconst (v := -1) dX6_shift_16 (by decide) ?_
        refine r_ireturn dX6_shift_17 ⟨_, rfl, rfl⟩ ?_
        exact ⟨rfl, H, hP, FrT.rf⟩
   | some o1 =>
    obtain ⟨ho1, rfl, -⟩ := dec_some.mp ho
    obtain ⟨p1, p2, p3⟩ := hP t1 ht1
    obtain ⟨q1, q2, q3⟩ := H t1 ht1
    obtain ⟨s1, s2⟩ := tp_s ht1
    obtain ⟨g1, g2, g3⟩ := hP o1 ho1
    obtain ⟨v1, v2, v3⟩ := H o1 ho1
    obtain ⟨u1, u2⟩ := tp_s ho1
    by_cases z0 : (P t1).1 = 0 ∨ (P o1).1 = 0
    · have es : shiftS P (nI t1) i (nI o1) j n = (-11, P) := by rw [shiftS, ht, ho]; dsimp only; rw [if_pos z0]
      rw [es]
      refine r_iload_n dX6_shift_0 rfl ?_
      refine r_iconst (v := 5) dX6_shift_1 (by decide) ?_
      rw [show (5 : Int32) = nI 5 from rfl]
      refine r_callS dX6_shift_2 l_X6_78 o_X6_within s_X6_within rfl (m_X6_within hG (x := nI t1) (m := 5) (by omega)) (by decide) rfl (Nat.le_of_ble_eq_true rfl) (fun r2 h2 hq2 => ?_)
      obtain ⟨rfl, rfl⟩ := hq2
      rw [ht]
      refine r_if_eq (tgt := 16) dX6_shift_5 (by decide) (fun c_5 => ?_) (fun c_5 => ?_)
      · exact absurd c_5 some_t
      · refine r_iload_n dX6_shift_8 rfl ?_
        refine r_iconst (v := 5) dX6_shift_9 (by decide) ?_
        rw [show (5 : Int32) = nI 5 from rfl]
        refine r_callS dX6_shift_10 l_X6_78 o_X6_within s_X6_within rfl (m_X6_within hG (x := nI o1) (m := 5) (by omega)) (by decide) rfl (Nat.le_of_ble_eq_true rfl) (fun r10 h10 hq10 => ?_)
        obtain ⟨rfl, rfl⟩ := hq10
        rw [ho]
        refine r_if_ne (tgt := 18) dX6_shift_13 (by decide) (fun c_13 => ?_) (fun c_13 => ?_)
        · refine r_aload_n dX6_shift_18 rfl ?_
          refine r_getR (j := 34) dX6_shift_19 k_X6_58 rfl (by decide) rfl rfl ?_
          refine r_iload_n dX6_shift_22 rfl ?_
          refine r_aald (t1) dX6_shift_23 rfl (by decide) rfl (show t1 < 6 by omega) ?_
          rw [s1]
          refine r_astore dX6_shift_24 (by decide) rfl rfl ?_
          dsimp only [List.set]
          refine r_aload_n dX6_shift_26 rfl ?_
          refine r_getR (j := 34) dX6_shift_27 k_X6_58 rfl (by decide) rfl rfl ?_
          refine r_iload_n dX6_shift_30 rfl ?_
          refine r_aald (o1) dX6_shift_31 rfl (by decide) rfl (show o1 < 6 by omega) ?_
          rw [u1]
          refine r_astore dX6_shift_32 (by decide) rfl rfl ?_
          dsimp only [List.set]
          refine r_aload dX6_shift_34 rfl ?_
          refine r_getI dX6_shift_36 k_X6_268 (by assumption) (by decide) rfl ?_
          refine r_iconst (v := -1) dX6_shift_39 (by decide) ?_
          rw [q1]
          refine r_icmp_eq (tgt := 52) dX6_shift_40 (by decide) (fun c_40 => ?_) (fun c_40 => ?_)
          · refine r_bipush (v := -11) dX6_shift_52 (by decide) ?_
            refine r_ireturn dX6_shift_54 ⟨_, rfl, rfl⟩ ?_
            exact ⟨rfl, H, hP, FrT.rf⟩
          · refine r_aload dX6_shift_43 rfl ?_
            refine r_getI dX6_shift_45 k_X6_268 (by assumption) (by decide) rfl ?_
            refine r_iconst (v := -1) dX6_shift_48 (by decide) ?_
            rw [v1]
            refine r_icmp_ne (tgt := 55) dX6_shift_49 (by decide) (fun c_49 => ?_) (fun c_49 => ?_)
            · exact absurd ((sort_m1 (by omega)).mpr (z0.resolve_left (fun y => c_40 ((sort_m1 (by omega)).mpr y)))) c_49
            · refine r_bipush (v := -11) dX6_shift_52 (by decide) ?_
              refine r_ireturn dX6_shift_54 ⟨_, rfl, rfl⟩ ?_
              exact ⟨rfl, H, hP, FrT.rf⟩
        · exact absurd c_13 some_t
    · have a0 : ¬ (P t1).1 = 0 := fun y => z0 (Or.inl y)
      have b0 : ¬ (P o1).1 = 0 := fun y => z0 (Or.inr y)
      have c40 : ¬ nI (P t1).1 - 1 = -1 := fun y => a0 ((sort_m1 (by omega)).mp y)
      have c49 : ¬ nI (P o1).1 - 1 = -1 := fun y => b0 ((sort_m1 (by omega)).mp y)
      by_cases zq : (P t1).1 = (P o1).1
      · have e0 : shiftS P (nI t1) i (nI o1) j n = if n.toInt < 0 ∨ i.toInt < 0 ∨ j.toInt < 0 ∨ ((P t1).2.1 : Int) < i.toInt + n.toInt ∨ ((P o1).2.1 : Int) < j.toInt + n.toInt then (-13, P) else (n, updP P o1 ((P o1).1, (P o1).2.1, fun x => if j.toInt.toNat ≤ x ∧ x < j.toInt.toNat + n.toInt.toNat then (P t1).2.2 (i.toInt.toNat + (x - j.toInt.toNat)) else (P o1).2.2 x)) := by rw [shiftS, ht, ho]; dsimp only; rw [if_neg z0, if_pos zq]
        rw [e0]
        by_cases w1 : n.toInt < 0 ∨ i.toInt < 0 ∨ ((P t1).2.1 : Int) < i.toInt + n.toInt
        · have wd : decide (¬ (n.toInt < 0 ∨ i.toInt < 0 ∨ ((P t1).2.1 : Int) < i.toInt + n.toInt)) = false := decide_eq_false (fun y => y w1)
          rw [if_pos (by omega)]
          refine r_iload_n dX6_shift_0 rfl ?_
          refine r_iconst (v := 5) dX6_shift_1 (by decide) ?_
          rw [show (5 : Int32) = nI 5 from rfl]
          refine r_callS dX6_shift_2 l_X6_78 o_X6_within s_X6_within rfl (m_X6_within hG (x := nI t1) (m := 5) (by omega)) (by decide) rfl (Nat.le_of_ble_eq_true rfl) (fun r2 h2 hq2 => ?_)
          obtain ⟨rfl, rfl⟩ := hq2
          rw [ht]
          refine r_if_eq (tgt := 16) dX6_shift_5 (by decide) (fun c_5 => ?_) (fun c_5 => ?_)
          · exact absurd c_5 some_t
          · refine r_iload_n dX6_shift_8 rfl ?_
            refine r_iconst (v := 5) dX6_shift_9 (by decide) ?_
            rw [show (5 : Int32) = nI 5 from rfl]
            refine r_callS dX6_shift_10 l_X6_78 o_X6_within s_X6_within rfl (m_X6_within hG (x := nI o1) (m := 5) (by omega)) (by decide) rfl (Nat.le_of_ble_eq_true rfl) (fun r10 h10 hq10 => ?_)
            obtain ⟨rfl, rfl⟩ := hq10
            rw [ho]
            refine r_if_ne (tgt := 18) dX6_shift_13 (by decide) (fun c_13 => ?_) (fun c_13 => ?_)
            · refine r_aload_n dX6_shift_18 rfl ?_
              refine r_getR (j := 34) dX6_shift_19 k_X6_58 rfl (by decide) rfl rfl ?_
              refine r_iload_n dX6_shift_22 rfl ?_
              refine r_aald (t1) dX6_shift_23 rfl (by decide) rfl (show t1 < 6 by omega) ?_
              rw [s1]
              refine r_astore dX6_shift_24 (by decide) rfl rfl ?_
              dsimp only [List.set]
              refine r_aload_n dX6_shift_26 rfl ?_
              refine r_getR (j := 34) dX6_shift_27 k_X6_58 rfl (by decide) rfl rfl ?_
              refine r_iload_n dX6_shift_30 rfl ?_
              refine r_aald (o1) dX6_shift_31 rfl (by decide) rfl (show o1 < 6 by omega) ?_
              rw [u1]
              refine r_astore dX6_shift_32 (by decide) rfl rfl ?_
              dsimp only [List.set]
              refine r_aload dX6_shift_34 rfl ?_
              refine r_getI dX6_shift_36 k_X6_268 (by assumption) (by decide) rfl ?_
              refine r_iconst (v := -1) dX6_shift_39 (by decide) ?_
              rw [q1]
              refine r_icmp_eq (tgt := 52) dX6_shift_40 (by decide) (fun c_40 => ?_) (fun c_40 => ?_)
              · exact absurd c_40 c40
              · refine r_aload dX6_shift_43 rfl ?_
                refine r_getI dX6_shift_45 k_X6_268 (by assumption) (by decide) rfl ?_
                refine r_iconst (v := -1) dX6_shift_48 (by decide) ?_
                rw [v1]
                refine r_icmp_ne (tgt := 55) dX6_shift_49 (by decide) (fun c_49 => ?_) (fun c_49 => ?_)
                · refine r_aload dX6_shift_55 rfl ?_
                  refine r_getI dX6_shift_57 k_X6_268 (by assumption) (by decide) rfl ?_
                  refine r_aload dX6_shift_60 rfl ?_
                  refine r_getI dX6_shift_62 k_X6_268 (by assumption) (by decide) rfl ?_
                  rw [q1, v1]
                  refine r_icmp_eq (tgt := 71) dX6_shift_65 (by decide) (fun c_65 => ?_) (fun c_65 => ?_)
                  · refine r_aload dX6_shift_71 rfl ?_
                    refine r_iload_n dX6_shift_73 rfl ?_
                    refine r_iload dX6_shift_74 rfl ?_
                    refine r_callV dX6_shift_76 l_X6_298 o_X5_hasStretch v_X5_hasStretch (by assumption) (by decide) rfl rfl (m_X5_hasStretch hG (i := i) (m := n) s2 p2 q2) (by decide) rfl (Nat.le_of_ble_eq_true rfl) (fun r76 h76 hq76 => ?_)
                    obtain ⟨rfl, rfl⟩ := hq76
                    rw [wd]
                    refine r_if_eq (tgt := 94) dX6_shift_79 (by decide) (fun c_79 => ?_) (fun c_79 => ?_)
                    · refine r_bipush (v := -13) dX6_shift_94 (by decide) ?_
                      refine r_ireturn dX6_shift_96 ⟨_, rfl, rfl⟩ ?_
                      exact ⟨rfl, H, hP, FrT.rf⟩
                    · exact absurd rfl c_79
                  · exact absurd (by rw [zq]) c_65
                · exact absurd c_49 c49
            · exact absurd c_13 some_t
        · have wd : decide (¬ (n.toInt < 0 ∨ i.toInt < 0 ∨ ((P t1).2.1 : Int) < i.toInt + n.toInt)) = true := decide_eq_true w1
          by_cases w2 : n.toInt < 0 ∨ j.toInt < 0 ∨ ((P o1).2.1 : Int) < j.toInt + n.toInt
          · have we : decide (¬ (n.toInt < 0 ∨ j.toInt < 0 ∨ ((P o1).2.1 : Int) < j.toInt + n.toInt)) = false := decide_eq_false (fun y => y w2)
            rw [if_pos (by omega)]
            refine r_iload_n dX6_shift_0 rfl ?_
            refine r_iconst (v := 5) dX6_shift_1 (by decide) ?_
            rw [show (5 : Int32) = nI 5 from rfl]
            refine r_callS dX6_shift_2 l_X6_78 o_X6_within s_X6_within rfl (m_X6_within hG (x := nI t1) (m := 5) (by omega)) (by decide) rfl (Nat.le_of_ble_eq_true rfl) (fun r2 h2 hq2 => ?_)
            obtain ⟨rfl, rfl⟩ := hq2
            rw [ht]
            refine r_if_eq (tgt := 16) dX6_shift_5 (by decide) (fun c_5 => ?_) (fun c_5 => ?_)
            · exact absurd c_5 some_t
            · refine r_iload_n dX6_shift_8 rfl ?_
              refine r_iconst (v := 5) dX6_shift_9 (by decide) ?_
              rw [show (5 : Int32) = nI 5 from rfl]
              refine r_callS dX6_shift_10 l_X6_78 o_X6_within s_X6_within rfl (m_X6_within hG (x := nI o1) (m := 5) (by omega)) (by decide) rfl (Nat.le_of_ble_eq_true rfl) (fun r10 h10 hq10 => ?_)
              obtain ⟨rfl, rfl⟩ := hq10
              rw [ho]
              refine r_if_ne (tgt := 18) dX6_shift_13 (by decide) (fun c_13 => ?_) (fun c_13 => ?_)
              · refine r_aload_n dX6_shift_18 rfl ?_
                refine r_getR (j := 34) dX6_shift_19 k_X6_58 rfl (by decide) rfl rfl ?_
                refine r_iload_n dX6_shift_22 rfl ?_
                refine r_aald (t1) dX6_shift_23 rfl (by decide) rfl (show t1 < 6 by omega) ?_
                rw [s1]
                refine r_astore dX6_shift_24 (by decide) rfl rfl ?_
                dsimp only [List.set]
                refine r_aload_n dX6_shift_26 rfl ?_
                refine r_getR (j := 34) dX6_shift_27 k_X6_58 rfl (by decide) rfl rfl ?_
                refine r_iload_n dX6_shift_30 rfl ?_
                refine r_aald (o1) dX6_shift_31 rfl (by decide) rfl (show o1 < 6 by omega) ?_
                rw [u1]
                refine r_astore dX6_shift_32 (by decide) rfl rfl ?_
                dsimp only [List.set]
                refine r_aload dX6_shift_34 rfl ?_
                refine r_getI dX6_shift_36 k_X6_268 (by assumption) (by decide) rfl ?_
                refine r_iconst (v := -1) dX6_shift_39 (by decide) ?_
                rw [q1]
                refine r_icmp_eq (tgt := 52) dX6_shift_40 (by decide) (fun c_40 => ?_) (fun c_40 => ?_)
                · exact absurd c_40 c40
                · refine r_aload dX6_shift_43 rfl ?_
                  refine r_getI dX6_shift_45 k_X6_268 (by assumption) (by decide) rfl ?_
                  refine r_iconst (v := -1) dX6_shift_48 (by decide) ?_
                  rw [v1]
                  refine r_icmp_ne (tgt := 55) dX6_shift_49 (by decide) (fun c_49 => ?_) (fun c_49 => ?_)
                  · refine r_aload dX6_shift_55 rfl ?_
                    refine r_getI dX6_shift_57 k_X6_268 (by assumption) (by decide) rfl ?_
                    refine r_aload dX6_shift_60 rfl ?_
                    refine r_getI dX6_shift_62 k_X6_268 (by assumption) (by decide) rfl ?_
                    rw [q1, v1]
                    refine r_icmp_eq (tgt := 71) dX6_shift_65 (by decide) (fun c_65 => ?_) (fun c_65 => ?_)
                    · refine r_aload dX6_shift_71 rfl ?_
                      refine r_iload_n dX6_shift_73 rfl ?_
                      refine r_iload dX6_shift_74 rfl ?_
                      refine r_callV dX6_shift_76 l_X6_298 o_X5_hasStretch v_X5_hasStretch (by assumption) (by decide) rfl rfl (m_X5_hasStretch hG (i := i) (m := n) s2 p2 q2) (by decide) rfl (Nat.le_of_ble_eq_true rfl) (fun r76 h76 hq76 => ?_)
                      obtain ⟨rfl, rfl⟩ := hq76
                      rw [wd]
                      refine r_if_eq (tgt := 94) dX6_shift_79 (by decide) (fun c_79 => ?_) (fun c_79 => ?_)
                      · exact absurd c_79 (by decide)
                      · refine r_aload dX6_shift_82 rfl ?_
                        refine r_iload dX6_shift_84 rfl ?_
                        refine r_iload dX6_shift_86 rfl ?_
                        refine r_callV dX6_shift_88 l_X6_298 o_X5_hasStretch v_X5_hasStretch (by assumption) (by decide) rfl rfl (m_X5_hasStretch hG (i := j) (m := n) u2 g2 v2) (by decide) rfl (Nat.le_of_ble_eq_true rfl) (fun r88 h88 hq88 => ?_)
                        obtain ⟨rfl, rfl⟩ := hq88
                        rw [we]
                        refine r_if_ne (tgt := 97) dX6_shift_91 (by decide) (fun c_91 => ?_) (fun c_91 => ?_)
                        · exact absurd rfl c_91
                        · refine r_bipush (v := -13) dX6_shift_94 (by decide) ?_
                          refine r_ireturn dX6_shift_96 ⟨_, rfl, rfl⟩ ?_
                          exact ⟨rfl, H, hP, FrT.rf⟩
                    · exact absurd (by rw [zq]) c_65
                  · exact absurd c_49 c49
              · exact absurd c_13 some_t
          · have we : decide (¬ (n.toInt < 0 ∨ j.toInt < 0 ∨ ((P o1).2.1 : Int) < j.toInt + n.toInt)) = true := decide_eq_true w2
            rw [if_neg (by omega)]
            have ei : i = nI i.toInt.toNat := i_nn (by omega)
            have ej : j = nI j.toInt.toNat := i_nn (by omega)
            have en : n = nI n.toInt.toNat := i_nn (by omega)
            have s4 : lnt (122 + 2 * t1 + 1) = 60 := ln_P s2
            have u4 : lnt (122 + 2 * o1 + 1) = 60 := ln_P u2
            refine r_iload_n dX6_shift_0 rfl ?_
            refine r_iconst (v := 5) dX6_shift_1 (by decide) ?_
            rw [show (5 : Int32) = nI 5 from rfl]
            refine r_callS dX6_shift_2 l_X6_78 o_X6_within s_X6_within rfl (m_X6_within hG (x := nI t1) (m := 5) (by omega)) (by decide) rfl (Nat.le_of_ble_eq_true rfl) (fun r2 h2 hq2 => ?_)
            obtain ⟨rfl, rfl⟩ := hq2
            rw [ht]
            refine r_if_eq (tgt := 16) dX6_shift_5 (by decide) (fun c_5 => ?_) (fun c_5 => ?_)
            · exact absurd c_5 some_t
            · refine r_iload_n dX6_shift_8 rfl ?_
              refine r_iconst (v := 5) dX6_shift_9 (by decide) ?_
              rw [show (5 : Int32) = nI 5 from rfl]
              refine r_callS dX6_shift_10 l_X6_78 o_X6_within s_X6_within rfl (m_X6_within hG (x := nI o1) (m := 5) (by omega)) (by decide) rfl (Nat.le_of_ble_eq_true rfl) (fun r10 h10 hq10 => ?_)
              obtain ⟨rfl, rfl⟩ := hq10
              rw [ho]
              refine r_if_ne (tgt := 18) dX6_shift_13 (by decide) (fun c_13 => ?_) (fun c_13 => ?_)
              · refine r_aload_n dX6_shift_18 rfl ?_
                refine r_getR (j := 34) dX6_shift_19 k_X6_58 rfl (by decide) rfl rfl ?_
                refine r_iload_n dX6_shift_22 rfl ?_
                refine r_aald (t1) dX6_shift_23 rfl (by decide) rfl (show t1 < 6 by omega) ?_
                rw [s1]
                refine r_astore dX6_shift_24 (by decide) rfl rfl ?_
                dsimp only [List.set]
                refine r_aload_n dX6_shift_26 rfl ?_
                refine r_getR (j := 34) dX6_shift_27 k_X6_58 rfl (by decide) rfl rfl ?_
                refine r_iload_n dX6_shift_30 rfl ?_
                refine r_aald (o1) dX6_shift_31 rfl (by decide) rfl (show o1 < 6 by omega) ?_
                rw [u1]
                refine r_astore dX6_shift_32 (by decide) rfl rfl ?_
                dsimp only [List.set]
                refine r_aload dX6_shift_34 rfl ?_
                refine r_getI dX6_shift_36 k_X6_268 (by assumption) (by decide) rfl ?_
                refine r_iconst (v := -1) dX6_shift_39 (by decide) ?_
                rw [q1]
                refine r_icmp_eq (tgt := 52) dX6_shift_40 (by decide) (fun c_40 => ?_) (fun c_40 => ?_)
                · exact absurd c_40 c40
                · refine r_aload dX6_shift_43 rfl ?_
                  refine r_getI dX6_shift_45 k_X6_268 (by assumption) (by decide) rfl ?_
                  refine r_iconst (v := -1) dX6_shift_48 (by decide) ?_
                  rw [v1]
                  refine r_icmp_ne (tgt := 55) dX6_shift_49 (by decide) (fun c_49 => ?_) (fun c_49 => ?_)
                  · refine r_aload dX6_shift_55 rfl ?_
                    refine r_getI dX6_shift_57 k_X6_268 (by assumption) (by decide) rfl ?_
                    refine r_aload dX6_shift_60 rfl ?_
                    refine r_getI dX6_shift_62 k_X6_268 (by assumption) (by decide) rfl ?_
                    rw [q1, v1]
                    refine r_icmp_eq (tgt := 71) dX6_shift_65 (by decide) (fun c_65 => ?_) (fun c_65 => ?_)
                    · refine r_aload dX6_shift_71 rfl ?_
                      refine r_iload_n dX6_shift_73 rfl ?_
                      refine r_iload dX6_shift_74 rfl ?_
                      refine r_callV dX6_shift_76 l_X6_298 o_X5_hasStretch v_X5_hasStretch (by assumption) (by decide) rfl rfl (m_X5_hasStretch hG (i := i) (m := n) s2 p2 q2) (by decide) rfl (Nat.le_of_ble_eq_true rfl) (fun r76 h76 hq76 => ?_)
                      obtain ⟨rfl, rfl⟩ := hq76
                      rw [wd]
                      refine r_if_eq (tgt := 94) dX6_shift_79 (by decide) (fun c_79 => ?_) (fun c_79 => ?_)
                      · exact absurd c_79 (by decide)
                      · refine r_aload dX6_shift_82 rfl ?_
                        refine r_iload dX6_shift_84 rfl ?_
                        refine r_iload dX6_shift_86 rfl ?_
                        refine r_callV dX6_shift_88 l_X6_298 o_X5_hasStretch v_X5_hasStretch (by assumption) (by decide) rfl rfl (m_X5_hasStretch hG (i := j) (m := n) u2 g2 v2) (by decide) rfl (Nat.le_of_ble_eq_true rfl) (fun r88 h88 hq88 => ?_)
                        obtain ⟨rfl, rfl⟩ := hq88
                        rw [we]
                        refine r_if_ne (tgt := 97) dX6_shift_91 (by decide) (fun c_91 => ?_) (fun c_91 => ?_)
                        · refine r_aload dX6_shift_97 rfl ?_
                          refine r_getR (j := 122 + 2 * t1 + 1) dX6_shift_99 k_X6_274 (by assumption) (by decide) rfl (rf_P (by assumption)) ?_
                          refine r_iload_n dX6_shift_102 rfl ?_
                          refine r_aload dX6_shift_103 rfl ?_
                          refine r_getR (j := 122 + 2 * o1 + 1) dX6_shift_105 k_X6_274 (by assumption) (by decide) rfl (rf_P (by assumption)) ?_
                          refine r_iload dX6_shift_108 rfl ?_
                          refine r_iload dX6_shift_110 rfl ?_
                          refine r_acopyL (i.toInt.toNat) (j.toInt.toNat) (n.toInt.toNat) dX6_shift_112 l_X6_204 (ks_P (by assumption)) (ks_P (by assumption)) ei ej en (by omega) (by omega) (by decide) (by decide) ?_
                          refine r_iload dX6_shift_115 rfl ?_
                          refine r_ireturn dX6_shift_117 ⟨_, rfl, rfl⟩ ?_
                          refine ⟨rfl, H.up ⟨v1, v2, fun k hk => ?_⟩ (fun z i9 hz => ⟨rfl, ?_⟩), hP.up ⟨g1, g2, g3⟩, fun a i9 ha => rfl, fun a i9 ha => ?_, rfl⟩
                          · rw [rowL_2, if_pos (by omega)]
                            show _ = if j.toInt.toNat ≤ k ∧ k < j.toInt.toNat + n.toInt.toNat then (P t1).2.2 (i.toInt.toNat + (k - j.toInt.toNat)) else (P o1).2.2 k
                            unfold va_cpy
                            by_cases e : j.toInt.toNat ≤ k ∧ k < j.toInt.toNat + n.toInt.toNat
                            · rw [if_pos e, if_pos e, ← q3 _ (by omega), show 122 + 2 * t1 + 1 = 123 + 2 * t1 by omega]
                            · rw [if_neg e, if_neg e, ← v3 k hk, show 122 + 2 * o1 + 1 = 123 + 2 * o1 by omega]
                          · rw [rowL_2, if_neg (by omega)]
                          · rw [rowL_2, if_neg (by omega)]
                        · exact absurd c_91 (by decide)
                    · exact absurd (by rw [zq]) c_65
                  · exact absurd c_49 c49
              · exact absurd c_13 some_t
      · have es : shiftS P (nI t1) i (nI o1) j n = (-12, P) := by rw [shiftS, ht, ho]; dsimp only; rw [if_neg z0, if_neg zq]
        have c65 : ¬ nI (P t1).1 - 1 = nI (P o1).1 - 1 := fun y => by
          have := congrArg Int32.toInt y
          rw [nI_pred0 (by omega), nI_pred0 (by omega)] at this
          omega
        rw [es]
        refine r_iload_n dX6_shift_0 rfl ?_
        refine r_iconst (v := 5) dX6_shift_1 (by decide) ?_
        rw [show (5 : Int32) = nI 5 from rfl]
        refine r_callS dX6_shift_2 l_X6_78 o_X6_within s_X6_within rfl (m_X6_within hG (x := nI t1) (m := 5) (by omega)) (by decide) rfl (Nat.le_of_ble_eq_true rfl) (fun r2 h2 hq2 => ?_)
        obtain ⟨rfl, rfl⟩ := hq2
        rw [ht]
        refine r_if_eq (tgt := 16) dX6_shift_5 (by decide) (fun c_5 => ?_) (fun c_5 => ?_)
        · exact absurd c_5 some_t
        · refine r_iload_n dX6_shift_8 rfl ?_
          refine r_iconst (v := 5) dX6_shift_9 (by decide) ?_
          rw [show (5 : Int32) = nI 5 from rfl]
          refine r_callS dX6_shift_10 l_X6_78 o_X6_within s_X6_within rfl (m_X6_within hG (x := nI o1) (m := 5) (by omega)) (by decide) rfl (Nat.le_of_ble_eq_true rfl) (fun r10 h10 hq10 => ?_)
          obtain ⟨rfl, rfl⟩ := hq10
          rw [ho]
          refine r_if_ne (tgt := 18) dX6_shift_13 (by decide) (fun c_13 => ?_) (fun c_13 => ?_)
          · refine r_aload_n dX6_shift_18 rfl ?_
            refine r_getR (j := 34) dX6_shift_19 k_X6_58 rfl (by decide) rfl rfl ?_
            refine r_iload_n dX6_shift_22 rfl ?_
            refine r_aald (t1) dX6_shift_23 rfl (by decide) rfl (show t1 < 6 by omega) ?_
            rw [s1]
            refine r_astore dX6_shift_24 (by decide) rfl rfl ?_
            dsimp only [List.set]
            refine r_aload_n dX6_shift_26 rfl ?_
            refine r_getR (j := 34) dX6_shift_27 k_X6_58 rfl (by decide) rfl rfl ?_
            refine r_iload_n dX6_shift_30 rfl ?_
            refine r_aald (o1) dX6_shift_31 rfl (by decide) rfl (show o1 < 6 by omega) ?_
            rw [u1]
            refine r_astore dX6_shift_32 (by decide) rfl rfl ?_
            dsimp only [List.set]
            refine r_aload dX6_shift_34 rfl ?_
            refine r_getI dX6_shift_36 k_X6_268 (by assumption) (by decide) rfl ?_
            refine r_iconst (v := -1) dX6_shift_39 (by decide) ?_
            rw [q1]
            refine r_icmp_eq (tgt := 52) dX6_shift_40 (by decide) (fun c_40 => ?_) (fun c_40 => ?_)
            · exact absurd c_40 c40
            · refine r_aload dX6_shift_43 rfl ?_
              refine r_getI dX6_shift_45 k_X6_268 (by assumption) (by decide) rfl ?_
              refine r_iconst (v := -1) dX6_shift_48 (by decide) ?_
              rw [v1]
              refine r_icmp_ne (tgt := 55) dX6_shift_49 (by decide) (fun c_49 => ?_) (fun c_49 => ?_)
              · refine r_aload dX6_shift_55 rfl ?_
                refine r_getI dX6_shift_57 k_X6_268 (by assumption) (by decide) rfl ?_
                refine r_aload dX6_shift_60 rfl ?_
                refine r_getI dX6_shift_62 k_X6_268 (by assumption) (by decide) rfl ?_
                rw [q1, v1]
                refine r_icmp_eq (tgt := 71) dX6_shift_65 (by decide) (fun c_65 => ?_) (fun c_65 => ?_)
                · exact absurd c_65 c65
                · refine r_bipush (v := -12) dX6_shift_68 (by decide) ?_
                  refine r_ireturn dX6_shift_70 ⟨_, rfl, rfl⟩ ?_
                  exact ⟨rfl, H, hP, FrT.rf⟩
              · exact absurd c_49 c49
          · exact absurd c_13 some_t
