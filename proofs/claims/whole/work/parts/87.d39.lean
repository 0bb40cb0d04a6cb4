/-! shift -/
set_option maxRecDepth 100000 in
theorem m_X6_shift {G : WT} {l : Launch} (hG : GOK G) {h : Hp} {P : Tp} {t i o j n : Int32} (H : DTp h P) (hP : TpOK P) : Cl G l 2 yX6_shift cX6_shift 8 (some .int) [.ref (gA G 0), .int t, .int i, .int o, .int j, .int n] h (fun r h' => r = some (.int (shiftS P t i o j n).1) ∧ DTp h' (shiftS P t i o j n).2 ∧ TpOK (shiftS P t i o j n).2 ∧ FrT h h') := by
  refine Cl.of hG (by decide) (Nat.le_of_ble_eq_true rfl) ?_
  show Wp G l 2 RX6 cX6_shift 8 (some .int) 0 [.ref (gA G 0), .int t, .int i, .int o, .int j, .int n, mk0, mk0] [] h _
  cases ht : dec t 6 with
  | none =>
    have es : shiftS P t i o j n = (-1, P) := by rw [shiftS, ht]
    rw [es]
    refine r_iload_n dX6_shift_0 rfl ?_
    refine r_iconst (v := 5) dX6_shift_1 (by decide) ?_
    rw [show (5 : Int32) = nI 5 from rfl]
    refine r_callS dX6_shift_2 l_X6_78 o_X6_within s_X6_within rfl (m_X6_within hG (x := t) (m := 5) (by omega)) (by decide) rfl (Nat.le_of_ble_eq_true rfl) (fun r2 h2 hq2 => ?_)
    obtain ⟨rfl, rfl⟩ := hq2
    rw [ht]
    refine r_if_eq (tgt := 16) dX6_shift_5 (by decide) (fun c_5 => ?_) (fun c_5 => ?_)
    · refine r_iconst (v := -1) dX6_shift_16 (by decide) ?_
      refine r_ireturn dX6_shift_17 ⟨_, rfl, rfl⟩ ?_
      exact ⟨rfl, H, hP, FrT.rf⟩
    · exact absurd none_f c_5
  | some t1 =>
   obtain ⟨ht1, rfl, -⟩ := dec_some.mp ht
   cases ho : dec o 6 with
   | none =>
    have es : shiftS P (nI t1) i o j n = (-1, P) := by rw [shiftS, ht, ho]
    rw [es]
    refine r_iload_n dX6_shift_0 rfl ?_
    refine r_iconst (v := 5) dX6_shift_1 (by decide) ?_
    rw [show (5 : Int32) = nI 5 from rfl]
    refine r_callS dX6_shift_2 l_X6_78 o_X6_within s_X6_within rfl (m_X6_within hG (x := nI t1) (m := 5) (by omega)) (by decide) rfl (Nat.le_of_ble_eq_true rfl) (fun r2 h2 hq2 => ?_)
    obtain ⟨rfl, rfl⟩ := hq2
    rw [ht]
    refine r_if_eq (tgt := 16) dX6_shift_5 (by decide) (fun c_5 => ?_) (fun c_5 => ?_)
    · exact absurd c_5 some_t
    · refine r_iload_n dX6_shift_8 rfl ?_
      refine r_iconst (v := 5) dX6_shift_9 (by decide) ?_
      rw [show (5 : Int32) = nI 5 from rfl]
      refine r_callS dX6_shift_10 l_X6_78 o_X6_within s_X6_within rfl (m_X6_within hG (x := o) (m := 5) (by omega)) (by decide) rfl (Nat.le_of_ble_eq_true rfl) (fun r10 h10 hq10 => ?_)
      obtain ⟨rfl, rfl⟩ := hq10
      rw [ho]
      refine r_if_ne (tgt := 18) dX6_shift_13 (by decide) (fun c_13 => ?_) (fun c_13 => ?_)
      · exact absurd none_f c_13
      · refine r_iconst (v := -1) dX6_shift_16 (by decide) ?_
        refine r_ireturn dX6_shift_17 ⟨_, rfl, rfl⟩ ?_
        exact ⟨rfl, H, hP, FrT.rf⟩
   | some o1 =>
    obtain ⟨ho1, rfl, -⟩ := dec_some.mp ho
    sorry
