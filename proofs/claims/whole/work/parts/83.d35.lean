/-! item, tape -/
def FrT (h h' : Hp) : Prop := (∀ a i, a < 122 ∨ 133 < a → h'.1 a i = h.1 a i) ∧ (∀ a i, a < 122 ∨ 133 < a → h'.2.1 a i = h.2.1 a i) ∧ h'.2.2 = h.2.2
theorem FrT.rf {h : Hp} : FrT h h := ⟨fun _ _ _ => rfl, fun _ _ _ => rfl, rfl⟩
theorem TpOK.up {P : Tp} {t : Nat} {x : Nat × Nat × (Nat → Int64)} (H : TpOK P) (h1 : x.1 ≤ 5 ∧ x.2.1 ≤ 60 ∧ (x.1 = 0 → x.2.1 = 0)) : TpOK (updP P t x) := fun o ho => by
  by_cases e : o = t
  · rw [updP, if_pos e]; exact h1
  · rw [updP, if_neg e]; exact H o ho
theorem DTp.up {h h' : Hp} {P : Tp} {t : Nat} {x : Nat × Nat × (Nat → Int64)} (H : DTp h P) (h1 : h'.1 (122 + 2 * t) 1 = nI x.1 - 1 ∧ h'.1 (122 + 2 * t) 2 = nI x.2.1 ∧ ∀ k, k < 60 → h'.2.1 (123 + 2 * t) k = x.2.2 k) (h2 : ∀ o i, ¬ o = t → h'.1 (122 + 2 * o) i = h.1 (122 + 2 * o) i ∧ h'.2.1 (123 + 2 * o) i = h.2.1 (123 + 2 * o) i) : DTp h' (updP P t x) := fun o ho => by
  by_cases e : o = t
  · rw [updP, if_pos e, e]; exact h1
  · rw [updP, if_neg e, (h2 o _ e).1, (h2 o _ e).1]
    obtain ⟨y1, y2, y3⟩ := H o ho
    exact ⟨y1, y2, fun k hk => by rw [(h2 o _ e).2]; exact y3 k hk⟩
theorem sort_m1 {q : Nat} (hq : q ≤ 1000) : nI q - 1 = -1 ↔ q = 0 := by
  constructor
  · intro y
    have := congrArg Int32.toInt y
    rw [nI_pred0 hq, show ((-1 : Int32)).toInt = -1 from rfl] at this
    omega
  · intro y; rw [y]; rfl
set_option maxRecDepth 100000 in
theorem m_X6_item {G : WT} {l : Launch} (hG : GOK G) {h : Hp} {P : Tp} {t i : Int32} {z : Int64} (H : DTp h P) (hP : TpOK P) : Cl G l 3 yX6_item cX6_item 5 (some .int) [.ref (gA G 0), .int t, .int i, .long z] h (fun r h' => r = some (.int (itemS P t i z).1) ∧ DTp h' (itemS P t i z).2 ∧ TpOK (itemS P t i z).2 ∧ FrT h h') := by
  refine Cl.of hG (by decide) (Nat.le_of_ble_eq_true rfl) ?_
  show Wp G l 3 RX6 cX6_item 5 (some .int) 0 [.ref (gA G 0), .int t, .int i, .long z, mk0] [] h _
  cases ht : dec t 6 with
  | none =>
    have es : itemS P t i z = (-1, P) := by rw [itemS, ht]
    rw [es]
    refine r_iload_n dX6_item_0 rfl ?_
    refine r_iconst (v := 5) dX6_item_1 (by decide) ?_
    rw [show (5 : Int32) = nI 5 from rfl]
    refine r_callS dX6_item_2 l_X6_78 o_X6_within s_X6_within rfl (m_X6_within hG (x := t) (m := 5) (by omega)) (by decide) rfl (Nat.le_of_ble_eq_true rfl) (fun r2 h2 hq2 => ?_)
    obtain ⟨rfl, rfl⟩ := hq2
    rw [ht]
    refine r_if_ne (tgt := 10) dX6_item_5 (by decide) (fun c_5 => ?_) (fun c_5 => ?_)
    · exact absurd none_f c_5
    · refine r_iconst (v := -1) dX6_item_8 (by decide) ?_
      refine r_ireturn dX6_item_9 ⟨_, rfl, rfl⟩ ?_
      exact ⟨rfl, H, hP, FrT.rf⟩
  | some t1 =>
    obtain ⟨ht1, rfl, -⟩ := dec_some.mp ht
    obtain ⟨p1, p2, p3⟩ := hP t1 ht1
    obtain ⟨q1, q2, q3⟩ := H t1 ht1
    obtain ⟨s1, s2⟩ := tp_s ht1
    by_cases hq : (P t1).1 = 0
    · have es : itemS P (nI t1) i z = (-11, P) := by rw [itemS, ht]; dsimp only; rw [if_pos hq]
      rw [es]
      refine r_iload_n dX6_item_0 rfl ?_
      refine r_iconst (v := 5) dX6_item_1 (by decide) ?_
      rw [show (5 : Int32) = nI 5 from rfl]
      refine r_callS dX6_item_2 l_X6_78 o_X6_within s_X6_within rfl (m_X6_within hG (x := nI t1) (m := 5) (by omega)) (by decide) rfl (Nat.le_of_ble_eq_true rfl) (fun r2 h2 hq2 => ?_)
      obtain ⟨rfl, rfl⟩ := hq2
      rw [ht]
      refine r_if_ne (tgt := 10) dX6_item_5 (by decide) (fun c_5 => ?_) (fun c_5 => ?_)
      · refine r_aload_n dX6_item_10 rfl ?_
        refine r_getR (j := 34) dX6_item_11 k_X6_58 rfl (by decide) rfl rfl ?_
        refine r_iload_n dX6_item_14 rfl ?_
        refine r_aald (t1) dX6_item_15 rfl (by decide) rfl (show t1 < 6 by omega) ?_
        rw [s1]
        refine r_getI dX6_item_16 k_X6_268 (by assumption) (by decide) rfl ?_
        refine r_iconst (v := -1) dX6_item_19 (by decide) ?_
        rw [q1]
        refine r_icmp_ne (tgt := 26) dX6_item_20 (by decide) (fun c_20 => ?_) (fun c_20 => ?_)
        · exact absurd ((sort_m1 (by omega)).mpr hq) c_20
        · refine r_bipush (v := -11) dX6_item_23 (by decide) ?_
          refine r_ireturn dX6_item_25 ⟨_, rfl, rfl⟩ ?_
          exact ⟨rfl, H, hP, FrT.rf⟩
      · exact absurd c_5 some_t
    · have c20 : ¬ nI (P t1).1 - 1 = -1 := fun y => hq ((sort_m1 (by omega)).mp y)
      cases hi : dec i (P t1).2.1 with
      | none =>
        have es : itemS P (nI t1) i z = (-13, P) := by rw [itemS, ht]; dsimp only; rw [if_neg hq, hi]
        rw [es]
        refine r_iload_n dX6_item_0 rfl ?_
        refine r_iconst (v := 5) dX6_item_1 (by decide) ?_
        rw [show (5 : Int32) = nI 5 from rfl]
        refine r_callS dX6_item_2 l_X6_78 o_X6_within s_X6_within rfl (m_X6_within hG (x := nI t1) (m := 5) (by omega)) (by decide) rfl (Nat.le_of_ble_eq_true rfl) (fun r2 h2 hq2 => ?_)
        obtain ⟨rfl, rfl⟩ := hq2
        rw [ht]
        refine r_if_ne (tgt := 10) dX6_item_5 (by decide) (fun c_5 => ?_) (fun c_5 => ?_)
        · refine r_aload_n dX6_item_10 rfl ?_
          refine r_getR (j := 34) dX6_item_11 k_X6_58 rfl (by decide) rfl rfl ?_
          refine r_iload_n dX6_item_14 rfl ?_
          refine r_aald (t1) dX6_item_15 rfl (by decide) rfl (show t1 < 6 by omega) ?_
          rw [s1]
          refine r_getI dX6_item_16 k_X6_268 (by assumption) (by decide) rfl ?_
          refine r_iconst (v := -1) dX6_item_19 (by decide) ?_
          rw [q1]
          refine r_icmp_ne (tgt := 26) dX6_item_20 (by decide) (fun c_20 => ?_) (fun c_20 => ?_)
          · refine r_aload_n dX6_item_26 rfl ?_
            refine r_getR (j := 34) dX6_item_27 k_X6_58 rfl (by decide) rfl rfl ?_
            refine r_iload_n dX6_item_30 rfl ?_
            refine r_aald (t1) dX6_item_31 rfl (by decide) rfl (show t1 < 6 by omega) ?_
            rw [s1]
            refine r_iload_n dX6_item_32 rfl ?_
            refine r_callV dX6_item_33 l_X6_272 o_X5_has v_X5_has (by assumption) (by decide) rfl rfl (m_X5_has hG (x := i) s2 p2 q2) (by decide) rfl (Nat.le_of_ble_eq_true rfl) (fun r33 h33 hq33 => ?_)
            obtain ⟨rfl, rfl⟩ := hq33
            rw [hi]
            refine r_if_ne (tgt := 42) dX6_item_36 (by decide) (fun c_36 => ?_) (fun c_36 => ?_)
            · exact absurd none_f c_36
            · refine r_bipush (v := -13) dX6_item_39 (by decide) ?_
              refine r_ireturn dX6_item_41 ⟨_, rfl, rfl⟩ ?_
              exact ⟨rfl, H, hP, FrT.rf⟩
          · exact absurd c_20 c20
        · exact absurd c_5 some_t
      | some i1 =>
        obtain ⟨hi1, rfl, -⟩ := dec_some.mp hi
        have es : itemS P (nI t1) (nI i1) z = (1, updP P t1 ((P t1).1, (P t1).2.1, fun k => if k = i1 then narS (P t1).1 z else (P t1).2.2 k)) := by rw [itemS, ht]; dsimp only; rw [if_neg hq, hi]
        rw [es]
        refine r_iload_n dX6_item_0 rfl ?_
        refine r_iconst (v := 5) dX6_item_1 (by decide) ?_
        rw [show (5 : Int32) = nI 5 from rfl]
        refine r_callS dX6_item_2 l_X6_78 o_X6_within s_X6_within rfl (m_X6_within hG (x := nI t1) (m := 5) (by omega)) (by decide) rfl (Nat.le_of_ble_eq_true rfl) (fun r2 h2 hq2 => ?_)
        obtain ⟨rfl, rfl⟩ := hq2
        rw [ht]
        refine r_if_ne (tgt := 10) dX6_item_5 (by decide) (fun c_5 => ?_) (fun c_5 => ?_)
        · refine r_aload_n dX6_item_10 rfl ?_
          refine r_getR (j := 34) dX6_item_11 k_X6_58 rfl (by decide) rfl rfl ?_
          refine r_iload_n dX6_item_14 rfl ?_
          refine r_aald (t1) dX6_item_15 rfl (by decide) rfl (show t1 < 6 by omega) ?_
          rw [s1]
          refine r_getI dX6_item_16 k_X6_268 (by assumption) (by decide) rfl ?_
          refine r_iconst (v := -1) dX6_item_19 (by decide) ?_
          rw [q1]
          refine r_icmp_ne (tgt := 26) dX6_item_20 (by decide) (fun c_20 => ?_) (fun c_20 => ?_)
          · refine r_aload_n dX6_item_26 rfl ?_
            refine r_getR (j := 34) dX6_item_27 k_X6_58 rfl (by decide) rfl rfl ?_
            refine r_iload_n dX6_item_30 rfl ?_
            refine r_aald (t1) dX6_item_31 rfl (by decide) rfl (show t1 < 6 by omega) ?_
            rw [s1]
            refine r_iload_n dX6_item_32 rfl ?_
            refine r_callV dX6_item_33 l_X6_272 o_X5_has v_X5_has (by assumption) (by decide) rfl rfl (m_X5_has hG (x := nI i1) s2 p2 q2) (by decide) rfl (Nat.le_of_ble_eq_true rfl) (fun r33 h33 hq33 => ?_)
            obtain ⟨rfl, rfl⟩ := hq33
            rw [hi]
            refine r_if_ne (tgt := 42) dX6_item_36 (by decide) (fun c_36 => ?_) (fun c_36 => ?_)
            · refine r_aload_n dX6_item_42 rfl ?_
              refine r_getR (j := 34) dX6_item_43 k_X6_58 rfl (by decide) rfl rfl ?_
              refine r_iload_n dX6_item_46 rfl ?_
              refine r_aald (t1) dX6_item_47 rfl (by decide) rfl (show t1 < 6 by omega) ?_
              rw [s1]
              refine r_iload_n dX6_item_48 rfl ?_
              refine r_lload_n dX6_item_49 rfl ?_
              refine r_callV dX6_item_50 l_X6_294 o_X5_put v_X5_put (by assumption) (by decide) rfl rfl (m_X5_put hG (z := z) s2 p2 q2 q1 hq p1 hi1) (by decide) rfl (Nat.le_of_ble_eq_true rfl) (fun r50 h50 hq50 => ?_)
              obtain ⟨rfl, rfl⟩ := hq50
              refine r_iconst (v := 1) dX6_item_53 (by decide) ?_
              refine r_ireturn dX6_item_54 ⟨_, rfl, rfl⟩ ?_
              refine ⟨rfl, H.up ⟨q1, q2, fun k hk => ?_⟩ (fun o i9 ho => ⟨rfl, ?_⟩), hP.up ⟨p1, p2, p3⟩, fun a i9 ha => rfl, fun a i9 ha => ?_, rfl⟩
              · show _ = if k = i1 then narS (P t1).1 z else (P t1).2.2 k
                rw [setL_2]
                by_cases e : k = i1
                · rw [if_pos ⟨by omega, e⟩, if_pos e]
                · rw [if_neg (fun y => e y.2), if_neg e]; exact q3 k hk
              · rw [setL_2, if_neg (by omega)]
              · rw [setL_2, if_neg (by omega)]
            · exact absurd c_36 some_t
          · exact absurd c_20 c20
        · exact absurd c_5 some_t
