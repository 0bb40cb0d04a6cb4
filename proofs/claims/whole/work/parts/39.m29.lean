/-! the reference reads -/
def RAt (h : Hp) (X : Tx) (a : Nat) : Prop := RTx h X ∧ TxOK X ∧ h.1 134 13 = nI a ∧ a ≤ X.1
set_option maxRecDepth 100000 in
theorem m_X7_next {G : WT} {l : Launch} (hG : GOK G) {h : Hp} {X : Tx} {a : Nat} (H : RAt h X a) : Cl G l 1 yX7_next cX7_next 1 (some .int) [.ref (gA G 134)] h (fun r h' => r = some (.int (nxI X a)) ∧ h' = h) := by
  refine Cl.of hG (by decide) (Nat.le_of_ble_eq_true rfl) ?_
  show Wp G l 1 RX7 cX7_next 1 (some .int) 0 [.ref (gA G 134)] [] h _
  obtain ⟨h1, h2, h3, h4⟩ := H
  have h100 := h2.1
  by_cases ha : a < X.1
  · refine r_aload_n dX7_next_0 rfl ?_
    refine r_getI dX7_next_1 k_X7_50 rfl (by decide) rfl ?_
    refine r_aload_n dX7_next_4 rfl ?_
    refine r_getI dX7_next_5 k_X7_47 rfl (by decide) rfl ?_
    rw [h3, h1.1]
    refine r_icmp_ge (tgt := 23) dX7_next_8 (by decide) (fun c_8 => ?_) (fun c_8 => ?_)
    · exact absurd c_8 (nI_ge (by omega) (by omega))
    · refine r_aload_n dX7_next_11 rfl ?_
      refine r_getR (j := 141) dX7_next_12 k_X7_56 rfl (by decide) rfl rfl ?_
      refine r_aload_n dX7_next_15 rfl ?_
      refine r_getI dX7_next_16 k_X7_50 rfl (by decide) rfl ?_
      refine r_iald (a) dX7_next_19 rfl h3 (show a < 100 by omega) ?_
      refine r_goto (tgt := 24) dX7_next_20 (by decide) ?_
      refine r_ireturn dX7_next_24 ⟨_, rfl, rfl⟩ ?_
      exact ⟨by rw [nxI, if_pos ha, h1.2 a ha], rfl⟩
  · refine r_aload_n dX7_next_0 rfl ?_
    refine r_getI dX7_next_1 k_X7_50 rfl (by decide) rfl ?_
    refine r_aload_n dX7_next_4 rfl ?_
    refine r_getI dX7_next_5 k_X7_47 rfl (by decide) rfl ?_
    rw [h3, h1.1]
    refine r_icmp_ge (tgt := 23) dX7_next_8 (by decide) (fun c_8 => ?_) (fun c_8 => ?_)
    · refine r_iconst (v := -1) dX7_next_23 (by decide) ?_
      refine r_ireturn dX7_next_24 ⟨_, rfl, rfl⟩ ?_
      exact ⟨by rw [nxI, if_neg ha], rfl⟩
    · exact absurd (nI_le (by omega) (by omega)) c_8
set_option maxRecDepth 100000 in
theorem m_X7_second {G : WT} {l : Launch} (hG : GOK G) {h : Hp} {X : Tx} {a : Nat} (H : RAt h X a) : Cl G l 1 yX7_second cX7_second 1 (some .int) [.ref (gA G 134)] h (fun r h' => r = some (.int (nxI X (a + 1))) ∧ h' = h) := by
  refine Cl.of hG (by decide) (Nat.le_of_ble_eq_true rfl) ?_
  show Wp G l 1 RX7 cX7_second 1 (some .int) 0 [.ref (gA G 134)] [] h _
  obtain ⟨h1, h2, h3, h4⟩ := H
  have h100 := h2.1
  by_cases ha : a + 1 < X.1
  · refine r_aload_n dX7_second_0 rfl ?_
    refine r_getI dX7_second_1 k_X7_50 rfl (by decide) rfl ?_
    refine r_iconst (v := 1) dX7_second_4 (by decide) ?_
    refine r_iadd dX7_second_5 ?_
    refine r_aload_n dX7_second_6 rfl ?_
    refine r_getI dX7_second_7 k_X7_47 rfl (by decide) rfl ?_
    rw [h3, h1.1, nI_1]
    refine r_icmp_ge (tgt := 27) dX7_second_10 (by decide) (fun c_10 => ?_) (fun c_10 => ?_)
    · exact absurd c_10 (nI_ge (by omega) (by omega))
    · refine r_aload_n dX7_second_13 rfl ?_
      refine r_getR (j := 141) dX7_second_14 k_X7_56 rfl (by decide) rfl rfl ?_
      refine r_aload_n dX7_second_17 rfl ?_
      refine r_getI dX7_second_18 k_X7_50 rfl (by decide) rfl ?_
      refine r_iconst (v := 1) dX7_second_21 (by decide) ?_
      refine r_iadd dX7_second_22 ?_
      refine r_iald (a + 1) dX7_second_23 rfl (by rw [h3, nI_1]) (show a + 1 < 100 by omega) ?_
      refine r_goto (tgt := 28) dX7_second_24 (by decide) ?_
      refine r_ireturn dX7_second_28 ⟨_, rfl, rfl⟩ ?_
      exact ⟨by rw [nxI, if_pos ha, h1.2 (a + 1) ha], rfl⟩
  · refine r_aload_n dX7_second_0 rfl ?_
    refine r_getI dX7_second_1 k_X7_50 rfl (by decide) rfl ?_
    refine r_iconst (v := 1) dX7_second_4 (by decide) ?_
    refine r_iadd dX7_second_5 ?_
    refine r_aload_n dX7_second_6 rfl ?_
    refine r_getI dX7_second_7 k_X7_47 rfl (by decide) rfl ?_
    rw [h3, h1.1, nI_1]
    refine r_icmp_ge (tgt := 27) dX7_second_10 (by decide) (fun c_10 => ?_) (fun c_10 => ?_)
    · refine r_iconst (v := -1) dX7_second_27 (by decide) ?_
      refine r_ireturn dX7_second_28 ⟨_, rfl, rfl⟩ ?_
      exact ⟨by rw [nxI, if_neg ha], rfl⟩
    · exact absurd (nI_le (by omega) (by omega)) c_10
theorem RAt.mv {h : Hp} {X : Tx} {a b : Nat} (H : RAt h X a) (hb : b ≤ X.1) : RAt (setI h 134 13 (nI b)) X b := by
  obtain ⟨⟨h1, h5⟩, h2, h3, h4⟩ := H
  exact ⟨⟨by rw [setI_nj (by decide)]; exact h1, fun j hj => by rw [setI_ne (by decide)]; exact h5 j hj⟩, h2, setI_at, hb⟩
theorem RAt.fr {h h' : Hp} {X : Tx} {a : Nat} {S : Nat → Nat → Bool} (H : RAt h X a) (hF : Fr S h h') (s1 : S 134 12 = false) (s2 : ∀ j, S 141 j = false) (s3 : S 134 13 = false) : RAt h' X a := by
  obtain ⟨⟨h1, h5⟩, h2, h3, h4⟩ := H
  exact ⟨⟨by rw [hF.1 _ _ s1]; exact h1, fun j hj => by rw [hF.1 _ _ (s2 j)]; exact h5 j hj⟩, h2, by rw [hF.1 _ _ s3]; exact h3, h4⟩
set_option maxRecDepth 100000 in
theorem m_X7_takes {G : WT} {l : Launch} (hG : GOK G) {h : Hp} {X : Tx} {a c : Nat} (H : RAt h X a) (hc : c < 128) : Cl G l 2 yX7_takes cX7_takes 2 (some .boolean) [.ref (gA G 134), .int (nI c)] h (fun r h' => (nx X a = c → r = some (.int 1) ∧ h' = setI h 134 13 (nI (a + 1))) ∧ (¬ nx X a = c → r = some (.int 0) ∧ h' = h)) := by
  refine Cl.of hG (by decide) (Nat.le_of_ble_eq_true rfl) ?_
  show Wp G l 2 RX7 cX7_takes 2 (some .boolean) 0 [.ref (gA G 134), .int (nI c)] [] h _
  refine r_aload_n dX7_takes_0 rfl ?_
  refine r_callV dX7_takes_1 l_X7_224 o_X7_next v_X7_next rfl (by decide) rfl rfl (m_X7_next hG H) (by decide) rfl (Nat.le_of_ble_eq_true rfl) (fun r1 h1 hq1 => ?_)
  obtain ⟨rfl, e1⟩ := hq1
  rw [e1]
  clear e1 h1
  refine r_iload_n dX7_takes_4 rfl ?_
  refine r_icmp_eq (tgt := 10) dX7_takes_5 (by decide) (fun c_5 => ?_) (fun c_5 => ?_)
  · refine r_aload_n dX7_takes_10 rfl ?_
    refine r_dup dX7_takes_11 rfl ?_
    refine r_getI dX7_takes_12 k_X7_50 rfl (by decide) rfl ?_
    refine r_iconst (v := 1) dX7_takes_15 (by decide) ?_
    refine r_iadd dX7_takes_16 ?_
    rw [H.2.2.1, nI_1]
    refine r_putI dX7_takes_17 k_X7_50 rfl (by decide) rfl rfl rfl rfl ?_
    refine r_iconst (v := 1) dX7_takes_20 (by decide) ?_
    refine r_ireturn dX7_takes_21 ⟨_, rfl, rfl⟩ ?_
    exact ⟨fun _ => ⟨rfl, rfl⟩, fun q => absurd ((nxI_eq H.2.1 hc).mp c_5) q⟩
  · refine r_iconst (v := 0) dX7_takes_8 (by decide) ?_
    refine r_ireturn dX7_takes_9 ⟨_, rfl, rfl⟩ ?_
    exact ⟨fun q => absurd ((nxI_eq H.2.1 hc).mpr q) c_5, fun _ => ⟨rfl, rfl⟩⟩
theorem nx_dig {X : Tx} (hX : TxOK X) (a : Nat) : inP (nxI X a) 48 57 = digS (nx X a) := by
  cases hd : digS (nx X a) with
  | true =>
    have q := of_decide_eq_true hd
    exact (in_nn (a := 48) (b := 57) (by omega) (by omega)).mpr ⟨nx X a, q.1, q.2, (nxI_eq hX (by omega)).mpr rfl⟩
  | false =>
    cases hi : inP (nxI X a) 48 57 with
    | false => rfl
    | true =>
      obtain ⟨j, j1, j2, j3⟩ := (in_nn (a := 48) (b := 57) (by omega) (by omega)).mp hi
      have := (nxI_eq hX (by omega)).mp j3
      have h2 : digS (nx X a) = true := decide_eq_true (by omega)
      rw [hd] at h2
      cases h2
set_option maxRecDepth 100000 in
theorem m_X7_isDigit {G : WT} {l : Launch} (hG : GOK G) {h : Hp} {X : Tx} {a : Nat} (H : RAt h X a) : Cl G l 2 yX7_isDigit cX7_isDigit 1 (some .boolean) [.ref (gA G 134)] h (fun r h' => r = some (.int (b01 (digS (nx X a)))) ∧ h' = h) := by
  refine Cl.of hG (by decide) (Nat.le_of_ble_eq_true rfl) ?_
  show Wp G l 2 RX7 cX7_isDigit 1 (some .boolean) 0 [.ref (gA G 134)] [] h _
  refine r_aload_n dX7_isDigit_0 rfl ?_
  refine r_aload_n dX7_isDigit_1 rfl ?_
  refine r_callV dX7_isDigit_2 l_X7_224 o_X7_next v_X7_next rfl (by decide) rfl rfl (m_X7_next hG H) (by decide) rfl (Nat.le_of_ble_eq_true rfl) (fun r2 h2 hq2 => ?_)
  obtain ⟨rfl, e2⟩ := hq2
  rw [e2]
  clear e2 h2
  refine r_bipush (v := 48) dX7_isDigit_5 (by decide) ?_
  refine r_bipush (v := 57) dX7_isDigit_7 (by decide) ?_
  refine r_callV dX7_isDigit_9 l_X7_212 o_X7_in v_X7_in rfl (by decide) rfl rfl (m_X7_in hG) (by decide) rfl (Nat.le_of_ble_eq_true rfl) (fun r9 h9 hq9 => ?_)
  obtain ⟨rfl, e9⟩ := hq9
  rw [e9]
  clear e9 h9
  rw [nx_dig H.2.1]
  refine r_ireturn dX7_isDigit_12 ⟨_, rfl, (b01_nar _)⟩ ?_
  exact ⟨rfl, rfl⟩
def nuF (a i : Nat) : Bool := a == 134 && (i == 13 || i == 14)
theorem num_step {G : WT} {l : Launch} (hG : GOK G) {h : Hp} {X : Tx} {a v k : Nat} {Q : Option Value → Hp → Prop} (hk : k < 2) (hv : v ≤ 9) (H : RAt h X a) (hd : digS (nx X a) = true) (h2 : h.1 134 14 = nI v)
    (c : Wp G l 3 RX7 cX7_takesNumber 2 (some .boolean) 16 [.ref (gA G 134), .int (nI (k + 1))] [] (setI (setI h 134 14 (nI (10 * v + (nx X a - 48)))) 134 13 (nI (a + 1))) Q) : Wp G l 3 RX7 cX7_takesNumber 2 (some .boolean) 16 [.ref (gA G 134), .int (nI k)] [] h Q := by
  have q1 := of_decide_eq_true hd
  have en1 : nxI X a = nI (nx X a) := (nxI_eq H.2.1 (by omega)).mpr rfl
  refine r_iload_n dX7_takesNumber_16 rfl ?_
  refine r_iconst (v := 2) dX7_takesNumber_17 (by decide) ?_
  refine r_icmp_ge (tgt := 63) dX7_takesNumber_18 (by decide) (fun c_18 => ?_) (fun c_18 => ?_)
  · exact absurd c_18 (nI_ge (a := k) (b := 2) (by omega) (by omega))
  · refine r_aload_n dX7_takesNumber_21 rfl ?_
    refine r_callV dX7_takesNumber_22 l_X7_231 o_X7_isDigit v_X7_isDigit rfl (by decide) rfl rfl (m_X7_isDigit hG H) (by decide) rfl (Nat.le_of_ble_eq_true rfl) (fun r22 h22 hq22 => ?_)
    obtain ⟨rfl, e22⟩ := hq22
    rw [e22]
    clear e22 h22
    refine r_if_eq (tgt := 63) dX7_takesNumber_25 (by decide) (fun c_25 => ?_) (fun c_25 => ?_)
    · exact absurd c_25 (b01_n0.mpr hd)
    · refine r_aload_n dX7_takesNumber_28 rfl ?_
      refine r_bipush (v := 10) dX7_takesNumber_29 (by decide) ?_
      refine r_aload_n dX7_takesNumber_31 rfl ?_
      refine r_getI dX7_takesNumber_32 k_X7_53 rfl (by decide) rfl ?_
      refine r_imul dX7_takesNumber_35 ?_
      refine r_aload_n dX7_takesNumber_36 rfl ?_
      rw [h2]
      refine r_callV dX7_takesNumber_37 l_X7_224 o_X7_next v_X7_next rfl (by decide) rfl rfl (m_X7_next hG H) (by decide) rfl (Nat.le_of_ble_eq_true rfl) (fun r37 h37 hq37 => ?_)
      obtain ⟨rfl, e37⟩ := hq37
      rw [e37]
      clear e37 h37
      refine r_iadd dX7_takesNumber_40 ?_
      refine r_bipush (v := 48) dX7_takesNumber_41 (by decide) ?_
      refine r_isub dX7_takesNumber_43 ?_
      rw [en1, show 10 * nI v + nI (nx X a) - 48 = nI (10 * v + (nx X a - 48)) by rw [show (10 : Int32) = nI 10 from rfl, show (48 : Int32) = nI 48 from rfl, pk_mul, nI_add, pk_sub (by omega)]; congr 1; omega]
      refine r_putI dX7_takesNumber_44 k_X7_53 rfl (by decide) rfl rfl rfl rfl ?_
      refine r_aload_n dX7_takesNumber_47 rfl ?_
      refine r_dup dX7_takesNumber_48 rfl ?_
      refine r_getI dX7_takesNumber_49 k_X7_50 rfl (by decide) rfl ?_
      refine r_iconst (v := 1) dX7_takesNumber_52 (by decide) ?_
      refine r_iadd dX7_takesNumber_53 ?_
      rw [setI_nj (by decide), H.2.2.1, nI_1]
      refine r_putI dX7_takesNumber_54 k_X7_50 rfl (by decide) rfl rfl rfl rfl ?_
      refine r_iinc dX7_takesNumber_57 rfl (by first | exact nI_inc _ | rfl) (by decide) rfl rfl ?_
      dsimp only [List.set]
      refine r_goto (tgt := 16) dX7_takesNumber_60 (by decide) ?_
      exact c
theorem num_stop {G : WT} {l : Launch} (hG : GOK G) {h : Hp} {X : Tx} {a k : Nat} {Q : Option Value → Hp → Prop} (hk : k ≤ 2) (H : RAt h X a) (hd : k = 2 ∨ digS (nx X a) = false) (c : Q (some (.int 1)) h) : Wp G l 3 RX7 cX7_takesNumber 2 (some .boolean) 16 [.ref (gA G 134), .int (nI k)] [] h Q := by
  by_cases h2 : k = 2
  · subst h2
    refine r_iload_n dX7_takesNumber_16 rfl ?_
    refine r_iconst (v := 2) dX7_takesNumber_17 (by decide) ?_
    refine r_icmp_ge (tgt := 63) dX7_takesNumber_18 (by decide) (fun c_18 => ?_) (fun c_18 => ?_)
    · refine r_iconst (v := 1) dX7_takesNumber_63 (by decide) ?_
      refine r_ireturn dX7_takesNumber_64 ⟨_, rfl, rfl⟩ ?_
      exact c
    · exact absurd (Int32.le_refl _) c_18
  · have hd : digS (nx X a) = false := hd.resolve_left h2
    refine r_iload_n dX7_takesNumber_16 rfl ?_
    refine r_iconst (v := 2) dX7_takesNumber_17 (by decide) ?_
    refine r_icmp_ge (tgt := 63) dX7_takesNumber_18 (by decide) (fun c_18 => ?_) (fun c_18 => ?_)
    · exact absurd c_18 (nI_ge (a := k) (b := 2) (by omega) (by omega))
    · refine r_aload_n dX7_takesNumber_21 rfl ?_
      refine r_callV dX7_takesNumber_22 l_X7_231 o_X7_isDigit v_X7_isDigit rfl (by decide) rfl rfl (m_X7_isDigit hG H) (by decide) rfl (Nat.le_of_ble_eq_true rfl) (fun r22 h22 hq22 => ?_)
      obtain ⟨rfl, e22⟩ := hq22
      rw [e22]
      clear e22 h22
      refine r_if_eq (tgt := 63) dX7_takesNumber_25 (by decide) (fun c_25 => ?_) (fun c_25 => ?_)
      · refine r_iconst (v := 1) dX7_takesNumber_63 (by decide) ?_
        refine r_ireturn dX7_takesNumber_64 ⟨_, rfl, rfl⟩ ?_
        exact c
      · exact absurd (by rw [hd]; rfl) c_25
set_option maxRecDepth 100000 in
theorem m_X7_takesNumber {G : WT} {l : Launch} (hG : GOK G) {h : Hp} {X : Tx} {a : Nat} (H : RAt h X a) : Cl G l 3 yX7_takesNumber cX7_takesNumber 2 (some .boolean) [.ref (gA G 134)] h (fun r h' => (numS X a = none → r = some (.int 0) ∧ h' = h) ∧ (∀ b v, numS X a = some (b, v) → r = some (.int 1) ∧ RAt h' X b ∧ h'.1 134 14 = nI v ∧ Fr nuF h h')) := by
  refine Cl.of hG (by decide) (Nat.le_of_ble_eq_true rfl) ?_
  show Wp G l 3 RX7 cX7_takesNumber 2 (some .boolean) 0 [.ref (gA G 134), mk0] [] h _
  have hX := H.2.1
  cases d1 : digS (nx X a) with
  | false =>
    have e : numS X a = none := by rw [numS, d1, if_neg Bool.false_ne_true]
    refine r_aload_n dX7_takesNumber_0 rfl ?_
    refine r_callV dX7_takesNumber_1 l_X7_231 o_X7_isDigit v_X7_isDigit rfl (by decide) rfl rfl (m_X7_isDigit hG H) (by decide) rfl (Nat.le_of_ble_eq_true rfl) (fun r1 h1 hq1 => ?_)
    obtain ⟨rfl, e1⟩ := hq1
    rw [e1]
    clear e1 h1
    refine r_if_ne (tgt := 9) dX7_takesNumber_4 (by decide) (fun c_4 => ?_) (fun c_4 => ?_)
    · exact absurd (by rw [d1]; rfl) c_4
    · refine r_iconst (v := 0) dX7_takesNumber_7 (by decide) ?_
      refine r_ireturn dX7_takesNumber_8 ⟨_, rfl, rfl⟩ ?_
      exact ⟨fun _ => ⟨rfl, rfl⟩, fun b v q => by rw [e] at q; cases q⟩
  | true =>
    have q1 := of_decide_eq_true d1
    have a1 := nx_in2 (X := X) (a := a) (by omega)
    have F0 : Fr nuF h (setI h 134 14 0) := Fr.set rfl
    have H0 : RAt (setI h 134 14 0) X a := H.fr (Fr.set (S := fun a i => a == 134 && i == 14) rfl) rfl (fun _ => rfl) rfl
    have F1 : Fr nuF (setI h 134 14 0) (setI (setI (setI h 134 14 0) 134 14 (nI (10 * 0 + (nx X a - 48)))) 134 13 (nI (a + 1))) := (Fr.set rfl).tr (Fr.set rfl)
    have H1 : RAt (setI (setI (setI h 134 14 0) 134 14 (nI (10 * 0 + (nx X a - 48)))) 134 13 (nI (a + 1))) X (a + 1) := (H0.fr (Fr.set (S := fun a i => a == 134 && i == 14) rfl) rfl (fun _ => rfl) rfl).mv a1
    refine r_aload_n dX7_takesNumber_0 rfl ?_
    refine r_callV dX7_takesNumber_1 l_X7_231 o_X7_isDigit v_X7_isDigit rfl (by decide) rfl rfl (m_X7_isDigit hG H) (by decide) rfl (Nat.le_of_ble_eq_true rfl) (fun r1 h1 hq1 => ?_)
    obtain ⟨rfl, e1⟩ := hq1
    rw [e1]
    clear e1 h1
    refine r_if_ne (tgt := 9) dX7_takesNumber_4 (by decide) (fun c_4 => ?_) (fun c_4 => ?_)
    · refine r_aload_n dX7_takesNumber_9 rfl ?_
      refine r_iconst (v := 0) dX7_takesNumber_10 (by decide) ?_
      refine r_putI dX7_takesNumber_11 k_X7_53 rfl (by decide) rfl rfl rfl rfl ?_
      refine r_iconst (v := 0) dX7_takesNumber_14 (by decide) ?_
      refine r_istore_n dX7_takesNumber_15 (by decide) rfl rfl ?_
      dsimp only [List.set]
      refine num_step hG (v := 0) (k := 0) (by omega) (by omega) H0 d1 setI_at ?_
      cases d2 : digS (nx X (a + 1)) with
      | false =>
        have e : numS X a = some (a + 1, nx X a - 48) := by rw [numS, d1, d2, if_pos rfl, if_neg Bool.false_ne_true]
        refine num_stop hG (k := 1) (by omega) H1 (Or.inr d2) ⟨fun q => (by rw [e] at q; cases q), fun b v q => ?_⟩
        rw [e] at q
        cases q
        refine ⟨rfl, H1, ?_, F0.tr F1⟩
        rw [setI_nj (by decide), setI_at]
        congr 1
        omega
      | true =>
        have q2 := of_decide_eq_true d2
        have a2 := nx_in2 (X := X) (a := a + 1) (by omega)
        have e : numS X a = some (a + 2, 10 * (nx X a - 48) + (nx X (a + 1) - 48)) := by rw [numS, d1, d2, if_pos rfl, if_pos rfl]
        refine num_step hG (v := nx X a - 48) (k := 1) (by omega) (by omega) H1 d2 (by rw [setI_nj (by decide), setI_at]; congr 1; omega) ?_
        have H2 := (H1.fr (Fr.set (S := fun a i => a == 134 && i == 14) (k := 134) (i := 14) (v := nI (10 * (nx X a - 48) + (nx X (a + 1) - 48))) rfl) rfl (fun _ => rfl) rfl).mv (b := a + 2) a2
        refine num_stop hG (k := 2) (by omega) H2 (Or.inl rfl) ⟨fun q => (by rw [e] at q; cases q), fun b v q => ?_⟩
        rw [e] at q
        cases q
        refine ⟨rfl, H2, ?_, (F0.tr F1).tr ((Fr.set rfl).tr (Fr.set rfl))⟩
        rw [setI_nj (by decide), setI_at]
    · exact absurd c_4 (b01_n0.mpr d1)
