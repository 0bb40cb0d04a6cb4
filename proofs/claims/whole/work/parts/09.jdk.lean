/-! the JDK's own methods -/
theorem fill_loop {G : WT} {l : Launch} {h : Hp} {a : Nat} {v : Int32} {Q : Option Value → Hp → Prop} (ha : ksh a = 8) (hQ : Q none (rowI h a (fun j => if j < lnt a then v else h.1 a j))) : ∀ n k : Nat, k + n = lnt a → Wp G l 1 RJ7 cJ7_fill_53178 4 none 5 [.ref (gA G a), .int v, .int (nI k), .int (nI (lnt a))] [] (rowI h a (fun j => if j < k then v else h.1 a j)) Q := by
  have hs := ln_small a
  intro n
  induction n with
  | zero =>
    intro k hk
    have e : k = lnt a := by omega
    subst e
    refine r_iload_n dJ7_fill_53178_5 rfl ?_
    refine r_iload_n dJ7_fill_53178_6 rfl ?_
    refine r_icmp_ge (tgt := 20) dJ7_fill_53178_7 (by decide) (fun c_7 => ?_) (fun c_7 => ?_)
    · refine r_return dJ7_fill_53178_20 rfl ?_
      exact hQ
    · exact absurd (Int32.le_refl _) c_7
  | succ n ih =>
    intro k hk
    refine r_iload_n dJ7_fill_53178_5 rfl ?_
    refine r_iload_n dJ7_fill_53178_6 rfl ?_
    refine r_icmp_ge (tgt := 20) dJ7_fill_53178_7 (by decide) (fun c_7 => ?_) (fun c_7 => ?_)
    · exact absurd c_7 (nI_ge (by omega) hs)
    · refine r_aload_n dJ7_fill_53178_10 rfl ?_
      refine r_iload_n dJ7_fill_53178_11 rfl ?_
      refine r_iload_n dJ7_fill_53178_12 rfl ?_
      refine r_iast (k) dJ7_fill_53178_13 (by assumption) rfl (by omega) ?_
      rw [setI_row]
      refine r_iinc dJ7_fill_53178_14 rfl (by first | exact nI_inc _ | rfl) (by decide) rfl rfl ?_
      dsimp only [List.set]
      refine r_goto (tgt := 5) dJ7_fill_53178_17 (by decide) ?_
      have e := ih (k + 1) (by omega)
      have e2 : (fun j => if j < k + 1 then v else h.1 a j) = (fun j => if j = k then v else if j < k then v else h.1 a j) := by
        funext j
        by_cases h1 : j = k
        · simp [h1]
        · by_cases h2 : j < k
          · rw [if_neg h1, if_pos h2, if_pos (by omega)]
          · rw [if_neg h1, if_neg h2, if_neg (by omega)]
      rw [e2] at e
      exact e
set_option maxRecDepth 100000 in
theorem m_J7_fill_53178 {G : WT} {l : Launch} (hG : GOK G) {h : Hp} {a : Nat} {v : Int32} (ha : ksh a = 8) : Cl G l 1 yJ7_fill_53178 cJ7_fill_53178 4 none [.ref (gA G a), .int v] h (fun r h' => r = none ∧ h' = rowI h a (fun j => if j < lnt a then v else h.1 a j)) := by
  refine Cl.of hG (by decide) (Nat.le_of_ble_eq_true rfl) ?_
  show Wp G l 1 RJ7 cJ7_fill_53178 4 none 0 [.ref (gA G a), .int v, mk0, mk0] [] h _
  refine r_iconst (v := 0) dJ7_fill_53178_0 (by decide) ?_
  refine r_istore_n dJ7_fill_53178_1 (by decide) rfl rfl ?_
  dsimp only [List.set]
  refine r_aload_n dJ7_fill_53178_2 rfl ?_
  refine r_alen dJ7_fill_53178_3 (by assumption) (by decide) ?_
  refine r_istore_n dJ7_fill_53178_4 (by decide) rfl rfl ?_
  dsimp only [List.set]
  have e := fill_loop (G := G) (l := l) (h := h) (v := v) (Q := fun r h' => r = none ∧ h' = rowI h a (fun j => if j < lnt a then v else h.1 a j)) ha ⟨rfl, rfl⟩ (lnt a) 0 (by omega)
  have e2 : rowI h a (fun j => if j < 0 then v else h.1 a j) = h := by simp only [Nat.not_lt_zero, if_false]; exact rowI_self
  rw [e2] at e
  exact e
theorem fillL_loop {G : WT} {l : Launch} {h : Hp} {a : Nat} {v : Int64} {Q : Option Value → Hp → Prop} (ha : ksh a = 11) (hQ : Q none (rowL h a (fun j => if j < lnt a then v else h.2.1 a j))) : ∀ n k : Nat, k + n = lnt a → Wp G l 1 RJ7 cJ7_fill_d0a16 5 none 6 [.ref (gA G a), .long v, mk0, .int (nI k), .int (nI (lnt a))] [] (rowL h a (fun j => if j < k then v else h.2.1 a j)) Q := by
  have hs := ln_small a
  intro n
  induction n with
  | zero =>
    intro k hk
    have e : k = lnt a := by omega
    subst e
    refine r_iload_n dJ7_fill_d0a16_6 rfl ?_
    refine r_iload dJ7_fill_d0a16_7 rfl ?_
    refine r_icmp_ge (tgt := 22) dJ7_fill_d0a16_9 (by decide) (fun c_9 => ?_) (fun c_9 => ?_)
    · refine r_return dJ7_fill_d0a16_22 rfl ?_
      exact hQ
    · exact absurd (Int32.le_refl _) c_9
  | succ n ih =>
    intro k hk
    refine r_iload_n dJ7_fill_d0a16_6 rfl ?_
    refine r_iload dJ7_fill_d0a16_7 rfl ?_
    refine r_icmp_ge (tgt := 22) dJ7_fill_d0a16_9 (by decide) (fun c_9 => ?_) (fun c_9 => ?_)
    · exact absurd c_9 (nI_ge (by omega) hs)
    · refine r_aload_n dJ7_fill_d0a16_12 rfl ?_
      refine r_iload_n dJ7_fill_d0a16_13 rfl ?_
      refine r_lload_n dJ7_fill_d0a16_14 rfl ?_
      refine r_last (k) dJ7_fill_d0a16_15 (by assumption) rfl (by omega) ?_
      rw [setL_row]
      refine r_iinc dJ7_fill_d0a16_16 rfl (by first | exact nI_inc _ | rfl) (by decide) rfl rfl ?_
      dsimp only [List.set]
      refine r_goto (tgt := 6) dJ7_fill_d0a16_19 (by decide) ?_
      have e := ih (k + 1) (by omega)
      have e2 : (fun j => if j < k + 1 then v else h.2.1 a j) = (fun j => if j = k then v else if j < k then v else h.2.1 a j) := by
        funext j
        by_cases h1 : j = k
        · simp [h1]
        · by_cases h2 : j < k
          · rw [if_neg h1, if_pos h2, if_pos (by omega)]
          · rw [if_neg h1, if_neg h2, if_neg (by omega)]
      rw [e2] at e
      exact e
set_option maxRecDepth 100000 in
theorem m_J7_fill_d0a16 {G : WT} {l : Launch} (hG : GOK G) {h : Hp} {a : Nat} {v : Int64} (ha : ksh a = 11) : Cl G l 1 yJ7_fill_d0a16 cJ7_fill_d0a16 5 none [.ref (gA G a), .long v] h (fun r h' => r = none ∧ h' = rowL h a (fun j => if j < lnt a then v else h.2.1 a j)) := by
  refine Cl.of hG (by decide) (Nat.le_of_ble_eq_true rfl) ?_
  show Wp G l 1 RJ7 cJ7_fill_d0a16 5 none 0 [.ref (gA G a), .long v, mk0, mk0, mk0] [] h _
  refine r_iconst (v := 0) dJ7_fill_d0a16_0 (by decide) ?_
  refine r_istore_n dJ7_fill_d0a16_1 (by decide) rfl rfl ?_
  dsimp only [List.set]
  refine r_aload_n dJ7_fill_d0a16_2 rfl ?_
  refine r_alen dJ7_fill_d0a16_3 (by assumption) (by decide) ?_
  refine r_istore dJ7_fill_d0a16_4 (by decide) rfl rfl ?_
  dsimp only [List.set]
  have e := fillL_loop (G := G) (l := l) (h := h) (v := v) (Q := fun r h' => r = none ∧ h' = rowL h a (fun j => if j < lnt a then v else h.2.1 a j)) ha ⟨rfl, rfl⟩ (lnt a) 0 (by omega)
  have e2 : rowL h a (fun j => if j < 0 then v else h.2.1 a j) = h := by simp only [Nat.not_lt_zero, if_false]; exact rowL_self
  rw [e2] at e
  exact e
/-! texts -/
set_option maxRecDepth 100000 in
theorem m_J0_coder_7d493 {G : WT} {l : Launch} (hG : GOK G) {h : Hp} {i : Nat} (hi : i < 7) : Cl G l 1 yJ0_coder_7d493 cJ0_coder_7d493 1 (some .byte) [.ref (gK G i)] h (fun r h' => r = some (.int 0) ∧ h' = h) := by
  refine Cl.of hG (by decide) (Nat.le_of_ble_eq_true rfl) ?_
  show Wp G l 1 RJ0 cJ0_coder_7d493 1 (some .byte) 0 [.ref (gK G i)] [] h _
  refine r_getCS dJ0_coder_7d493_0 k_J0_38 ?_
  refine r_if_eq (tgt := 13) dJ0_coder_7d493_3 (by decide) (fun c_3 => ?_) (fun c_3 => ?_)
  · exact absurd c_3 (by decide)
  · refine r_aload_n dJ0_coder_7d493_6 rfl ?_
    refine r_getSC dJ0_coder_7d493_7 k_J0_15 (by first | decide | assumption) ?_
    refine r_goto (tgt := 14) dJ0_coder_7d493_10 (by decide) ?_
    refine r_ireturn dJ0_coder_7d493_14 ⟨_, rfl, rfl⟩ ?_
    exact ⟨rfl, rfl⟩
set_option maxRecDepth 100000 in
theorem m_J0_length_8abf5 {G : WT} {l : Launch} (hG : GOK G) {h : Hp} {i : Nat} (hi : i < 7) : Cl G l 2 yJ0_length_8abf5 cJ0_length_8abf5 1 (some .int) [.ref (gK G i)] h (fun r h' => r = some (.int (nI (lenS.getD i 0))) ∧ h' = h) := by
  refine Cl.of hG (by decide) (Nat.le_of_ble_eq_true rfl) ?_
  show Wp G l 2 RJ0 cJ0_length_8abf5 1 (some .int) 0 [.ref (gK G i)] [] h _
  refine r_aload_n dJ0_length_8abf5_0 rfl ?_
  refine r_getSV dJ0_length_8abf5_1 k_J0_9 (by first | decide | assumption) ?_
  refine r_alenS dJ0_length_8abf5_4 (by first | decide | assumption) ?_
  refine r_aload_n dJ0_length_8abf5_5 rfl ?_
  refine r_callT dJ0_length_8abf5_6 l_J0_335 o_J0_coder_7d493 v_J0_coder_7d493 (by first | decide | assumption) rfl rfl (m_J0_coder_7d493 hG (by assumption)) (by decide) rfl (Nat.le_of_ble_eq_true rfl) (fun r6 h6 hq6 => ?_)
  obtain ⟨rfl, e6⟩ := hq6
  rw [e6]
  clear e6 h6
  refine r_ishr dJ0_length_8abf5_9 ?_
  refine r_ireturn dJ0_length_8abf5_10 ⟨_, rfl, rfl⟩ ?_
  exact ⟨by rw [sc_shr0 (by have := lenS_lt i hi; omega)], rfl⟩
set_option maxRecDepth 100000 in
theorem m_J0_isLatin1_aae02 {G : WT} {l : Launch} (hG : GOK G) {h : Hp} {i : Nat} (hi : i < 7) : Cl G l 1 yJ0_isLatin1_aae02 cJ0_isLatin1_aae02 1 (some .boolean) [.ref (gK G i)] h (fun r h' => r = some (.int 1) ∧ h' = h) := by
  refine Cl.of hG (by decide) (Nat.le_of_ble_eq_true rfl) ?_
  show Wp G l 1 RJ0 cJ0_isLatin1_aae02 1 (some .boolean) 0 [.ref (gK G i)] [] h _
  refine r_getCS dJ0_isLatin1_aae02_0 k_J0_38 ?_
  refine r_if_eq (tgt := 17) dJ0_isLatin1_aae02_3 (by decide) (fun c_3 => ?_) (fun c_3 => ?_)
  · exact absurd c_3 (by decide)
  · refine r_aload_n dJ0_isLatin1_aae02_6 rfl ?_
    refine r_getSC dJ0_isLatin1_aae02_7 k_J0_15 (by first | decide | assumption) ?_
    refine r_if_ne (tgt := 17) dJ0_isLatin1_aae02_10 (by decide) (fun c_10 => ?_) (fun c_10 => ?_)
    · exact absurd rfl c_10
    · refine r_iconst (v := 1) dJ0_isLatin1_aae02_13 (by decide) ?_
      refine r_goto (tgt := 18) dJ0_isLatin1_aae02_14 (by decide) ?_
      refine r_ireturn dJ0_isLatin1_aae02_18 ⟨_, rfl, rfl⟩ ?_
      exact ⟨rfl, rfl⟩
theorem m_J3_checkIndex_8e157 {G : WT} {l : Launch} (hG : GOK G) {h : Hp} {i n : Int32} {v : Value} (hv : v = .null ∨ ∃ t, v = .ref t) (h0 : ¬ i < 0) (hn : i < n) : Cl G l 1 yJ3_checkIndex_8e157 cJ3_checkIndex_8e157 3 (some .int) [.int i, .int n, v] h (fun r h' => r = some (.int i) ∧ h' = h) := by
  rcases hv with rfl | ⟨t, rfl⟩
  · refine Cl.of hG (by decide) (Nat.le_of_ble_eq_true rfl) ?_
    show Wp G l 1 RJ3 cJ3_checkIndex_8e157 3 (some .int) 0 [.int i, .int n, .null] [] h _
    refine r_iload_n dJ3_checkIndex_8e157_0 rfl ?_
    refine r_if_lt (tgt := 9) dJ3_checkIndex_8e157_1 (by decide) (fun c_1 => ?_) (fun c_1 => ?_)
    · exact absurd c_1 h0
    · refine r_iload_n dJ3_checkIndex_8e157_4 rfl ?_
      refine r_iload_n dJ3_checkIndex_8e157_5 rfl ?_
      refine r_icmp_lt (tgt := 16) dJ3_checkIndex_8e157_6 (by decide) (fun c_6 => ?_) (fun c_6 => ?_)
      · refine r_iload_n dJ3_checkIndex_8e157_16 rfl ?_
        refine r_ireturn dJ3_checkIndex_8e157_17 ⟨_, rfl, rfl⟩ ?_
        exact ⟨rfl, rfl⟩
      · exact absurd hn c_6
  · refine Cl.of hG (by decide) (Nat.le_of_ble_eq_true rfl) ?_
    show Wp G l 1 RJ3 cJ3_checkIndex_8e157 3 (some .int) 0 [.int i, .int n, .ref t] [] h _
    refine r_iload_n dJ3_checkIndex_8e157_0 rfl ?_
    refine r_if_lt (tgt := 9) dJ3_checkIndex_8e157_1 (by decide) (fun c_1 => ?_) (fun c_1 => ?_)
    · exact absurd c_1 h0
    · refine r_iload_n dJ3_checkIndex_8e157_4 rfl ?_
      refine r_iload_n dJ3_checkIndex_8e157_5 rfl ?_
      refine r_icmp_lt (tgt := 16) dJ3_checkIndex_8e157_6 (by decide) (fun c_6 => ?_) (fun c_6 => ?_)
      · refine r_iload_n dJ3_checkIndex_8e157_16 rfl ?_
        refine r_ireturn dJ3_checkIndex_8e157_17 ⟨_, rfl, rfl⟩ ?_
        exact ⟨rfl, rfl⟩
      · exact absurd hn c_6
set_option maxRecDepth 100000 in
theorem m_J0_checkIndex_df160 {G : WT} {l : Launch} (hG : GOK G) {h : Hp} {i n : Int32} (h0 : ¬ i < 0) (hn : i < n) : Cl G l 2 yJ0_checkIndex_df160 cJ0_checkIndex_df160 2 none [.int i, .int n] h (fun r h' => r = none ∧ h' = h) := by
  refine Cl.of hG (by decide) (Nat.le_of_ble_eq_true rfl) ?_
  show Wp G l 2 RJ0 cJ0_checkIndex_df160 2 none 0 [.int i, .int n] [] h _
  refine r_iload_n dJ0_checkIndex_df160_0 rfl ?_
  refine r_iload_n dJ0_checkIndex_df160_1 rfl ?_
  refine r_getSI dJ0_checkIndex_df160_2 k_J0_1053 (fun vF hvF => ?_)
  refine r_callS dJ0_checkIndex_df160_5 l_J0_1059 o_J3_checkIndex_8e157 s_J3_checkIndex_8e157 rfl (m_J3_checkIndex_8e157 hG hvF h0 hn) (by decide) rfl (Nat.le_of_ble_eq_true rfl) (fun r5 h5 hq5 => ?_)
  obtain ⟨rfl, e5⟩ := hq5
  rw [e5]
  clear e5 h5
  refine r_pop dJ0_checkIndex_df160_8 rfl ?_
  refine r_return dJ0_checkIndex_df160_9 rfl ?_
  exact ⟨rfl, rfl⟩
theorem ch_tab : ∀ i, i < 7 → ∀ k, k < lenS.getD i 0 → ((((bytS.getD i []).getD k 0) &&& 255).toUInt32 % 65536).toInt32 = (bytS.getD i []).getD k 0 ∧ narrow .char (.int ((bytS.getD i []).getD k 0)) = .int ((bytS.getD i []).getD k 0) := by decide +kernel
set_option maxRecDepth 100000 in
theorem m_J1_charAt_3b067 {G : WT} {l : Launch} (hG : GOK G) {h : Hp} {i k : Nat} (hi : i < 7) (hk : k < lenS.getD i 0) : Cl G l 3 yJ1_charAt_3b067 cJ1_charAt_3b067 2 (some .char) [.ref (gV G i), .int (nI k)] h (fun r h' => r = some (.int ((bytS.getD i []).getD k 0)) ∧ h' = h) := by
  refine Cl.of hG (by decide) (Nat.le_of_ble_eq_true rfl) ?_
  show Wp G l 3 RJ1 cJ1_charAt_3b067 2 (some .char) 0 [.ref (gV G i), .int (nI k)] [] h _
  have hl := lenS_lt i hi
  have h0 := nI_pos (n := k) (by omega)
  have hn := nI_lt hk (by omega)
  refine r_iload_n dJ1_charAt_3b067_0 rfl ?_
  refine r_aload_n dJ1_charAt_3b067_1 rfl ?_
  refine r_alenS dJ1_charAt_3b067_2 (by first | decide | assumption) ?_
  refine r_callS dJ1_charAt_3b067_3 l_J1_9 o_J0_checkIndex_df160 s_J0_checkIndex_df160 rfl (m_J0_checkIndex_df160 hG h0 hn) (by decide) rfl (Nat.le_of_ble_eq_true rfl) (fun r3 h3 hq3 => ?_)
  obtain ⟨rfl, e3⟩ := hq3
  rw [e3]
  clear e3 h3
  refine r_aload_n dJ1_charAt_3b067_6 rfl ?_
  refine r_iload_n dJ1_charAt_3b067_7 rfl ?_
  refine r_aldS i (k) dJ1_charAt_3b067_8 (by first | decide | assumption) rfl hk ?_
  refine r_sipush (v := 255) dJ1_charAt_3b067_9 (by decide) ?_
  refine r_iand dJ1_charAt_3b067_12 ?_
  refine r_i2c dJ1_charAt_3b067_13 ?_
  rw [(ch_tab i hi k hk).1]
  refine r_ireturn dJ1_charAt_3b067_14 ⟨_, rfl, (ch_tab i hi k hk).2⟩ ?_
  exact ⟨rfl, rfl⟩
set_option maxRecDepth 100000 in
theorem m_J0_charAt_5068e {G : WT} {l : Launch} (hG : GOK G) {h : Hp} {i k : Nat} (hi : i < 7) (hk : k < lenS.getD i 0) : Cl G l 4 yJ0_charAt_5068e cJ0_charAt_5068e 2 (some .char) [.ref (gK G i), .int (nI k)] h (fun r h' => r = some (.int ((bytS.getD i []).getD k 0)) ∧ h' = h) := by
  refine Cl.of hG (by decide) (Nat.le_of_ble_eq_true rfl) ?_
  show Wp G l 4 RJ0 cJ0_charAt_5068e 2 (some .char) 0 [.ref (gK G i), .int (nI k)] [] h _
  refine r_aload_n dJ0_charAt_5068e_0 rfl ?_
  refine r_callT dJ0_charAt_5068e_1 l_J0_492 o_J0_isLatin1_aae02 v_J0_isLatin1_aae02 (by first | decide | assumption) rfl rfl (m_J0_isLatin1_aae02 hG (by assumption)) (by decide) rfl (Nat.le_of_ble_eq_true rfl) (fun r1 h1 hq1 => ?_)
  obtain ⟨rfl, e1⟩ := hq1
  rw [e1]
  clear e1 h1
  refine r_if_eq (tgt := 16) dJ0_charAt_5068e_4 (by decide) (fun c_4 => ?_) (fun c_4 => ?_)
  · exact absurd c_4 (by decide)
  · refine r_aload_n dJ0_charAt_5068e_7 rfl ?_
    refine r_getSV dJ0_charAt_5068e_8 k_J0_9 (by first | decide | assumption) ?_
    refine r_iload_n dJ0_charAt_5068e_11 rfl ?_
    refine r_callS dJ0_charAt_5068e_12 l_J0_495 o_J1_charAt_3b067 s_J1_charAt_3b067 rfl (m_J1_charAt_3b067 hG hi hk) (by decide) rfl (Nat.le_of_ble_eq_true rfl) (fun r12 h12 hq12 => ?_)
    obtain ⟨rfl, e12⟩ := hq12
    rw [e12]
    clear e12 h12
    refine r_ireturn dJ0_charAt_5068e_15 ⟨_, rfl, (ch_tab i hi k hk).2⟩ ?_
    exact ⟨rfl, rfl⟩
/-- indexOf on what is left of a text -/
def ixF (c : Int32) : List Int32 → Nat → Int32
  | [], _ => -1
  | b :: l, k => if b = c then nI k else ixF c l (k + 1)
theorem ix_loop {G : WT} {l : Launch} {h : Hp} {i n : Nat} {x4 : Int32} (hi : i < 7) : ∀ (lst : List Int32) (k : Nat), k ≤ lenS.getD i 0 → (bytS.getD i []).drop k = lst → ∀ z2, Wp G l 1 RJ1 cJ1_indexOfChar_4cfef 6 (some .int) 7 [.ref (gV G i), .int (nI n), .int z2, .int (nI (lenS.getD i 0)), .int (nI n), .int (nI k)] [] h (fun r h' => r = some (.int (ixF (nI n) lst k)) ∧ h' = h) := by
  have hl := lenS_lt i hi
  have hb : (bytS.getD i []).length = lenS.getD i 0 := by
    have key : ∀ i, i < 7 → (bytS.getD i []).length = lenS.getD i 0 := by decide
    exact key i hi
  intro lst
  induction lst with
  | nil =>
    intro k hk e z2
    have q := List.drop_eq_nil_iff.mp e
    refine r_iload dJ1_indexOfChar_4cfef_7 rfl ?_
    refine r_iload_n dJ1_indexOfChar_4cfef_9 rfl ?_
    refine r_icmp_ge (tgt := 31) dJ1_indexOfChar_4cfef_10 (by decide) (fun c_10 => ?_) (fun c_10 => ?_)
    · refine r_iconst (v := -1) dJ1_indexOfChar_4cfef_31 (by decide) ?_
      refine r_ireturn dJ1_indexOfChar_4cfef_32 ⟨_, rfl, rfl⟩ ?_
      exact ⟨rfl, rfl⟩
    · exact absurd (nI_le (by omega) (by omega)) c_10
  | cons b lst ih =>
    intro k hk e z2
    obtain ⟨q1, q2, q3, -⟩ := sc_dropC e
    rw [hb] at q1
    refine r_iload dJ1_indexOfChar_4cfef_7 rfl ?_
    refine r_iload_n dJ1_indexOfChar_4cfef_9 rfl ?_
    refine r_icmp_ge (tgt := 31) dJ1_indexOfChar_4cfef_10 (by decide) (fun c_10 => ?_) (fun c_10 => ?_)
    · exact absurd c_10 (nI_ge q1 (by omega))
    · refine r_aload_n dJ1_indexOfChar_4cfef_13 rfl ?_
      refine r_iload dJ1_indexOfChar_4cfef_14 rfl ?_
      refine r_aldS i (k) dJ1_indexOfChar_4cfef_16 (by first | decide | assumption) rfl q1 ?_
      rw [q2]
      refine r_iload dJ1_indexOfChar_4cfef_17 rfl ?_
      refine r_icmp_ne (tgt := 25) dJ1_indexOfChar_4cfef_19 (by decide) (fun c_19 => ?_) (fun c_19 => ?_)
      · refine r_iinc dJ1_indexOfChar_4cfef_25 rfl (by first | exact nI_inc _ | rfl) (by decide) rfl rfl ?_
        dsimp only [List.set]
        refine r_goto (tgt := 7) dJ1_indexOfChar_4cfef_28 (by decide) ?_
        rw [ixF, if_neg c_19]
        exact ih (k + 1) (by omega) q3 z2
      · refine r_iload dJ1_indexOfChar_4cfef_22 rfl ?_
        refine r_ireturn dJ1_indexOfChar_4cfef_24 ⟨_, rfl, rfl⟩ ?_
        exact ⟨by rw [ixF, if_pos c_19], rfl⟩
theorem i2b_tab : ∀ n, n < 128 → (nI n).toInt8.toInt32 = nI n := by decide +kernel
set_option maxRecDepth 100000 in
theorem m_J1_indexOfChar_4cfef {G : WT} {l : Launch} (hG : GOK G) {h : Hp} {i n : Nat} (hi : i < 7) (hn : n < 128) : Cl G l 1 yJ1_indexOfChar_4cfef cJ1_indexOfChar_4cfef 6 (some .int) [.ref (gV G i), .int (nI n), .int 0, .int (nI (lenS.getD i 0))] h (fun r h' => r = some (.int (ixF (nI n) (bytS.getD i []) 0)) ∧ h' = h) := by
  refine Cl.of hG (by decide) (Nat.le_of_ble_eq_true rfl) ?_
  show Wp G l 1 RJ1 cJ1_indexOfChar_4cfef 6 (some .int) 0 [.ref (gV G i), .int (nI n), .int 0, .int (nI (lenS.getD i 0)), mk0, mk0] [] h _
  refine r_iload_n dJ1_indexOfChar_4cfef_0 rfl ?_
  refine r_i2b dJ1_indexOfChar_4cfef_1 ?_
  rw [i2b_tab n hn]
  refine r_istore dJ1_indexOfChar_4cfef_2 (by decide) rfl rfl ?_
  dsimp only [List.set]
  refine r_iload_n dJ1_indexOfChar_4cfef_4 rfl ?_
  refine r_istore dJ1_indexOfChar_4cfef_5 (by decide) rfl rfl ?_
  dsimp only [List.set]
  exact ix_loop (x4 := 0) hi (bytS.getD i []) 0 (Nat.zero_le _) rfl 0
set_option maxRecDepth 100000 in
theorem m_J1_canEncode_9a6ad {G : WT} {l : Launch} (hG : GOK G) {h : Hp} {n : Nat} (hn : n < 128) : Cl G l 1 yJ1_canEncode_9a6ad cJ1_canEncode_9a6ad 1 (some .boolean) [.int (nI n)] h (fun r h' => r = some (.int 1) ∧ h' = h) := by
  refine Cl.of hG (by decide) (Nat.le_of_ble_eq_true rfl) ?_
  show Wp G l 1 RJ1 cJ1_canEncode_9a6ad 1 (some .boolean) 0 [.int (nI n)] [] h _
  refine r_iload_n dJ1_canEncode_9a6ad_0 rfl ?_
  refine r_if_lt (tgt := 15) dJ1_canEncode_9a6ad_1 (by decide) (fun c_1 => ?_) (fun c_1 => ?_)
  · exact absurd c_1 (nI_pos (by omega))
  · refine r_iload_n dJ1_canEncode_9a6ad_4 rfl ?_
    refine r_sipush (v := 255) dJ1_canEncode_9a6ad_5 (by decide) ?_
    refine r_icmp_gt (tgt := 15) dJ1_canEncode_9a6ad_8 (by decide) (fun c_8 => ?_) (fun c_8 => ?_)
    · exact absurd c_8 (nI_nlt (a := 255) (b := n) (by omega) (by omega))
    · refine r_iconst (v := 1) dJ1_canEncode_9a6ad_11 (by decide) ?_
      refine r_goto (tgt := 16) dJ1_canEncode_9a6ad_12 (by decide) ?_
      refine r_ireturn dJ1_canEncode_9a6ad_16 ⟨_, rfl, rfl⟩ ?_
      exact ⟨rfl, rfl⟩
set_option maxRecDepth 100000 in
theorem m_J1_indexOf_4cfef {G : WT} {l : Launch} (hG : GOK G) {h : Hp} {i n : Nat} (hi : i < 7) (hn : n < 128) : Cl G l 3 yJ1_indexOf_4cfef cJ1_indexOf_4cfef 4 (some .int) [.ref (gV G i), .int (nI n), .int 0, .int (nI (lenS.getD i 0))] h (fun r h' => r = some (.int (ixF (nI n) (bytS.getD i []) 0)) ∧ h' = h) := by
  refine Cl.of hG (by decide) (Nat.le_of_ble_eq_true rfl) ?_
  show Wp G l 3 RJ1 cJ1_indexOf_4cfef 4 (some .int) 0 [.ref (gV G i), .int (nI n), .int 0, .int (nI (lenS.getD i 0))] [] h _
  have h0 : 0 < lenS.getD i 0 := by
    have key : ∀ i, i < 7 → 0 < lenS.getD i 0 := by decide
    exact key i hi
  have hl := lenS_lt i hi
  refine r_iload_n dJ1_indexOf_4cfef_0 rfl ?_
  refine r_callS dJ1_indexOf_4cfef_1 l_J1_88 o_J1_canEncode_9a6ad s_J1_canEncode_9a6ad rfl (m_J1_canEncode_9a6ad hG hn) (by decide) rfl (Nat.le_of_ble_eq_true rfl) (fun r1 h1 hq1 => ?_)
  obtain ⟨rfl, e1⟩ := hq1
  rw [e1]
  clear e1 h1
  refine r_if_ne (tgt := 9) dJ1_indexOf_4cfef_4 (by decide) (fun c_4 => ?_) (fun c_4 => ?_)
  · refine r_iload_n dJ1_indexOf_4cfef_9 rfl ?_
    refine r_iconst (v := 0) dJ1_indexOf_4cfef_10 (by decide) ?_
    refine r_max dJ1_indexOf_4cfef_11 l_J1_92 o_J9_max_7cf53 rfl s_J9_max_7cf53 (by decide) (Nat.le_of_ble_eq_true rfl) ?_
    rw [ite_self]
    refine r_istore_n dJ1_indexOf_4cfef_14 (by decide) rfl rfl ?_
    dsimp only [List.set]
    refine r_iload_n dJ1_indexOf_4cfef_15 rfl ?_
    refine r_aload_n dJ1_indexOf_4cfef_16 rfl ?_
    refine r_alenS dJ1_indexOf_4cfef_17 (by first | decide | assumption) ?_
    refine r_min dJ1_indexOf_4cfef_18 l_J1_38 o_J9_min_7cf53 rfl s_J9_min_7cf53 (by decide) (Nat.le_of_ble_eq_true rfl) ?_
    rw [ite_self]
    refine r_istore_n dJ1_indexOf_4cfef_21 (by decide) rfl rfl ?_
    dsimp only [List.set]
    refine r_iload_n dJ1_indexOf_4cfef_22 rfl ?_
    refine r_iload_n dJ1_indexOf_4cfef_23 rfl ?_
    refine r_icmp_lt (tgt := 29) dJ1_indexOf_4cfef_24 (by decide) (fun c_24 => ?_) (fun c_24 => ?_)
    · refine r_aload_n dJ1_indexOf_4cfef_29 rfl ?_
      refine r_iload_n dJ1_indexOf_4cfef_30 rfl ?_
      refine r_iload_n dJ1_indexOf_4cfef_31 rfl ?_
      refine r_iload_n dJ1_indexOf_4cfef_32 rfl ?_
      refine r_callS dJ1_indexOf_4cfef_33 l_J1_95 o_J1_indexOfChar_4cfef s_J1_indexOfChar_4cfef rfl (m_J1_indexOfChar_4cfef hG hi hn) (by decide) rfl (Nat.le_of_ble_eq_true rfl) (fun r33 h33 hq33 => ?_)
      obtain ⟨rfl, e33⟩ := hq33
      rw [e33]
      clear e33 h33
      refine r_ireturn dJ1_indexOf_4cfef_36 ⟨_, rfl, rfl⟩ ?_
      exact ⟨rfl, rfl⟩
    · exact absurd (nI_lt h0 (by omega)) c_24
  · exact absurd c_4 (by decide)
set_option maxRecDepth 100000 in
theorem m_J0_indexOf_7cf53 {G : WT} {l : Launch} (hG : GOK G) {h : Hp} {i n : Nat} (hi : i < 7) (hn : n < 128) : Cl G l 4 yJ0_indexOf_7cf53 cJ0_indexOf_7cf53 3 (some .int) [.ref (gK G i), .int (nI n), .int 0] h (fun r h' => r = some (.int (ixF (nI n) (bytS.getD i []) 0)) ∧ h' = h) := by
  refine Cl.of hG (by decide) (Nat.le_of_ble_eq_true rfl) ?_
  show Wp G l 4 RJ0 cJ0_indexOf_7cf53 3 (some .int) 0 [.ref (gK G i), .int (nI n), .int 0] [] h _
  refine r_aload_n dJ0_indexOf_7cf53_0 rfl ?_
  refine r_callT dJ0_indexOf_7cf53_1 l_J0_492 o_J0_isLatin1_aae02 v_J0_isLatin1_aae02 (by first | decide | assumption) rfl rfl (m_J0_isLatin1_aae02 hG (by assumption)) (by decide) rfl (Nat.le_of_ble_eq_true rfl) (fun r1 h1 hq1 => ?_)
  obtain ⟨rfl, e1⟩ := hq1
  rw [e1]
  clear e1 h1
  refine r_if_eq (tgt := 23) dJ0_indexOf_7cf53_4 (by decide) (fun c_4 => ?_) (fun c_4 => ?_)
  · exact absurd c_4 (by decide)
  · refine r_aload_n dJ0_indexOf_7cf53_7 rfl ?_
    refine r_getSV dJ0_indexOf_7cf53_8 k_J0_9 (by first | decide | assumption) ?_
    refine r_iload_n dJ0_indexOf_7cf53_11 rfl ?_
    refine r_iload_n dJ0_indexOf_7cf53_12 rfl ?_
    refine r_aload_n dJ0_indexOf_7cf53_13 rfl ?_
    refine r_callT dJ0_indexOf_7cf53_14 l_J0_505 o_J0_length_8abf5 v_J0_length_8abf5 (by first | decide | assumption) rfl rfl (m_J0_length_8abf5 hG (by first | assumption | decide)) (by decide) rfl (Nat.le_of_ble_eq_true rfl) (fun r14 h14 hq14 => ?_)
    obtain ⟨rfl, e14⟩ := hq14
    rw [e14]
    clear e14 h14
    refine r_callS dJ0_indexOf_7cf53_17 l_J0_637 o_J1_indexOf_4cfef s_J1_indexOf_4cfef rfl (m_J1_indexOf_4cfef hG hi hn) (by decide) rfl (Nat.le_of_ble_eq_true rfl) (fun r17 h17 hq17 => ?_)
    obtain ⟨rfl, e17⟩ := hq17
    rw [e17]
    clear e17 h17
    refine r_goto (tgt := 36) dJ0_indexOf_7cf53_20 (by decide) ?_
    refine r_ireturn dJ0_indexOf_7cf53_36 ⟨_, rfl, rfl⟩ ?_
    exact ⟨rfl, rfl⟩
set_option maxRecDepth 100000 in
theorem m_J0_indexOf_0f7a4 {G : WT} {l : Launch} (hG : GOK G) {h : Hp} {i n : Nat} (hi : i < 7) (hn : n < 128) : Cl G l 5 yJ0_indexOf_0f7a4 cJ0_indexOf_0f7a4 2 (some .int) [.ref (gK G i), .int (nI n)] h (fun r h' => r = some (.int (ixF (nI n) (bytS.getD i []) 0)) ∧ h' = h) := by
  refine Cl.of hG (by decide) (Nat.le_of_ble_eq_true rfl) ?_
  show Wp G l 5 RJ0 cJ0_indexOf_0f7a4 2 (some .int) 0 [.ref (gK G i), .int (nI n)] [] h _
  refine r_aload_n dJ0_indexOf_0f7a4_0 rfl ?_
  refine r_iload_n dJ0_indexOf_0f7a4_1 rfl ?_
  refine r_iconst (v := 0) dJ0_indexOf_0f7a4_2 (by decide) ?_
  refine r_callT dJ0_indexOf_0f7a4_3 l_J0_633 o_J0_indexOf_7cf53 v_J0_indexOf_7cf53 (by first | decide | assumption) rfl rfl (m_J0_indexOf_7cf53 hG hi hn) (by decide) rfl (Nat.le_of_ble_eq_true rfl) (fun r3 h3 hq3 => ?_)
  obtain ⟨rfl, e3⟩ := hq3
  rw [e3]
  clear e3 h3
  refine r_ireturn dJ0_indexOf_0f7a4_6 ⟨_, rfl, rfl⟩ ?_
  exact ⟨rfl, rfl⟩
