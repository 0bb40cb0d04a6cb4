/-! words -/
def wdN : List (List Nat) := [[119, 111, 114, 116, 104], [98, 97, 107, 101], [108, 111, 97, 102], [108, 97, 119], [115, 99, 97, 108, 101]]
def alkS (X : Tx) : Nat → List Nat → Nat
  | _, [] => 0
  | a, c :: L => if nx X a = c then alkS X (a + 1) L + 1 else 0
theorem alk_le {X : Tx} : ∀ (L : List Nat) (a : Nat), (∀ c ∈ L, c < 128) → a ≤ X.1 → alkS X a L ≤ L.length ∧ a + alkS X a L ≤ X.1 := by
  intro L
  induction L with
  | nil => intro a _ h; exact ⟨Nat.le_refl _, h⟩
  | cons c L ih =>
    intro a hL h
    by_cases q9 : nx X a = c
    · have hc := hL c List.mem_cons_self
      have := nx_in2 (X := X) (a := a) (by omega)
      have k9 := ih (a + 1) (fun d hd => hL d (List.mem_cons_of_mem _ hd)) (by omega)
      simp only [alkS, if_pos q9]
      show alkS X (a + 1) L + 1 ≤ L.length + 1 ∧ _
      omega
    · simp only [alkS, if_neg q9]
      exact ⟨Nat.zero_le _, by omega⟩
theorem wordS_alk {X : Tx} : ∀ (L : List Nat) (a : Nat), wordS X a L = if alkS X a L = L.length then (if nx X (a + L.length) = 32 then (true, a + L.length + 1) else (false, a + L.length)) else (false, a + alkS X a L) := by
  intro L
  induction L with
  | nil => intro a; rfl
  | cons c L ih =>
    intro a
    by_cases q9 : nx X a = c
    · simp only [wordS, alkS, if_pos q9, ih (a + 1), List.length_cons, Nat.add_right_cancel_iff]
      rw [show a + 1 + L.length = a + (L.length + 1) by omega, show a + 1 + alkS X (a + 1) L = a + (alkS X (a + 1) L + 1) by omega]
    · simp only [wordS, alkS, if_neg q9, List.length_cons]
      rw [if_neg (by omega), Nat.add_zero]
def rwS (X : Tx) (a : Nat) : List (List Nat) → Nat → Nat → Option Nat × Nat
  | [], _, best => (none, a + best)
  | L :: W, k, best => if alkS X a L = L.length then (some k, a + L.length) else rwS X a W (k + 1) (max best (alkS X a L))
theorem alk_ne {X : Tx} {a c : Nat} {L : List Nat} (h : ¬ nx X a = c) : alkS X a (c :: L) = 0 := by simp only [alkS, if_neg h]
theorem rwS_head (X : Tx) (a : Nat) : rwS X a wdN 0 0 = if alkS X a (headS X a).2 = (headS X a).2.length then (some (headS X a).1, a + (headS X a).2.length) else (none, a + alkS X a (headS X a).2) := by
  unfold wdN headS
  by_cases c1 : nx X a = 119
  · rw [if_pos c1]
    simp only [rwS]
    rw [alk_ne (c := 98) (by omega), alk_ne (c := 108) (by omega), alk_ne (c := 108) (by omega), alk_ne (c := 115) (by omega)]
    simp
  · rw [if_neg c1]
    by_cases c2 : nx X a = 98
    · rw [if_pos c2]
      simp only [rwS]
      rw [alk_ne (c := 119) (by omega), alk_ne (c := 108) (by omega), alk_ne (c := 108) (by omega), alk_ne (c := 115) (by omega)]
      simp
    · rw [if_neg c2]
      by_cases c3 : nx X a = 108
      · rw [if_pos c3]
        by_cases c4 : nx X (a + 1) = 97
        · rw [if_pos c4]
          have e1 : alkS X a [108, 111, 97, 102] = 1 := by
            show (if nx X a = 108 then alkS X (a + 1) [111, 97, 102] + 1 else 0) = 1
            rw [if_pos c3, alk_ne (by omega)]
          have e2 : 1 ≤ alkS X a [108, 97, 119] := by
            show 1 ≤ (if nx X a = 108 then alkS X (a + 1) [97, 119] + 1 else 0)
            rw [if_pos c3]
            omega
          simp only [rwS]
          rw [alk_ne (c := 119) (by omega), alk_ne (c := 98) (by omega), e1, alk_ne (c := 115) (by omega)]
          simp
          rw [Nat.max_eq_right e2]
        · rw [if_neg c4]
          have e1 : alkS X a [108, 97, 119] = 1 := by
            show (if nx X a = 108 then alkS X (a + 1) [97, 119] + 1 else 0) = 1
            rw [if_pos c3, alk_ne (by omega)]
          have e2 : 1 ≤ alkS X a [108, 111, 97, 102] := by
            show 1 ≤ (if nx X a = 108 then alkS X (a + 1) [111, 97, 102] + 1 else 0)
            rw [if_pos c3]
            omega
          simp only [rwS]
          rw [alk_ne (c := 119) (by omega), alk_ne (c := 98) (by omega), e1, alk_ne (c := 115) (by omega)]
          simp
          rw [Nat.max_eq_left e2]
      · rw [if_neg c3]
        simp only [rwS]
        rw [alk_ne (c := 119) (by omega), alk_ne (c := 98) (by omega), alk_ne (c := 108) (by omega), alk_ne (c := 108) (by omega)]
        simp
theorem wd_tab : ∀ k, k < 5 → lenS.getD k 0 = (wdN.getD k []).length ∧ (∀ c ∈ wdN.getD k [], c < 128) ∧ ∀ j, j < lenS.getD k 0 → (bytS.getD k []).getD j 0 = nI ((wdN.getD k []).getD j 0) := by decide +kernel
set_option maxRecDepth 100000 in
theorem m_X2_wordOf {G : WT} {l : Launch} (hG : GOK G) {h : Hp} {k : Nat} (hk : k < 5) : Cl G l 1 yX2_wordOf cX2_wordOf 1 (some (.object "java/lang/String")) [.int (nI k)] h (fun r h' => r = some (.ref (gK G k)) ∧ h' = h) := by
  refine Cl.of hG (by decide) (Nat.le_of_ble_eq_true rfl) ?_
  show Wp G l 1 RX2 cX2_wordOf 1 (some (.object "java/lang/String")) 0 [.int (nI k)] [] h _
  rcases (show k = 0 ∨ k = 1 ∨ k = 2 ∨ k = 3 ∨ k = 4 by omega) with rfl | rfl | rfl | rfl | rfl
  · refine r_iload_n dX2_wordOf_0 rfl ?_
    · refine r_tsw 32 dX2_wordOf_1 rfl (by decide) rfl ?_
      refine r_ldcS 0 dX2_wordOf_32 rfl (by decide) rfl ?_
      refine r_areturn dX2_wordOf_34 ⟨_, rfl, Or.inl ⟨_, rfl⟩⟩ ?_
      exact ⟨rfl, rfl⟩
  · refine r_iload_n dX2_wordOf_0 rfl ?_
    · refine r_tsw 35 dX2_wordOf_1 rfl (by decide) rfl ?_
      refine r_ldcS 1 dX2_wordOf_35 rfl (by decide) rfl ?_
      refine r_areturn dX2_wordOf_37 ⟨_, rfl, Or.inl ⟨_, rfl⟩⟩ ?_
      exact ⟨rfl, rfl⟩
  · refine r_iload_n dX2_wordOf_0 rfl ?_
    · refine r_tsw 38 dX2_wordOf_1 rfl (by decide) rfl ?_
      refine r_ldcS 2 dX2_wordOf_38 rfl (by decide) rfl ?_
      refine r_areturn dX2_wordOf_40 ⟨_, rfl, Or.inl ⟨_, rfl⟩⟩ ?_
      exact ⟨rfl, rfl⟩
  · refine r_iload_n dX2_wordOf_0 rfl ?_
    · refine r_tsw 41 dX2_wordOf_1 rfl (by decide) rfl ?_
      refine r_ldcS 3 dX2_wordOf_41 rfl (by decide) rfl ?_
      refine r_areturn dX2_wordOf_43 ⟨_, rfl, Or.inl ⟨_, rfl⟩⟩ ?_
      exact ⟨rfl, rfl⟩
  · refine r_iload_n dX2_wordOf_0 rfl ?_
    · refine r_tsw 44 dX2_wordOf_1 rfl (by decide) rfl ?_
      refine r_ldcS 4 dX2_wordOf_44 rfl (by decide) rfl ?_
      refine r_areturn dX2_wordOf_46 ⟨_, rfl, Or.inl ⟨_, rfl⟩⟩ ?_
      exact ⟨rfl, rfl⟩
theorem drop_gd {L : List Nat} {j : Nat} (hj : j < L.length) : L.drop j = L.getD j 0 :: L.drop (j + 1) := by
  rw [List.drop_eq_getElem_cons hj, List.getD_eq_getElem?_getD, List.getElem?_eq_getElem hj]
  rfl
theorem alike_loop {G : WT} {l : Launch} (hG : GOK G) {X : Tx} {h : Hp} {a k : Nat} (hk : k < 5) (H : DAt h X a) : ∀ (n j : Nat), j + n = lenS.getD k 0 → Wp G l 6 RX2 cX2_alike 4 (some .int) 4 [.ref (gA G 46), .ref (gK G k), .int (nI j), .int (nI j)] [] h (fun r h' => r = some (.int (nI (j + alkS X (a + j) ((wdN.getD k []).drop j)))) ∧ h' = h) := by
  have hk7 : k < 7 := by omega
  obtain ⟨w1, w2, w3⟩ := wd_tab k hk
  have hX := H.2.1.1
  have ha := H.2.2.2
  have hl9 := lenS_lt k hk7
  intro n
  induction n with
  | zero =>
    intro j hj
    rw [List.drop_eq_nil_of_le (by omega)]
    refine r_iload_n dX2_alike_4 rfl ?_
    refine r_aload_n dX2_alike_5 rfl ?_
    refine r_callT dX2_alike_6 l_X2_69 o_J0_length_8abf5 v_J0_length_8abf5 (by first | decide | assumption) rfl rfl (m_J0_length_8abf5 hG (i := k) hk7) (by decide) rfl (Nat.le_of_ble_eq_true rfl) (fun r6 h6 hq6 => ?_)
    obtain ⟨rfl, e6⟩ := hq6
    rw [e6]
    clear e6 h6
    refine r_icmp_ge (tgt := 56) dX2_alike_9 (by decide) (fun c_9 => ?_) (fun c_9 => ?_)
    · refine r_iload_n dX2_alike_56 rfl ?_
      refine r_ireturn dX2_alike_57 ⟨_, rfl, rfl⟩ ?_
      exact ⟨rfl, rfl⟩
    · exact absurd (nI_le (by omega) (by omega)) c_9
  | succ n ih =>
    intro j hj
    have hjl : j < (wdN.getD k []).length := by omega
    have ed : (wdN.getD k []).drop j = (wdN.getD k []).getD j 0 :: (wdN.getD k []).drop (j + 1) := by
      exact drop_gd hjl
    have hc : (wdN.getD k []).getD j 0 < 128 := w2 _ (by
      have e9 : (wdN.getD k []).getD j 0 ∈ (wdN.getD k []).drop j := by rw [ed]; exact List.mem_cons_self
      exact List.mem_of_mem_drop e9)
    have e3 := w3 j (by omega)
    obtain ⟨c, hcc⟩ : ∃ c, c = (wdN.getD k []).getD j 0 := ⟨_, rfl⟩
    rw [← hcc] at ed hc e3
    rw [ed]
    by_cases q9 : nx X (a + j) = c
    · have a1 := nx_in2 (X := X) (a := a + j) (by omega)
      have en : nx X (a + j) = X.2 (a + j) := by rw [nx, if_pos a1]
      have ea : alkS X (a + j) (c :: (wdN.getD k []).drop (j + 1)) = alkS X (a + j + 1) ((wdN.getD k []).drop (j + 1)) + 1 := by simp only [alkS, if_pos q9]
      rw [ea, show j + (alkS X (a + j + 1) ((wdN.getD k []).drop (j + 1)) + 1) = j + 1 + alkS X (a + (j + 1)) ((wdN.getD k []).drop (j + 1)) by rw [Nat.add_assoc a j 1]; omega]
      refine r_iload_n dX2_alike_4 rfl ?_
      refine r_aload_n dX2_alike_5 rfl ?_
      refine r_callT dX2_alike_6 l_X2_69 o_J0_length_8abf5 v_J0_length_8abf5 (by first | decide | assumption) rfl rfl (m_J0_length_8abf5 hG (i := k) hk7) (by decide) rfl (Nat.le_of_ble_eq_true rfl) (fun r6 h6 hq6 => ?_)
      obtain ⟨rfl, e6⟩ := hq6
      rw [e6]
      clear e6 h6
      refine r_icmp_ge (tgt := 56) dX2_alike_9 (by decide) (fun c_9 => ?_) (fun c_9 => ?_)
      · exact absurd c_9 (nI_ge (by omega) (by omega))
      · refine r_aload_n dX2_alike_12 rfl ?_
        refine r_getI dX2_alike_13 k_X2_19 rfl (by decide) rfl ?_
        refine r_iload_n dX2_alike_16 rfl ?_
        refine r_iadd dX2_alike_17 ?_
        refine r_aload_n dX2_alike_18 rfl ?_
        refine r_getI dX2_alike_19 k_X2_15 rfl (by decide) rfl ?_
        rw [H.2.2.1, H.1.1, nI_add]
        refine r_icmp_ge (tgt := 56) dX2_alike_22 (by decide) (fun c_22 => ?_) (fun c_22 => ?_)
        · exact absurd c_22 (nI_ge (by omega) (by omega))
        · refine r_aload_n dX2_alike_25 rfl ?_
          refine r_getR (j := 47) dX2_alike_26 k_X2_9 rfl (by decide) rfl rfl ?_
          refine r_aload_n dX2_alike_29 rfl ?_
          refine r_getI dX2_alike_30 k_X2_19 rfl (by decide) rfl ?_
          refine r_iload_n dX2_alike_33 rfl ?_
          refine r_iadd dX2_alike_34 ?_
          refine r_cald (a + j) dX2_alike_35 rfl (by rw [H.2.2.1, nI_add]) (show a + j < 100 by omega) ?_
          rw [H.1.2 (a + j) a1, ← en, q9]
          refine r_aload_n dX2_alike_36 rfl ?_
          refine r_iload_n dX2_alike_37 rfl ?_
          refine r_callT dX2_alike_38 l_X2_89 o_J0_charAt_5068e v_J0_charAt_5068e (by first | decide | assumption) rfl rfl (m_J0_charAt_5068e hG (i := k) (k := j) hk7 (by omega)) (by decide) rfl (Nat.le_of_ble_eq_true rfl) (fun r38 h38 hq38 => ?_)
          obtain ⟨rfl, rfl⟩ := hq38
          rw [e3]
          refine r_icmp_eq (tgt := 47) dX2_alike_41 (by decide) (fun c_41 => ?_) (fun c_41 => ?_)
          · refine r_iinc dX2_alike_47 rfl (by first | exact nI_inc _ | rfl) (by decide) rfl rfl ?_
            dsimp only [List.set]
            refine r_iinc dX2_alike_50 rfl (by first | exact nI_inc _ | rfl) (by decide) rfl rfl ?_
            dsimp only [List.set]
            refine r_goto (tgt := 4) dX2_alike_53 (by decide) ?_
            exact ih (j + 1) (by omega)
          · exact absurd rfl c_41
    · have ea : alkS X (a + j) (c :: (wdN.getD k []).drop (j + 1)) = 0 := by simp only [alkS, if_neg q9]
      rw [ea]
      by_cases a1 : a + j < X.1
      · have en : nx X (a + j) = X.2 (a + j) := by rw [nx, if_pos a1]
        have h128 := H.2.1.2 (a + j) a1
        refine r_iload_n dX2_alike_4 rfl ?_
        refine r_aload_n dX2_alike_5 rfl ?_
        refine r_callT dX2_alike_6 l_X2_69 o_J0_length_8abf5 v_J0_length_8abf5 (by first | decide | assumption) rfl rfl (m_J0_length_8abf5 hG (i := k) hk7) (by decide) rfl (Nat.le_of_ble_eq_true rfl) (fun r6 h6 hq6 => ?_)
        obtain ⟨rfl, e6⟩ := hq6
        rw [e6]
        clear e6 h6
        refine r_icmp_ge (tgt := 56) dX2_alike_9 (by decide) (fun c_9 => ?_) (fun c_9 => ?_)
        · exact absurd c_9 (nI_ge (by omega) (by omega))
        · refine r_aload_n dX2_alike_12 rfl ?_
          refine r_getI dX2_alike_13 k_X2_19 rfl (by decide) rfl ?_
          refine r_iload_n dX2_alike_16 rfl ?_
          refine r_iadd dX2_alike_17 ?_
          refine r_aload_n dX2_alike_18 rfl ?_
          refine r_getI dX2_alike_19 k_X2_15 rfl (by decide) rfl ?_
          rw [H.2.2.1, H.1.1, nI_add]
          refine r_icmp_ge (tgt := 56) dX2_alike_22 (by decide) (fun c_22 => ?_) (fun c_22 => ?_)
          · exact absurd c_22 (nI_ge (by omega) (by omega))
          · refine r_aload_n dX2_alike_25 rfl ?_
            refine r_getR (j := 47) dX2_alike_26 k_X2_9 rfl (by decide) rfl rfl ?_
            refine r_aload_n dX2_alike_29 rfl ?_
            refine r_getI dX2_alike_30 k_X2_19 rfl (by decide) rfl ?_
            refine r_iload_n dX2_alike_33 rfl ?_
            refine r_iadd dX2_alike_34 ?_
            refine r_cald (a + j) dX2_alike_35 rfl (by rw [H.2.2.1, nI_add]) (show a + j < 100 by omega) ?_
            rw [H.1.2 (a + j) a1, ← en]
            refine r_aload_n dX2_alike_36 rfl ?_
            refine r_iload_n dX2_alike_37 rfl ?_
            refine r_callT dX2_alike_38 l_X2_89 o_J0_charAt_5068e v_J0_charAt_5068e (by first | decide | assumption) rfl rfl (m_J0_charAt_5068e hG (i := k) (k := j) hk7 (by omega)) (by decide) rfl (Nat.le_of_ble_eq_true rfl) (fun r38 h38 hq38 => ?_)
            obtain ⟨rfl, rfl⟩ := hq38
            rw [e3]
            refine r_icmp_eq (tgt := 47) dX2_alike_41 (by decide) (fun c_41 => ?_) (fun c_41 => ?_)
            · exact absurd ((nI_eq' (by omega) (by omega)).mp c_41) q9
            · refine r_goto (tgt := 56) dX2_alike_44 (by decide) ?_
              refine r_iload_n dX2_alike_56 rfl ?_
              refine r_ireturn dX2_alike_57 ⟨_, rfl, rfl⟩ ?_
              exact ⟨rfl, rfl⟩
      · refine r_iload_n dX2_alike_4 rfl ?_
        refine r_aload_n dX2_alike_5 rfl ?_
        refine r_callT dX2_alike_6 l_X2_69 o_J0_length_8abf5 v_J0_length_8abf5 (by first | decide | assumption) rfl rfl (m_J0_length_8abf5 hG (i := k) hk7) (by decide) rfl (Nat.le_of_ble_eq_true rfl) (fun r6 h6 hq6 => ?_)
        obtain ⟨rfl, e6⟩ := hq6
        rw [e6]
        clear e6 h6
        refine r_icmp_ge (tgt := 56) dX2_alike_9 (by decide) (fun c_9 => ?_) (fun c_9 => ?_)
        · exact absurd c_9 (nI_ge (by omega) (by omega))
        · refine r_aload_n dX2_alike_12 rfl ?_
          refine r_getI dX2_alike_13 k_X2_19 rfl (by decide) rfl ?_
          refine r_iload_n dX2_alike_16 rfl ?_
          refine r_iadd dX2_alike_17 ?_
          refine r_aload_n dX2_alike_18 rfl ?_
          refine r_getI dX2_alike_19 k_X2_15 rfl (by decide) rfl ?_
          rw [H.2.2.1, H.1.1, nI_add]
          refine r_icmp_ge (tgt := 56) dX2_alike_22 (by decide) (fun c_22 => ?_) (fun c_22 => ?_)
          · refine r_iload_n dX2_alike_56 rfl ?_
            refine r_ireturn dX2_alike_57 ⟨_, rfl, rfl⟩ ?_
            exact ⟨rfl, rfl⟩
          · exact absurd (nI_le (by omega) (by omega)) c_22
set_option maxRecDepth 100000 in
theorem m_X2_alike {G : WT} {l : Launch} (hG : GOK G) {h : Hp} {X : Tx} {a k : Nat} (hk : k < 5) (H : DAt h X a) : Cl G l 6 yX2_alike cX2_alike 4 (some .int) [.ref (gA G 46), .ref (gK G k)] h (fun r h' => r = some (.int (nI (alkS X a (wdN.getD k [])))) ∧ h' = h) := by
  refine Cl.of hG (by decide) (Nat.le_of_ble_eq_true rfl) ?_
  show Wp G l 6 RX2 cX2_alike 4 (some .int) 0 [.ref (gA G 46), .ref (gK G k), mk0, mk0] [] h _
  have k9 := alike_loop (l := l) hG hk H (lenS.getD k 0) 0 (by omega)
  rw [Nat.zero_add, Nat.add_zero, List.drop_zero] at k9
  refine r_iconst (v := 0) dX2_alike_0 (by decide) ?_
  refine r_istore_n dX2_alike_1 (by decide) rfl rfl ?_
  dsimp only [List.set]
  refine r_iconst (v := 0) dX2_alike_2 (by decide) ?_
  refine r_istore_n dX2_alike_3 (by decide) rfl rfl ?_
  dsimp only [List.set]
  exact k9
def optI (o : Option Nat) : Int32 := match o with | some k => nI k | none => -1
theorem word_lp {G : WT} {l : Launch} (hG : GOK G) {X : Tx} {h : Hp} {a : Nat} (H : DAt h X a) : ∀ (n k best : Nat) (x3 x4 : Value), k + n = 5 → best ≤ 5 → a + best ≤ X.1 → Wp G l 7 RX2 cX2_readWord 5 (some .int) 4 [.ref (gA G 46), .int (nI best), .int (nI k), x3, x4] [] h (fun r h' => r = some (.int (optI (rwS X a (wdN.drop k) k best).1)) ∧ h' = setI h 46 2 (nI (rwS X a (wdN.drop k) k best).2)) := by
  have hX := H.2.1.1
  have ha := H.2.2.2
  intro n
  induction n with
  | zero =>
    intro k best x3 x4 hk hb hab
    rw [List.drop_eq_nil_of_le (by show 5 ≤ k; omega)]
    refine r_iload_n dX2_readWord_4 rfl ?_
    refine r_iconst (v := 5) dX2_readWord_5 (by decide) ?_
    refine r_icmp_ge (tgt := 56) dX2_readWord_6 (by decide) (fun c_6 => ?_) (fun c_6 => ?_)
    · refine r_aload_n dX2_readWord_56 rfl ?_
      refine r_dup dX2_readWord_57 rfl ?_
      refine r_getI dX2_readWord_58 k_X2_19 rfl (by decide) rfl ?_
      refine r_iload_n dX2_readWord_61 rfl ?_
      refine r_iadd dX2_readWord_62 ?_
      rw [H.2.2.1, nI_add]
      refine r_putI dX2_readWord_63 k_X2_19 rfl (by decide) rfl rfl rfl rfl ?_
      refine r_iconst (v := -1) dX2_readWord_66 (by decide) ?_
      refine r_ireturn dX2_readWord_67 ⟨_, rfl, rfl⟩ ?_
      exact ⟨rfl, rfl⟩
    · exact absurd (nI_le (a := 5) (by omega) (by omega)) c_6
  | succ n ih =>
    intro k best x3 x4 hk hb hab
    have hk5 : k < 5 := by omega
    have hk7 : k < 7 := by omega
    have ed : wdN.drop k = wdN.getD k [] :: wdN.drop (k + 1) := by
      rw [List.drop_eq_getElem_cons (show k < wdN.length from hk5), List.getD_eq_getElem?_getD, List.getElem?_eq_getElem (show k < wdN.length from hk5)]
      rfl
    obtain ⟨w1, w2, w3⟩ := wd_tab k hk5
    have al := alk_le (X := X) (wdN.getD k []) a w2 ha
    have l5 : (wdN.getD k []).length ≤ 5 := by
      have key : ∀ k, k < 5 → (wdN.getD k []).length ≤ 5 := by decide
      exact key k hk5
    rw [ed]
    by_cases q9 : alkS X a (wdN.getD k []) = (wdN.getD k []).length
    · have es : rwS X a (wdN.getD k [] :: wdN.drop (k + 1)) k best = (some k, a + (wdN.getD k []).length) := by simp only [rwS, if_pos q9]
      rw [es]
      refine r_iload_n dX2_readWord_4 rfl ?_
      refine r_iconst (v := 5) dX2_readWord_5 (by decide) ?_
      refine r_icmp_ge (tgt := 56) dX2_readWord_6 (by decide) (fun c_6 => ?_) (fun c_6 => ?_)
      · exact absurd c_6 (nI_ge (a := k) (b := 5) (by omega) (by omega))
      · refine r_iload_n dX2_readWord_9 rfl ?_
        refine r_callS dX2_readWord_10 l_X2_61 o_X2_wordOf s_X2_wordOf rfl (m_X2_wordOf hG hk5) (by decide) rfl (Nat.le_of_ble_eq_true rfl) (fun r10 h10 hq10 => ?_)
        obtain ⟨rfl, e10⟩ := hq10
        rw [e10]
        clear e10 h10
        refine r_astore_n dX2_readWord_13 (by decide) rfl rfl ?_
        dsimp only [List.set]
        refine r_aload_n dX2_readWord_14 rfl ?_
        refine r_aload_n dX2_readWord_15 rfl ?_
        refine r_callV dX2_readWord_16 l_X2_65 o_X2_alike v_X2_alike rfl (by decide) rfl rfl (m_X2_alike hG hk5 H) (by decide) rfl (Nat.le_of_ble_eq_true rfl) (fun r16 h16 hq16 => ?_)
        obtain ⟨rfl, e16⟩ := hq16
        rw [e16]
        clear e16 h16
        refine r_istore dX2_readWord_19 (by decide) rfl rfl ?_
        dsimp only [List.set]
        refine r_iload dX2_readWord_21 rfl ?_
        refine r_aload_n dX2_readWord_23 rfl ?_
        refine r_callT dX2_readWord_24 l_X2_69 o_J0_length_8abf5 v_J0_length_8abf5 (by first | decide | assumption) rfl rfl (m_J0_length_8abf5 hG (i := k) hk7) (by decide) rfl (Nat.le_of_ble_eq_true rfl) (fun r24 h24 hq24 => ?_)
        obtain ⟨rfl, e24⟩ := hq24
        rw [e24]
        clear e24 h24
        rw [q9, w1]
        refine r_icmp_ne (tgt := 43) dX2_readWord_27 (by decide) (fun c_27 => ?_) (fun c_27 => ?_)
        · exact absurd rfl c_27
        · refine r_aload_n dX2_readWord_30 rfl ?_
          refine r_dup dX2_readWord_31 rfl ?_
          refine r_getI dX2_readWord_32 k_X2_19 rfl (by decide) rfl ?_
          refine r_iload dX2_readWord_35 rfl ?_
          refine r_iadd dX2_readWord_37 ?_
          rw [H.2.2.1, nI_add]
          refine r_putI dX2_readWord_38 k_X2_19 rfl (by decide) rfl rfl rfl rfl ?_
          refine r_iload_n dX2_readWord_41 rfl ?_
          refine r_ireturn dX2_readWord_42 ⟨_, rfl, rfl⟩ ?_
          exact ⟨rfl, rfl⟩
    · have es : rwS X a (wdN.getD k [] :: wdN.drop (k + 1)) k best = rwS X a (wdN.drop (k + 1)) (k + 1) (max best (alkS X a (wdN.getD k []))) := by simp only [rwS, if_neg q9]
      rw [es]
      have em : (if nI best < nI (alkS X a (wdN.getD k [])) then nI (alkS X a (wdN.getD k [])) else nI best) = nI (max best (alkS X a (wdN.getD k []))) := by
        by_cases z9 : best < alkS X a (wdN.getD k [])
        · rw [if_pos (nI_lt z9 (by omega)), Nat.max_eq_right (by omega)]
        · rw [if_neg (fun y => z9 ((nI_lt' (by omega) (by omega)).mp y)), Nat.max_eq_left (by omega)]
      refine r_iload_n dX2_readWord_4 rfl ?_
      refine r_iconst (v := 5) dX2_readWord_5 (by decide) ?_
      refine r_icmp_ge (tgt := 56) dX2_readWord_6 (by decide) (fun c_6 => ?_) (fun c_6 => ?_)
      · exact absurd c_6 (nI_ge (a := k) (b := 5) (by omega) (by omega))
      · refine r_iload_n dX2_readWord_9 rfl ?_
        refine r_callS dX2_readWord_10 l_X2_61 o_X2_wordOf s_X2_wordOf rfl (m_X2_wordOf hG hk5) (by decide) rfl (Nat.le_of_ble_eq_true rfl) (fun r10 h10 hq10 => ?_)
        obtain ⟨rfl, e10⟩ := hq10
        rw [e10]
        clear e10 h10
        refine r_astore_n dX2_readWord_13 (by decide) rfl rfl ?_
        dsimp only [List.set]
        refine r_aload_n dX2_readWord_14 rfl ?_
        refine r_aload_n dX2_readWord_15 rfl ?_
        refine r_callV dX2_readWord_16 l_X2_65 o_X2_alike v_X2_alike rfl (by decide) rfl rfl (m_X2_alike hG hk5 H) (by decide) rfl (Nat.le_of_ble_eq_true rfl) (fun r16 h16 hq16 => ?_)
        obtain ⟨rfl, e16⟩ := hq16
        rw [e16]
        clear e16 h16
        refine r_istore dX2_readWord_19 (by decide) rfl rfl ?_
        dsimp only [List.set]
        refine r_iload dX2_readWord_21 rfl ?_
        refine r_aload_n dX2_readWord_23 rfl ?_
        refine r_callT dX2_readWord_24 l_X2_69 o_J0_length_8abf5 v_J0_length_8abf5 (by first | decide | assumption) rfl rfl (m_J0_length_8abf5 hG (i := k) hk7) (by decide) rfl (Nat.le_of_ble_eq_true rfl) (fun r24 h24 hq24 => ?_)
        obtain ⟨rfl, e24⟩ := hq24
        rw [e24]
        clear e24 h24
        rw [w1]
        refine r_icmp_ne (tgt := 43) dX2_readWord_27 (by decide) (fun c_27 => ?_) (fun c_27 => ?_)
        · refine r_iload_n dX2_readWord_43 rfl ?_
          refine r_iload dX2_readWord_44 rfl ?_
          refine r_max dX2_readWord_46 l_X2_73 o_J9_max_7cf53 rfl s_J9_max_7cf53 (by decide) (Nat.le_of_ble_eq_true rfl) ?_
          refine r_istore_n dX2_readWord_49 (by decide) rfl rfl ?_
          dsimp only [List.set]
          refine r_iinc dX2_readWord_50 rfl (by first | exact nI_inc _ | rfl) (by decide) rfl rfl ?_
          dsimp only [List.set]
          refine r_goto (tgt := 4) dX2_readWord_53 (by decide) ?_
          skip
          rw [em]
          exact ih (k + 1) _ _ _ (by omega) (by omega) (by omega)
        · exact absurd ((nI_eq' (by omega) (by omega)).mp c_27) q9
set_option maxRecDepth 100000 in
theorem m_X2_readWord {G : WT} {l : Launch} (hG : GOK G) {h : Hp} {X : Tx} {a : Nat} (H : DAt h X a) : Cl G l 7 yX2_readWord cX2_readWord 5 (some .int) [.ref (gA G 46)] h (fun r h' => r = some (.int (optI (rwS X a wdN 0 0).1)) ∧ h' = setI h 46 2 (nI (rwS X a wdN 0 0).2)) := by
  refine Cl.of hG (by decide) (Nat.le_of_ble_eq_true rfl) ?_
  show Wp G l 7 RX2 cX2_readWord 5 (some .int) 0 [.ref (gA G 46), mk0, mk0, mk0, mk0] [] h _
  refine r_iconst (v := 0) dX2_readWord_0 (by decide) ?_
  refine r_istore_n dX2_readWord_1 (by decide) rfl rfl ?_
  dsimp only [List.set]
  refine r_iconst (v := 0) dX2_readWord_2 (by decide) ?_
  refine r_istore_n dX2_readWord_3 (by decide) rfl rfl ?_
  dsimp only [List.set]
  exact word_lp hG H 5 0 0 _ _ (by omega) (by omega) (by have := H.2.2.2; omega)
