theorem dec_inc (x : Int32) : x + Int32.ofInt (-1) = x - 1 := (Int32.sub_eq_add_neg x 1).symm
theorem nI_dec (m : Nat) : nI (m + 1) + Int32.ofInt (-1) = nI m := by rw [dec_inc, nI_pred]
/-! rows: laid, counted, read -/
theorem layRow_loop {G : WT} {l : Launch} (hG : GOK G) {h : Hp} {E code : Nat} (hE : E ≤ 5) (hc : code < 1000000) (h0 : h.1 134 0 = nI E) :
    ∀ (m j : Nat) (g : Hp), j + m = E → Fr (fun a _ => a == 151) h g → (∀ e, m ≤ e → e < E → g.1 151 e = nI (rowW E code e)) → Wp G l 1 RX7 cX7_layRow 4 none 9 [.ref (gA G 134), .int (nI code), .int (nI (code / 4 ^ j)), .int (nI m - 1)] [] g (fun r h' => r = none ∧ Fr (fun a _ => a == 151) h h' ∧ ∀ e, e < E → h'.1 151 e = nI (rowW E code e)) := by
  intro m
  induction m with
  | zero =>
    intro j g hj hF hw
    refine r_iload_n dX7_layRow_9 rfl ?_
    refine r_if_lt (tgt := 32) dX7_layRow_10 (by decide) (fun c_10 => ?_) (fun c_10 => ?_)
    · refine r_return dX7_layRow_32 rfl ?_
      exact ⟨rfl, hF, fun e he => hw e (by omega) he⟩
    · exact absurd (by decide) c_10
  | succ m ih =>
    intro j g hj hF hw
    have hd : code / 4 ^ j ≤ code := Nat.div_le_self _ _
    rw [nI_pred]
    refine r_iload_n dX7_layRow_9 rfl ?_
    refine r_if_lt (tgt := 32) dX7_layRow_10 (by decide) (fun c_10 => ?_) (fun c_10 => ?_)
    · exact absurd c_10 (nI_pos (by omega))
    · refine r_aload_n dX7_layRow_13 rfl ?_
      refine r_getR (j := 151) dX7_layRow_14 k_X7_103 rfl (by decide) rfl rfl ?_
      refine r_iload_n dX7_layRow_17 rfl ?_
      refine r_iload_n dX7_layRow_18 rfl ?_
      refine r_iconst (v := 4) dX7_layRow_19 (by decide) ?_
      refine r_irem dX7_layRow_20 (by decide) ?_
      rw [show (4 : Int32) = nI 4 from rfl, nI_rem (by omega) (by omega) (by omega)]
      refine r_iast (m) dX7_layRow_21 rfl rfl (show m < 6 by omega) ?_
      refine r_iload_n dX7_layRow_22 rfl ?_
      refine r_iconst (v := 4) dX7_layRow_23 (by decide) ?_
      refine r_idiv dX7_layRow_24 (by decide) ?_
      rw [show (4 : Int32) = nI 4 from rfl, nI_div (by omega) (by omega) (by omega), Nat.div_div_eq_div_mul, ← Nat.pow_succ]
      refine r_istore_n dX7_layRow_25 (by decide) rfl rfl ?_
      dsimp only [List.set]
      refine r_iinc dX7_layRow_26 rfl (dec_inc _) (by decide) rfl rfl ?_
      dsimp only [List.set]
      refine r_goto (tgt := 9) dX7_layRow_29 (by decide) ?_
      refine ih (j + 1) _ (by omega) (hF.tr (Fr.set rfl)) (fun e he1 he2 => ?_)
      by_cases hem : e = m
      · rw [hem, setI_at, rowW, show E - 1 - m = j by omega]
      · rw [setI_nj hem]; exact hw e (by omega) he2
set_option maxRecDepth 100000 in
theorem m_X7_layRow {G : WT} {l : Launch} (hG : GOK G) {h : Hp} {E code : Nat} (hE : E ≤ 5) (hc : code < 1000000) (h0 : h.1 134 0 = nI E) : Cl G l 1 yX7_layRow cX7_layRow 4 none [.ref (gA G 134), .int (nI code)] h (fun r h' => r = none ∧ Fr (fun a _ => a == 151) h h' ∧ ∀ e, e < E → h'.1 151 e = nI (rowW E code e)) := by
  refine Cl.of hG (by decide) (Nat.le_of_ble_eq_true rfl) ?_
  show Wp G l 1 RX7 cX7_layRow 4 none 0 [.ref (gA G 134), .int (nI code), mk0, mk0] [] h _
  refine r_iload_n dX7_layRow_0 rfl ?_
  refine r_istore_n dX7_layRow_1 (by decide) rfl rfl ?_
  dsimp only [List.set]
  refine r_aload_n dX7_layRow_2 rfl ?_
  refine r_getI dX7_layRow_3 k_X7_7 rfl (by decide) rfl ?_
  refine r_iconst (v := 1) dX7_layRow_6 (by decide) ?_
  refine r_isub dX7_layRow_7 ?_
  rw [h0]
  refine r_istore_n dX7_layRow_8 (by decide) rfl rfl ?_
  dsimp only [List.set]
  exact (by simpa using layRow_loop hG hE hc h0 E 0 h (by omega) Fr.rf (fun e h1 h2 => absurd h2 (by omega)))
theorem rowsNow_loop {G : WT} {l : Launch} {h : Hp} {E : Nat} (hE : E ≤ 5) (h0 : h.1 134 0 = nI E) :
    ∀ (m j : Nat), j + m = E → Wp G l 1 RX7 cX7_rowsNow 3 (some .int) 4 [.ref (gA G 134), .int (nI (4 ^ j)), .int (nI j)] [] h (fun r h' => r = some (.int (nI (4 ^ E))) ∧ h' = h) := by
  intro m
  induction m with
  | zero =>
    intro j hj
    obtain rfl : j = E := by omega
    refine r_iload_n dX7_rowsNow_4 rfl ?_
    refine r_aload_n dX7_rowsNow_5 rfl ?_
    refine r_getI dX7_rowsNow_6 k_X7_7 rfl (by decide) rfl ?_
    rw [h0]
    refine r_icmp_ge (tgt := 22) dX7_rowsNow_9 (by decide) (fun c_9 => ?_) (fun c_9 => ?_)
    · refine r_iload_n dX7_rowsNow_22 rfl ?_
      refine r_ireturn dX7_rowsNow_23 ⟨_, rfl, rfl⟩ ?_
      exact ⟨rfl, rfl⟩
    · exact absurd (Int32.le_refl _) c_9
  | succ m ih =>
    intro j hj
    refine r_iload_n dX7_rowsNow_4 rfl ?_
    refine r_aload_n dX7_rowsNow_5 rfl ?_
    refine r_getI dX7_rowsNow_6 k_X7_7 rfl (by decide) rfl ?_
    rw [h0]
    refine r_icmp_ge (tgt := 22) dX7_rowsNow_9 (by decide) (fun c_9 => ?_) (fun c_9 => ?_)
    · exact absurd c_9 (nI_ge (by omega) (by omega))
    · refine r_iload_n dX7_rowsNow_12 rfl ?_
      refine r_iconst (v := 4) dX7_rowsNow_13 (by decide) ?_
      refine r_imul dX7_rowsNow_14 ?_
      rw [show (4 : Int32) = nI 4 from rfl, pk_mul, ← Nat.pow_succ]
      refine r_istore_n dX7_rowsNow_15 (by decide) rfl rfl ?_
      dsimp only [List.set]
      refine r_iinc dX7_rowsNow_16 rfl (by first | exact nI_inc _ | rfl) (by decide) rfl rfl ?_
      dsimp only [List.set]
      refine r_goto (tgt := 4) dX7_rowsNow_19 (by decide) ?_
      exact ih (j + 1) (by omega)
set_option maxRecDepth 100000 in
theorem m_X7_rowsNow {G : WT} {l : Launch} (hG : GOK G) {h : Hp} {E : Nat} (hE : E ≤ 5) (h0 : h.1 134 0 = nI E) : Cl G l 1 yX7_rowsNow cX7_rowsNow 3 (some .int) [.ref (gA G 134)] h (fun r h' => r = some (.int (nI (4 ^ E))) ∧ h' = h) := by
  refine Cl.of hG (by decide) (Nat.le_of_ble_eq_true rfl) ?_
  show Wp G l 1 RX7 cX7_rowsNow 3 (some .int) 0 [.ref (gA G 134), mk0, mk0] [] h _
  refine r_iconst (v := 1) dX7_rowsNow_0 (by decide) ?_
  refine r_istore_n dX7_rowsNow_1 (by decide) rfl rfl ?_
  dsimp only [List.set]
  refine r_iconst (v := 0) dX7_rowsNow_2 (by decide) ?_
  refine r_istore_n dX7_rowsNow_3 (by decide) rfl rfl ?_
  dsimp only [List.set]
  exact rowsNow_loop hE h0 E 0 (by omega)
theorem digit_loop {G : WT} {l : Launch} {h : Hp} {E code i : Nat} (hE : E ≤ 5) (hc : code < 1000000) (hi : i < E) :
    ∀ (m j : Nat), i + m + j + 1 = E → Wp G l 1 RX7 cX7_digit 5 (some .int) 10 [.ref (gA G 134), .int (nI code), .int (nI i), .int (nI (code / 4 ^ j)), .int (nI (i + m))] [] h (fun r h' => r = some (.int (nI (rowW E code i))) ∧ h' = h) := by
  intro m
  induction m with
  | zero =>
    intro j hj
    have hd : code / 4 ^ j ≤ code := Nat.div_le_self _ _
    refine r_iload dX7_digit_10 rfl ?_
    refine r_iload_n dX7_digit_12 rfl ?_
    refine r_icmp_le (tgt := 26) dX7_digit_13 (by decide) (fun c_13 => ?_) (fun c_13 => ?_)
    · refine r_iload_n dX7_digit_26 rfl ?_
      refine r_iconst (v := 4) dX7_digit_27 (by decide) ?_
      refine r_irem dX7_digit_28 (by decide) ?_
      rw [show (4 : Int32) = nI 4 from rfl, nI_rem (by omega) (by omega) (by omega)]
      refine r_ireturn dX7_digit_29 ⟨_, rfl, rfl⟩ ?_
      exact ⟨by rw [rowW, show E - 1 - i = j by omega], rfl⟩
    · exact absurd (Int32.le_refl _) c_13
  | succ m ih =>
    intro j hj
    have hd : code / 4 ^ j ≤ code := Nat.div_le_self _ _
    refine r_iload dX7_digit_10 rfl ?_
    refine r_iload_n dX7_digit_12 rfl ?_
    refine r_icmp_le (tgt := 26) dX7_digit_13 (by decide) (fun c_13 => ?_) (fun c_13 => ?_)
    · exact absurd c_13 (nI_ge (by omega) (by omega))
    · refine r_iload_n dX7_digit_16 rfl ?_
      refine r_iconst (v := 4) dX7_digit_17 (by decide) ?_
      refine r_idiv dX7_digit_18 (by decide) ?_
      rw [show (4 : Int32) = nI 4 from rfl, nI_div (by omega) (by omega) (by omega), Nat.div_div_eq_div_mul, ← Nat.pow_succ]
      refine r_istore_n dX7_digit_19 (by decide) rfl rfl ?_
      dsimp only [List.set]
      refine r_iinc dX7_digit_20 rfl (nI_dec (i + m)) (by decide) rfl rfl ?_
      dsimp only [List.set]
      refine r_goto (tgt := 10) dX7_digit_23 (by decide) ?_
      exact ih (j + 1) (by omega)
set_option maxRecDepth 100000 in
theorem m_X7_digit {G : WT} {l : Launch} (hG : GOK G) {h : Hp} {E code i : Nat} (hE : E ≤ 5) (hc : code < 1000000) (hi : i < E) (h0 : h.1 134 0 = nI E) : Cl G l 1 yX7_digit cX7_digit 5 (some .int) [.ref (gA G 134), .int (nI code), .int (nI i)] h (fun r h' => r = some (.int (nI (rowW E code i))) ∧ h' = h) := by
  refine Cl.of hG (by decide) (Nat.le_of_ble_eq_true rfl) ?_
  show Wp G l 1 RX7 cX7_digit 5 (some .int) 0 [.ref (gA G 134), .int (nI code), .int (nI i), mk0, mk0] [] h _
  refine r_iload_n dX7_digit_0 rfl ?_
  refine r_istore_n dX7_digit_1 (by decide) rfl rfl ?_
  dsimp only [List.set]
  refine r_aload_n dX7_digit_2 rfl ?_
  refine r_getI dX7_digit_3 k_X7_7 rfl (by decide) rfl ?_
  refine r_iconst (v := 1) dX7_digit_6 (by decide) ?_
  rw [h0]
  refine r_isub dX7_digit_7 ?_
  refine r_istore dX7_digit_8 (by decide) rfl rfl ?_
  dsimp only [List.set]
  obtain ⟨m, hm⟩ : ∃ m, E = i + m + 1 := ⟨E - 1 - i, by omega⟩
  have q := digit_loop (G := G) (l := l) (h := h) hE hc hi m 0 (by omega)
  rw [Nat.pow_zero, Nat.div_one] at q
  rw [show nI E - 1 = nI (i + m) by rw [hm, nI_pred]]
  exact q
