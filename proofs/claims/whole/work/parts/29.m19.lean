/-! odds, mean -/
theorem lcmp_0 {x y : Int64} : lg_cmp x y = 0 ↔ x = y := by
  unfold lg_cmp
  by_cases h1 : x > y
  · rw [if_pos h1]
    exact ⟨fun q => absurd q (by decide), fun q => by subst q; exact absurd h1 (Int64.lt_irrefl)⟩
  · rw [if_neg h1]
    by_cases h2 : x = y
    · rw [if_pos h2]; exact ⟨fun _ => h2, fun _ => rfl⟩
    · rw [if_neg h2]; exact ⟨fun q => absurd q (by decide), fun q => absurd q h2⟩
theorem lcmp_ge {x y : Int64} : 0 ≤ lg_cmp x y ↔ y ≤ x := by
  unfold lg_cmp
  rw [Int64.le_iff_toInt_le]
  by_cases h1 : x > y
  · rw [if_pos h1]
    have := Int64.lt_iff_toInt_lt.mp h1
    exact ⟨fun _ => by omega, fun _ => by decide⟩
  · rw [if_neg h1]
    have := fun q => h1 (Int64.lt_iff_toInt_lt.mpr q)
    by_cases h2 : x = y
    · rw [if_pos h2]; exact ⟨fun _ => by rw [h2]; exact Int.le_refl _, fun _ => by decide⟩
    · rw [if_neg h2]
      have h3 : x.toInt ≠ y.toInt := fun q => h2 (Int64.toInt_inj.mp q)
      exact ⟨fun q => absurd q (by decide), fun q => absurd (show y.toInt < x.toInt by omega) this⟩
theorem gcd_loop {G : WT} {l : Launch} {h : Hp} {a : Int64} {c : Nat} : ∀ (m q p : Nat) (x9 x10 : Value), q ≤ m → p < 2 ^ 40 → q < 2 ^ 40 → Wp G l 1 RX7 cX7_divisor 11 (some .long) 17 [.ref (gA G 134), .long a, mk0, .long (lN c), mk0, .long (lN p), mk0, .long (lN q), mk0, x9, x10] [] h (fun r h' => r = some (.long (lN (Nat.gcd p q))) ∧ h' = h) := by
  intro m
  induction m with
  | zero =>
    intro q p x9 x10 hq hp hq2
    obtain rfl : q = 0 := by omega
    refine r_lload dX7_divisor_17 rfl ?_
    refine r_lconst (v := 0) dX7_divisor_19 (by decide) ?_
    refine r_lcmp dX7_divisor_20 ?_
    refine r_if_eq (tgt := 42) dX7_divisor_21 (by decide) (fun c_21 => ?_) (fun c_21 => ?_)
    · refine r_lload dX7_divisor_42 rfl ?_
      refine r_lreturn dX7_divisor_44 rfl ?_
      exact ⟨by rw [Nat.gcd_zero_right], rfl⟩
    · exact absurd (lcmp_0.mpr rfl) c_21
  | succ m ih =>
    intro q p x9 x10 hq hp hq2
    by_cases h0 : q = 0
    · subst h0
      refine r_lload dX7_divisor_17 rfl ?_
      refine r_lconst (v := 0) dX7_divisor_19 (by decide) ?_
      refine r_lcmp dX7_divisor_20 ?_
      refine r_if_eq (tgt := 42) dX7_divisor_21 (by decide) (fun c_21 => ?_) (fun c_21 => ?_)
      · refine r_lload dX7_divisor_42 rfl ?_
        refine r_lreturn dX7_divisor_44 rfl ?_
        exact ⟨by rw [Nat.gcd_zero_right], rfl⟩
      · exact absurd (lcmp_0.mpr rfl) c_21
    · have z : ¬ lN q = 0 := fun y => h0 ((pk_lEQ (b := 0) (by omega) (by omega)).mp y)
      have hr := Nat.mod_lt p (show 0 < q by omega)
      have hl := Nat.mod_le p q
      have eg : Nat.gcd p q = Nat.gcd q (p % q) := by rw [Nat.gcd_comm p q, Nat.gcd_rec q p, Nat.gcd_comm]
      rw [eg]
      refine r_lload dX7_divisor_17 rfl ?_
      refine r_lconst (v := 0) dX7_divisor_19 (by decide) ?_
      refine r_lcmp dX7_divisor_20 ?_
      refine r_if_eq (tgt := 42) dX7_divisor_21 (by decide) (fun c_21 => ?_) (fun c_21 => ?_)
      · exact absurd (lcmp_0.mp c_21) z
      · refine r_lload dX7_divisor_24 rfl ?_
        refine r_lload dX7_divisor_26 rfl ?_
        refine r_lrem dX7_divisor_28 z ?_
        rw [pk_lRem (by omega) (by omega) (by omega)]
        refine r_lstore dX7_divisor_29 (by decide) rfl rfl ?_
        dsimp only [List.set]
        refine r_lload dX7_divisor_31 rfl ?_
        refine r_lstore dX7_divisor_33 (by decide) rfl rfl ?_
        dsimp only [List.set]
        refine r_lload dX7_divisor_35 rfl ?_
        refine r_lstore dX7_divisor_37 (by decide) rfl rfl ?_
        dsimp only [List.set]
        refine r_goto (tgt := 17) dX7_divisor_39 (by decide) ?_
        exact ih (p % q) q _ _ (by omega) (by omega) (by omega)
set_option maxRecDepth 100000 in
theorem m_X7_divisor {G : WT} {l : Launch} (hG : GOK G) {h : Hp} {a : Int64} {c : Nat} (hc : c < 1000000) (ha : -4294967296 ≤ a.toInt ∧ a.toInt ≤ 4294967296) : Cl G l 1 yX7_divisor cX7_divisor 11 (some .long) [.ref (gA G 134), .long a, .long (lN c)] h (fun r h' => r = some (.long (lN (Nat.gcd a.toInt.natAbs c))) ∧ h' = h) := by
  refine Cl.of hG (by decide) (Nat.le_of_ble_eq_true rfl) ?_
  show Wp G l 1 RX7 cX7_divisor 11 (some .long) 0 [.ref (gA G 134), .long a, mk0, .long (lN c), mk0, mk0, mk0, mk0, mk0, mk0, mk0] [] h _
  have z0 : (0 : Int64).toInt = 0 := rfl
  by_cases hs : 0 ≤ a.toInt
  · have ea : a = lN a.toInt.natAbs := by
      apply Int64.toInt_inj.mp
      rw [pk_lT (by omega)]
      omega
    refine r_lload_n dX7_divisor_0 rfl ?_
    refine r_lconst (v := 0) dX7_divisor_1 (by decide) ?_
    refine r_lcmp dX7_divisor_2 ?_
    refine r_if_ge (tgt := 11) dX7_divisor_3 (by decide) (fun c_3 => ?_) (fun c_3 => ?_)
    · refine r_lload_n dX7_divisor_11 rfl ?_
      refine r_lstore dX7_divisor_12 (by decide) rfl rfl ?_
      dsimp only [List.set]
      refine r_lload_n dX7_divisor_14 rfl ?_
      refine r_lstore dX7_divisor_15 (by decide) rfl rfl ?_
      dsimp only [List.set]
      have q := gcd_loop (G := G) (l := l) (h := h) (a := a) (c := c) c c a.toInt.natAbs mk0 mk0 (Nat.le_refl _) (by omega) (by omega)
      rw [← ea] at q
      exact q
    · exact absurd (lcmp_ge.mpr (by rw [Int64.le_iff_toInt_le, z0]; exact hs)) c_3
  · have ea : -a = lN a.toInt.natAbs := by
      apply Int64.toInt_inj.mp
      rw [pk_lT (by omega), Int64.toInt_neg, Int.bmod_eq_of_le (by omega) (by omega)]
      omega
    refine r_lload_n dX7_divisor_0 rfl ?_
    refine r_lconst (v := 0) dX7_divisor_1 (by decide) ?_
    refine r_lcmp dX7_divisor_2 ?_
    refine r_if_ge (tgt := 11) dX7_divisor_3 (by decide) (fun c_3 => ?_) (fun c_3 => ?_)
    · exact absurd (by have := Int64.le_iff_toInt_le.mp (lcmp_ge.mp c_3); rw [z0] at this; exact this) hs
    · refine r_lload_n dX7_divisor_6 rfl ?_
      refine r_lneg dX7_divisor_7 ?_
      refine r_goto (tgt := 12) dX7_divisor_8 (by decide) ?_
      refine r_lstore dX7_divisor_12 (by decide) rfl rfl ?_
      dsimp only [List.set]
      refine r_lload_n dX7_divisor_14 rfl ?_
      refine r_lstore dX7_divisor_15 (by decide) rfl rfl ?_
      dsimp only [List.set]
      have q := gcd_loop (G := G) (l := l) (h := h) (a := a) (c := c) c c a.toInt.natAbs mk0 mk0 (Nat.le_refl _) (by omega) (by omega)
      rw [← ea] at q
      exact q
set_option maxRecDepth 100000 in
theorem m_X7_lowest {G : WT} {l : Launch} (hG : GOK G) {h : Hp} {a : Int64} {c part : Nat} (hc : c < 1000000) (h0 : 0 < c) (hp : part < 2) (ha : -4294967296 ≤ a.toInt ∧ a.toInt ≤ 4294967296) : Cl G l 2 yX7_lowest cX7_lowest 8 (some .long) [.ref (gA G 134), .long a, .long (lN c), .int (nI part)] h (fun r h' => r = some (.long (fracA a c part)) ∧ h' = h) := by
  refine Cl.of hG (by decide) (Nat.le_of_ble_eq_true rfl) ?_
  show Wp G l 2 RX7 cX7_lowest 8 (some .long) 0 [.ref (gA G 134), .long a, mk0, .long (lN c), mk0, .int (nI part), mk0, mk0] [] h _
  have hg : 0 < Nat.gcd a.toInt.natAbs c := Nat.gcd_pos_of_pos_right _ h0
  have hg2 : Nat.gcd a.toInt.natAbs c ≤ c := Nat.gcd_le_right _ h0
  have z : ¬ lN (Nat.gcd a.toInt.natAbs c) = 0 := fun y => by have := (pk_lEQ (b := 0) (by omega) (by omega)).mp y; omega
  refine r_aload_n dX7_lowest_0 rfl ?_
  refine r_lload_n dX7_lowest_1 rfl ?_
  refine r_lload_n dX7_lowest_2 rfl ?_
  refine r_callV dX7_lowest_3 l_X7_374 o_X7_divisor v_X7_divisor rfl (by decide) rfl rfl (m_X7_divisor hG hc ha) (by decide) rfl (Nat.le_of_ble_eq_true rfl) (fun r3 h3 hq3 => ?_)
  obtain ⟨rfl, e3⟩ := hq3
  rw [e3]
  clear e3 h3
  refine r_lstore dX7_lowest_6 (by decide) rfl rfl ?_
  dsimp only [List.set]
  refine r_iload dX7_lowest_8 rfl ?_
  refine r_if_ne (tgt := 20) dX7_lowest_10 (by decide) (fun c_10 => ?_) (fun c_10 => ?_)
  · have y : ¬ part = 0 := fun q => c_10 (by rw [q]; rfl)
    refine r_lload_n dX7_lowest_20 rfl ?_
    refine r_lload dX7_lowest_21 rfl ?_
    refine r_ldiv dX7_lowest_23 z ?_
    refine r_lreturn dX7_lowest_24 rfl ?_
    exact ⟨by rw [fracA, if_neg y], rfl⟩
  · have y : part = 0 := (nI_eq' (b := 0) (by omega) (by omega)).mp c_10
    refine r_lload_n dX7_lowest_13 rfl ?_
    refine r_lload dX7_lowest_14 rfl ?_
    refine r_ldiv dX7_lowest_16 z ?_
    refine r_goto (tgt := 24) dX7_lowest_17 (by decide) ?_
    refine r_lreturn dX7_lowest_24 rfl ?_
    exact ⟨by rw [fracA, if_pos y], rfl⟩
