/-! the law: its loop -/
theorem six_lt {L i : Nat} (hL : L ≤ 3072) (hi : i ≤ L) (c : ¬ nI L - 6 < nI i) : i + 6 ≤ L := by
  by_cases h6 : 6 ≤ L
  · rw [show (6 : Int32) = nI 6 from rfl, pk_sub h6] at c
    by_cases z : L - 6 < i
    · exact absurd (nI_lt z (by omega)) c
    · omega
  · exfalso
    have n0 : nI L - 6 < 0 := by
      rcases (show L = 0 ∨ L = 1 ∨ L = 2 ∨ L = 3 ∨ L = 4 ∨ L = 5 by omega) with rfl | rfl | rfl | rfl | rfl | rfl <;> decide
    refine c (Int32.lt_iff_toInt_lt.mpr ?_)
    have := toInt_lt0.mp n0
    rw [nI_toInt (by omega)]
    omega
theorem law_33 {G : WT} {l : Launch} (hG : GOK G) {nc ns i : Nat} (hL : gL G < 2 ^ 31) (hi : i + 6 ≤ gL G) {h : Hp} (W0 : Good h) {Q : Option Value → Hp → Prop} (kk : ∀ h', Good h' → WpN nc ns G l 60 RL cL_law 4 ret 1162 [.ref (gX G), .ref (gA G 0), .ref (gA G 134), .int (nI i)] [] h' Q) (v : Int32) : WpN nc ns G l 60 RL cL_law 4 ret 33 [.ref (gX G), .ref (gA G 0), .ref (gA G 134), .int (nI i)] [.int v] h Q := by
  by_cases c : v.toInt < 0 ∨ 32 < v.toInt
  · refine q_tsw 1162 dL_law_33 rfl (by decide) (by rw [tswT, if_pos c]; rfl) ?_
    exact kk _ W0
  · obtain ⟨n, hn, hn33⟩ : ∃ n : Nat, v.toInt = (n : Int) ∧ n < 33 := ⟨v.toInt.toNat, by omega, by omega⟩
    rcases (show n = 0 ∨ n = 1 ∨ n = 2 ∨ n = 3 ∨ n = 4 ∨ n = 5 ∨ n = 6 ∨ n = 7 ∨ n = 8 ∨ n = 9 ∨ n = 10 ∨ n = 11 ∨ n = 12 ∨ n = 13 ∨ n = 14 ∨ n = 15 ∨ n = 16 ∨ n = 17 ∨ n = 18 ∨ n = 19 ∨ n = 20 ∨ n = 21 ∨ n = 22 ∨ n = 23 ∨ n = 24 ∨ n = 25 ∨ n = 26 ∨ n = 27 ∨ n = 28 ∨ n = 29 ∨ n = 30 ∨ n = 31 ∨ n = 32 by omega) with rfl | rfl | rfl | rfl | rfl | rfl | rfl | rfl | rfl | rfl | rfl | rfl | rfl | rfl | rfl | rfl | rfl | rfl | rfl | rfl | rfl | rfl | rfl | rfl | rfl | rfl | rfl | rfl | rfl | rfl | rfl | rfl | rfl
    · exact q_tsw 180 dL_law_33 rfl (by decide) (by rw [hn]; rfl) (la_0 hG hL hi W0 kk)
    · exact q_tsw 223 dL_law_33 rfl (by decide) (by rw [hn]; rfl) (la_1 hG hL hi W0 kk)
    · exact q_tsw 256 dL_law_33 rfl (by decide) (by rw [hn]; rfl) (la_2 hG hL hi W0 kk)
    · exact q_tsw 289 dL_law_33 rfl (by decide) (by rw [hn]; rfl) (la_3 hG hL hi W0 kk)
    · exact q_tsw 332 dL_law_33 rfl (by decide) (by rw [hn]; rfl) (la_4 hG hL hi W0 kk)
    · exact q_tsw 355 dL_law_33 rfl (by decide) (by rw [hn]; rfl) (la_5 hG hL hi W0 kk)
    · exact q_tsw 378 dL_law_33 rfl (by decide) (by rw [hn]; rfl) (la_6 hG hL hi W0 kk)
    · exact q_tsw 391 dL_law_33 rfl (by decide) (by rw [hn]; rfl) (la_7 hG hL hi W0 kk)
    · exact q_tsw 414 dL_law_33 rfl (by decide) (by rw [hn]; rfl) (la_8 hG hL hi W0 kk)
    · exact q_tsw 427 dL_law_33 rfl (by decide) (by rw [hn]; rfl) (la_9 hG hL hi W0 kk)
    · exact q_tsw 460 dL_law_33 rfl (by decide) (by rw [hn]; rfl) (la_10 hG hL hi W0 kk)
    · exact q_tsw 473 dL_law_33 rfl (by decide) (by rw [hn]; rfl) (la_11 hG hL hi W0 kk)
    · exact q_tsw 496 dL_law_33 rfl (by decide) (by rw [hn]; rfl) (la_12 hG hL hi W0 kk)
    · exact q_tsw 519 dL_law_33 rfl (by decide) (by rw [hn]; rfl) (la_13 hG hL hi W0 kk)
    · exact q_tsw 542 dL_law_33 rfl (by decide) (by rw [hn]; rfl) (la_14 hG hL hi W0 kk)
    · exact q_tsw 575 dL_law_33 rfl (by decide) (by rw [hn]; rfl) (la_15 hG hL hi W0 kk)
    · exact q_tsw 598 dL_law_33 rfl (by decide) (by rw [hn]; rfl) (la_16 hG hL hi W0 kk)
    · exact q_tsw 641 dL_law_33 rfl (by decide) (by rw [hn]; rfl) (la_17 hG hL hi W0 kk)
    · exact q_tsw 664 dL_law_33 rfl (by decide) (by rw [hn]; rfl) (la_18 hG hL hi W0 kk)
    · exact q_tsw 698 dL_law_33 rfl (by decide) (by rw [hn]; rfl) (la_19 hG hL hi W0 kk)
    · exact q_tsw 732 dL_law_33 rfl (by decide) (by rw [hn]; rfl) (la_20 hG hL hi W0 kk)
    · exact q_tsw 755 dL_law_33 rfl (by decide) (by rw [hn]; rfl) (la_21 hG hL hi W0 kk)
    · exact q_tsw 768 dL_law_33 rfl (by decide) (by rw [hn]; rfl) (la_22 hG hL hi W0 kk)
    · exact q_tsw 801 dL_law_33 rfl (by decide) (by rw [hn]; rfl) (la_23 hG hL hi W0 kk)
    · exact q_tsw 814 dL_law_33 rfl (by decide) (by rw [hn]; rfl) (la_24 hG hL hi W0 kk)
    · exact q_tsw 827 dL_law_33 rfl (by decide) (by rw [hn]; rfl) (la_25 hG hL hi W0 kk)
    · exact q_tsw 870 dL_law_33 rfl (by decide) (by rw [hn]; rfl) (la_26 hG hL hi W0 kk)
    · exact q_tsw 893 dL_law_33 rfl (by decide) (by rw [hn]; rfl) (la_27 hG hL hi W0 kk)
    · exact q_tsw 926 dL_law_33 rfl (by decide) (by rw [hn]; rfl) (la_28 hG hL hi W0 kk)
    · exact q_tsw 949 dL_law_33 rfl (by decide) (by rw [hn]; rfl) (la_29 hG hL hi W0 kk)
    · exact q_tsw 992 dL_law_33 rfl (by decide) (by rw [hn]; rfl) (la_30 hG hL hi W0 kk)
    · exact q_tsw 1065 dL_law_33 rfl (by decide) (by rw [hn]; rfl) (la_31 hG hL hi W0 kk)
    · exact q_tsw 1099 dL_law_33 rfl (by decide) (by rw [hn]; rfl) (la_32 hG hL hi W0 kk)
theorem law_loop {G : WT} {l : Launch} (hG : GOK G) {nc ns : Nat} (hL0 : gL G ≤ 3072) : ∀ (m i : Nat) (h : Hp), gL G ≤ i + m → i ≤ gL G → Good h → WpN nc ns G l 60 RL cL_law 4 ret 18 [.ref (gX G), .ref (gA G 0), .ref (gA G 134), .int (nI i)] [] h (fun r _ => r = some (.int 1)) := by
  have hL : gL G < 2 ^ 31 := Nat.lt_of_le_of_lt hL0 (Nat.le_of_ble_eq_true rfl)
  intro m
  induction m with
  | zero =>
    intro i h hm hi W0
    refine q_iload_n dL_law_18 rfl ?_
    refine q_aload_n dL_law_19 rfl ?_
    refine q_slen dL_law_20 ?_
    refine q_bipush (v := 6) dL_law_21 (by decide) ?_
    refine q_isub dL_law_23 ?_
    refine q_icmp_gt (tgt := 1168) dL_law_24 (by decide) (fun c_24 => ?_) (fun c_24 => ?_)
    · refine q_iconst (v := 1) dL_law_1168 (by decide) ?_
      refine q_ireturn dL_law_1169 ⟨_, rfl, rfl⟩ ?_
      exact rfl
    · exact absurd (six_lt hL0 hi c_24) (by omega)
  | succ m ih =>
    intro i h hm hi W0

    refine q_iload_n dL_law_18 rfl ?_
    refine q_aload_n dL_law_19 rfl ?_
    refine q_slen dL_law_20 ?_
    refine q_bipush (v := 6) dL_law_21 (by decide) ?_
    refine q_isub dL_law_23 ?_
    refine q_icmp_gt (tgt := 1168) dL_law_24 (by decide) (fun c_24 => ?_) (fun c_24 => ?_)
    · refine q_iconst (v := 1) dL_law_1168 (by decide) ?_
      refine q_ireturn dL_law_1169 ⟨_, rfl, rfl⟩ ?_
      exact rfl
    · have h6 := six_lt hL0 hi c_24
      refine q_aload_n dL_law_27 rfl ?_
      refine q_iload_n dL_law_28 rfl ?_
      refine q_sld (i) dL_law_29 rfl (show i < gL G by omega) hL ?_
      refine q_bipush (v := 63) dL_law_30 (by decide) ?_
      refine q_iand dL_law_32 ?_
      refine law_33 hG hL h6 W0 (fun h2 W2 => ?_) _
      refine q_iinc dL_law_1162 rfl (show nI i + Int32.ofInt 6 = nI (i + 6) from nI_add i 6) (by decide) rfl rfl ?_
      dsimp only [List.set]
      refine q_goto (tgt := 18) dL_law_1165 (by decide) ?_
      exact ih (i + 6) h2 (by omega) (by omega) W2
