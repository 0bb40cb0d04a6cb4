/-! round, laws, cook, pact, looked -/
theorem ah_next {g g2 h0 : Hp} {n q j : Nat} {V : Hv} {T : Tb} {told : Option Nat} {free : Bool} {pact : Option (Nat × Nat)} (H : AhP h0 g n q V T told free pact j) (HH : HoldP g g2 17 q V (supE V told free pact) (supN V (supE V told free pact) T j)) : AhP h0 g2 n q V T told free pact (j + 1) := by
  obtain ⟨C, F, D, Hd⟩ := H
  refine ⟨C.ho HH, F.tr (ho_as HH.1), HH.2.1, fun m9 e9 p9 => ?_⟩
  rw [← show j = m9 by omega]
  exact HH.2.2.2 (by rw [supN_E]; exact p9)
theorem ah_hold {G : WT} {l : Launch} (hG : GOK G) {g h0 : Hp} {n q j : Nat} {V : Hv} {T : Tb} {told : Option Nat} {free : Bool} {pact : Option (Nat × Nat)} (hj : j ≤ 1000) (H : AhP h0 g n q V T told free pact j) : Cl G l 5 yX3_hold cX3_hold 4 none [.ref (gA G 37), .ref (gA G 17), .ref (gA G q)] g (fun r g2 => r = none ∧ HoldP g g2 17 q V (supE V told free pact) (supN V (supE V told free pact) T j)) := by
  obtain ⟨C, F, D, Hd⟩ := H
  have hd9 := C.2.2.1
  have dy := supN_day (V := V) (P := supE V told free pact) (T := T) j
  exact m_X3_hold hG (t := 17) (q := q) (pact := pact) rfl (Or.inr rfl) C.ks D (supN_ok C.2.1 j (by omega)) C.2.2.2.2.1 C.2.2.2.2.2.1 C.2.2.2.2.2.2.2 (by rw [supN_E]; exact C.2.2.2.2.2.2.1) (by omega)
theorem ah_0 {g h0 : Hp} {n q : Nat} {V : Hv} {T : Tb} {told : Option Nat} {free : Bool} {pact : Option (Nat × Nat)} (C : DIg h0 n q V T told free pact) (S8 : SameT h0 g 1 17) (F8 : Fr (tbF 17) h0 g) : AhP h0 g n q V T told free pact 0 := by
  obtain ⟨C8, D8⟩ := C.be S8 F8
  exact ⟨C8, tb_as F8, D8, fun m9 e9 => absurd e9 (by omega)⟩
theorem rd_lp {G : WT} {l : Launch} (hG : GOK G) {n q : Nat} {V : Hv} {T : Tb} {h0 : Hp} : ∀ (m j : Nat) (g : Hp), j + m = 60 → (∀ i, i < j → likeS (supN V (P0 V) T (i + 1)) T = false) → AhP h0 g n q V T none false none j → Wp G l 6 RX6 cX6_round 2 (some .int) 13 [.ref (gA G 0), .int (nI (j + 1))] [] g (fun r h' => r = some (.int (roundA V T)) ∧ DIc h' n q V T ∧ Fx asF h0 h') := by
  intro m
  induction m with
  | zero =>
    intro j g hj hn H
    have e9 : roundF V T = 60 := firstTo_none 60 (fun i hi => hn i (by omega))
    refine r_iload_n dX6_round_13 rfl ?_
    refine r_bipush (v := 60) dX6_round_14 (by decide) ?_
    refine r_icmp_gt (tgt := 56) dX6_round_16 (by decide) (fun c_16 => ?_) (fun c_16 => ?_)
    · refine r_bipush (v := -5) dX6_round_56 (by decide) ?_
      refine r_ireturn dX6_round_58 ⟨_, rfl, rfl⟩ ?_
      exact ⟨by rw [roundA, e9]; rfl, H.1, H.2.1⟩
    · exact absurd (nI_lt (a := 60) (by omega) (by omega)) c_16
  | succ m ih =>
    intro j g hj hn H
    have C := H.1
    have hd9 := C.2.2.1
    have dy := supN_day (V := V) (P := P0 V) (T := T) (j + 1)
    have k9 := ah_hold (l := l) hG (by omega) H
    refine r_iload_n dX6_round_13 rfl ?_
    refine r_bipush (v := 60) dX6_round_14 (by decide) ?_
    refine r_icmp_gt (tgt := 56) dX6_round_16 (by decide) (fun c_16 => ?_) (fun c_16 => ?_)
    · exact absurd ((nI_lt' (a := 60) (by omega) (by omega)).mp c_16) (by omega)
    · refine r_aload_n dX6_round_19 rfl ?_
      refine r_getR (j := 37) dX6_round_20 k_X6_38 rfl (by decide) rfl rfl ?_
      refine r_aload_n dX6_round_23 rfl ?_
      refine r_getR (j := 17) dX6_round_24 k_X6_21 rfl (by decide) rfl rfl ?_
      refine r_aload_n dX6_round_27 rfl ?_
      refine r_callV dX6_round_28 l_X6_113 o_X6_holding v_X6_holding rfl (by decide) rfl rfl (m_X6_holding hG C.hd) (by decide) rfl (Nat.le_of_ble_eq_true rfl) (fun r28 h28 hq28 => ?_)
      obtain ⟨rfl, e28⟩ := hq28
      rw [e28]
      clear e28 h28
      rw [← C.2.2.2.1.2.2.2]
      refine r_callV dX6_round_31 l_X6_163 o_X3_hold v_X3_hold rfl (by decide) rfl rfl (k9) (by decide) rfl (Nat.le_of_ble_eq_true rfl) (fun r31 h31 hq31 => ?_)
      obtain ⟨rfl, HH⟩ := hq31
      have H2 := ah_next H HH
      refine r_aload_n dX6_round_34 rfl ?_
      refine r_getR (j := 17) dX6_round_35 k_X6_21 rfl (by decide) rfl rfl ?_
      refine r_aload_n dX6_round_38 rfl ?_
      refine r_getR (j := 1) dX6_round_39 k_X6_12 rfl (by decide) rfl rfl ?_
      refine r_callV dX6_round_42 l_X6_178 o_X4_looksLike v_X4_looksLike rfl (by decide) rfl rfl (m_X4_looksLike hG (t := 17) (o := 1) rfl rfl H2.2.2.1 H2.1.1 (supN_ok C.2.1 (j + 1) (by omega)) C.2.1 (supN_E (j + 1))) (by decide) rfl (Nat.le_of_ble_eq_true rfl) (fun r42 h42 hq42 => ?_)
      obtain ⟨rfl, e42⟩ := hq42
      rw [e42]
      clear e42 h42
      refine r_if_eq (tgt := 50) dX6_round_45 (by decide) (fun c_45 => ?_) (fun c_45 => ?_)
      · refine r_iinc dX6_round_50 rfl (by first | exact nI_inc _ | rfl) (by decide) rfl rfl ?_
        dsimp only [List.set]
        refine r_goto (tgt := 13) dX6_round_53 (by decide) ?_
        exact ih (j + 1) h31 (by omega) (fun i hi => by
          by_cases z9 : i = j
          · rw [z9]; exact b01_0.mp c_45
          · exact hn i (by omega)) H2
      · refine r_iload_n dX6_round_48 rfl ?_
        refine r_ireturn dX6_round_49 ⟨_, rfl, rfl⟩ ?_
        have e9 : roundF V T = j := firstTo_at (q := fun k => likeS (supN V (P0 V) T (k + 1)) T) (k := j) hn (b01_n0.mp c_45) 60 (by omega)
        exact ⟨by rw [roundA, e9, if_pos (by omega)], H2.1, H2.2.1⟩
set_option maxRecDepth 100000 in
theorem m_X6_round {G : WT} {l : Launch} (hG : GOK G) {h : Hp} {n q : Nat} {V : Hv} {T : Tb} (C : DIc h n q V T) : Cl G l 6 yX6_round cX6_round 2 (some .int) [.ref (gA G 0)] h (fun r h' => r = some (.int (roundA V T)) ∧ DIc h' n q V T ∧ Fx asF h h') := by
  refine Cl.of hG (by decide) (Nat.le_of_ble_eq_true rfl) ?_
  show Wp G l 6 RX6 cX6_round 2 (some .int) 0 [.ref (gA G 0), mk0] [] h _
  refine r_aload_n dX6_round_0 rfl ?_
  refine r_getR (j := 17) dX6_round_1 k_X6_21 rfl (by decide) rfl rfl ?_
  refine r_aload_n dX6_round_4 rfl ?_
  refine r_getR (j := 1) dX6_round_5 k_X6_12 rfl (by decide) rfl rfl ?_
  refine r_callV dX6_round_8 l_X6_174 o_X4_becomes v_X4_becomes rfl (by decide) rfl rfl (m_X4_becomes hG (t := 17) (o := 1) rfl rfl (by decide)) (by decide) rfl (Nat.le_of_ble_eq_true rfl) (fun r8 h8 hq8 => ?_)
  obtain ⟨rfl, S8, F8⟩ := hq8
  refine r_iconst (v := 1) dX6_round_11 (by decide) ?_
  refine r_istore_n dX6_round_12 (by decide) rfl rfl ?_
  dsimp only [List.set]
  exact rd_lp hG 60 0 h8 (by omega) (fun i y => absurd y (by omega)) (ah_0 C S8 F8)
theorem DIg.set {h : Hp} {n q i : Nat} {v : Int32} {V : Hv} {T : Tb} {told told' : Option Nat} {free free' : Bool} {pact pact' : Option (Nat × Nat)} (C : DIg h n q V T told free pact) (hi : 10 ≤ i) (hS : SeC (setI h 37 i v) told' free') (hP : RDp (setI h 37 i v) (T.1 7 0) pact') : DIg (setI h 37 i v) n q V T told' free' pact' ∧ Fx asF h (setI h 37 i v) := by
  have hF : Fx asF h (setI h 37 i v) := (Fr.set (by simp [asF]; omega)).x
  exact ⟨C.fx hF hS hP (fun e he => by rw [setI_ne (by decide)]; exact C.2.2.2.2.2.2.2 e he), hF⟩
theorem lw_lp {G : WT} {l : Launch} (hG : GOK G) {n q k : Nat} {V : Hv} {T : Tb} {h0 : Hp} (hk : k ≤ 60) : ∀ (m w : Nat) (g : Hp) (best : Nat) (most : Int32) (x5 : Value) (told : Option Nat), w + m = 3 → (0 < w → best = bestI (fun w => gladA (supN V (w, false, none) T k)) (w - 1) ∧ most = gladA (supN V (best, false, none) T k)) → DIg g n q V T told false none → Fx asF h0 g → Wp G l 7 RX6 cX6_laws 6 (some .int) 19 [.ref (gA G 0), .int (nI k), .int (nI best), .int most, .int (nI w), x5] [] g (fun r h' => r = some (.int (nI (bestI (fun w => gladA (supN V (w, false, none) T k)) 2))) ∧ DIc h' n q V T ∧ Fx asF h0 h') := by
  intro m
  induction m with
  | zero =>
    intro w g best most x5 told hw hb C hF
    obtain ⟨b1, b2⟩ := hb (by omega)
    obtain ⟨C2, F2⟩ := C.set (i := 13) (v := -1) (told' := none) (free' := false) (pact' := none) (by omega) ⟨setI_at, fun k9 y => (by cases y), by rw [setI_nj (by decide)]; exact C.2.2.2.2.2.1.2.2⟩ ⟨by rw [setI_nj (by decide)]; exact C.2.2.2.2.2.2.1.1, by rw [setI_nj (by decide)]; exact C.2.2.2.2.2.2.1.2⟩
    refine r_iload dX6_laws_19 rfl ?_
    refine r_iconst (v := 3) dX6_laws_21 (by decide) ?_
    refine r_icmp_ge (tgt := 71) dX6_laws_22 (by decide) (fun c_22 => ?_) (fun c_22 => ?_)
    · refine r_aload_n dX6_laws_71 rfl ?_
      refine r_getR (j := 37) dX6_laws_72 k_X6_38 rfl (by decide) rfl rfl ?_
      refine r_iconst (v := -1) dX6_laws_75 (by decide) ?_
      refine r_putI dX6_laws_76 k_X6_216 rfl (by decide) rfl rfl rfl rfl ?_
      refine r_iload_n dX6_laws_79 rfl ?_
      refine r_ireturn dX6_laws_80 ⟨_, rfl, rfl⟩ ?_
      exact ⟨by rw [b1, show w - 1 = 2 by omega], C2, hF.tr F2⟩
    · exact absurd (nI_le (a := 3) (by omega) (by omega)) c_22
  | succ m ih =>
    intro w g best most x5 told hw hb C hF
    obtain ⟨C2, F2⟩ := C.set (i := 13) (v := nI w) (told' := some w) (free' := false) (pact' := none) (by omega) ⟨setI_at, fun k9 y => (by cases y; omega), by rw [setI_nj (by decide)]; exact C.2.2.2.2.2.1.2.2⟩ ⟨by rw [setI_nj (by decide)]; exact C.2.2.2.2.2.2.1.1, by rw [setI_nj (by decide)]; exact C.2.2.2.2.2.2.1.2⟩
    have hE5 : (supN V (w, false, none) T k).1 7 0 ≤ 5 := by rw [supN_E]; exact C.2.1.1
    refine r_iload dX6_laws_19 rfl ?_
    refine r_iconst (v := 3) dX6_laws_21 (by decide) ?_
    refine r_icmp_ge (tgt := 71) dX6_laws_22 (by decide) (fun c_22 => ?_) (fun c_22 => ?_)
    · exact absurd ((nI_le' (a := 3) (by omega) (by omega)).mp c_22) (by omega)
    · refine r_aload_n dX6_laws_25 rfl ?_
      refine r_getR (j := 37) dX6_laws_26 k_X6_38 rfl (by decide) rfl rfl ?_
      refine r_iload dX6_laws_29 rfl ?_
      refine r_putI dX6_laws_31 k_X6_216 rfl (by decide) rfl rfl rfl rfl ?_
      refine r_aload_n dX6_laws_34 rfl ?_
      refine r_iload_n dX6_laws_35 rfl ?_
      refine r_callV dX6_laws_36 l_X6_170 o_X6_ahead v_X6_ahead rfl (by decide) rfl rfl (m_X6_ahead hG C2 (N := k) (by omega)) (by decide) rfl (Nat.le_of_ble_eq_true rfl) (fun r36 h36 hq36 => ?_)
      obtain ⟨rfl, A1, A2, A3, A4⟩ := hq36
      have A3 : DTb h36 17 (supN V (w, false, none) T k) := A3
      refine r_aload_n dX6_laws_39 rfl ?_
      refine r_getR (j := 17) dX6_laws_40 k_X6_21 rfl (by decide) rfl rfl ?_
      refine r_callV dX6_laws_43 l_X6_219 o_X4_gladTogether v_X4_gladTogether rfl (by decide) rfl rfl (m_X4_gladTogether hG (t := 17) rfl A3 hE5) (by decide) rfl (Nat.le_of_ble_eq_true rfl) (fun r43 h43 hq43 => ?_)
      obtain ⟨rfl, e43⟩ := hq43
      rw [e43]
      clear e43 h43
      refine r_istore dX6_laws_46 (by decide) rfl rfl ?_
      dsimp only [List.set]
      refine r_iload dX6_laws_48 rfl ?_
      refine r_if_eq (tgt := 59) dX6_laws_50 (by decide) (fun c_50 => ?_) (fun c_50 => ?_)
      · refine r_iload dX6_laws_59 rfl ?_
        refine r_istore_n dX6_laws_61 (by decide) rfl rfl ?_
        dsimp only [List.set]
        refine r_iload dX6_laws_62 rfl ?_
        refine r_istore_n dX6_laws_64 (by decide) rfl rfl ?_
        dsimp only [List.set]
        refine r_iinc dX6_laws_65 rfl (by first | exact nI_inc _ | rfl) (by decide) rfl rfl ?_
        dsimp only [List.set]
        refine r_goto (tgt := 19) dX6_laws_68 (by decide) ?_
        have hw0 : w = 0 := (nI_eq' (b := 0) (by omega) (by omega)).mp c_50
        refine ih (w + 1) h36 w _ _ _ (by omega) (fun _ => ⟨?_, rfl⟩) A1 ((hF.tr F2).tr A2)
        rw [hw0]; rfl
      · refine r_iload dX6_laws_53 rfl ?_
        refine r_iload_n dX6_laws_55 rfl ?_
        refine r_icmp_le (tgt := 65) dX6_laws_56 (by decide) (fun c_56 => ?_) (fun c_56 => ?_)
        · refine r_iinc dX6_laws_65 rfl (by first | exact nI_inc _ | rfl) (by decide) rfl rfl ?_
          dsimp only [List.set]
          refine r_goto (tgt := 19) dX6_laws_68 (by decide) ?_
          have hw0 : 0 < w := by
            by_cases z9 : w = 0
            · exact absurd (by rw [z9]; rfl) c_50
            · omega
          obtain ⟨b1, b2⟩ := hb hw0
          refine ih (w + 1) h36 best most _ _ (by omega) (fun _ => ⟨?_, b2⟩) A1 ((hF.tr F2).tr A2)
          rw [show w + 1 - 1 = w - 1 + 1 by omega]
          show best = if _ then _ else _
          rw [← b1, show w - 1 + 1 = w by omega, if_neg]
          dsimp only
          rw [← b2]
          exact Int32.not_lt.mpr c_56
        · refine r_iload dX6_laws_59 rfl ?_
          refine r_istore_n dX6_laws_61 (by decide) rfl rfl ?_
          dsimp only [List.set]
          refine r_iload dX6_laws_62 rfl ?_
          refine r_istore_n dX6_laws_64 (by decide) rfl rfl ?_
          dsimp only [List.set]
          refine r_iinc dX6_laws_65 rfl (by first | exact nI_inc _ | rfl) (by decide) rfl rfl ?_
          dsimp only [List.set]
          refine r_goto (tgt := 19) dX6_laws_68 (by decide) ?_
          have hw0 : 0 < w := by
            by_cases z9 : w = 0
            · exact absurd (by rw [z9]; rfl) c_50
            · omega
          obtain ⟨b1, b2⟩ := hb hw0
          refine ih (w + 1) h36 w _ _ _ (by omega) (fun _ => ⟨?_, rfl⟩) A1 ((hF.tr F2).tr A2)
          rw [show w + 1 - 1 = w - 1 + 1 by omega]
          show w = if _ then _ else _
          rw [← b1, show w - 1 + 1 = w by omega, if_pos]
          dsimp only
          rw [← b2]
          exact Int32.not_le.mp c_56
set_option maxRecDepth 100000 in
theorem m_X6_laws {G : WT} {l : Launch} (hG : GOK G) {h : Hp} {n q : Nat} {V : Hv} {T : Tb} {x : Int32} (C : DIc h n q V T) : Cl G l 7 yX6_laws cX6_laws 6 (some .int) [.ref (gA G 0), .int x] h (fun r h' => r = some (.int (lawsA V T x)) ∧ DIc h' n q V T ∧ Fx asF h h') := by
  refine Cl.of hG (by decide) (Nat.le_of_ble_eq_true rfl) ?_
  show Wp G l 7 RX6 cX6_laws 6 (some .int) 0 [.ref (gA G 0), .int x, mk0, mk0, mk0, mk0] [] h _
  cases hn : dec x 61 with
  | none =>
    refine r_iload_n dX6_laws_0 rfl ?_
    refine r_bipush (v := 60) dX6_laws_1 (by decide) ?_
    rw [show (60 : Int32) = nI 60 from rfl]
    refine r_callS dX6_laws_3 l_X6_78 o_X6_within s_X6_within rfl (m_X6_within hG (x := x) (m := 60) (by omega)) (by decide) rfl (Nat.le_of_ble_eq_true rfl) (fun r3 h3 hq3 => ?_)
    obtain ⟨rfl, rfl⟩ := hq3
    rw [hn]
    refine r_if_ne (tgt := 12) dX6_laws_6 (by decide) (fun c_6 => ?_) (fun c_6 => ?_)
    · exact absurd none_f c_6
    · refine r_bipush (v := -2) dX6_laws_9 (by decide) ?_
      refine r_ireturn dX6_laws_11 ⟨_, rfl, rfl⟩ ?_
      exact ⟨by rw [lawsA, hn], C, Fx.rf⟩
  | some k =>
    obtain ⟨j1, rfl, -⟩ := dec_some.mp hn
    refine r_iload_n dX6_laws_0 rfl ?_
    refine r_bipush (v := 60) dX6_laws_1 (by decide) ?_
    rw [show (60 : Int32) = nI 60 from rfl]
    refine r_callS dX6_laws_3 l_X6_78 o_X6_within s_X6_within rfl (m_X6_within hG (x := nI k) (m := 60) (by omega)) (by decide) rfl (Nat.le_of_ble_eq_true rfl) (fun r3 h3 hq3 => ?_)
    obtain ⟨rfl, rfl⟩ := hq3
    rw [hn]
    refine r_if_ne (tgt := 12) dX6_laws_6 (by decide) (fun c_6 => ?_) (fun c_6 => ?_)
    · refine r_iconst (v := 0) dX6_laws_12 (by decide) ?_
      refine r_istore_n dX6_laws_13 (by decide) rfl rfl ?_
      dsimp only [List.set]
      refine r_iconst (v := 0) dX6_laws_14 (by decide) ?_
      refine r_istore_n dX6_laws_15 (by decide) rfl rfl ?_
      dsimp only [List.set]
      refine r_iconst (v := 0) dX6_laws_16 (by decide) ?_
      refine r_istore dX6_laws_17 (by decide) rfl rfl ?_
      dsimp only [List.set]
      rw [lawsA, hn]
      exact lw_lp hG (by omega) 3 0 _ 0 0 _ none (by omega) (fun y => absurd y (by omega)) C Fx.rf
    · exact absurd c_6 some_t
set_option maxRecDepth 100000 in
theorem m_X6_cook {G : WT} {l : Launch} (hG : GOK G) {h : Hp} {n q : Nat} {V : Hv} {T : Tb} {e x : Int32} (C : DIc h n q V T) : Cl G l 7 yX6_cook cX6_cook 4 (some .int) [.ref (gA G 0), .int e, .int x] h (fun r h' => r = some (.int (cookA V T e x)) ∧ DIc h' n q V T ∧ Fx asF h h') := by
  refine Cl.of hG (by decide) (Nat.le_of_ble_eq_true rfl) ?_
  show Wp G l 7 RX6 cX6_cook 4 (some .int) 0 [.ref (gA G 0), .int e, .int x, mk0] [] h _
  have hE5 := C.2.1.1
  cases he : dec e (T.1 7 0) with
  | none =>
    refine r_aload_n dX6_cook_0 rfl ?_
    refine r_iload_n dX6_cook_1 rfl ?_
    refine r_callV dX6_cook_2 l_X6_89 o_X6_isEater v_X6_isEater rfl (by decide) rfl rfl (m_X6_isEater hG hE5 C.1.1.1) (by decide) rfl (Nat.le_of_ble_eq_true rfl) (fun r2 h2 hq2 => ?_)
    obtain ⟨rfl, rfl⟩ := hq2
    rw [he]
    refine r_if_ne (tgt := 11) dX6_cook_5 (by decide) (fun c_5 => ?_) (fun c_5 => ?_)
    · exact absurd none_f c_5
    · refine r_ldc dX6_cook_8 n_X6_93 ?_
      refine r_ireturn dX6_cook_10 ⟨_, rfl, rfl⟩ ?_
      exact ⟨by rw [cookA, he]; rfl, C, Fx.rf⟩
  | some i =>
    obtain ⟨i1, rfl, -⟩ := dec_some.mp he
    cases hn : dec x 61 with
    | none =>
      refine r_aload_n dX6_cook_0 rfl ?_
      refine r_iload_n dX6_cook_1 rfl ?_
      refine r_callV dX6_cook_2 l_X6_89 o_X6_isEater v_X6_isEater rfl (by decide) rfl rfl (m_X6_isEater hG hE5 C.1.1.1) (by decide) rfl (Nat.le_of_ble_eq_true rfl) (fun r2 h2 hq2 => ?_)
      obtain ⟨rfl, rfl⟩ := hq2
      rw [he]
      refine r_if_ne (tgt := 11) dX6_cook_5 (by decide) (fun c_5 => ?_) (fun c_5 => ?_)
      · refine r_iload_n dX6_cook_11 rfl ?_
        refine r_bipush (v := 60) dX6_cook_12 (by decide) ?_
        rw [show (60 : Int32) = nI 60 from rfl]
        refine r_callS dX6_cook_14 l_X6_78 o_X6_within s_X6_within rfl (m_X6_within hG (x := x) (m := 60) (by omega)) (by decide) rfl (Nat.le_of_ble_eq_true rfl) (fun r14 h14 hq14 => ?_)
        obtain ⟨rfl, rfl⟩ := hq14
        rw [hn]
        refine r_if_ne (tgt := 23) dX6_cook_17 (by decide) (fun c_17 => ?_) (fun c_17 => ?_)
        · exact absurd none_f c_17
        · refine r_ldc dX6_cook_20 n_X6_166 ?_
          refine r_ireturn dX6_cook_22 ⟨_, rfl, rfl⟩ ?_
          exact ⟨by rw [cookA, he]; dsimp only; rw [hn]; rfl, C, Fx.rf⟩
      · exact absurd c_5 some_t
    | some k =>
      obtain ⟨j1, rfl, -⟩ := dec_some.mp hn
      obtain ⟨C1, F1⟩ := C.set (i := 14) (v := 1) (told' := none) (free' := true) (pact' := none) (by omega) ⟨by rw [setI_nj (by decide)]; exact C.2.2.2.2.2.1.1, fun k9 y => (by cases y), setI_at⟩ ⟨by rw [setI_nj (by decide)]; exact C.2.2.2.2.2.2.1.1, by rw [setI_nj (by decide)]; exact C.2.2.2.2.2.2.1.2⟩
      refine r_aload_n dX6_cook_0 rfl ?_
      refine r_iload_n dX6_cook_1 rfl ?_
      refine r_callV dX6_cook_2 l_X6_89 o_X6_isEater v_X6_isEater rfl (by decide) rfl rfl (m_X6_isEater hG hE5 C.1.1.1) (by decide) rfl (Nat.le_of_ble_eq_true rfl) (fun r2 h2 hq2 => ?_)
      obtain ⟨rfl, rfl⟩ := hq2
      rw [he]
      refine r_if_ne (tgt := 11) dX6_cook_5 (by decide) (fun c_5 => ?_) (fun c_5 => ?_)
      · refine r_iload_n dX6_cook_11 rfl ?_
        refine r_bipush (v := 60) dX6_cook_12 (by decide) ?_
        rw [show (60 : Int32) = nI 60 from rfl]
        refine r_callS dX6_cook_14 l_X6_78 o_X6_within s_X6_within rfl (m_X6_within hG (x := nI k) (m := 60) (by omega)) (by decide) rfl (Nat.le_of_ble_eq_true rfl) (fun r14 h14 hq14 => ?_)
        obtain ⟨rfl, rfl⟩ := hq14
        rw [hn]
        refine r_if_ne (tgt := 23) dX6_cook_17 (by decide) (fun c_17 => ?_) (fun c_17 => ?_)
        · refine r_aload_n dX6_cook_23 rfl ?_
          refine r_getR (j := 37) dX6_cook_24 k_X6_38 rfl (by decide) rfl rfl ?_
          refine r_iconst (v := 1) dX6_cook_27 (by decide) ?_
          refine r_putI dX6_cook_28 k_X6_222 rfl (by decide) rfl rfl rfl rfl ?_
          refine r_aload_n dX6_cook_31 rfl ?_
          refine r_iload_n dX6_cook_32 rfl ?_
          refine r_callV dX6_cook_33 l_X6_170 o_X6_ahead v_X6_ahead rfl (by decide) rfl rfl (m_X6_ahead hG C1 (N := k) (by omega)) (by decide) rfl (Nat.le_of_ble_eq_true rfl) (fun r33 h33 hq33 => ?_)
          obtain ⟨rfl, A1, A2, A3, A4⟩ := hq33
          obtain ⟨C2, F2⟩ := A1.set (i := 14) (v := 0) (told' := none) (free' := false) (pact' := none) (by omega) ⟨by rw [setI_nj (by decide)]; exact A1.2.2.2.2.2.1.1, fun k9 y => (by cases y), setI_at⟩ ⟨by rw [setI_nj (by decide)]; exact A1.2.2.2.2.2.2.1.1, by rw [setI_nj (by decide)]; exact A1.2.2.2.2.2.2.1.2⟩
          have g1 := ((A3.2.1 i (by omega)).1 (by rw [supN_E]; exact i1)).2.2.2.2.1
          refine r_aload_n dX6_cook_36 rfl ?_
          refine r_getR (j := 37) dX6_cook_37 k_X6_38 rfl (by decide) rfl rfl ?_
          refine r_iconst (v := 0) dX6_cook_40 (by decide) ?_
          refine r_putI dX6_cook_41 k_X6_222 rfl (by decide) rfl rfl rfl rfl ?_
          refine r_aload_n dX6_cook_44 rfl ?_
          refine r_getR (j := 17) dX6_cook_45 k_X6_21 rfl (by decide) rfl rfl ?_
          refine r_getR (j := 22) dX6_cook_48 k_X6_106 rfl (by decide) rfl rfl ?_
          refine r_iload_n dX6_cook_51 rfl ?_
          refine r_iald (i) dX6_cook_52 rfl rfl (show i < 5 by omega) ?_
          rw [setI_ne (by decide), g1]
          refine r_istore_n dX6_cook_53 (by decide) rfl rfl ?_
          dsimp only [List.set]
          refine r_aload_n dX6_cook_54 rfl ?_
          refine r_iload_n dX6_cook_55 rfl ?_
          refine r_callV dX6_cook_56 l_X6_170 o_X6_ahead v_X6_ahead rfl (by decide) rfl rfl (m_X6_ahead hG C2 (N := k) (by omega)) (by decide) rfl (Nat.le_of_ble_eq_true rfl) (fun r56 h56 hq56 => ?_)
          obtain ⟨rfl, B1, B2, B3, B4⟩ := hq56
          have g2 := ((B3.2.1 i (by omega)).1 (by rw [supN_E]; exact i1)).2.2.2.2.1
          refine r_iload_n dX6_cook_59 rfl ?_
          refine r_aload_n dX6_cook_60 rfl ?_
          refine r_getR (j := 17) dX6_cook_61 k_X6_21 rfl (by decide) rfl rfl ?_
          refine r_getR (j := 22) dX6_cook_64 k_X6_106 rfl (by decide) rfl rfl ?_
          refine r_iload_n dX6_cook_67 rfl ?_
          refine r_iald (i) dX6_cook_68 rfl rfl (show i < 5 by omega) ?_
          rw [g2]
          refine r_isub dX6_cook_69 ?_
          refine r_ireturn dX6_cook_70 ⟨_, rfl, rfl⟩ ?_
          exact ⟨by rw [cookA, he]; dsimp only; rw [hn]; rfl, B1, ((F1.tr A2).tr F2).tr B2⟩
        · exact absurd c_17 some_t
      · exact absurd c_5 some_t
set_option maxRecDepth 100000 in
theorem m_X3_agree {G : WT} {l : Launch} (hG : GOK G) {h : Hp} {a b : Int32} : Cl G l 1 yX3_agree cX3_agree 3 none [.ref (gA G 37), .int a, .int b] h (fun r h' => r = none ∧ h' = setI (setI h 37 15 a) 37 16 b) := by
  refine Cl.of hG (by decide) (Nat.le_of_ble_eq_true rfl) ?_
  show Wp G l 1 RX3 cX3_agree 3 none 0 [.ref (gA G 37), .int a, .int b] [] h _
  refine r_aload_n dX3_agree_0 rfl ?_
  refine r_iload_n dX3_agree_1 rfl ?_
  refine r_putI dX3_agree_2 k_X3_67 rfl (by decide) rfl rfl rfl rfl ?_
  refine r_aload_n dX3_agree_5 rfl ?_
  refine r_iload_n dX3_agree_6 rfl ?_
  refine r_putI dX3_agree_7 k_X3_70 rfl (by decide) rfl rfl rfl rfl ?_
  refine r_return dX3_agree_10 rfl ?_
  exact ⟨rfl, rfl⟩
theorem lk_lp {G : WT} {l : Launch} (hG : GOK G) {n q : Nat} {V : Hv} {T : Tb} {h0 : Hp} : ∀ (m j : Nat) (g : Hp), j + m = T.1 7 4 → (∀ i, i < j → decide (¬ (supN V (P0 V) T (i + 1)).1 7 1 = T.1 6 i) = false) → AhP h0 g n q V T none false none j → Wp G l 6 RX6 cX6_looked 2 (some .int) 13 [.ref (gA G 0), .int (nI j)] [] g (fun r h' => r = some (.int (lookedA V T)) ∧ DIc h' n q V T ∧ Fx asF h0 h') := by
  intro m
  induction m with
  | zero =>
    intro j g hj hn H
    have h12 := H.1.2.1.2.2.2.2.1
    have e9 : lookF V T = T.1 7 4 := firstTo_none (T.1 7 4) (fun i hi => hn i (by omega))
    refine r_iload_n dX6_looked_13 rfl ?_
    refine r_aload_n dX6_looked_14 rfl ?_
    refine r_getR (j := 1) dX6_looked_15 k_X6_12 rfl (by decide) rfl rfl ?_
    refine r_getI dX6_looked_18 k_X6_262 rfl (by decide) rfl ?_
    rw [H.1.1.1.2.2.2.2.1]
    refine r_icmp_ge (tgt := 66) dX6_looked_21 (by decide) (fun c_21 => ?_) (fun c_21 => ?_)
    · refine r_bipush (v := -5) dX6_looked_66 (by decide) ?_
      refine r_ireturn dX6_looked_68 ⟨_, rfl, rfl⟩ ?_
      exact ⟨by rw [lookedA, e9, if_neg (by omega)], H.1, H.2.1⟩
    · exact absurd (nI_le (by omega) (by omega)) c_21
  | succ m ih =>
    intro j g hj hn H
    have C := H.1
    have h12 := C.2.1.2.2.2.2.1
    have hd9 := C.2.2.1
    have dy := supN_day (V := V) (P := P0 V) (T := T) (j + 1)
    have ok2 := supN_ok (V := V) (P := P0 V) C.2.1 (j + 1) (by omega)
    have hb2 := ok2.2.1
    have hb3 := C.2.1.2.2.2.2.2.2.2.2 j
    have k9 := ah_hold (l := l) hG (by omega) H
    refine r_iload_n dX6_looked_13 rfl ?_
    refine r_aload_n dX6_looked_14 rfl ?_
    refine r_getR (j := 1) dX6_looked_15 k_X6_12 rfl (by decide) rfl rfl ?_
    refine r_getI dX6_looked_18 k_X6_262 rfl (by decide) rfl ?_
    rw [C.1.1.2.2.2.2.1]
    refine r_icmp_ge (tgt := 66) dX6_looked_21 (by decide) (fun c_21 => ?_) (fun c_21 => ?_)
    · exact absurd c_21 (nI_ge (by omega) (by omega))
    · refine r_aload_n dX6_looked_24 rfl ?_
      refine r_getR (j := 37) dX6_looked_25 k_X6_38 rfl (by decide) rfl rfl ?_
      refine r_aload_n dX6_looked_28 rfl ?_
      refine r_getR (j := 17) dX6_looked_29 k_X6_21 rfl (by decide) rfl rfl ?_
      refine r_aload_n dX6_looked_32 rfl ?_
      refine r_callV dX6_looked_33 l_X6_113 o_X6_holding v_X6_holding rfl (by decide) rfl rfl (m_X6_holding hG C.hd) (by decide) rfl (Nat.le_of_ble_eq_true rfl) (fun r33 h33 hq33 => ?_)
      obtain ⟨rfl, e33⟩ := hq33
      rw [e33]
      clear e33 h33
      rw [← C.2.2.2.1.2.2.2]
      refine r_callV dX6_looked_36 l_X6_163 o_X3_hold v_X3_hold rfl (by decide) rfl rfl (k9) (by decide) rfl (Nat.le_of_ble_eq_true rfl) (fun r36 h36 hq36 => ?_)
      obtain ⟨rfl, HH⟩ := hq36
      have H2 := ah_next H HH
      have D2 : DTb h36 17 (supN V (P0 V) T (j + 1)) := H2.2.2.1
      have b9 := H2.1.1.2.2 j (by omega) (by omega)
      refine r_aload_n dX6_looked_39 rfl ?_
      refine r_getR (j := 17) dX6_looked_40 k_X6_21 rfl (by decide) rfl rfl ?_
      refine r_getI dX6_looked_43 k_X6_131 rfl (by decide) rfl ?_
      rw [D2.1.2.1]
      refine r_aload_n dX6_looked_46 rfl ?_
      refine r_getR (j := 1) dX6_looked_47 k_X6_12 rfl (by decide) rfl rfl ?_
      refine r_getR (j := 8) dX6_looked_50 k_X6_265 rfl (by decide) rfl rfl ?_
      refine r_iload_n dX6_looked_53 rfl ?_
      refine r_iald (j) dX6_looked_54 rfl rfl (show j < 12 by omega) ?_
      rw [b9]
      refine r_icmp_eq (tgt := 60) dX6_looked_55 (by decide) (fun c_55 => ?_) (fun c_55 => ?_)
      · refine r_iinc dX6_looked_60 rfl (by first | exact nI_inc _ | rfl) (by decide) rfl rfl ?_
        dsimp only [List.set]
        refine r_goto (tgt := 13) dX6_looked_63 (by decide) ?_
        exact ih (j + 1) h36 (by omega) (fun i hi => by
          by_cases z9 : i = j
          · rw [z9]; exact decide_eq_false (fun y => y ((nI_eq' (by omega) (by omega)).mp c_55))
          · exact hn i (by omega)) H2
      · refine r_iload_n dX6_looked_58 rfl ?_
        refine r_ireturn dX6_looked_59 ⟨_, rfl, rfl⟩ ?_
        have e9 : lookF V T = j := firstTo_at (q := fun k => decide (¬ (supN V (P0 V) T (k + 1)).1 7 1 = T.1 6 k)) (k := j) hn (decide_eq_true (fun y => c_55 (by rw [y]))) (T.1 7 4) (by omega)
        exact ⟨by rw [lookedA, e9, if_pos (by omega)], H2.1, H2.2.1⟩
set_option maxRecDepth 100000 in
theorem m_X6_looked {G : WT} {l : Launch} (hG : GOK G) {h : Hp} {n q : Nat} {V : Hv} {T : Tb} (C : DIc h n q V T) : Cl G l 6 yX6_looked cX6_looked 2 (some .int) [.ref (gA G 0)] h (fun r h' => r = some (.int (lookedA V T)) ∧ DIc h' n q V T ∧ Fx asF h h') := by
  refine Cl.of hG (by decide) (Nat.le_of_ble_eq_true rfl) ?_
  show Wp G l 6 RX6 cX6_looked 2 (some .int) 0 [.ref (gA G 0), mk0] [] h _
  refine r_aload_n dX6_looked_0 rfl ?_
  refine r_getR (j := 17) dX6_looked_1 k_X6_21 rfl (by decide) rfl rfl ?_
  refine r_aload_n dX6_looked_4 rfl ?_
  refine r_getR (j := 1) dX6_looked_5 k_X6_12 rfl (by decide) rfl rfl ?_
  refine r_callV dX6_looked_8 l_X6_174 o_X4_becomes v_X4_becomes rfl (by decide) rfl rfl (m_X4_becomes hG (t := 17) (o := 1) rfl rfl (by decide)) (by decide) rfl (Nat.le_of_ble_eq_true rfl) (fun r8 h8 hq8 => ?_)
  obtain ⟨rfl, S8, F8⟩ := hq8
  refine r_iconst (v := 0) dX6_looked_11 (by decide) ?_
  refine r_istore_n dX6_looked_12 (by decide) rfl rfl ?_
  dsimp only [List.set]
  exact lk_lp hG (T.1 7 4) 0 h8 (by omega) (fun i y => absurd y (by omega)) (ah_0 C S8 F8)
