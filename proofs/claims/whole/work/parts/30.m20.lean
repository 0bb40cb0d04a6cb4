/-! odds, mean: asked -/
theorem likes_loop {G : WT} {l : Launch} {h : Hp} {T : Tb} {s bk : Nat} {ate : Nat → Nat} {q : Nat → Bool} {x1 x2 : Int32} {Q : Option Value → Hp → Prop} (hE : T.1 7 0 ≤ 5) (hb : bk < T.1 7 0) (hs : 0 < s) (hs2 : s ≤ 99) (h0 : h.1 134 0 = nI (T.1 7 0)) (hbk : h.1 134 33 = nI bk) (hA : ∀ j, j < T.1 7 0 → h.1 152 j = nI (ate j)) (h9 : ∀ j, ate j ≤ 9) (hq : ∀ j, q j = decide (ate j / s = ate bk / s))
    (k : ∀ x5 : Value, Wp G l 9 RX7 cX7_odds 6 (some .long) 89 [.ref (gA G 134), .int x1, .int x2, .int (nI s), .int (nI (cntTo q (T.1 7 0))), x5] [] h Q) :
    ∀ (m o : Nat), o + m = T.1 7 0 → Wp G l 9 RX7 cX7_odds 6 (some .long) 41 [.ref (gA G 134), .int x1, .int x2, .int (nI s), .int (nI (cntTo q o)), .int (nI o)] [] h Q := by
  have zs : ¬ nI s = 0 := nI_ne0 (by omega) (by omega)
  intro m
  induction m with
  | zero =>
    intro o ho
    obtain rfl : o = T.1 7 0 := by omega
    refine r_iload dX7_odds_41 rfl ?_
    refine r_aload_n dX7_odds_43 rfl ?_
    refine r_getI dX7_odds_44 k_X7_7 rfl (by decide) rfl ?_
    rw [h0]
    refine r_icmp_ge (tgt := 89) dX7_odds_47 (by decide) (fun c_47 => ?_) (fun c_47 => ?_)
    · exact k _
    · exact absurd (Int32.le_refl _) c_47
  | succ m ih =>
    intro o ho
    have a1 := h9 o
    have a2 := h9 bk
    have d1 := Nat.div_le_self (ate o) s
    have d2 := Nat.div_le_self (ate bk) s
    have nx : cntTo q (o + 1) = cntTo q o + (if q o = true then 1 else 0) := rfl
    have q2 := ih (o + 1) (by omega)
    refine r_iload dX7_odds_41 rfl ?_
    refine r_aload_n dX7_odds_43 rfl ?_
    refine r_getI dX7_odds_44 k_X7_7 rfl (by decide) rfl ?_
    rw [h0]
    refine r_icmp_ge (tgt := 89) dX7_odds_47 (by decide) (fun c_47 => ?_) (fun c_47 => ?_)
    · exact absurd c_47 (nI_ge (by omega) (by omega))
    · refine r_iload dX7_odds_50 rfl ?_
      refine r_aload_n dX7_odds_52 rfl ?_
      refine r_getR (j := 152) dX7_odds_53 k_X7_106 rfl (by decide) rfl rfl ?_
      refine r_iload dX7_odds_56 rfl ?_
      refine r_iald (o) dX7_odds_58 rfl rfl (show o < 6 by omega) ?_
      rw [hA o (by omega)]
      refine r_iload_n dX7_odds_59 rfl ?_
      refine r_idiv dX7_odds_60 zs ?_
      rw [nI_div (by omega) (by omega) (by omega)]
      refine r_aload_n dX7_odds_61 rfl ?_
      refine r_getR (j := 152) dX7_odds_62 k_X7_106 rfl (by decide) rfl rfl ?_
      refine r_aload_n dX7_odds_65 rfl ?_
      refine r_getI dX7_odds_66 k_X7_112 rfl (by decide) rfl ?_
      rw [hbk]
      refine r_iald (bk) dX7_odds_69 rfl rfl (show bk < 6 by omega) ?_
      rw [hA bk hb]
      refine r_iload_n dX7_odds_70 rfl ?_
      refine r_idiv dX7_odds_71 zs ?_
      rw [nI_div (by omega) (by omega) (by omega)]
      refine r_icmp_ne (tgt := 79) dX7_odds_72 (by decide) (fun c_72 => ?_) (fun c_72 => ?_)
      · have y : q o = false := by rw [hq]; exact decide_eq_false (fun z => c_72 (by rw [z]))
        refine r_iconst (v := 0) dX7_odds_79 (by decide) ?_
        refine r_iadd dX7_odds_80 ?_
        refine r_istore dX7_odds_81 (by decide) rfl rfl ?_
        dsimp only [List.set]
        refine r_iinc dX7_odds_83 rfl (by first | exact nI_inc _ | rfl) (by decide) rfl rfl ?_
        dsimp only [List.set]
        refine r_goto (tgt := 41) dX7_odds_86 (by decide) ?_
        rw [nx, y, if_neg Bool.false_ne_true, Nat.add_zero] at q2
        rw [Int32.add_zero]
        exact q2
      · have y : q o = true := by rw [hq]; exact decide_eq_true ((nI_eq' (by omega) (by omega)).mp c_72)
        refine r_iconst (v := 1) dX7_odds_75 (by decide) ?_
        refine r_goto (tgt := 80) dX7_odds_76 (by decide) ?_
        refine r_iadd dX7_odds_80 ?_
        refine r_istore dX7_odds_81 (by decide) rfl rfl ?_
        dsimp only [List.set]
        refine r_iinc dX7_odds_83 rfl (by first | exact nI_inc _ | rfl) (by decide) rfl rfl ?_
        dsimp only [List.set]
        refine r_goto (tgt := 41) dX7_odds_86 (by decide) ?_
        rw [nx, y, if_pos rfl] at q2
        rw [nI_1]
        exact q2
theorem frac1 {c part : Nat} : fracA 1 c part = if part = 0 then 1 else lN c := by
  have e : Nat.gcd (1 : Int64).toInt.natAbs c = 1 := Nat.gcd_one_left c
  rw [fracA, e]
  show _ / 1 = _
  rw [Int64.div_one]
theorem odds_89 {G : WT} {l : Launch} (hG : GOK G) {h g : Hp} {b i1 p1 bk : Nat} {V : Hv} {T : Tb} {W : Nat → Nat} {x5 : Value} (hE : T.1 7 0 ≤ 5) (hi1 : i1 < T.1 7 0) (hp1 : p1 < 2) (hbl : bk < T.1 7 0) (s1 : 0 < scaleS V) (s2 : scaleS V ≤ 99) (a9 : ∀ j, ateS (T.1 7 1) W j ≤ 9) (lk : ∀ j, likeBk V T j = decide (ateS (T.1 7 1) W j / scaleS V = ateS (T.1 7 1) W bk / scaleS V)) (es : oddsA V T (nI i1) (nI p1) = if likeBk V T i1 = true then (if p1 = 0 then 1 else lN (cntTo (likeBk V T) (T.1 7 0))) else lN p1) (hE5 : ∀ j, j < T.1 7 0 → g.1 152 j = nI (ateS (T.1 7 1) W j)) (hB6 : g.1 134 33 = nI bk) (CE : RIc g b V T ∧ Fr scrF h g) : Wp G l 9 RX7 cX7_odds 6 (some .long) 89 [.ref (gA G 134), .int (nI i1), .int (nI p1), .int (nI (scaleS V)), .int (nI (cntTo (likeBk V T) (T.1 7 0))), x5] [] g (fun r h' => r = some (.long (oddsA V T (nI i1) (nI p1))) ∧ RIc h' b V T ∧ Fr scrF h h') := by
  have zs : ¬ nI (scaleS V) = 0 := nI_ne0 (by omega) (by omega)
  have a1 := a9 i1
  have a2 := a9 bk
  have d1 := Nat.div_le_self (ateS (T.1 7 1) W i1) (scaleS V)
  have d2 := Nat.div_le_self (ateS (T.1 7 1) W bk) (scaleS V)
  have cl := cntTo_le (likeBk V T) (T.1 7 0)
  refine r_aload_n dX7_odds_89 rfl ?_
  refine r_getR (j := 152) dX7_odds_90 k_X7_106 rfl (by decide) rfl rfl ?_
  refine r_iload_n dX7_odds_93 rfl ?_
  refine r_iald (i1) dX7_odds_94 rfl rfl (show i1 < 6 by omega) ?_
  rw [hE5 i1 hi1]
  refine r_iload_n dX7_odds_95 rfl ?_
  refine r_idiv dX7_odds_96 zs ?_
  rw [nI_div (by omega) (by omega) (by omega)]
  refine r_aload_n dX7_odds_97 rfl ?_
  refine r_getR (j := 152) dX7_odds_98 k_X7_106 rfl (by decide) rfl rfl ?_
  refine r_aload_n dX7_odds_101 rfl ?_
  refine r_getI dX7_odds_102 k_X7_112 rfl (by decide) rfl ?_
  rw [hB6]
  refine r_iald (bk) dX7_odds_105 rfl rfl (show bk < 6 by omega) ?_
  rw [hE5 bk hbl]
  refine r_iload_n dX7_odds_106 rfl ?_
  refine r_idiv dX7_odds_107 zs ?_
  rw [nI_div (by omega) (by omega) (by omega)]
  refine r_icmp_ne (tgt := 123) dX7_odds_108 (by decide) (fun c_108 => ?_) (fun c_108 => ?_)
  · have y : likeBk V T i1 = false := by rw [lk]; exact decide_eq_false (fun z => c_108 (by rw [z]))
    refine r_iload_n dX7_odds_123 rfl ?_
    refine r_i2l dX7_odds_124 ?_
    refine r_lreturn dX7_odds_125 rfl ?_
    exact ⟨by rw [es, y, if_neg Bool.false_ne_true, nI_l (by omega)], CE⟩
  · have y : likeBk V T i1 = true := by rw [lk]; exact decide_eq_true ((nI_eq' (by omega) (by omega)).mp c_108)
    refine r_aload_n dX7_odds_111 rfl ?_
    refine r_lconst (v := 1) dX7_odds_112 (by decide) ?_
    refine r_iload dX7_odds_113 rfl ?_
    refine r_i2l dX7_odds_115 ?_
    refine r_iload_n dX7_odds_116 rfl ?_
    rw [nI_l (by omega)]
    refine r_callV dX7_odds_117 l_X7_380 o_X7_lowest v_X7_lowest rfl (by decide) rfl rfl (m_X7_lowest hG (show cntTo (likeBk V T) (T.1 7 0) < 1000000 by omega) (by
      apply Nat.pos_of_ne_zero
      intro q
      have := cntTo_0 _ q i1 hi1
      rw [y] at this
      cases this) hp1 (by decide)) (by decide) rfl (Nat.le_of_ble_eq_true rfl) (fun r117 h117 hq117 => ?_)
    obtain ⟨rfl, e117⟩ := hq117
    rw [e117]
    clear e117 h117
    refine r_goto (tgt := 125) dX7_odds_120 (by decide) ?_
    refine r_lreturn dX7_odds_125 rfl ?_
    exact ⟨by rw [es, y, if_pos rfl, frac1], CE⟩
set_option maxRecDepth 100000 in
theorem m_X7_odds {G : WT} {l : Launch} (hG : GOK G) {h : Hp} {b : Nat} {V : Hv} {T : Tb} {i p : Int32} (C : RIc h b V T) : Cl G l 9 yX7_odds cX7_odds 6 (some .long) [.ref (gA G 134), .int i, .int p] h (fun r h' => r = some (.long (oddsA V T i p)) ∧ RIc h' b V T ∧ Fr scrF h h') := by
  refine Cl.of hG (by decide) (Nat.le_of_ble_eq_true rfl) ?_
  show Wp G l 9 RX7 cX7_odds 6 (some .long) 0 [.ref (gA G 134), .int i, .int p, mk0, mk0, mk0] [] h _
  have hE := C.1.2.1.1
  cases hi : dec i (T.1 7 0) with
  | none =>
    refine r_aload_n dX7_odds_0 rfl ?_
    refine r_iload_n dX7_odds_1 rfl ?_
    refine r_callV dX7_odds_2 l_X7_220 o_X7_isEater v_X7_isEater rfl (by decide) rfl rfl (m_X7_isEater hG) (by decide) rfl (Nat.le_of_ble_eq_true rfl) (fun r2 h2 hq2 => ?_)
    obtain ⟨rfl, e2⟩ := hq2
    rw [e2]
    clear e2 h2
    rw [C.1.1.1, isE_dec (by omega), hi]
    refine r_if_eq (tgt := 18) dX7_odds_5 (by decide) (fun c_5 => ?_) (fun c_5 => ?_)
    · refine r_ldc2 dX7_odds_18 n_X7_378 ?_
      refine r_lreturn dX7_odds_21 rfl ?_
      exact ⟨by rw [oddsA, hi], C, Fr.rf⟩
    · exact absurd rfl c_5
  | some i1 =>
    obtain ⟨hi1, rfl, -⟩ := dec_some.mp hi
    cases hp : dec p 2 with
    | none =>
      refine r_aload_n dX7_odds_0 rfl ?_
      refine r_iload_n dX7_odds_1 rfl ?_
      refine r_callV dX7_odds_2 l_X7_220 o_X7_isEater v_X7_isEater rfl (by decide) rfl rfl (m_X7_isEater hG) (by decide) rfl (Nat.le_of_ble_eq_true rfl) (fun r2 h2 hq2 => ?_)
      obtain ⟨rfl, e2⟩ := hq2
      rw [e2]
      clear e2 h2
      rw [C.1.1.1, isE_dec (by omega), hi]
      refine r_if_eq (tgt := 18) dX7_odds_5 (by decide) (fun c_5 => ?_) (fun c_5 => ?_)
      · exact absurd c_5 (b01_n0.mpr rfl)
      · refine r_aload_n dX7_odds_8 rfl ?_
        refine r_iload_n dX7_odds_9 rfl ?_
        refine r_iconst (v := 0) dX7_odds_10 (by decide) ?_
        refine r_iconst (v := 1) dX7_odds_11 (by decide) ?_
        refine r_callV dX7_odds_12 l_X7_212 o_X7_in v_X7_in rfl (by decide) rfl rfl (m_X7_in hG) (by decide) rfl (Nat.le_of_ble_eq_true rfl) (fun r12 h12 hq12 => ?_)
        obtain ⟨rfl, e12⟩ := hq12
        rw [e12]
        clear e12 h12
        rw [show inP p 0 1 = (dec p 2).isSome from inP_dec0 (c := 1) (by omega) rfl, hp]
        refine r_if_ne (tgt := 22) dX7_odds_15 (by decide) (fun c_15 => ?_) (fun c_15 => ?_)
        · exact absurd rfl c_15
        · refine r_ldc2 dX7_odds_18 n_X7_378 ?_
          refine r_lreturn dX7_odds_21 rfl ?_
          exact ⟨by rw [oddsA, hi, hp], C, Fr.rf⟩
    | some p1 =>
      obtain ⟨hp1, rfl, -⟩ := dec_some.mp hp
      obtain ⟨W, hW0⟩ : ∃ W, W = wishS V (P0 V) T := ⟨_, rfl⟩
      obtain ⟨bk, hbk⟩ : ∃ bk, bk = bkS V (P0 V) T W := ⟨_, rfl⟩
      have hbl : bk < T.1 7 0 := by rw [hbk]; exact bakeS_lt (by omega)
      have s1 := scaleS_pos V
      have s2 := scaleS_le C.1.2.2.1.2.1
      have zs : ¬ nI (scaleS V) = 0 := nI_ne0 (by omega) (by omega)
      have a9 : ∀ j, ateS (T.1 7 1) W j ≤ 9 := fun j => Nat.le_trans (ateS_le _ _ _) (by rw [hW0]; exact wishS_le C.1.2.1 j)
      have lk : ∀ j, likeBk V T j = decide (ateS (T.1 7 1) W j / scaleS V = ateS (T.1 7 1) W bk / scaleS V) := fun j => by rw [hbk, hW0]; rfl
      have es : oddsA V T (nI i1) (nI p1) = if likeBk V T i1 = true then (if p1 = 0 then 1 else lN (cntTo (likeBk V T) (T.1 7 0))) else lN p1 := by rw [oddsA, hi, hp]
      refine r_aload_n dX7_odds_0 rfl ?_
      refine r_iload_n dX7_odds_1 rfl ?_
      refine r_callV dX7_odds_2 l_X7_220 o_X7_isEater v_X7_isEater rfl (by decide) rfl rfl (m_X7_isEater hG) (by decide) rfl (Nat.le_of_ble_eq_true rfl) (fun r2 h2 hq2 => ?_)
      obtain ⟨rfl, e2⟩ := hq2
      rw [e2]
      clear e2 h2
      rw [C.1.1.1, isE_dec (by omega), hi]
      refine r_if_eq (tgt := 18) dX7_odds_5 (by decide) (fun c_5 => ?_) (fun c_5 => ?_)
      · exact absurd c_5 (b01_n0.mpr rfl)
      · refine r_aload_n dX7_odds_8 rfl ?_
        refine r_iload_n dX7_odds_9 rfl ?_
        refine r_iconst (v := 0) dX7_odds_10 (by decide) ?_
        refine r_iconst (v := 1) dX7_odds_11 (by decide) ?_
        refine r_callV dX7_odds_12 l_X7_212 o_X7_in v_X7_in rfl (by decide) rfl rfl (m_X7_in hG) (by decide) rfl (Nat.le_of_ble_eq_true rfl) (fun r12 h12 hq12 => ?_)
        obtain ⟨rfl, e12⟩ := hq12
        rw [e12]
        clear e12 h12
        rw [show inP (nI p1) 0 1 = (dec (nI p1) 2).isSome from inP_dec0 (c := 1) (by omega) rfl, hp]
        refine r_if_ne (tgt := 22) dX7_odds_15 (by decide) (fun c_15 => ?_) (fun c_15 => ?_)
        · refine r_aload_n dX7_odds_22 rfl ?_
          refine r_callV dX7_odds_23 l_X7_333 o_X7_layWishes v_X7_layWishes rfl (by decide) rfl rfl (m_X7_layWishes (pact := none) hG C.1) (by decide) rfl (Nat.le_of_ble_eq_true rfl) (fun r23 h23 hq23 => ?_)
          obtain ⟨rfl, F4, hW⟩ := hq23
          have D4 := C.1.fr F4 wshF_dom
          refine r_aload_n dX7_odds_26 rfl ?_
          refine r_callV dX7_odds_27 l_X7_324 o_X7_laySupper v_X7_laySupper rfl (by decide) rfl rfl (m_X7_laySupper hG D4 hW) (by decide) rfl (Nat.le_of_ble_eq_true rfl) (fun r27 h27 hq27 => ?_)
          obtain ⟨rfl, F5, hE5, hB5, hH5⟩ := hq27
          have D5 := D4.fr F5 supF_dom
          have hE5 : ∀ j, j < T.1 7 0 → h27.1 152 j = nI (ateS (T.1 7 1) W j) := by rw [hW0]; exact hE5
          have hB6 : h27.1 134 33 = nI bk := by rw [hB5, bkI, if_neg (show ¬ T.1 7 0 = 0 by omega), hbk, hW0]; rfl
          refine r_aload_n dX7_odds_30 rfl ?_
          refine r_callV dX7_odds_31 l_X7_297 o_X7_scaleNow v_X7_scaleNow rfl (by decide) rfl rfl (m_X7_scaleNow hG D5.2.2.1) (by decide) rfl (Nat.le_of_ble_eq_true rfl) (fun r31 h31 hq31 => ?_)
          obtain ⟨rfl, e31⟩ := hq31
          rw [e31]
          clear e31 h31
          refine r_istore_n dX7_odds_34 (by decide) rfl rfl ?_
          dsimp only [List.set]
          refine r_iconst (v := 0) dX7_odds_35 (by decide) ?_
          refine r_istore dX7_odds_36 (by decide) rfl rfl ?_
          dsimp only [List.set]
          refine r_iconst (v := 0) dX7_odds_38 (by decide) ?_
          refine r_istore dX7_odds_39 (by decide) rfl rfl ?_
          dsimp only [List.set]
          refine likes_loop (q := likeBk V T) hE hbl s1 s2 D5.1.1 hB6 hE5 a9 lk (fun x5 => ?_) (T.1 7 0) 0 (by omega)
          have FF : Fr goF h h27 := (wshF_go F4).tr (supF_go F5)
          have CE := C.end D5.1 C.1.2.1 C.2.2 (goF_scr FF) (goF_calm C.calm FF)
          exact odds_89 hG hE hi1 hp1 hbl s1 s2 a9 lk es hE5 hB6 CE
        · exact absurd c_15 (b01_n0.mpr rfl)
set_option maxRecDepth 100000 in
theorem m_X7_mean {G : WT} {l : Launch} (hG : GOK G) {h : Hp} {b : Nat} {V : Hv} {T : Tb} {n p : Int32} (C : RIc h b V T) : Cl G l 11 yX7_mean cX7_mean 5 (some .long) [.ref (gA G 134), .int n, .int p] h (fun r h' => r = some (.long (meanA V T n p)) ∧ RIc h' b V T ∧ Fr scrF h h') := by
  refine Cl.of hG (by decide) (Nat.le_of_ble_eq_true rfl) ?_
  show Wp G l 11 RX7 cX7_mean 5 (some .long) 0 [.ref (gA G 134), .int n, .int p, mk0, mk0] [] h _
  have hE := C.1.2.1.1
  have hd := C.2.2
  cases hn : inP n 1 60 with
  | false =>
    have es : meanA V T n p = -9223372036854775808 := by
      unfold meanA
      cases hk : dec n 61 with
      | none => rfl
      | some k =>
        obtain ⟨hk1, rfl, -⟩ := dec_some.mp hk
        have hk0 : k = 0 := Classical.byContradiction fun q => by
          have := (in_nn (x := nI k) (a := 1) (b := 60) (by omega) (by omega)).mpr ⟨k, by omega, by omega, rfl⟩
          rw [show (nI 1 : Int32) = 1 from rfl, show nI 60 = (60 : Int32) from rfl, hn] at this
          cases this
        cases hp : dec p 2 with
        | none => rfl
        | some p1 =>
          show (if k = 0 ∨ T.1 7 0 = 0 then _ else _) = _
          rw [if_pos (Or.inl hk0)]
    refine r_aload_n dX7_mean_0 rfl ?_
    refine r_iload_n dX7_mean_1 rfl ?_
    refine r_iconst (v := 1) dX7_mean_2 (by decide) ?_
    refine r_bipush (v := 60) dX7_mean_3 (by decide) ?_
    refine r_callV dX7_mean_5 l_X7_212 o_X7_in v_X7_in rfl (by decide) rfl rfl (m_X7_in hG) (by decide) rfl (Nat.le_of_ble_eq_true rfl) (fun r5 h5 hq5 => ?_)
    obtain ⟨rfl, e5⟩ := hq5
    rw [e5]
    clear e5 h5
    rw [hn]
    refine r_if_eq (tgt := 28) dX7_mean_8 (by decide) (fun c_8 => ?_) (fun c_8 => ?_)
    · refine r_ldc2 dX7_mean_28 n_X7_378 ?_
      refine r_lreturn dX7_mean_31 rfl ?_
      exact ⟨by rw [es], C, Fr.rf⟩
    · exact absurd rfl c_8
  | true =>
    obtain ⟨k, k1, k2, rfl⟩ := (in_nn (x := n) (a := 1) (b := 60) (by omega) (by omega)).mp hn
    have hk : dec (nI k) 61 = some k := dec_nI (by omega) (by omega)
    by_cases h0 : T.1 7 0 = 0
    · have es : meanA V T (nI k) p = -9223372036854775808 := by
        unfold meanA
        rw [hk]
        cases hp : dec p 2 with
        | none => rfl
        | some p1 =>
          show (if k = 0 ∨ T.1 7 0 = 0 then _ else _) = _
          rw [if_pos (Or.inr h0)]
      refine r_aload_n dX7_mean_0 rfl ?_
      refine r_iload_n dX7_mean_1 rfl ?_
      refine r_iconst (v := 1) dX7_mean_2 (by decide) ?_
      refine r_bipush (v := 60) dX7_mean_3 (by decide) ?_
      refine r_callV dX7_mean_5 l_X7_212 o_X7_in v_X7_in rfl (by decide) rfl rfl (m_X7_in hG) (by decide) rfl (Nat.le_of_ble_eq_true rfl) (fun r5 h5 hq5 => ?_)
      obtain ⟨rfl, e5⟩ := hq5
      rw [e5]
      clear e5 h5
      rw [hn]
      refine r_if_eq (tgt := 28) dX7_mean_8 (by decide) (fun c_8 => ?_) (fun c_8 => ?_)
      · exact absurd c_8 (b01_n0.mpr rfl)
      · refine r_aload_n dX7_mean_11 rfl ?_
        refine r_getI dX7_mean_12 k_X7_7 rfl (by decide) rfl ?_
        rw [C.1.1.1]
        refine r_if_eq (tgt := 28) dX7_mean_15 (by decide) (fun c_15 => ?_) (fun c_15 => ?_)
        · refine r_ldc2 dX7_mean_28 n_X7_378 ?_
          refine r_lreturn dX7_mean_31 rfl ?_
          exact ⟨by rw [es], C, Fr.rf⟩
        · exact absurd (by rw [h0]; rfl) c_15
    · cases hp : dec p 2 with
      | none =>
        have es : meanA V T (nI k) p = -9223372036854775808 := by
          unfold meanA
          rw [hk, hp]
        refine r_aload_n dX7_mean_0 rfl ?_
        refine r_iload_n dX7_mean_1 rfl ?_
        refine r_iconst (v := 1) dX7_mean_2 (by decide) ?_
        refine r_bipush (v := 60) dX7_mean_3 (by decide) ?_
        refine r_callV dX7_mean_5 l_X7_212 o_X7_in v_X7_in rfl (by decide) rfl rfl (m_X7_in hG) (by decide) rfl (Nat.le_of_ble_eq_true rfl) (fun r5 h5 hq5 => ?_)
        obtain ⟨rfl, e5⟩ := hq5
        rw [e5]
        clear e5 h5
        rw [hn]
        refine r_if_eq (tgt := 28) dX7_mean_8 (by decide) (fun c_8 => ?_) (fun c_8 => ?_)
        · exact absurd c_8 (b01_n0.mpr rfl)
        · refine r_aload_n dX7_mean_11 rfl ?_
          refine r_getI dX7_mean_12 k_X7_7 rfl (by decide) rfl ?_
          rw [C.1.1.1]
          refine r_if_eq (tgt := 28) dX7_mean_15 (by decide) (fun c_15 => ?_) (fun c_15 => ?_)
          · exact absurd ((nI_eq' (b := 0) (by omega) (by omega)).mp c_15) h0
          · refine r_aload_n dX7_mean_18 rfl ?_
            refine r_iload_n dX7_mean_19 rfl ?_
            refine r_iconst (v := 0) dX7_mean_20 (by decide) ?_
            refine r_iconst (v := 1) dX7_mean_21 (by decide) ?_
            refine r_callV dX7_mean_22 l_X7_212 o_X7_in v_X7_in rfl (by decide) rfl rfl (m_X7_in hG) (by decide) rfl (Nat.le_of_ble_eq_true rfl) (fun r22 h22 hq22 => ?_)
            obtain ⟨rfl, e22⟩ := hq22
            rw [e22]
            clear e22 h22
            rw [show inP p 0 1 = (dec p 2).isSome from inP_dec0 (c := 1) (by omega) rfl, hp]
            refine r_if_ne (tgt := 32) dX7_mean_25 (by decide) (fun c_25 => ?_) (fun c_25 => ?_)
            · exact absurd rfl c_25
            · refine r_ldc2 dX7_mean_28 n_X7_378 ?_
              refine r_lreturn dX7_mean_31 rfl ?_
              exact ⟨by rw [es], C, Fr.rf⟩
      | some p1 =>
        obtain ⟨hp1, rfl, -⟩ := dec_some.mp hp
        have es : meanA V T (nI k) (nI p1) = fracA (gladA (supN V (P0 V) T k) - gladA T).toInt64 (k * T.1 7 0) p1 := by
          unfold meanA
          rw [hk, hp]
          show (if k = 0 ∨ T.1 7 0 = 0 then _ else _) = _
          rw [if_neg (by omega)]
        have hmu : 0 < k * T.1 7 0 := Nat.mul_pos (by omega) (by omega)
        have hmu2 : k * T.1 7 0 ≤ 60 * 5 := Nat.mul_le_mul (by omega) hE
        have hx := Int32.toInt_lt (gladA (supN V (P0 V) T k) - gladA T)
        have hx2 := Int32.le_toInt (gladA (supN V (P0 V) T k) - gladA T)
        refine r_aload_n dX7_mean_0 rfl ?_
        refine r_iload_n dX7_mean_1 rfl ?_
        refine r_iconst (v := 1) dX7_mean_2 (by decide) ?_
        refine r_bipush (v := 60) dX7_mean_3 (by decide) ?_
        refine r_callV dX7_mean_5 l_X7_212 o_X7_in v_X7_in rfl (by decide) rfl rfl (m_X7_in hG) (by decide) rfl (Nat.le_of_ble_eq_true rfl) (fun r5 h5 hq5 => ?_)
        obtain ⟨rfl, e5⟩ := hq5
        rw [e5]
        clear e5 h5
        rw [hn]
        refine r_if_eq (tgt := 28) dX7_mean_8 (by decide) (fun c_8 => ?_) (fun c_8 => ?_)
        · exact absurd c_8 (b01_n0.mpr rfl)
        · refine r_aload_n dX7_mean_11 rfl ?_
          refine r_getI dX7_mean_12 k_X7_7 rfl (by decide) rfl ?_
          rw [C.1.1.1]
          refine r_if_eq (tgt := 28) dX7_mean_15 (by decide) (fun c_15 => ?_) (fun c_15 => ?_)
          · exact absurd ((nI_eq' (b := 0) (by omega) (by omega)).mp c_15) h0
          · refine r_aload_n dX7_mean_18 rfl ?_
            refine r_iload_n dX7_mean_19 rfl ?_
            refine r_iconst (v := 0) dX7_mean_20 (by decide) ?_
            refine r_iconst (v := 1) dX7_mean_21 (by decide) ?_
            refine r_callV dX7_mean_22 l_X7_212 o_X7_in v_X7_in rfl (by decide) rfl rfl (m_X7_in hG) (by decide) rfl (Nat.le_of_ble_eq_true rfl) (fun r22 h22 hq22 => ?_)
            obtain ⟨rfl, e22⟩ := hq22
            rw [e22]
            clear e22 h22
            rw [show inP (nI p1) 0 1 = (dec (nI p1) 2).isSome from inP_dec0 (c := 1) (by omega) rfl, hp]
            refine r_if_ne (tgt := 32) dX7_mean_25 (by decide) (fun c_25 => ?_) (fun c_25 => ?_)
            · refine r_aload_n dX7_mean_32 rfl ?_
              refine r_callV dX7_mean_33 l_X7_365 o_X7_allGlad v_X7_allGlad rfl (by decide) rfl rfl (m_X7_allGlad hG hE C.1.1) (by decide) rfl (Nat.le_of_ble_eq_true rfl) (fun r33 h33 hq33 => ?_)
              obtain ⟨rfl, e33⟩ := hq33
              rw [e33]
              clear e33 h33
              refine r_istore_n dX7_mean_36 (by decide) rfl rfl ?_
              dsimp only [List.set]
              refine r_aload_n dX7_mean_37 rfl ?_
              refine r_callV dX7_mean_38 l_X7_341 o_X7_keep v_X7_keep rfl (by decide) rfl rfl (m_X7_keep hG) (by decide) rfl (Nat.le_of_ble_eq_true rfl) (fun r38 h38 hq38 => ?_)
              obtain ⟨rfl, f1, k1', -⟩ := hq38
              refine r_aload_n dX7_mean_41 rfl ?_
              refine r_iload_n dX7_mean_42 rfl ?_
              refine r_callV dX7_mean_43 l_X7_344 o_X7_goOn v_X7_goOn rfl (by decide) rfl rfl (m_X7_goOn (pact := none) hG (show k ≤ 1000 by omega) (by omega) (C.1.fr f1 kpF_dom) (C.2.1.fr f1 rfl rfl)) (by decide) rfl (Nat.le_of_ble_eq_true rfl) (fun r43 h43 hq43 => ?_)
              obtain ⟨rfl, f2, hR2, -⟩ := hq43
              refine r_aload_n dX7_mean_46 rfl ?_
              refine r_callV dX7_mean_47 l_X7_365 o_X7_allGlad v_X7_allGlad rfl (by decide) rfl rfl (m_X7_allGlad hG (by rw [supN_E]; exact hE) hR2) (by decide) rfl (Nat.le_of_ble_eq_true rfl) (fun r47 h47 hq47 => ?_)
              obtain ⟨rfl, e47⟩ := hq47
              rw [e47]
              clear e47 h47
              refine r_istore dX7_mean_50 (by decide) rfl rfl ?_
              dsimp only [List.set]
              refine r_aload_n dX7_mean_52 rfl ?_
              refine r_callV dX7_mean_53 l_X7_347 o_X7_putBack v_X7_putBack rfl (by decide) rfl rfl (m_X7_putBack hG) (by decide) rfl (Nat.le_of_ble_eq_true rfl) (fun r53 h53 hq53 => ?_)
              obtain ⟨rfl, f3, b3⟩ := hq53
              have CE := C.back f1 k1' f2 f3 b3
              refine r_aload_n dX7_mean_56 rfl ?_
              refine r_iload dX7_mean_57 rfl ?_
              refine r_iload_n dX7_mean_59 rfl ?_
              refine r_isub dX7_mean_60 ?_
              refine r_i2l dX7_mean_61 ?_
              refine r_iload_n dX7_mean_62 rfl ?_
              refine r_aload_n dX7_mean_63 rfl ?_
              refine r_getI dX7_mean_64 k_X7_7 rfl (by decide) rfl ?_
              rw [CE.1.1.1.1]
              refine r_imul dX7_mean_67 ?_
              rw [pk_mul]
              refine r_i2l dX7_mean_68 ?_
              refine r_iload_n dX7_mean_69 rfl ?_
              rw [nI_l (by omega)]
              refine r_callV dX7_mean_70 l_X7_380 o_X7_lowest v_X7_lowest rfl (by decide) rfl rfl (m_X7_lowest hG (show k * T.1 7 0 < 1000000 by omega) hmu hp1 (by show -4294967296 ≤ (gladA (supN V (P0 V) T k) - gladA T).toInt64.toInt ∧ (gladA (supN V (P0 V) T k) - gladA T).toInt64.toInt ≤ 4294967296; rw [Int32.toInt_toInt64]; omega)) (by decide) rfl (Nat.le_of_ble_eq_true rfl) (fun r70 h70 hq70 => ?_)
              obtain ⟨rfl, e70⟩ := hq70
              rw [e70]
              clear e70 h70
              refine r_lreturn dX7_mean_73 rfl ?_
              exact ⟨by rw [es]; rfl, CE⟩
            · exact absurd c_25 (b01_n0.mpr rfl)
