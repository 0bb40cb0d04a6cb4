/-! odds, mean -/
theorem wishP0 {V : Hv} {T : Tb} : wishP V (P0 V) T = wishS V (P0 V) T := rfl
theorem lb_lp {G : WT} {l : Launch} (hG : GOK G) {h : Hp} {t E bk : Nat} {p : Nat → Nat} {qq : Nat → Bool} (ht : ksh t = 4) (r1 : h.2.2 37 8 = t) (e1 : h.1 t 7 = nI E) (hE5 : E ≤ 5) (hb : bk < E) (hbk : h.1 37 12 = nI bk) (hp : ∀ e, e < E → h.1 41 e = nI (p e) ∧ p e < 1000) (hq : ∀ e, qq e = decide (p e = p bk)) : ∀ (m j : Nat), j + m = E → Wp G l 2 RX3 cX3_likeBaker 3 (some .int) 4 [.ref (gA G 37), .int (nI (cntTo qq j)), .int (nI j)] [] h (fun r h' => r = some (.int (nI (cntTo qq E))) ∧ h' = h) := by
  intro m
  induction m with
  | zero =>
    intro j hj
    refine r_iload_n dX3_likeBaker_4 rfl ?_
    refine r_aload_n dX3_likeBaker_5 rfl ?_
    refine r_getR (j := t) dX3_likeBaker_6 k_X3_39 rfl (by decide) rfl r1 ?_
    refine r_getI dX3_likeBaker_9 k_X3_86 (by assumption) (by decide) rfl ?_
    rw [e1]
    refine r_icmp_ge (tgt := 37) dX3_likeBaker_12 (by decide) (fun c_12 => ?_) (fun c_12 => ?_)
    · refine r_iload_n dX3_likeBaker_37 rfl ?_
      refine r_ireturn dX3_likeBaker_38 ⟨_, rfl, rfl⟩ ?_
      exact ⟨by rw [show j = E by omega], rfl⟩
    · exact absurd (nI_le (by omega) (by omega)) c_12
  | succ m ih =>
    intro j hj
    have k9 := ih (j + 1) (by omega)
    have cs : cntTo qq (j + 1) = cntTo qq j + (if qq j = true then 1 else 0) := rfl
    refine r_iload_n dX3_likeBaker_4 rfl ?_
    refine r_aload_n dX3_likeBaker_5 rfl ?_
    refine r_getR (j := t) dX3_likeBaker_6 k_X3_39 rfl (by decide) rfl r1 ?_
    refine r_getI dX3_likeBaker_9 k_X3_86 (by assumption) (by decide) rfl ?_
    rw [e1]
    refine r_icmp_ge (tgt := 37) dX3_likeBaker_12 (by decide) (fun c_12 => ?_) (fun c_12 => ?_)
    · exact absurd c_12 (nI_ge (by omega) (by omega))
    · refine r_iload_n dX3_likeBaker_15 rfl ?_
      refine r_aload_n dX3_likeBaker_16 rfl ?_
      refine r_iload_n dX3_likeBaker_17 rfl ?_
      refine r_callV dX3_likeBaker_18 l_X3_145 o_X3_isLikeBaker v_X3_isLikeBaker rfl (by decide) rfl rfl (m_X3_isLikeBaker hG (show j < 5 by omega) (show bk < 5 by omega) hbk (hp j (by omega)).1 (hp bk hb).1 (hp j (by omega)).2 (hp bk hb).2) (by decide) rfl (Nat.le_of_ble_eq_true rfl) (fun r18 h18 hq18 => ?_)
      obtain ⟨rfl, e18⟩ := hq18
      rw [e18]
      clear e18 h18
      refine r_if_eq (tgt := 28) dX3_likeBaker_21 (by decide) (fun c_21 => ?_) (fun c_21 => ?_)
      · refine r_iconst (v := 0) dX3_likeBaker_28 (by decide) ?_
        refine r_iadd dX3_likeBaker_29 ?_
        refine r_istore_n dX3_likeBaker_30 (by decide) rfl rfl ?_
        dsimp only [List.set]
        refine r_iinc dX3_likeBaker_31 rfl (by first | exact nI_inc _ | rfl) (by decide) rfl rfl ?_
        dsimp only [List.set]
        refine r_goto (tgt := 4) dX3_likeBaker_34 (by decide) ?_
        rw [cs, hq j, b01_0.mp c_21, if_neg Bool.false_ne_true, Nat.add_zero] at k9
        rw [Int32.add_zero]
        exact k9
      · refine r_iconst (v := 1) dX3_likeBaker_24 (by decide) ?_
        refine r_goto (tgt := 29) dX3_likeBaker_25 (by decide) ?_
        refine r_iadd dX3_likeBaker_29 ?_
        refine r_istore_n dX3_likeBaker_30 (by decide) rfl rfl ?_
        dsimp only [List.set]
        refine r_iinc dX3_likeBaker_31 rfl (by first | exact nI_inc _ | rfl) (by decide) rfl rfl ?_
        dsimp only [List.set]
        refine r_goto (tgt := 4) dX3_likeBaker_34 (by decide) ?_
        rw [cs, hq j, b01_n0.mp c_21, if_pos rfl] at k9
        rw [nI_1]
        exact k9
set_option maxRecDepth 100000 in
theorem m_X3_likeBaker {G : WT} {l : Launch} (hG : GOK G) {h : Hp} {t E bk : Nat} {p : Nat → Nat} {qq : Nat → Bool} (ht : ksh t = 4) (r1 : h.2.2 37 8 = t) (e1 : h.1 t 7 = nI E) (hE5 : E ≤ 5) (hb : bk < E) (hbk : h.1 37 12 = nI bk) (hp : ∀ e, e < E → h.1 41 e = nI (p e) ∧ p e < 1000) (hq : ∀ e, qq e = decide (p e = p bk)) : Cl G l 2 yX3_likeBaker cX3_likeBaker 3 (some .int) [.ref (gA G 37)] h (fun r h' => r = some (.int (nI (cntTo qq E))) ∧ h' = h) := by
  refine Cl.of hG (by decide) (Nat.le_of_ble_eq_true rfl) ?_
  show Wp G l 2 RX3 cX3_likeBaker 3 (some .int) 0 [.ref (gA G 37), mk0, mk0] [] h _
  refine r_iconst (v := 0) dX3_likeBaker_0 (by decide) ?_
  refine r_istore_n dX3_likeBaker_1 (by decide) rfl rfl ?_
  dsimp only [List.set]
  refine r_iconst (v := 0) dX3_likeBaker_2 (by decide) ?_
  refine r_istore_n dX3_likeBaker_3 (by decide) rfl rfl ?_
  dsimp only [List.set]
  exact lb_lp hG ht r1 e1 hE5 hb hbk hp hq E 0 (by omega)
theorem frac0 {c part : Nat} (hc : 0 < c) (hc2 : c < 1000000) (hp : part < 2) : fracA 0 c part = lN part := by
  have e9 : Nat.gcd (0 : Int64).toInt.natAbs c = c := Nat.gcd_zero_left c
  have z : ¬ lN c = 0 := fun y => by
    have := (pk_lEQ (b := 0) (by omega) (by omega)).mp y
    omega
  rw [fracA, e9]
  rcases (show part = 0 ∨ part = 1 by omega) with rfl | rfl
  · rw [if_pos rfl]
    show (0 : Int64) / lN c = lN 0
    rw [show (0 : Int64) = lN 0 from rfl, pk_lDiv (by omega) (by omega) (by omega), Nat.zero_div]
  · rw [if_neg (by decide), pk_lDiv (by omega) (by omega) (by omega), Nat.div_self hc]
set_option maxRecDepth 100000 in
theorem m_X6_odds {G : WT} {l : Launch} (hG : GOK G) {h : Hp} {n q : Nat} {V : Hv} {T : Tb} {e p : Int32} (C : DIc h n q V T) : Cl G l 7 yX6_odds cX6_odds 3 (some .long) [.ref (gA G 0), .int e, .int p] h (fun r h' => r = some (.long (oddsA V T e p)) ∧ DIc h' n q V T ∧ Fx asF h h') := by
  refine Cl.of hG (by decide) (Nat.le_of_ble_eq_true rfl) ?_
  show Wp G l 7 RX6 cX6_odds 3 (some .long) 0 [.ref (gA G 0), .int e, .int p] [] h _
  have hE5 := C.2.1.1
  cases he : dec e (T.1 7 0) with
  | none =>
    have es : oddsA V T e p = -9223372036854775808 := by unfold oddsA; rw [he]
    refine r_aload_n dX6_odds_0 rfl ?_
    refine r_iload_n dX6_odds_1 rfl ?_
    refine r_callV dX6_odds_2 l_X6_89 o_X6_isEater v_X6_isEater rfl (by decide) rfl rfl (m_X6_isEater hG hE5 C.1.1.1) (by decide) rfl (Nat.le_of_ble_eq_true rfl) (fun r2 h2 hq2 => ?_)
    obtain ⟨rfl, rfl⟩ := hq2
    rw [he]
    refine r_if_eq (tgt := 16) dX6_odds_5 (by decide) (fun c_5 => ?_) (fun c_5 => ?_)
    · refine r_ldc2 dX6_odds_16 n_X6_243 ?_
      refine r_lreturn dX6_odds_19 rfl ?_
      exact ⟨by rw [es], C, Fx.rf⟩
    · exact absurd none_f c_5
  | some i =>
    obtain ⟨i1, rfl, -⟩ := dec_some.mp he
    cases hp : dec p 2 with
    | none =>
      have es : oddsA V T (nI i) p = -9223372036854775808 := by unfold oddsA; rw [he, hp]
      refine r_aload_n dX6_odds_0 rfl ?_
      refine r_iload_n dX6_odds_1 rfl ?_
      refine r_callV dX6_odds_2 l_X6_89 o_X6_isEater v_X6_isEater rfl (by decide) rfl rfl (m_X6_isEater hG hE5 C.1.1.1) (by decide) rfl (Nat.le_of_ble_eq_true rfl) (fun r2 h2 hq2 => ?_)
      obtain ⟨rfl, rfl⟩ := hq2
      rw [he]
      refine r_if_eq (tgt := 16) dX6_odds_5 (by decide) (fun c_5 => ?_) (fun c_5 => ?_)
      · exact absurd c_5 some_t
      · refine r_iload_n dX6_odds_8 rfl ?_
        refine r_iconst (v := 1) dX6_odds_9 (by decide) ?_
        rw [show (1 : Int32) = nI 1 from rfl]
        refine r_callS dX6_odds_10 l_X6_78 o_X6_within s_X6_within rfl (m_X6_within hG (x := p) (m := 1) (by omega)) (by decide) rfl (Nat.le_of_ble_eq_true rfl) (fun r10 h10 hq10 => ?_)
        obtain ⟨rfl, rfl⟩ := hq10
        rw [hp]
        refine r_if_ne (tgt := 20) dX6_odds_13 (by decide) (fun c_13 => ?_) (fun c_13 => ?_)
        · exact absurd none_f c_13
        · refine r_ldc2 dX6_odds_16 n_X6_243 ?_
          refine r_lreturn dX6_odds_19 rfl ?_
          exact ⟨by rw [es], C, Fx.rf⟩
    | some p1 =>
      obtain ⟨hp1, rfl, -⟩ := dec_some.mp hp
      have es : oddsA V T (nI i) (nI p1) = if likeBk V T i = true then (if p1 = 0 then 1 else lN (cntTo (likeBk V T) (T.1 7 0))) else lN p1 := by unfold oddsA; rw [he, hp]
      have hbk : bkS V (P0 V) T (wishP V (P0 V) T) < T.1 7 0 := bakeS_lt (by omega)
      have lk : ∀ j, likeBk V T j = decide (prtS V (ateS (T.1 7 1) (wishP V (P0 V) T)) j = prtS V (ateS (T.1 7 1) (wishP V (P0 V) T)) (bkS V (P0 V) T (wishP V (P0 V) T))) := fun j => rfl
      have pb : ∀ j, prtS V (ateS (T.1 7 1) (wishP V (P0 V) T)) j < 1000 := fun j => by
        have h1 := Nat.div_le_self (ateS (T.1 7 1) (wishP V (P0 V) T) j) (scaleS V)
        have h2 := ateS_le (T.1 7 1) (wishP V (P0 V) T) j
        have h3 := wishP_le (V := V) (P := P0 V) C.2.1 j
        show ateS (T.1 7 1) (wishP V (P0 V) T) j / scaleS V < 1000
        omega
      have cl := cntTo_le (likeBk V T) (T.1 7 0)
      have cpos : 0 < cntTo (likeBk V T) (T.1 7 0) := by
        apply Nat.pos_of_ne_zero
        intro y
        have := cntTo_0 _ y (bkS V (P0 V) T (wishP V (P0 V) T)) hbk
        rw [lk] at this
        exact absurd rfl (of_decide_eq_false this)
      refine r_aload_n dX6_odds_0 rfl ?_
      refine r_iload_n dX6_odds_1 rfl ?_
      refine r_callV dX6_odds_2 l_X6_89 o_X6_isEater v_X6_isEater rfl (by decide) rfl rfl (m_X6_isEater hG hE5 C.1.1.1) (by decide) rfl (Nat.le_of_ble_eq_true rfl) (fun r2 h2 hq2 => ?_)
      obtain ⟨rfl, rfl⟩ := hq2
      rw [he]
      refine r_if_eq (tgt := 16) dX6_odds_5 (by decide) (fun c_5 => ?_) (fun c_5 => ?_)
      · exact absurd c_5 some_t
      · refine r_iload_n dX6_odds_8 rfl ?_
        refine r_iconst (v := 1) dX6_odds_9 (by decide) ?_
        rw [show (1 : Int32) = nI 1 from rfl]
        refine r_callS dX6_odds_10 l_X6_78 o_X6_within s_X6_within rfl (m_X6_within hG (x := nI p1) (m := 1) (by omega)) (by decide) rfl (Nat.le_of_ble_eq_true rfl) (fun r10 h10 hq10 => ?_)
        obtain ⟨rfl, rfl⟩ := hq10
        rw [hp]
        refine r_if_ne (tgt := 20) dX6_odds_13 (by decide) (fun c_13 => ?_) (fun c_13 => ?_)
        · refine r_aload_n dX6_odds_20 rfl ?_
          refine r_iconst (v := 1) dX6_odds_21 (by decide) ?_
          rw [show (1 : Int32) = nI 1 from rfl]
          refine r_callV dX6_odds_22 l_X6_170 o_X6_ahead v_X6_ahead rfl (by decide) rfl rfl (m_X6_ahead hG C (N := 1) (by omega)) (by decide) rfl (Nat.le_of_ble_eq_true rfl) (fun r22 h22 hq22 => ?_)
          obtain ⟨rfl, A1, A2, A3, A4⟩ := hq22
          have H9 : HeldC h22 17 q V (P0 V) T := A4 0 rfl (by omega)
          have e9 : h22.1 17 7 = nI (T.1 7 0) := by rw [A3.1.1, supN_E]
          refine r_aload_n dX6_odds_25 rfl ?_
          refine r_getR (j := 37) dX6_odds_26 k_X6_38 rfl (by decide) rfl rfl ?_
          refine r_iload_n dX6_odds_29 rfl ?_
          refine r_callV dX6_odds_30 l_X6_245 o_X3_isLikeBaker v_X3_isLikeBaker rfl (by decide) rfl rfl (m_X3_isLikeBaker hG (show i < 5 by omega) (show bkS V (P0 V) T (wishP V (P0 V) T) < 5 by omega) H9.2.2.1 (H9.2.2.2 i i1).2.1 (H9.2.2.2 _ hbk).2.1 (pb i) (pb _)) (by decide) rfl (Nat.le_of_ble_eq_true rfl) (fun r30 h30 hq30 => ?_)
          obtain ⟨rfl, rfl⟩ := hq30
          rw [← lk]
          refine r_if_eq (tgt := 40) dX6_odds_33 (by decide) (fun c_33 => ?_) (fun c_33 => ?_)
          · have y9 : likeBk V T i = false := b01_0.mp c_33
            refine r_lconst (v := 0) dX6_odds_40 (by decide) ?_
            refine r_aload_n dX6_odds_41 rfl ?_
            refine r_getR (j := 37) dX6_odds_42 k_X6_38 rfl (by decide) rfl rfl ?_
            refine r_callV dX6_odds_45 l_X6_248 o_X3_likeBaker v_X3_likeBaker rfl (by decide) rfl rfl (m_X3_likeBaker hG (t := 17) rfl H9.1 e9 hE5 hbk H9.2.2.1 (fun e9 he9 => ⟨(H9.2.2.2 e9 he9).2.1, pb e9⟩) lk) (by decide) rfl (Nat.le_of_ble_eq_true rfl) (fun r45 h45 hq45 => ?_)
            obtain ⟨rfl, e45⟩ := hq45
            rw [e45]
            clear e45 h45
            refine r_i2l dX6_odds_48 ?_
            rw [nI_l (by omega)]
            refine r_iload_n dX6_odds_49 rfl ?_
            refine r_callS dX6_odds_50 l_X6_251 o_X6_fraction s_X6_fraction rfl (m_X6_fraction hG (show cntTo (likeBk V T) (T.1 7 0) < 1000000 by omega) cpos hp1 (by decide)) (by decide) rfl (Nat.le_of_ble_eq_true rfl) (fun r50 h50 hq50 => ?_)
            obtain ⟨rfl, e50⟩ := hq50
            rw [e50]
            clear e50 h50
            refine r_lreturn dX6_odds_53 rfl ?_
            exact ⟨by rw [es, y9, if_neg Bool.false_ne_true, frac0 cpos (by omega) hp1], A1, A2⟩
          · have y9 : likeBk V T i = true := b01_n0.mp c_33
            refine r_lconst (v := 1) dX6_odds_36 (by decide) ?_
            refine r_goto (tgt := 41) dX6_odds_37 (by decide) ?_
            refine r_aload_n dX6_odds_41 rfl ?_
            refine r_getR (j := 37) dX6_odds_42 k_X6_38 rfl (by decide) rfl rfl ?_
            refine r_callV dX6_odds_45 l_X6_248 o_X3_likeBaker v_X3_likeBaker rfl (by decide) rfl rfl (m_X3_likeBaker hG (t := 17) rfl H9.1 e9 hE5 hbk H9.2.2.1 (fun e9 he9 => ⟨(H9.2.2.2 e9 he9).2.1, pb e9⟩) lk) (by decide) rfl (Nat.le_of_ble_eq_true rfl) (fun r45 h45 hq45 => ?_)
            obtain ⟨rfl, e45⟩ := hq45
            rw [e45]
            clear e45 h45
            refine r_i2l dX6_odds_48 ?_
            rw [nI_l (by omega)]
            refine r_iload_n dX6_odds_49 rfl ?_
            refine r_callS dX6_odds_50 l_X6_251 o_X6_fraction s_X6_fraction rfl (m_X6_fraction hG (show cntTo (likeBk V T) (T.1 7 0) < 1000000 by omega) cpos hp1 (by decide)) (by decide) rfl (Nat.le_of_ble_eq_true rfl) (fun r50 h50 hq50 => ?_)
            obtain ⟨rfl, e50⟩ := hq50
            rw [e50]
            clear e50 h50
            refine r_lreturn dX6_odds_53 rfl ?_
            exact ⟨by rw [es, y9, if_pos rfl, frac1], A1, A2⟩
        · exact absurd c_13 some_t
set_option maxRecDepth 100000 in
theorem m_X6_mean {G : WT} {l : Launch} (hG : GOK G) {h : Hp} {n q : Nat} {V : Hv} {T : Tb} {x p : Int32} (C : DIc h n q V T) : Cl G l 7 yX6_mean cX6_mean 3 (some .long) [.ref (gA G 0), .int x, .int p] h (fun r h' => r = some (.long (meanA V T x p)) ∧ DIc h' n q V T ∧ Fx asF h h') := by
  refine Cl.of hG (by decide) (Nat.le_of_ble_eq_true rfl) ?_
  show Wp G l 7 RX6 cX6_mean 3 (some .long) 0 [.ref (gA G 0), .int x, .int p] [] h _
  have hE5 := C.2.1.1
  have k29 : ∀ (g : Hp), meanA V T x p = -9223372036854775808 → DIc g n q V T ∧ Fx asF h g → Wp G l 7 RX6 cX6_mean 3 (some .long) 29 [.ref (gA G 0), .int x, .int p] [] g (fun r h' => r = some (.long (meanA V T x p)) ∧ DIc h' n q V T ∧ Fx asF h h') := by
    intro g es k
    refine r_ldc2 dX6_mean_29 n_X6_243 ?_
    refine r_lreturn dX6_mean_32 rfl ?_
    exact ⟨by rw [es], k⟩
  cases hk : dec x 61 with
  | none =>
    have es : meanA V T x p = -9223372036854775808 := by unfold meanA; rw [hk]
    have q9 := dec_none.mp hk
    have hx := Int32.toInt_lt x
    refine r_iload_n dX6_mean_0 rfl ?_
    refine r_iconst (v := 1) dX6_mean_1 (by decide) ?_
    refine r_icmp_lt (tgt := 29) dX6_mean_2 (by decide) (fun c_2 => ?_) (fun c_2 => ?_)
    · exact k29 _ es ⟨C, Fx.rf⟩
    · refine r_iload_n dX6_mean_5 rfl ?_
      refine r_bipush (v := 60) dX6_mean_6 (by decide) ?_
      refine r_icmp_gt (tgt := 29) dX6_mean_8 (by decide) (fun c_8 => ?_) (fun c_8 => ?_)
      · exact k29 _ es ⟨C, Fx.rf⟩
      · exfalso
        have z1 : ¬ x.toInt < 1 := fun y => c_2 (by rw [Int32.lt_iff_toInt_lt]; exact y)
        have z2 : ¬ (60 : Int) < x.toInt := fun y => c_8 (by rw [Int32.lt_iff_toInt_lt]; exact y)
        omega
  | some k =>
    obtain ⟨k1, rfl, -⟩ := dec_some.mp hk
    by_cases hk0 : k = 0
    · have es : meanA V T (nI k) p = -9223372036854775808 := by
        unfold meanA
        rw [hk]
        cases hp : dec p 2 with
        | none => rfl
        | some p1 =>
          dsimp only
          rw [if_pos (Or.inl hk0)]
      refine r_iload_n dX6_mean_0 rfl ?_
      refine r_iconst (v := 1) dX6_mean_1 (by decide) ?_
      refine r_icmp_lt (tgt := 29) dX6_mean_2 (by decide) (fun c_2 => ?_) (fun c_2 => ?_)
      · exact k29 _ es ⟨C, Fx.rf⟩
      · exact absurd (by rw [hk0]; decide) c_2
    · cases hp : dec p 2 with
      | none =>
        have es : meanA V T (nI k) p = -9223372036854775808 := by unfold meanA; rw [hk, hp]
        refine r_iload_n dX6_mean_0 rfl ?_
        refine r_iconst (v := 1) dX6_mean_1 (by decide) ?_
        refine r_icmp_lt (tgt := 29) dX6_mean_2 (by decide) (fun c_2 => ?_) (fun c_2 => ?_)
        · exact absurd ((nI_lt' (b := 1) (by omega) (by omega)).mp c_2) (by omega)
        · refine r_iload_n dX6_mean_5 rfl ?_
          refine r_bipush (v := 60) dX6_mean_6 (by decide) ?_
          refine r_icmp_gt (tgt := 29) dX6_mean_8 (by decide) (fun c_8 => ?_) (fun c_8 => ?_)
          · exact absurd ((nI_lt' (a := 60) (by omega) (by omega)).mp c_8) (by omega)
          · refine r_iload_n dX6_mean_11 rfl ?_
            refine r_iconst (v := 1) dX6_mean_12 (by decide) ?_
            rw [show (1 : Int32) = nI 1 from rfl]
            refine r_callS dX6_mean_13 l_X6_78 o_X6_within s_X6_within rfl (m_X6_within hG (x := p) (m := 1) (by omega)) (by decide) rfl (Nat.le_of_ble_eq_true rfl) (fun r13 h13 hq13 => ?_)
            obtain ⟨rfl, rfl⟩ := hq13
            rw [hp]
            refine r_if_eq (tgt := 29) dX6_mean_16 (by decide) (fun c_16 => ?_) (fun c_16 => ?_)
            · exact k29 _ es ⟨C, Fx.rf⟩
            · exact absurd none_f c_16
      | some p1 =>
        obtain ⟨hp1, rfl, -⟩ := dec_some.mp hp
        by_cases h0 : T.1 7 0 = 0
        · have es : meanA V T (nI k) (nI p1) = -9223372036854775808 := by
            unfold meanA
            rw [hk, hp]
            dsimp only
            rw [if_pos (Or.inr h0)]
          refine r_iload_n dX6_mean_0 rfl ?_
          refine r_iconst (v := 1) dX6_mean_1 (by decide) ?_
          refine r_icmp_lt (tgt := 29) dX6_mean_2 (by decide) (fun c_2 => ?_) (fun c_2 => ?_)
          · exact absurd ((nI_lt' (b := 1) (by omega) (by omega)).mp c_2) (by omega)
          · refine r_iload_n dX6_mean_5 rfl ?_
            refine r_bipush (v := 60) dX6_mean_6 (by decide) ?_
            refine r_icmp_gt (tgt := 29) dX6_mean_8 (by decide) (fun c_8 => ?_) (fun c_8 => ?_)
            · exact absurd ((nI_lt' (a := 60) (by omega) (by omega)).mp c_8) (by omega)
            · refine r_iload_n dX6_mean_11 rfl ?_
              refine r_iconst (v := 1) dX6_mean_12 (by decide) ?_
              rw [show (1 : Int32) = nI 1 from rfl]
              refine r_callS dX6_mean_13 l_X6_78 o_X6_within s_X6_within rfl (m_X6_within hG (x := nI p1) (m := 1) (by omega)) (by decide) rfl (Nat.le_of_ble_eq_true rfl) (fun r13 h13 hq13 => ?_)
              obtain ⟨rfl, rfl⟩ := hq13
              rw [hp]
              refine r_if_eq (tgt := 29) dX6_mean_16 (by decide) (fun c_16 => ?_) (fun c_16 => ?_)
              · exact absurd c_16 some_t
              · refine r_aload_n dX6_mean_19 rfl ?_
                refine r_getR (j := 1) dX6_mean_20 k_X6_12 rfl (by decide) rfl rfl ?_
                refine r_getI dX6_mean_23 k_X6_82 rfl (by decide) rfl ?_
                rw [C.1.1.1]
                refine r_if_ne (tgt := 33) dX6_mean_26 (by decide) (fun c_26 => ?_) (fun c_26 => ?_)
                · exact absurd (by rw [h0]; rfl) c_26
                · exact k29 _ es ⟨C, Fx.rf⟩
        · have es : meanA V T (nI k) (nI p1) = fracA (gladA (supN V (P0 V) T k) - gladA T).toInt64 (k * T.1 7 0) p1 := by
            unfold meanA
            rw [hk, hp]
            dsimp only
            rw [if_neg (by omega)]
          have hmu : 0 < k * T.1 7 0 := Nat.mul_pos (by omega) (by omega)
          have hmu2 : k * T.1 7 0 ≤ 60 * 5 := Nat.mul_le_mul (by omega) hE5
          have hx := Int32.toInt_lt (gladA (supN V (P0 V) T k) - gladA T)
          have hx2 := Int32.le_toInt (gladA (supN V (P0 V) T k) - gladA T)
          have hb9 : -4294967296 ≤ (gladA (supN V (P0 V) T k) - gladA T).toInt64.toInt ∧ (gladA (supN V (P0 V) T k) - gladA T).toInt64.toInt ≤ 4294967296 := by rw [Int32.toInt_toInt64]; omega
          refine r_iload_n dX6_mean_0 rfl ?_
          refine r_iconst (v := 1) dX6_mean_1 (by decide) ?_
          refine r_icmp_lt (tgt := 29) dX6_mean_2 (by decide) (fun c_2 => ?_) (fun c_2 => ?_)
          · exact absurd ((nI_lt' (b := 1) (by omega) (by omega)).mp c_2) (by omega)
          · refine r_iload_n dX6_mean_5 rfl ?_
            refine r_bipush (v := 60) dX6_mean_6 (by decide) ?_
            refine r_icmp_gt (tgt := 29) dX6_mean_8 (by decide) (fun c_8 => ?_) (fun c_8 => ?_)
            · exact absurd ((nI_lt' (a := 60) (by omega) (by omega)).mp c_8) (by omega)
            · refine r_iload_n dX6_mean_11 rfl ?_
              refine r_iconst (v := 1) dX6_mean_12 (by decide) ?_
              rw [show (1 : Int32) = nI 1 from rfl]
              refine r_callS dX6_mean_13 l_X6_78 o_X6_within s_X6_within rfl (m_X6_within hG (x := nI p1) (m := 1) (by omega)) (by decide) rfl (Nat.le_of_ble_eq_true rfl) (fun r13 h13 hq13 => ?_)
              obtain ⟨rfl, rfl⟩ := hq13
              rw [hp]
              refine r_if_eq (tgt := 29) dX6_mean_16 (by decide) (fun c_16 => ?_) (fun c_16 => ?_)
              · exact absurd c_16 some_t
              · refine r_aload_n dX6_mean_19 rfl ?_
                refine r_getR (j := 1) dX6_mean_20 k_X6_12 rfl (by decide) rfl rfl ?_
                refine r_getI dX6_mean_23 k_X6_82 rfl (by decide) rfl ?_
                rw [C.1.1.1]
                refine r_if_ne (tgt := 33) dX6_mean_26 (by decide) (fun c_26 => ?_) (fun c_26 => ?_)
                · refine r_aload_n dX6_mean_33 rfl ?_
                  refine r_iload_n dX6_mean_34 rfl ?_
                  refine r_callV dX6_mean_35 l_X6_170 o_X6_ahead v_X6_ahead rfl (by decide) rfl rfl (m_X6_ahead hG C (N := k) (by omega)) (by decide) rfl (Nat.le_of_ble_eq_true rfl) (fun r35 h35 hq35 => ?_)
                  obtain ⟨rfl, A1, A2, A3, A4⟩ := hq35
                  have A3 : DTb h35 17 (supN V (P0 V) T k) := A3
                  refine r_aload_n dX6_mean_38 rfl ?_
                  refine r_getR (j := 17) dX6_mean_39 k_X6_21 rfl (by decide) rfl rfl ?_
                  refine r_callV dX6_mean_42 l_X6_219 o_X4_gladTogether v_X4_gladTogether rfl (by decide) rfl rfl (m_X4_gladTogether hG (t := 17) rfl A3 (by rw [supN_E]; exact hE5)) (by decide) rfl (Nat.le_of_ble_eq_true rfl) (fun r42 h42 hq42 => ?_)
                  obtain ⟨rfl, e42⟩ := hq42
                  rw [e42]
                  clear e42 h42
                  refine r_aload_n dX6_mean_45 rfl ?_
                  refine r_getR (j := 1) dX6_mean_46 k_X6_12 rfl (by decide) rfl rfl ?_
                  refine r_callV dX6_mean_49 l_X6_219 o_X4_gladTogether v_X4_gladTogether rfl (by decide) rfl rfl (m_X4_gladTogether hG (t := 1) rfl A1.1 hE5) (by decide) rfl (Nat.le_of_ble_eq_true rfl) (fun r49 h49 hq49 => ?_)
                  obtain ⟨rfl, e49⟩ := hq49
                  rw [e49]
                  clear e49 h49
                  refine r_isub dX6_mean_52 ?_
                  refine r_i2l dX6_mean_53 ?_
                  refine r_iload_n dX6_mean_54 rfl ?_
                  refine r_aload_n dX6_mean_55 rfl ?_
                  refine r_getR (j := 1) dX6_mean_56 k_X6_12 rfl (by decide) rfl rfl ?_
                  refine r_getI dX6_mean_59 k_X6_82 rfl (by decide) rfl ?_
                  rw [A1.1.1.1]
                  refine r_imul dX6_mean_62 ?_
                  rw [pk_mul]
                  refine r_i2l dX6_mean_63 ?_
                  rw [nI_l (by omega)]
                  refine r_iload_n dX6_mean_64 rfl ?_
                  refine r_callS dX6_mean_65 l_X6_251 o_X6_fraction s_X6_fraction rfl (m_X6_fraction hG (show k * T.1 7 0 < 1000000 by omega) hmu hp1 hb9) (by decide) rfl (Nat.le_of_ble_eq_true rfl) (fun r65 h65 hq65 => ?_)
                  obtain ⟨rfl, e65⟩ := hq65
                  rw [e65]
                  clear e65 h65
                  refine r_lreturn dX6_mean_68 rfl ?_
                  exact ⟨by rw [es], A1, A2⟩
                · exact absurd ((nI_eq' (b := 0) (by omega) (by omega)).mp c_26) h0
