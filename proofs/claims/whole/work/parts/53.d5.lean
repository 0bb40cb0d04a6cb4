/-! the reader's recursion: what it has read, told by the machine -/
def RPost (X : Tx) (q k a : Nat) (acc : List Int) (pre : List Nat → Prop) (fin : Nat → Prop) (h : Hp) (r : Option Value) (h' : Hp) : Prop := ∃ (good : Bool) (b : Nat), r = some (.int (b01 good)) ∧ DAt h' X b ∧ a ≤ b ∧ Fr (dsF q) h h' ∧ (∃ n, n ≤ 100 ∧ h'.1 q 8 = nI n) ∧
  (good = false → ∀ K ac, opn K = k → pre K → evE X (a, true, K, ac) = (none, b)) ∧
  (good = true → ∃ cs, DBl h' q (acc ++ cs) ∧ cs.length + a ≤ b ∧ fin (nx X b) ∧ ∀ K ac, opn K = k → pre K → evE X (a, true, K, ac) = evE X (b, false, K, ac ++ cs))
/-- of one that a ! may stand ahead of: what waits above it is put, too -/
def QPost (X : Tx) (q k a : Nat) (acc : List Int) (h : Hp) (r : Option Value) (h' : Hp) : Prop := ∃ (good : Bool) (b : Nat), r = some (.int (b01 good)) ∧ DAt h' X b ∧ a ≤ b ∧ Fr (dsF q) h h' ∧ (∃ n, n ≤ 100 ∧ h'.1 q 8 = nI n) ∧
  (good = false → ∀ K ac, opn K = k → evE X (a, true, K, ac) = (none, b)) ∧
  (good = true → ∃ cs, DBl h' q (acc ++ cs) ∧ cs.length + a ≤ b ∧ ∀ K ac, opn K = k → evE X (a, true, K, ac) = evE X (b, false, (whS K (ac ++ cs)).1, (whS K (ac ++ cs)).2))
def OneC (G : WT) (l : Launch) (q d k : Nat) : Prop := ∀ (h : Hp) (X : Tx) (a : Nat) (acc : List Int), h.2.2 46 4 = q → DAt h X a → DBl h q acc → acc.length < a → Cl G l d yX2_readOne cX2_readOne 4 (some .boolean) [.ref (gA G 46), .int (nI k)] h (fun r h' => QPost X q k a acc h r h')
def OneU (G : WT) (l : Launch) (q d k : Nat) : Prop := ∀ (h : Hp) (X : Tx) (a : Nat) (acc : List Int), h.2.2 46 4 = q → DAt h X a → DBl h q acc → acc.length < a → Cl G l d yX2_readOne cX2_readOne 4 (some .boolean) [.ref (gA G 46), .int (nI k)] h (fun r h' => RPost X q k a acc (fun K => ¬ hdS K = 33) (fun _ => True) h r h')
def BothC (G : WT) (l : Launch) (q d k : Nat) : Prop := ∀ (h : Hp) (X : Tx) (a : Nat) (acc : List Int), h.2.2 46 4 = q → DAt h X a → DBl h q acc → acc.length < a → Cl G l d yX2_readBoth cX2_readBoth 4 (some .boolean) [.ref (gA G 46), .int (nI k)] h (fun r h' => RPost X q k a acc (fun K => hdS K = 40 ∨ hdS K = 124) (fun c => ¬ c = 38) h r h')
def EithC (G : WT) (l : Launch) (q d k : Nat) : Prop := ∀ (h : Hp) (X : Tx) (a : Nat) (acc : List Int), h.2.2 46 4 = q → DAt h X a → DBl h q acc → acc.length < a → Cl G l d yX2_readEither cX2_readEither 4 (some .boolean) [.ref (gA G 46), .int (nI k)] h (fun r h' => RPost X q k a acc (fun K => hdS K = 40) (fun c => ¬ c = 38 ∧ ¬ c = 124) h r h')
theorem whS_pre {K : List Nat} {ac : List Int} (h : ¬ hdS K = 33) : whS K ac = (K, ac) := by
  cases K with
  | nil => rfl
  | cons c K => exact whS_ne h
theorem OneC.u {G : WT} {l : Launch} {q d k : Nat} (H : OneC G l q d k) : OneU G l q d k := by
  intro h X a acc h1 h2 h3 h4
  refine Cl.mono (H h X a acc h1 h2 h3 h4) (fun r h' y => ?_)
  obtain ⟨good, b, y1, y2, y3, y4, y5, y6, y7⟩ := y
  refine ⟨good, b, y1, y2, y3, y4, y5, fun e K ac e1 _ => y6 e K ac e1, fun e => ?_⟩
  obtain ⟨cs, z1, z2, z3⟩ := y7 e
  refine ⟨cs, z1, z2, trivial, fun K ac e1 e2 => ?_⟩
  rw [z3 K ac e1, whS_pre e2]
theorem stS_pre {s : Nat} {K : List Nat} {ac : List Int} (h : ¬ (hdS K = 38 ∨ (hdS K = 124 ∧ s ≠ 38))) : stS s K ac = (K, ac) := by
  cases K with
  | nil => rfl
  | cons c K => exact stS_keep h
theorem ev_and {X : Tx} {b : Nat} {K : List Nat} {ac : List Int} : evE X (b, false, 38 :: K, ac) = evE X (b, false, K, ac ++ [-38]) := by
  apply evE_same
  unfold stp
  dsimp only
  rw [stS_pop (s := nx X b) (c := 38) (Or.inl rfl), stS_pop (s := 124) (c := 38) (Or.inl rfl)]
  rfl
theorem ev_or {X : Tx} {b : Nat} {K : List Nat} {ac : List Int} (h : ¬ nx X b = 38) : evE X (b, false, 124 :: K, ac) = evE X (b, false, K, ac ++ [-124]) := by
  apply evE_same
  unfold stp
  dsimp only
  rw [stS_pop (s := nx X b) (c := 124) (Or.inr ⟨rfl, h⟩), stS_pop (s := 124) (c := 124) (Or.inr ⟨rfl, by decide⟩)]
  rfl
theorem DAt.ds {q a : Nat} {X : Tx} {h h' : Hp} (hq : ksh q = 1) (H : DAt h X a) (hF : Fr (dbF q) h h') : DAt h' X a := H.db hq hF
theorem add_ok {h : Hp} {q n : Nat} {s : Int32} : (if n < 100 then setI (setI h (q + 4) n s) q 8 (nI (n + 1)) else h).2 = h.2 := by
  split <;> rfl
/-! readBoth -/
theorem both_57 {G : WT} {l : Launch} (hG : GOK G) {d k : Nat} {x3 : Value} {good : Bool} {h : Hp} {Q : Option Value → Hp → Prop} (c : Q (some (.int (b01 good))) h) : Wp G l d RX2 cX2_readBoth 4 (some .boolean) 57 [.ref (gA G 46), .int (nI k), .int (b01 good), x3] [] h Q := by
  refine r_iload_n dX2_readBoth_57 rfl ?_
  refine r_ireturn dX2_readBoth_58 ⟨_, rfl, (b01_nar _)⟩ ?_
  exact c
theorem both_loop {G : WT} {l : Launch} (hG : GOK G) {q d k a0 : Nat} {acc : List Int} {h0 : Hp} {X : Tx} (hq : ksh q = 1) (hd : 6 ≤ d) (hC : OneU G l q d k) (ha0 : acc.length < a0) : ∀ (n a j : Nat) (cs : List Int) (h : Hp), X.1 + 1 ≤ n + a → h.2.2 46 4 = q → DAt h X a → DBl h q (acc ++ cs) → cs.length + a0 ≤ a → j + a0 ≤ a → Fr (dsF q) h0 h → (fun _ => True) (nx X a) → (∀ K ac, opn K = k → (fun K => hdS K = 40 ∨ hdS K = 124) K → evE X (a0, true, K, ac) = evE X (a, false, K, ac ++ cs)) → Wp G l (d + 1) RX2 cX2_readBoth 4 (some .boolean) 8 [.ref (gA G 46), .int (nI k), .int (b01 true), .int (nI j)] [] h (fun r h' => RPost X q k a0 acc (fun K => hdS K = 40 ∨ hdS K = 124) (fun c => ¬ c = 38) h0 r h') := by
  intro n
  induction n with
  | zero =>
    intro a j cs h hn hh H
    have := H.2.2.2
    omega
  | succ n ih =>
    intro a j cs h hn hh H HB hcs hj hF hfin hev
    have hX := H.2.1.1
    have ha := H.2.2.2
    have hal : (acc ++ cs).length = acc.length + cs.length := List.length_append
    by_cases hs : nx X a = 38
    · have a1 := nx_in2 (X := X) (a := a) (by omega)
      have H1 := H.mv (b := a + 1) a1
      have F1 : Fr dnF h (setI h 46 2 (nI (a + 1))) := Fr.set rfl
      have B1 := HB.dn hq F1
      have k1 := hC (setI h 46 2 (nI (a + 1))) X (a + 1) (acc ++ cs) hh H1 B1 (by omega)
      refine r_iload_n dX2_readBoth_8 rfl ?_
      refine r_bipush (v := 100) dX2_readBoth_9 (by decide) ?_
      refine r_icmp_ge (tgt := 57) dX2_readBoth_11 (by decide) (fun c_11 => ?_) (fun c_11 => ?_)
      · exact absurd c_11 (nI_ge (a := j) (b := 100) (by omega) (by omega))
      · refine r_iload_n dX2_readBoth_14 rfl ?_
        refine r_if_eq (tgt := 57) dX2_readBoth_15 (by decide) (fun c_15 => ?_) (fun c_15 => ?_)
        · exact absurd c_15 (by decide)
        · refine r_aload_n dX2_readBoth_18 rfl ?_
          refine r_bipush (v := 38) dX2_readBoth_19 (by decide) ?_
          rw [show (38 : Int32) = nI 38 from rfl]
          refine r_callV dX2_readBoth_21 l_X2_39 o_X2_sees v_X2_sees rfl (by decide) rfl rfl (m_X2_sees hG H (c := 38) (by omega)) (by omega) rfl (Nat.le_of_ble_eq_true rfl) (fun r21 h21 hq21 => ?_)
          obtain ⟨rfl, rfl⟩ := hq21
          rw [decide_eq_true hs]
          refine r_if_eq (tgt := 57) dX2_readBoth_24 (by decide) (fun c_24 => ?_) (fun c_24 => ?_)
          · exact absurd c_24 (by decide)
          · refine r_aload_n dX2_readBoth_27 rfl ?_
            refine r_dup dX2_readBoth_28 rfl ?_
            refine r_getI dX2_readBoth_29 k_X2_19 rfl (by decide) rfl ?_
            refine r_iconst (v := 1) dX2_readBoth_32 (by decide) ?_
            refine r_iadd dX2_readBoth_33 ?_
            rw [H.2.2.1, nI_1]
            refine r_putI dX2_readBoth_34 k_X2_19 rfl (by decide) rfl rfl rfl rfl ?_
            refine r_aload_n dX2_readBoth_37 rfl ?_
            refine r_iload_n dX2_readBoth_38 rfl ?_
            refine r_callV dX2_readBoth_39 l_X2_100 o_X2_readOne v_X2_readOne rfl (by decide) rfl rfl (k1) (by omega) rfl (Nat.le_of_ble_eq_true rfl) (fun r39 h39 hq39 => ?_)
            obtain ⟨good, b, rfl, H2, hab, F2, ⟨m, hm, n2⟩, f2, g2⟩ := hq39
            have hh2 : h39.2.2 46 4 = q := by rw [F2.2]; exact hh
            refine r_istore_n dX2_readBoth_42 (by decide) rfl rfl ?_
            dsimp only [List.set]
            refine r_aload_n dX2_readBoth_43 rfl ?_
            refine r_getR (j := q) dX2_readBoth_44 k_X2_28 rfl (by decide) rfl hh2 ?_
            refine r_iconst (v := 2) dX2_readBoth_47 (by decide) ?_
            refine r_callV dX2_readBoth_48 l_X2_96 o_X1_addSign v_X1_addSign (by assumption) (by decide) rfl rfl (m_X1_addSign hG hq hm n2) (by omega) rfl (Nat.le_of_ble_eq_true rfl) (fun r48 h48 hq48 => ?_)
            obtain ⟨rfl, rfl⟩ := hq48
            have F3 : Fr (dbF q) h39 (if m < 100 then setI (setI h39 (q + 4) m 2) q 8 (nI (m + 1)) else h39) := add_F
            have H3 := H2.db hq F3
            have F4 := ((hF.tr (dn_ds F1)).tr F2).tr (db_ds F3)
            have N3 := add_n (s := 2) hm n2
            refine r_iinc dX2_readBoth_51 rfl (by first | exact nI_inc _ | rfl) (by decide) rfl rfl ?_
            dsimp only [List.set]
            refine r_goto (tgt := 8) dX2_readBoth_54 (by decide) ?_
            cases good with
            | false =>
              have fl : Wp G l (d + 1) RX2 cX2_readBoth 4 (some .boolean) 57 [.ref (gA G 46), .int (nI k), .int (b01 false), .int (nI (j + 1))] [] (if m < 100 then setI (setI h39 (q + 4) m 2) q 8 (nI (m + 1)) else h39) (fun r h' => RPost X q k a0 acc (fun K => hdS K = 40 ∨ hdS K = 124) (fun c => ¬ c = 38) h0 r h') := by
                refine both_57 hG ⟨false, b, rfl, H3, by omega, F4, N3, fun _ K ac e1 e2 => ?_, fun e => (by cases e)⟩
                rw [hev K ac e1 e2, stp_join (by omega), hs, stS_pre (show ¬ (hdS K = 38 ∨ (hdS K = 124 ∧ (38 : Nat) ≠ 38)) by rcases e2 with e2 | e2 <;> omega)]
                exact f2 rfl (38 :: K) (ac ++ cs) (by rw [opn_join (by omega)]; exact e1) (show ¬ (38 : Nat) = 33 by decide)
              refine r_iload_n dX2_readBoth_8 rfl ?_
              refine r_bipush (v := 100) dX2_readBoth_9 (by decide) ?_
              refine r_icmp_ge (tgt := 57) dX2_readBoth_11 (by decide) (fun c_11 => fl) (fun c_11 => ?_)
              refine r_iload_n dX2_readBoth_14 rfl ?_
              exact r_if_eq (tgt := 57) dX2_readBoth_15 (by decide) (fun c_15 => fl) (fun c_15 => absurd rfl c_15)
            | true =>
              obtain ⟨c2, z1, z2, z3, z4⟩ := g2 rfl
              have hb9 := H2.2.2.2
              have el : (acc ++ cs ++ c2).length = m := by
                have := z1.1
                rw [n2] at this
                exact ((nI_eq' (by omega) (by rw [List.length_append]; omega)).mp this).symm
              have z5 := z1.add (t := -38) (by rw [List.length_append]; omega) (Or.inr (Or.inl rfl))
              rw [el] at z5
              refine ih b (j + 1) (cs ++ c2 ++ [-38]) _ (by omega) (by rw [add_ok]; exact hh2) H3 (by rw [← List.append_assoc, ← List.append_assoc]; exact z5) (by rw [List.length_append, List.length_append]; show cs.length + c2.length + 1 + a0 ≤ b; omega) (by omega) F4 trivial (fun K ac e1 e2 => ?_)
              rw [hev K ac e1 e2, stp_join (by omega), hs, stS_pre (show ¬ (hdS K = 38 ∨ (hdS K = 124 ∧ (38 : Nat) ≠ 38)) by rcases e2 with e2 | e2 <;> omega)]
              show evE X (a + 1, true, 38 :: K, ac ++ cs) = _
              rw [z4 (38 :: K) (ac ++ cs) (by rw [opn_join (by omega)]; exact e1) (show ¬ (38 : Nat) = 33 by decide), ev_and, List.append_assoc, List.append_assoc, List.append_assoc]
    · refine r_iload_n dX2_readBoth_8 rfl ?_
      refine r_bipush (v := 100) dX2_readBoth_9 (by decide) ?_
      refine r_icmp_ge (tgt := 57) dX2_readBoth_11 (by decide) (fun c_11 => ?_) (fun c_11 => ?_)
      · exact absurd c_11 (nI_ge (a := j) (b := 100) (by omega) (by omega))
      · refine r_iload_n dX2_readBoth_14 rfl ?_
        refine r_if_eq (tgt := 57) dX2_readBoth_15 (by decide) (fun c_15 => ?_) (fun c_15 => ?_)
        · exact absurd c_15 (by decide)
        · refine r_aload_n dX2_readBoth_18 rfl ?_
          refine r_bipush (v := 38) dX2_readBoth_19 (by decide) ?_
          rw [show (38 : Int32) = nI 38 from rfl]
          refine r_callV dX2_readBoth_21 l_X2_39 o_X2_sees v_X2_sees rfl (by decide) rfl rfl (m_X2_sees hG H (c := 38) (by omega)) (by omega) rfl (Nat.le_of_ble_eq_true rfl) (fun r21 h21 hq21 => ?_)
          obtain ⟨rfl, rfl⟩ := hq21
          rw [decide_eq_false hs]
          refine r_if_eq (tgt := 57) dX2_readBoth_24 (by decide) (fun c_24 => ?_) (fun c_24 => ?_)
          · exact both_57 (good := true) hG ⟨true, a, rfl, H, by omega, hF, ⟨_, (by omega), HB.1⟩, fun e => (by cases e), fun _ => ⟨cs, HB, hcs, hs, hev⟩⟩
          · exact absurd rfl c_24
theorem both_c {G : WT} {l : Launch} (hG : GOK G) {q d k : Nat} (hq : ksh q = 1) (hd : 6 ≤ d) (hC : OneU G l q d k) : BothC G l q (d + 1) k := by
  intro h X a acc hh H HB hl
  refine Cl.of hG (by decide) (Nat.le_of_ble_eq_true rfl) ?_
  show Wp G l (d + 1) RX2 cX2_readBoth 4 (some .boolean) 0 [.ref (gA G 46), .int (nI k), mk0, mk0] [] h _
  refine r_aload_n dX2_readBoth_0 rfl ?_
  refine r_iload_n dX2_readBoth_1 rfl ?_
  refine r_callV dX2_readBoth_2 l_X2_100 o_X2_readOne v_X2_readOne rfl (by decide) rfl rfl (hC h X a acc hh H HB hl) (by omega) rfl (Nat.le_of_ble_eq_true rfl) (fun r2 h2 hq2 => ?_)
  obtain ⟨good, b, rfl, H2, hab, F2, N2, f2, g2⟩ := hq2
  refine r_istore_n dX2_readBoth_5 (by decide) rfl rfl ?_
  dsimp only [List.set]
  refine r_iconst (v := 0) dX2_readBoth_6 (by decide) ?_
  refine r_istore_n dX2_readBoth_7 (by decide) rfl rfl ?_
  dsimp only [List.set]
  cases good with
  | false =>
    have fl : Wp G l (d + 1) RX2 cX2_readBoth 4 (some .boolean) 57 [.ref (gA G 46), .int (nI k), .int (b01 false), .int (nI 0)] [] h2 (fun r h' => RPost X q k a acc (fun K => hdS K = 40 ∨ hdS K = 124) (fun c => ¬ c = 38) h r h') := both_57 hG ⟨false, b, rfl, H2, hab, F2, N2, fun _ K ac e1 e2 => f2 rfl K ac e1 (show ¬ hdS K = 33 by rcases e2 with e2 | e2 <;> omega), fun e => (by cases e)⟩
    refine r_iload_n dX2_readBoth_8 rfl ?_
    refine r_bipush (v := 100) dX2_readBoth_9 (by decide) ?_
    refine r_icmp_ge (tgt := 57) dX2_readBoth_11 (by decide) (fun c_11 => fl) (fun c_11 => ?_)
    refine r_iload_n dX2_readBoth_14 rfl ?_
    exact r_if_eq (tgt := 57) dX2_readBoth_15 (by decide) (fun c_15 => fl) (fun c_15 => absurd rfl c_15)
  | true =>
    obtain ⟨c2, z1, z2, z3, z4⟩ := g2 rfl
    exact both_loop hG hq hd hC hl (X.1 + 1) b 0 c2 h2 (by omega) (by rw [F2.2]; exact hh) H2 z1 z2 (by omega) F2 z3 (fun K ac e1 e2 => z4 K ac e1 (show ¬ hdS K = 33 by rcases e2 with e2 | e2 <;> omega))
/-! readEither -/
theorem eith_57 {G : WT} {l : Launch} (hG : GOK G) {d k : Nat} {x3 : Value} {good : Bool} {h : Hp} {Q : Option Value → Hp → Prop} (c : Q (some (.int (b01 good))) h) : Wp G l d RX2 cX2_readEither 4 (some .boolean) 57 [.ref (gA G 46), .int (nI k), .int (b01 good), x3] [] h Q := by
  refine r_iload_n dX2_readEither_57 rfl ?_
  refine r_ireturn dX2_readEither_58 ⟨_, rfl, (b01_nar _)⟩ ?_
  exact c
theorem eith_loop {G : WT} {l : Launch} (hG : GOK G) {q d k a0 : Nat} {acc : List Int} {h0 : Hp} {X : Tx} (hq : ksh q = 1) (hd : 6 ≤ d) (hC : BothC G l q d k) (ha0 : acc.length < a0) : ∀ (n a j : Nat) (cs : List Int) (h : Hp), X.1 + 1 ≤ n + a → h.2.2 46 4 = q → DAt h X a → DBl h q (acc ++ cs) → cs.length + a0 ≤ a → j + a0 ≤ a → Fr (dsF q) h0 h → (fun c => ¬ c = 38) (nx X a) → (∀ K ac, opn K = k → (fun K => hdS K = 40) K → evE X (a0, true, K, ac) = evE X (a, false, K, ac ++ cs)) → Wp G l (d + 1) RX2 cX2_readEither 4 (some .boolean) 8 [.ref (gA G 46), .int (nI k), .int (b01 true), .int (nI j)] [] h (fun r h' => RPost X q k a0 acc (fun K => hdS K = 40) (fun c => ¬ c = 38 ∧ ¬ c = 124) h0 r h') := by
  intro n
  induction n with
  | zero =>
    intro a j cs h hn hh H
    have := H.2.2.2
    omega
  | succ n ih =>
    intro a j cs h hn hh H HB hcs hj hF hfin hev
    have hX := H.2.1.1
    have ha := H.2.2.2
    have hal : (acc ++ cs).length = acc.length + cs.length := List.length_append
    by_cases hs : nx X a = 124
    · have a1 := nx_in2 (X := X) (a := a) (by omega)
      have H1 := H.mv (b := a + 1) a1
      have F1 : Fr dnF h (setI h 46 2 (nI (a + 1))) := Fr.set rfl
      have B1 := HB.dn hq F1
      have k1 := hC (setI h 46 2 (nI (a + 1))) X (a + 1) (acc ++ cs) hh H1 B1 (by omega)
      refine r_iload_n dX2_readEither_8 rfl ?_
      refine r_bipush (v := 100) dX2_readEither_9 (by decide) ?_
      refine r_icmp_ge (tgt := 57) dX2_readEither_11 (by decide) (fun c_11 => ?_) (fun c_11 => ?_)
      · exact absurd c_11 (nI_ge (a := j) (b := 100) (by omega) (by omega))
      · refine r_iload_n dX2_readEither_14 rfl ?_
        refine r_if_eq (tgt := 57) dX2_readEither_15 (by decide) (fun c_15 => ?_) (fun c_15 => ?_)
        · exact absurd c_15 (by decide)
        · refine r_aload_n dX2_readEither_18 rfl ?_
          refine r_bipush (v := 124) dX2_readEither_19 (by decide) ?_
          rw [show (124 : Int32) = nI 124 from rfl]
          refine r_callV dX2_readEither_21 l_X2_39 o_X2_sees v_X2_sees rfl (by decide) rfl rfl (m_X2_sees hG H (c := 124) (by omega)) (by omega) rfl (Nat.le_of_ble_eq_true rfl) (fun r21 h21 hq21 => ?_)
          obtain ⟨rfl, rfl⟩ := hq21
          rw [decide_eq_true hs]
          refine r_if_eq (tgt := 57) dX2_readEither_24 (by decide) (fun c_24 => ?_) (fun c_24 => ?_)
          · exact absurd c_24 (by decide)
          · refine r_aload_n dX2_readEither_27 rfl ?_
            refine r_dup dX2_readEither_28 rfl ?_
            refine r_getI dX2_readEither_29 k_X2_19 rfl (by decide) rfl ?_
            refine r_iconst (v := 1) dX2_readEither_32 (by decide) ?_
            refine r_iadd dX2_readEither_33 ?_
            rw [H.2.2.1, nI_1]
            refine r_putI dX2_readEither_34 k_X2_19 rfl (by decide) rfl rfl rfl rfl ?_
            refine r_aload_n dX2_readEither_37 rfl ?_
            refine r_iload_n dX2_readEither_38 rfl ?_
            refine r_callV dX2_readEither_39 l_X2_93 o_X2_readBoth v_X2_readBoth rfl (by decide) rfl rfl (k1) (by omega) rfl (Nat.le_of_ble_eq_true rfl) (fun r39 h39 hq39 => ?_)
            obtain ⟨good, b, rfl, H2, hab, F2, ⟨m, hm, n2⟩, f2, g2⟩ := hq39
            have hh2 : h39.2.2 46 4 = q := by rw [F2.2]; exact hh
            refine r_istore_n dX2_readEither_42 (by decide) rfl rfl ?_
            dsimp only [List.set]
            refine r_aload_n dX2_readEither_43 rfl ?_
            refine r_getR (j := q) dX2_readEither_44 k_X2_28 rfl (by decide) rfl hh2 ?_
            refine r_iconst (v := 3) dX2_readEither_47 (by decide) ?_
            refine r_callV dX2_readEither_48 l_X2_96 o_X1_addSign v_X1_addSign (by assumption) (by decide) rfl rfl (m_X1_addSign hG hq hm n2) (by omega) rfl (Nat.le_of_ble_eq_true rfl) (fun r48 h48 hq48 => ?_)
            obtain ⟨rfl, rfl⟩ := hq48
            have F3 : Fr (dbF q) h39 (if m < 100 then setI (setI h39 (q + 4) m 3) q 8 (nI (m + 1)) else h39) := add_F
            have H3 := H2.db hq F3
            have F4 := ((hF.tr (dn_ds F1)).tr F2).tr (db_ds F3)
            have N3 := add_n (s := 3) hm n2
            refine r_iinc dX2_readEither_51 rfl (by first | exact nI_inc _ | rfl) (by decide) rfl rfl ?_
            dsimp only [List.set]
            refine r_goto (tgt := 8) dX2_readEither_54 (by decide) ?_
            cases good with
            | false =>
              have fl : Wp G l (d + 1) RX2 cX2_readEither 4 (some .boolean) 57 [.ref (gA G 46), .int (nI k), .int (b01 false), .int (nI (j + 1))] [] (if m < 100 then setI (setI h39 (q + 4) m 3) q 8 (nI (m + 1)) else h39) (fun r h' => RPost X q k a0 acc (fun K => hdS K = 40) (fun c => ¬ c = 38 ∧ ¬ c = 124) h0 r h') := by
                refine eith_57 hG ⟨false, b, rfl, H3, by omega, F4, N3, fun _ K ac e1 e2 => ?_, fun e => (by cases e)⟩
                rw [hev K ac e1 e2, stp_join (by omega), hs, stS_pre (show ¬ (hdS K = 38 ∨ (hdS K = 124 ∧ (124 : Nat) ≠ 38)) by have e2 : hdS K = 40 := e2; omega)]
                exact f2 rfl (124 :: K) (ac ++ cs) (by rw [opn_join (by omega)]; exact e1) (show hdS (124 :: K) = 40 ∨ hdS (124 :: K) = 124 from Or.inr rfl)
              refine r_iload_n dX2_readEither_8 rfl ?_
              refine r_bipush (v := 100) dX2_readEither_9 (by decide) ?_
              refine r_icmp_ge (tgt := 57) dX2_readEither_11 (by decide) (fun c_11 => fl) (fun c_11 => ?_)
              refine r_iload_n dX2_readEither_14 rfl ?_
              exact r_if_eq (tgt := 57) dX2_readEither_15 (by decide) (fun c_15 => fl) (fun c_15 => absurd rfl c_15)
            | true =>
              obtain ⟨c2, z1, z2, z3, z4⟩ := g2 rfl
              have hb9 := H2.2.2.2
              have el : (acc ++ cs ++ c2).length = m := by
                have := z1.1
                rw [n2] at this
                exact ((nI_eq' (by omega) (by rw [List.length_append]; omega)).mp this).symm
              have z5 := z1.add (t := -124) (by rw [List.length_append]; omega) (Or.inr (Or.inr rfl))
              rw [el] at z5
              refine ih b (j + 1) (cs ++ c2 ++ [-124]) _ (by omega) (by rw [add_ok]; exact hh2) H3 (by rw [← List.append_assoc, ← List.append_assoc]; exact z5) (by rw [List.length_append, List.length_append]; show cs.length + c2.length + 1 + a0 ≤ b; omega) (by omega) F4 z3 (fun K ac e1 e2 => ?_)
              rw [hev K ac e1 e2, stp_join (by omega), hs, stS_pre (show ¬ (hdS K = 38 ∨ (hdS K = 124 ∧ (124 : Nat) ≠ 38)) by have e2 : hdS K = 40 := e2; omega)]
              show evE X (a + 1, true, 124 :: K, ac ++ cs) = _
              rw [z4 (124 :: K) (ac ++ cs) (by rw [opn_join (by omega)]; exact e1) (show hdS (124 :: K) = 40 ∨ hdS (124 :: K) = 124 from Or.inr rfl), ev_or z3, List.append_assoc, List.append_assoc, List.append_assoc]
    · refine r_iload_n dX2_readEither_8 rfl ?_
      refine r_bipush (v := 100) dX2_readEither_9 (by decide) ?_
      refine r_icmp_ge (tgt := 57) dX2_readEither_11 (by decide) (fun c_11 => ?_) (fun c_11 => ?_)
      · exact absurd c_11 (nI_ge (a := j) (b := 100) (by omega) (by omega))
      · refine r_iload_n dX2_readEither_14 rfl ?_
        refine r_if_eq (tgt := 57) dX2_readEither_15 (by decide) (fun c_15 => ?_) (fun c_15 => ?_)
        · exact absurd c_15 (by decide)
        · refine r_aload_n dX2_readEither_18 rfl ?_
          refine r_bipush (v := 124) dX2_readEither_19 (by decide) ?_
          rw [show (124 : Int32) = nI 124 from rfl]
          refine r_callV dX2_readEither_21 l_X2_39 o_X2_sees v_X2_sees rfl (by decide) rfl rfl (m_X2_sees hG H (c := 124) (by omega)) (by omega) rfl (Nat.le_of_ble_eq_true rfl) (fun r21 h21 hq21 => ?_)
          obtain ⟨rfl, rfl⟩ := hq21
          rw [decide_eq_false hs]
          refine r_if_eq (tgt := 57) dX2_readEither_24 (by decide) (fun c_24 => ?_) (fun c_24 => ?_)
          · exact eith_57 (good := true) hG ⟨true, a, rfl, H, by omega, hF, ⟨_, (by omega), HB.1⟩, fun e => (by cases e), fun _ => ⟨cs, HB, hcs, ⟨hfin, hs⟩, hev⟩⟩
          · exact absurd rfl c_24
theorem eith_c {G : WT} {l : Launch} (hG : GOK G) {q d k : Nat} (hq : ksh q = 1) (hd : 6 ≤ d) (hC : BothC G l q d k) : EithC G l q (d + 1) k := by
  intro h X a acc hh H HB hl
  refine Cl.of hG (by decide) (Nat.le_of_ble_eq_true rfl) ?_
  show Wp G l (d + 1) RX2 cX2_readEither 4 (some .boolean) 0 [.ref (gA G 46), .int (nI k), mk0, mk0] [] h _
  refine r_aload_n dX2_readEither_0 rfl ?_
  refine r_iload_n dX2_readEither_1 rfl ?_
  refine r_callV dX2_readEither_2 l_X2_93 o_X2_readBoth v_X2_readBoth rfl (by decide) rfl rfl (hC h X a acc hh H HB hl) (by omega) rfl (Nat.le_of_ble_eq_true rfl) (fun r2 h2 hq2 => ?_)
  obtain ⟨good, b, rfl, H2, hab, F2, N2, f2, g2⟩ := hq2
  refine r_istore_n dX2_readEither_5 (by decide) rfl rfl ?_
  dsimp only [List.set]
  refine r_iconst (v := 0) dX2_readEither_6 (by decide) ?_
  refine r_istore_n dX2_readEither_7 (by decide) rfl rfl ?_
  dsimp only [List.set]
  cases good with
  | false =>
    have fl : Wp G l (d + 1) RX2 cX2_readEither 4 (some .boolean) 57 [.ref (gA G 46), .int (nI k), .int (b01 false), .int (nI 0)] [] h2 (fun r h' => RPost X q k a acc (fun K => hdS K = 40) (fun c => ¬ c = 38 ∧ ¬ c = 124) h r h') := eith_57 hG ⟨false, b, rfl, H2, hab, F2, N2, fun _ K ac e1 e2 => f2 rfl K ac e1 (Or.inl e2), fun e => (by cases e)⟩
    refine r_iload_n dX2_readEither_8 rfl ?_
    refine r_bipush (v := 100) dX2_readEither_9 (by decide) ?_
    refine r_icmp_ge (tgt := 57) dX2_readEither_11 (by decide) (fun c_11 => fl) (fun c_11 => ?_)
    refine r_iload_n dX2_readEither_14 rfl ?_
    exact r_if_eq (tgt := 57) dX2_readEither_15 (by decide) (fun c_15 => fl) (fun c_15 => absurd rfl c_15)
  | true =>
    obtain ⟨c2, z1, z2, z3, z4⟩ := g2 rfl
    exact eith_loop hG hq hd hC hl (X.1 + 1) b 0 c2 h2 (by omega) (by rw [F2.2]; exact hh) H2 z1 z2 (by omega) F2 z3 (fun K ac e1 e2 => z4 K ac e1 (Or.inl e2))
