/-! the reference: what a clause holds, sums -/
def inP (a b c : Int32) : Bool := decide (b ≤ a) && decide (a ≤ c)
set_option maxRecDepth 100000 in
theorem m_X7_in {G : WT} {l : Launch} (hG : GOK G) {h : Hp} {a b c : Int32} : Cl G l 1 yX7_in cX7_in 4 (some .boolean) [.ref (gA G 134), .int a, .int b, .int c] h (fun r h' => r = some (.int (b01 (inP a b c))) ∧ h' = h) := by
  refine Cl.of hG (by decide) (Nat.le_of_ble_eq_true rfl) ?_
  show Wp G l 1 RX7 cX7_in 4 (some .boolean) 0 [.ref (gA G 134), .int a, .int b, .int c] [] h _
  refine r_iload_n dX7_in_0 rfl ?_
  refine r_iload_n dX7_in_1 rfl ?_
  refine r_icmp_lt (tgt := 14) dX7_in_2 (by decide) (fun c_2 => ?_) (fun c_2 => ?_)
  · refine r_iconst (v := 0) dX7_in_14 (by decide) ?_
    refine r_ireturn dX7_in_15 ⟨_, rfl, rfl⟩ ?_
    exact ⟨by rw [show inP a b c = false from by simp [inP]; intro q; exact absurd q (Int32.not_le.mpr c_2)]; rfl, rfl⟩
  · refine r_iload_n dX7_in_5 rfl ?_
    refine r_iload_n dX7_in_6 rfl ?_
    refine r_icmp_gt (tgt := 14) dX7_in_7 (by decide) (fun c_7 => ?_) (fun c_7 => ?_)
    · refine r_iconst (v := 0) dX7_in_14 (by decide) ?_
      refine r_ireturn dX7_in_15 ⟨_, rfl, rfl⟩ ?_
      exact ⟨by rw [show inP a b c = false from by simp [inP]; intro _; exact c_7]; rfl, rfl⟩
    · refine r_iconst (v := 1) dX7_in_10 (by decide) ?_
      refine r_goto (tgt := 15) dX7_in_11 (by decide) ?_
      refine r_ireturn dX7_in_15 ⟨_, rfl, rfl⟩ ?_
      exact ⟨by rw [show inP a b c = true from by simp [inP]; exact ⟨Int32.not_lt.mp c_2, Int32.not_lt.mp c_7⟩]; rfl, rfl⟩
/-- of how many there are: in(i, 0, n - 1) -/
theorem in_lt {x : Int32} {n : Nat} (hn : n < 1000000) : inP x 0 (nI n - 1) = true ↔ ∃ j, j < n ∧ x = nI j := by
  have e : (nI n - 1).toInt = (n : Int) - 1 := by
    cases n with
    | zero => rfl
    | succ n => rw [nI_pred, nI_toInt (by omega)]; omega
  simp only [inP, Bool.and_eq_true, decide_eq_true_eq, Int32.le_iff_toInt_le, e, Int32.toInt_zero]
  constructor
  · rintro ⟨h1, h2⟩
    refine ⟨x.toInt.toNat, by omega, ?_⟩
    apply Int32.toInt_inj.mp
    rw [nI_toInt (by omega)]
    omega
  · rintro ⟨j, hj, rfl⟩
    rw [nI_toInt (by omega)]
    omega
theorem in_nn {x : Int32} {a b : Nat} (ha : a < 1000000) (hb : b < 1000000) : inP x (nI a) (nI b) = true ↔ ∃ j, a ≤ j ∧ j ≤ b ∧ x = nI j := by
  simp only [inP, Bool.and_eq_true, decide_eq_true_eq, Int32.le_iff_toInt_le, nI_toInt (show a < 2 ^ 31 by omega), nI_toInt (show b < 2 ^ 31 by omega)]
  constructor
  · rintro ⟨h1, h2⟩
    refine ⟨x.toInt.toNat, by omega, by omega, ?_⟩
    apply Int32.toInt_inj.mp
    rw [nI_toInt (by omega)]
    omega
  · rintro ⟨j, hj1, hj2, rfl⟩
    rw [nI_toInt (by omega)]
    omega
set_option maxRecDepth 100000 in
theorem m_X7_isEater {G : WT} {l : Launch} (hG : GOK G) {h : Hp} {x : Int32} : Cl G l 2 yX7_isEater cX7_isEater 2 (some .boolean) [.ref (gA G 134), .int x] h (fun r h' => r = some (.int (b01 (inP x 0 (h.1 134 0 - 1)))) ∧ h' = h) := by
  refine Cl.of hG (by decide) (Nat.le_of_ble_eq_true rfl) ?_
  show Wp G l 2 RX7 cX7_isEater 2 (some .boolean) 0 [.ref (gA G 134), .int x] [] h _
  refine r_aload_n dX7_isEater_0 rfl ?_
  refine r_iload_n dX7_isEater_1 rfl ?_
  refine r_iconst (v := 0) dX7_isEater_2 (by decide) ?_
  refine r_aload_n dX7_isEater_3 rfl ?_
  refine r_getI dX7_isEater_4 k_X7_7 rfl (by decide) rfl ?_
  refine r_iconst (v := 1) dX7_isEater_7 (by decide) ?_
  refine r_isub dX7_isEater_8 ?_
  refine r_callV dX7_isEater_9 l_X7_212 o_X7_in v_X7_in rfl (by decide) rfl rfl (m_X7_in hG) (by decide) rfl (Nat.le_of_ble_eq_true rfl) (fun r9 h9 hq9 => ?_)
  obtain ⟨rfl, e9⟩ := hq9
  rw [e9]
  clear e9 h9
  refine r_ireturn dX7_isEater_12 ⟨_, rfl, (b01_nar _)⟩ ?_
  exact ⟨rfl, rfl⟩
set_option maxRecDepth 100000 in
theorem m_X7_least {G : WT} {l : Launch} (hG : GOK G) {h : Hp} {a b : Int32} : Cl G l 1 yX7_least cX7_least 3 (some .int) [.ref (gA G 134), .int a, .int b] h (fun r h' => r = some (.int (if a < b then a else b)) ∧ h' = h) := by
  refine Cl.of hG (by decide) (Nat.le_of_ble_eq_true rfl) ?_
  show Wp G l 1 RX7 cX7_least 3 (some .int) 0 [.ref (gA G 134), .int a, .int b] [] h _
  refine r_iload_n dX7_least_0 rfl ?_
  refine r_iload_n dX7_least_1 rfl ?_
  refine r_icmp_ge (tgt := 9) dX7_least_2 (by decide) (fun c_2 => ?_) (fun c_2 => ?_)
  · refine r_iload_n dX7_least_9 rfl ?_
    refine r_ireturn dX7_least_10 ⟨_, rfl, rfl⟩ ?_
    exact ⟨by rw [if_neg (Int32.not_lt.mpr c_2)], rfl⟩
  · refine r_iload_n dX7_least_5 rfl ?_
    refine r_goto (tgt := 10) dX7_least_6 (by decide) ?_
    refine r_ireturn dX7_least_10 ⟨_, rfl, rfl⟩ ?_
    exact ⟨by rw [if_pos (Int32.not_le.mp c_2)], rfl⟩
/-- a clause in the reference's rows -/
def RCl (h : Hp) (i s n : Nat) (code : List Int) : Prop := h.1 143 i = nI s ∧ h.1 144 i = nI n ∧ (s ≤ 1 → ∃ fr, h.1 145 i = nI fr ∧ h.1 146 i = nI (fr + code.length) ∧ fr + code.length ≤ 600 ∧ (∀ (j : Nat) (t : Int), code[j]? = some t → h.1 147 (fr + j) = zI t) ∧ dpL 0 code = some 1)
/-- the house that holds, its clauses from b on -/
def RHs (h : Hp) (b : Nat) (V : Hv) : Prop := ((h.1 134 11 = -1 ∧ b = 0 ∧ V.1 = 0) ∨ ∃ f, f < 6 ∧ h.1 134 11 = nI f ∧ b = 10 * f ∧ h.1 142 f = nI V.1) ∧ HvOK V ∧ ∀ c, c < V.1 → RCl h (b + c) (V.2.1 c) (V.2.2.1 c) (V.2.2.2 c)
theorem RHs.le {h : Hp} {b : Nat} {V : Hv} (H : RHs h b V) : b + V.1 ≤ 60 := by
  obtain ⟨h1, h2, -⟩ := H
  have := h2.1
  rcases h1 with ⟨-, h3, h4⟩ | ⟨f, hf, -, h3, -⟩ <;> omega
set_option maxRecDepth 100000 in
theorem m_X7_begin {G : WT} {l : Launch} (hG : GOK G) {h : Hp} {b : Nat} {V : Hv} (H : RHs h b V) : Cl G l 1 yX7_begin cX7_begin 1 (some .int) [.ref (gA G 134)] h (fun r h' => r = some (.int (nI b)) ∧ h' = h) := by
  refine Cl.of hG (by decide) (Nat.le_of_ble_eq_true rfl) ?_
  show Wp G l 1 RX7 cX7_begin 1 (some .int) 0 [.ref (gA G 134)] [] h _
  rcases H.1 with ⟨h1, h2, h3⟩ | ⟨f, hf, h1, h2, h3⟩
  · refine r_aload_n dX7_begin_0 rfl ?_
    refine r_getI dX7_begin_1 k_X7_44 rfl (by decide) rfl ?_
    rw [h1]
    refine r_if_ge (tgt := 11) dX7_begin_4 (by decide) (fun c_4 => ?_) (fun c_4 => ?_)
    · exact absurd c_4 (by decide)
    · refine r_iconst (v := 0) dX7_begin_7 (by decide) ?_
      refine r_goto (tgt := 18) dX7_begin_8 (by decide) ?_
      refine r_ireturn dX7_begin_18 ⟨_, rfl, rfl⟩ ?_
      exact ⟨by rw [h2]; rfl, rfl⟩
  · refine r_aload_n dX7_begin_0 rfl ?_
    refine r_getI dX7_begin_1 k_X7_44 rfl (by decide) rfl ?_
    rw [h1]
    refine r_if_ge (tgt := 11) dX7_begin_4 (by decide) (fun c_4 => ?_) (fun c_4 => ?_)
    · refine r_bipush (v := 10) dX7_begin_11 (by decide) ?_
      refine r_aload_n dX7_begin_13 rfl ?_
      refine r_getI dX7_begin_14 k_X7_44 rfl (by decide) rfl ?_
      refine r_imul dX7_begin_17 ?_
      refine r_ireturn dX7_begin_18 ⟨_, rfl, rfl⟩ ?_
      exact ⟨by rw [h1, h2, show (10 : Int32) = nI 10 from rfl, pk_mul], rfl⟩
    · exact absurd (nI_pos' (by omega)) c_4
set_option maxRecDepth 100000 in
theorem m_X7_behind {G : WT} {l : Launch} (hG : GOK G) {h : Hp} {b : Nat} {V : Hv} (H : RHs h b V) : Cl G l 1 yX7_behind cX7_behind 1 (some .int) [.ref (gA G 134)] h (fun r h' => r = some (.int (nI (b + V.1))) ∧ h' = h) := by
  refine Cl.of hG (by decide) (Nat.le_of_ble_eq_true rfl) ?_
  show Wp G l 1 RX7 cX7_behind 1 (some .int) 0 [.ref (gA G 134)] [] h _
  rcases H.1 with ⟨h1, h2, h3⟩ | ⟨f, hf, h1, h2, h3⟩
  · refine r_aload_n dX7_behind_0 rfl ?_
    refine r_getI dX7_behind_1 k_X7_44 rfl (by decide) rfl ?_
    rw [h1]
    refine r_if_ge (tgt := 11) dX7_behind_4 (by decide) (fun c_4 => ?_) (fun c_4 => ?_)
    · exact absurd c_4 (by decide)
    · refine r_iconst (v := 0) dX7_behind_7 (by decide) ?_
      refine r_goto (tgt := 28) dX7_behind_8 (by decide) ?_
      refine r_ireturn dX7_behind_28 ⟨_, rfl, rfl⟩ ?_
      exact ⟨by rw [h2, h3]; rfl, rfl⟩
  · refine r_aload_n dX7_behind_0 rfl ?_
    refine r_getI dX7_behind_1 k_X7_44 rfl (by decide) rfl ?_
    rw [h1]
    refine r_if_ge (tgt := 11) dX7_behind_4 (by decide) (fun c_4 => ?_) (fun c_4 => ?_)
    · refine r_bipush (v := 10) dX7_behind_11 (by decide) ?_
      refine r_aload_n dX7_behind_13 rfl ?_
      refine r_getI dX7_behind_14 k_X7_44 rfl (by decide) rfl ?_
      refine r_imul dX7_behind_17 ?_
      refine r_aload_n dX7_behind_18 rfl ?_
      refine r_getR (j := 142) dX7_behind_19 k_X7_59 rfl (by decide) rfl rfl ?_
      refine r_aload_n dX7_behind_22 rfl ?_
      refine r_getI dX7_behind_23 k_X7_44 rfl (by decide) rfl ?_
      refine r_iald (f) dX7_behind_26 rfl h1 (show f < 6 from hf) ?_
      refine r_iadd dX7_behind_27 ?_
      refine r_ireturn dX7_behind_28 ⟨_, rfl, rfl⟩ ?_
      exact ⟨by rw [h1, h2, h3, show (10 : Int32) = nI 10 from rfl, pk_mul, nI_add], rfl⟩
    · exact absurd (nI_pos' (by omega)) c_4
/-! lastOf, hasOf -/
theorem last_loop {G : WT} {l : Launch} (hG : GOK G) {h : Hp} {b w d0 : Nat} {V : Hv} (hw : w ≤ 4) (H : RHs h b V) : ∀ m c : Nat, c + m = V.1 → Wp G l 2 RX7 cX7_lastOf 5 (some .int) 8 [.ref (gA G 134), .int (nI w), .int (nI d0), .int (nI (lastTo (isS V w) V.2.2.1 d0 c)), .int (nI (b + c))] [] h (fun r h' => r = some (.int (nI (lastS V w d0))) ∧ h' = h) := by
  have hle := H.le
  intro m
  induction m with
  | zero =>
    intro c hc
    refine r_iload dX7_lastOf_8 rfl ?_
    refine r_aload_n dX7_lastOf_10 rfl ?_
    refine r_callV dX7_lastOf_11 l_X7_277 o_X7_behind v_X7_behind rfl (by decide) rfl rfl (m_X7_behind hG H) (by decide) rfl (Nat.le_of_ble_eq_true rfl) (fun r11 h11 hq11 => ?_)
    obtain ⟨rfl, e11⟩ := hq11
    rw [e11]
    clear e11 h11
    refine r_icmp_ge (tgt := 46) dX7_lastOf_14 (by decide) (fun c_14 => ?_) (fun c_14 => ?_)
    · refine r_iload_n dX7_lastOf_46 rfl ?_
      refine r_ireturn dX7_lastOf_47 ⟨_, rfl, rfl⟩ ?_
      exact ⟨by rw [show c = V.1 by omega]; rfl, rfl⟩
    · exact absurd (nI_le (by omega) (by omega)) c_14
  | succ m ih =>
    intro c hc
    obtain ⟨q1, q2, -⟩ := H.2.2 c (by omega)
    have q3 := (H.2.1.2 c (by omega)).1
    have e : lastTo (isS V w) V.2.2.1 d0 (c + 1) = if isS V w c = true then V.2.2.1 c else lastTo (isS V w) V.2.2.1 d0 c := rfl
    have n1 := ih (c + 1) (by omega)
    rw [e] at n1
    refine r_iload dX7_lastOf_8 rfl ?_
    refine r_aload_n dX7_lastOf_10 rfl ?_
    refine r_callV dX7_lastOf_11 l_X7_277 o_X7_behind v_X7_behind rfl (by decide) rfl rfl (m_X7_behind hG H) (by decide) rfl (Nat.le_of_ble_eq_true rfl) (fun r11 h11 hq11 => ?_)
    obtain ⟨rfl, e11⟩ := hq11
    rw [e11]
    clear e11 h11
    refine r_icmp_ge (tgt := 46) dX7_lastOf_14 (by decide) (fun c_14 => ?_) (fun c_14 => ?_)
    · exact absurd c_14 (nI_ge (by omega) (by omega))
    · refine r_aload_n dX7_lastOf_17 rfl ?_
      refine r_getR (j := 143) dX7_lastOf_18 k_X7_62 rfl (by decide) rfl rfl ?_
      refine r_iload dX7_lastOf_21 rfl ?_
      refine r_iald (b + c) dX7_lastOf_23 rfl rfl (show b + c < 60 by omega) ?_
      rw [q1]
      refine r_iload_n dX7_lastOf_24 rfl ?_
      refine r_icmp_ne (tgt := 38) dX7_lastOf_25 (by decide) (fun c_25 => ?_) (fun c_25 => ?_)
      · refine r_iload_n dX7_lastOf_38 rfl ?_
        refine r_istore_n dX7_lastOf_39 (by decide) rfl rfl ?_
        dsimp only [List.set]
        refine r_iinc dX7_lastOf_40 rfl (by first | exact nI_inc _ | rfl) (by decide) rfl rfl ?_
        dsimp only [List.set]
        refine r_goto (tgt := 8) dX7_lastOf_43 (by decide) ?_
        by_cases hs : V.2.1 c = w
        · first
          | (rw [if_pos (by simp [isS, hs])] at n1; exact n1)
          | exact absurd (by rw [hs]) c_25
        · first
          | exact absurd ((nI_eq' (by omega) (by omega)).mp c_25) hs
          | (rw [if_neg (by simp [isS, hs])] at n1; exact n1)
      · refine r_aload_n dX7_lastOf_28 rfl ?_
        refine r_getR (j := 144) dX7_lastOf_29 k_X7_65 rfl (by decide) rfl rfl ?_
        refine r_iload dX7_lastOf_32 rfl ?_
        refine r_iald (b + c) dX7_lastOf_34 rfl rfl (show b + c < 60 by omega) ?_
        rw [q2]
        refine r_goto (tgt := 39) dX7_lastOf_35 (by decide) ?_
        refine r_istore_n dX7_lastOf_39 (by decide) rfl rfl ?_
        dsimp only [List.set]
        refine r_iinc dX7_lastOf_40 rfl (by first | exact nI_inc _ | rfl) (by decide) rfl rfl ?_
        dsimp only [List.set]
        refine r_goto (tgt := 8) dX7_lastOf_43 (by decide) ?_
        by_cases hs : V.2.1 c = w
        · first
          | (rw [if_pos (by simp [isS, hs])] at n1; exact n1)
          | exact absurd (by rw [hs]) c_25
        · first
          | exact absurd ((nI_eq' (by omega) (by omega)).mp c_25) hs
          | (rw [if_neg (by simp [isS, hs])] at n1; exact n1)
set_option maxRecDepth 100000 in
theorem m_X7_lastOf {G : WT} {l : Launch} (hG : GOK G) {h : Hp} {b w d0 : Nat} {V : Hv} (hw : w ≤ 4) (H : RHs h b V) : Cl G l 2 yX7_lastOf cX7_lastOf 5 (some .int) [.ref (gA G 134), .int (nI w), .int (nI d0)] h (fun r h' => r = some (.int (nI (lastS V w d0))) ∧ h' = h) := by
  refine Cl.of hG (by decide) (Nat.le_of_ble_eq_true rfl) ?_
  show Wp G l 2 RX7 cX7_lastOf 5 (some .int) 0 [.ref (gA G 134), .int (nI w), .int (nI d0), mk0, mk0] [] h _
  refine r_iload_n dX7_lastOf_0 rfl ?_
  refine r_istore_n dX7_lastOf_1 (by decide) rfl rfl ?_
  dsimp only [List.set]
  refine r_aload_n dX7_lastOf_2 rfl ?_
  refine r_callV dX7_lastOf_3 l_X7_274 o_X7_begin v_X7_begin rfl (by decide) rfl rfl (m_X7_begin hG H) (by decide) rfl (Nat.le_of_ble_eq_true rfl) (fun r3 h3 hq3 => ?_)
  obtain ⟨rfl, e3⟩ := hq3
  rw [e3]
  clear e3 h3
  refine r_istore dX7_lastOf_6 (by decide) rfl rfl ?_
  dsimp only [List.set]
  exact last_loop hG hw H V.1 0 (by omega)
theorem has_loop {G : WT} {l : Launch} (hG : GOK G) {h : Hp} {b w : Nat} {V : Hv} (hw : w ≤ 4) (H : RHs h b V) : ∀ m c : Nat, c + m = V.1 → anyTo (isS V w) c = false → Wp G l 2 RX7 cX7_hasOf 3 (some .boolean) 5 [.ref (gA G 134), .int (nI w), .int (nI (b + c))] [] h (fun r h' => r = some (.int (b01 (anyS V w))) ∧ h' = h) := by
  have hle := H.le
  intro m
  induction m with
  | zero =>
    intro c hc hn
    refine r_iload_n dX7_hasOf_5 rfl ?_
    refine r_aload_n dX7_hasOf_6 rfl ?_
    refine r_callV dX7_hasOf_7 l_X7_277 o_X7_behind v_X7_behind rfl (by decide) rfl rfl (m_X7_behind hG H) (by decide) rfl (Nat.le_of_ble_eq_true rfl) (fun r7 h7 hq7 => ?_)
    obtain ⟨rfl, e7⟩ := hq7
    rw [e7]
    clear e7 h7
    refine r_icmp_ge (tgt := 31) dX7_hasOf_10 (by decide) (fun c_10 => ?_) (fun c_10 => ?_)
    · refine r_iconst (v := 0) dX7_hasOf_31 (by decide) ?_
      refine r_ireturn dX7_hasOf_32 ⟨_, rfl, rfl⟩ ?_
      exact ⟨by rw [anyS, show V.1 = c by omega, hn]; rfl, rfl⟩
    · exact absurd (nI_le (by omega) (by omega)) c_10
  | succ m ih =>
    intro c hc hn
    obtain ⟨q1, q2, -⟩ := H.2.2 c (by omega)
    have q3 := (H.2.1.2 c (by omega)).1
    have mono : ∀ k n, anyTo (isS V w) n = true → anyTo (isS V w) (n + k) = true := by
      intro k
      induction k with
      | zero => intro n hn; exact hn
      | succ k ih2 => intro n hn; show (anyTo (isS V w) (n + k) || isS V w (n + k)) = true; rw [ih2 n hn]; rfl
    refine r_iload_n dX7_hasOf_5 rfl ?_
    refine r_aload_n dX7_hasOf_6 rfl ?_
    refine r_callV dX7_hasOf_7 l_X7_277 o_X7_behind v_X7_behind rfl (by decide) rfl rfl (m_X7_behind hG H) (by decide) rfl (Nat.le_of_ble_eq_true rfl) (fun r7 h7 hq7 => ?_)
    obtain ⟨rfl, e7⟩ := hq7
    rw [e7]
    clear e7 h7
    refine r_icmp_ge (tgt := 31) dX7_hasOf_10 (by decide) (fun c_10 => ?_) (fun c_10 => ?_)
    · exact absurd c_10 (nI_ge (by omega) (by omega))
    · refine r_aload_n dX7_hasOf_13 rfl ?_
      refine r_getR (j := 143) dX7_hasOf_14 k_X7_62 rfl (by decide) rfl rfl ?_
      refine r_iload_n dX7_hasOf_17 rfl ?_
      refine r_iald (b + c) dX7_hasOf_18 rfl rfl (show b + c < 60 by omega) ?_
      rw [q1]
      refine r_iload_n dX7_hasOf_19 rfl ?_
      refine r_icmp_ne (tgt := 25) dX7_hasOf_20 (by decide) (fun c_20 => ?_) (fun c_20 => ?_)
      · refine r_iinc dX7_hasOf_25 rfl (by first | exact nI_inc _ | rfl) (by decide) rfl rfl ?_
        dsimp only [List.set]
        refine r_goto (tgt := 5) dX7_hasOf_28 (by decide) ?_
        have hs : ¬ V.2.1 c = w := fun q => c_20 (by rw [q])
        exact ih (c + 1) (by omega) (by show (anyTo (isS V w) c || isS V w c) = false; rw [hn]; simp [isS, hs])
      · refine r_iconst (v := 1) dX7_hasOf_23 (by decide) ?_
        refine r_ireturn dX7_hasOf_24 ⟨_, rfl, rfl⟩ ?_
        have hs := (nI_eq' (by omega) (by omega)).mp c_20
        have ht := mono m (c + 1) (by show (anyTo (isS V w) c || isS V w c) = true; rw [show isS V w c = true from by simp [isS, hs]]; simp)
        exact ⟨by rw [anyS, show V.1 = c + 1 + m by omega, ht]; rfl, rfl⟩
set_option maxRecDepth 100000 in
theorem m_X7_hasOf {G : WT} {l : Launch} (hG : GOK G) {h : Hp} {b w : Nat} {V : Hv} (hw : w ≤ 4) (H : RHs h b V) : Cl G l 2 yX7_hasOf cX7_hasOf 3 (some .boolean) [.ref (gA G 134), .int (nI w)] h (fun r h' => r = some (.int (b01 (anyS V w))) ∧ h' = h) := by
  refine Cl.of hG (by decide) (Nat.le_of_ble_eq_true rfl) ?_
  show Wp G l 2 RX7 cX7_hasOf 3 (some .boolean) 0 [.ref (gA G 134), .int (nI w), mk0] [] h _
  refine r_aload_n dX7_hasOf_0 rfl ?_
  refine r_callV dX7_hasOf_1 l_X7_274 o_X7_begin v_X7_begin rfl (by decide) rfl rfl (m_X7_begin hG H) (by decide) rfl (Nat.le_of_ble_eq_true rfl) (fun r1 h1 hq1 => ?_)
  obtain ⟨rfl, e1⟩ := hq1
  rw [e1]
  clear e1 h1
  refine r_istore_n dX7_hasOf_4 (by decide) rfl rfl ?_
  dsimp only [List.set]
  exact has_loop hG hw H V.1 0 (by omega) rfl
