/-! words, heads, clauses: what both readers answer -/
def wordS (X : Tx) : Nat → List Nat → Bool × Nat
  | a, [] => if nx X a = 32 then (true, a + 1) else (false, a)
  | a, c :: L => if nx X a = c then wordS X (a + 1) L else (false, a)
def headS (X : Tx) (a : Nat) : Nat × List Nat := if nx X a = 119 then (0, [119, 111, 114, 116, 104]) else if nx X a = 98 then (1, [98, 97, 107, 101]) else if nx X a = 108 then (if nx X (a + 1) = 97 then (3, [108, 97, 119]) else (2, [108, 111, 97, 102])) else (4, [115, 99, 97, 108, 101])
abbrev Cz : Type := Nat × Nat × List Int
def exprS (X : Tx) (w n b : Nat) : Option Cz × Nat := if 1 < w then (some (w, n, []), b) else if nx X b = 32 then (match evE X (b + 1, true, [], []) with | (none, d) => (none, d) | (some cs, d) => (some (w, n, cs), d)) else (none, b)
def clauseS (X : Tx) (a : Nat) : Option Cz × Nat := if (wordS X a (headS X a).2).1 = true then (match numS X (wordS X a (headS X a).2).2 with | none => (none, (wordS X a (headS X a).2).2) | some (b, n) => exprS X (headS X a).1 n b) else (none, (wordS X a (headS X a).2).2)
def textS (X : Tx) : Nat → Nat → List Cz → Option (List Cz) × Nat
  | 0, a, _ => (none, a)
  | k + 1, a, L => match clauseS X a with
    | (none, b) => (none, b)
    | (some z, b) => if b = X.1 then (some (L ++ [z]), b) else if k = 0 then (none, b) else if nx X b = 59 then textS X k (b + 1) (L ++ [z]) else (none, b)
def houseT (X : Tx) : Option (List Cz) × Nat := textS X 10 0 []
def hvOf (L : List Cz) : Hv := (L.length, fun c => (L.getD c (0, 0, [])).1, fun c => (L.getD c (0, 0, [])).2.1, fun c => (L.getD c (0, 0, [])).2.2)
theorem wordS_at {X : Tx} : ∀ (L : List Nat) (a : Nat), (∀ c ∈ L, c < 128) → a ≤ X.1 → a ≤ (wordS X a L).2 ∧ (wordS X a L).2 ≤ X.1 ∧ ((wordS X a L).1 = true → a + L.length < (wordS X a L).2) := by
  intro L
  induction L with
  | nil =>
    intro a _ h
    show a ≤ (if nx X a = 32 then (true, a + 1) else (false, a)).2 ∧ _
    by_cases q : nx X a = 32
    · have := nx_in2 (X := X) (a := a) (by omega)
      simp only [wordS, if_pos q]
      exact ⟨by omega, by omega, fun _ => Nat.lt_succ_self _⟩
    · simp only [wordS, if_neg q]
      exact ⟨Nat.le_refl _, h, fun y => (by cases y)⟩
  | cons c L ih =>
    intro a hL h
    by_cases q : nx X a = c
    · have hc := hL c List.mem_cons_self
      have := nx_in2 (X := X) (a := a) (by omega)
      have k := ih (a + 1) (fun d hd => hL d (List.mem_cons_of_mem _ hd)) (by omega)
      simp only [wordS, if_pos q]
      refine ⟨by omega, k.2.1, fun y => ?_⟩
      have := k.2.2 y
      show a + (L.length + 1) < _
      omega
    · simp only [wordS, if_neg q]
      exact ⟨Nat.le_refl _, h, fun y => (by cases y)⟩
theorem headS_ok (X : Tx) (a : Nat) : (headS X a).1 ≤ 4 ∧ ∀ c ∈ (headS X a).2, c < 128 := by
  unfold headS
  split
  · exact ⟨by decide, by decide⟩
  · split
    · exact ⟨by decide, by decide⟩
    · split
      · split
        · exact ⟨by decide, by decide⟩
        · exact ⟨by decide, by decide⟩
      · exact ⟨by decide, by decide⟩
theorem clauseS_at {X : Tx} {a b : Nat} {o : Option Cz} (ha : a ≤ X.1) (h : clauseS X a = (o, b)) : a ≤ b ∧ b ≤ X.1 ∧ ∀ z, o = some z → a < b ∧ z.1 ≤ 4 ∧ z.2.1 ≤ 99 ∧ (z.1 ≤ 1 → dpL 0 z.2.2 = some 1) ∧ z.2.2.length + a ≤ b := by
  have hh := headS_ok X a
  have k := wordS_at (headS X a).2 a hh.2 ha
  unfold clauseS at h
  split at h
  · rename_i q
    have k3 := k.2.2 q
    split at h
    · cases h
      exact ⟨k.1, k.2.1, fun z y => (by cases y)⟩
    · rename_i c n hn
      have z := num_at hn
      unfold exprS at h
      split at h
      · cases h
        refine ⟨by omega, z.2.1, fun z y => ?_⟩
        cases y
        exact ⟨by omega, hh.1, z.2.2.1, fun y => absurd y (by omega), by show 0 + a ≤ _; omega⟩
      · split at h
        · rename_i q2
          have := nx_in2 (X := X) (a := c) (by omega)
          split at h
          · rename_i d hd
            cases h
            have e := evE_at (by omega) hd
            exact ⟨by omega, e.2.1, fun z y => (by cases y)⟩
          · rename_i cs d hd
            cases h
            have e := evE_at (by omega) hd
            refine ⟨by omega, e.2.1, fun z y => ?_⟩
            cases y
            have e2 := e.2.2 cs rfl
            exact ⟨by omega, hh.1, z.2.2.1, fun _ => e2.1, by show cs.length + a ≤ _; omega⟩
        · cases h
          exact ⟨by omega, z.2.1, fun z y => (by cases y)⟩
  · cases h
    exact ⟨k.1, k.2.1, fun z y => (by cases y)⟩
/-! words -/
def letM : List Nat := [119, 111, 114, 116, 104, 98, 97, 107, 101, 108, 111, 97, 102, 108, 97, 119, 115, 99, 97, 108, 101]
def RLe (h : Hp) : Prop := ∀ j, j < 21 → h.1 149 j = nI (letM.getD j 0)
def atF (a i : Nat) : Bool := a == 134 && i == 13
theorem RLe.fr {h h' : Hp} {S : Nat → Nat → Bool} (H : RLe h) (hF : Fr S h h') (s : ∀ j, S 149 j = false) : RLe h' := fun j hj => by rw [hF.1 _ _ (s j)]; exact H j hj
theorem word_loop {G : WT} {l : Launch} (hG : GOK G) {X : Tx} {f m : Nat} (hm : f + m ≤ 21) : ∀ (n k a : Nat) (h : Hp), k + n = m → RAt h X a → RLe h → Wp G l 3 RX7 cX7_takesWord 4 (some .boolean) 2 [.ref (gA G 134), .int (nI f), .int (nI m), .int (nI k)] [] h (fun r h' => r = some (.int (b01 (wordS X a ((letM.drop (f + k)).take n)).1)) ∧ RAt h' X (wordS X a ((letM.drop (f + k)).take n)).2 ∧ Fr atF h h') := by
  intro n
  induction n with
  | zero =>
    intro k a h hk H HL
    show Wp G l _ _ _ _ _ _ _ _ _ (fun r h' => r = some (.int (b01 (if nx X a = 32 then (true, a + 1) else (false, a)).1)) ∧ RAt h' X (if nx X a = 32 then (true, a + 1) else (false, a)).2 ∧ Fr atF h h')
    by_cases q : nx X a = 32
    · have := nx_in2 (X := X) (a := a) (by omega)
      rw [if_pos q]
      refine r_iload_n dX7_takesWord_2 rfl ?_
      refine r_iload_n dX7_takesWord_3 rfl ?_
      refine r_icmp_ge (tgt := 30) dX7_takesWord_4 (by decide) (fun c_4 => ?_) (fun c_4 => ?_)
      · refine r_aload_n dX7_takesWord_30 rfl ?_
        refine r_bipush (v := 32) dX7_takesWord_31 (by decide) ?_
        rw [show (32 : Int32) = nI 32 from rfl]
        refine r_callV dX7_takesWord_33 l_X7_228 o_X7_takes v_X7_takes rfl (by decide) rfl rfl (m_X7_takes hG H (c := 32) (by omega)) (by decide) rfl (Nat.le_of_ble_eq_true rfl) (fun r33 h33 hq33 => ?_)
        obtain ⟨rfl, rfl⟩ := hq33.1 q
        refine r_ireturn dX7_takesWord_36 ⟨_, rfl, rfl⟩ ?_
        exact ⟨rfl, H.mv this, Fr.set rfl⟩
      · exact absurd (nI_le (by omega) (by omega)) c_4
    · rw [if_neg q]
      refine r_iload_n dX7_takesWord_2 rfl ?_
      refine r_iload_n dX7_takesWord_3 rfl ?_
      refine r_icmp_ge (tgt := 30) dX7_takesWord_4 (by decide) (fun c_4 => ?_) (fun c_4 => ?_)
      · refine r_aload_n dX7_takesWord_30 rfl ?_
        refine r_bipush (v := 32) dX7_takesWord_31 (by decide) ?_
        rw [show (32 : Int32) = nI 32 from rfl]
        refine r_callV dX7_takesWord_33 l_X7_228 o_X7_takes v_X7_takes rfl (by decide) rfl rfl (m_X7_takes hG H (c := 32) (by omega)) (by decide) rfl (Nat.le_of_ble_eq_true rfl) (fun r33 h33 hq33 => ?_)
        obtain ⟨rfl, rfl⟩ := hq33.2 q
        refine r_ireturn dX7_takesWord_36 ⟨_, rfl, rfl⟩ ?_
        exact ⟨rfl, H, Fr.rf⟩
      · exact absurd (nI_le (by omega) (by omega)) c_4
  | succ n ih =>
    intro k a h hk H HL
    have hl : f + k < letM.length := by show f + k < 21; omega
    have e : (letM.drop (f + k)).take (n + 1) = letM[f + k] :: (letM.drop (f + (k + 1))).take n := by
      rw [List.drop_eq_getElem_cons hl]; rfl
    have w1 : h.1 149 (f + k) = nI letM[f + k] := by
      rw [HL (f + k) (by omega)]
      congr 1
      rw [List.getD_eq_getElem?_getD, List.getElem?_eq_getElem hl]; rfl
    have hc : ∀ c ∈ letM, c < 128 := by decide
    have hc := hc _ (List.getElem_mem hl)
    obtain ⟨c, hcc⟩ : ∃ c, c = letM[f + k] := ⟨_, rfl⟩
    rw [← hcc] at e w1 hc
    rw [e]
    show Wp G l _ _ _ _ _ _ _ _ _ (fun r h' => r = some (.int (b01 (if nx X a = c then wordS X (a + 1) ((letM.drop (f + (k + 1))).take n) else (false, a)).1)) ∧ RAt h' X (if nx X a = c then wordS X (a + 1) ((letM.drop (f + (k + 1))).take n) else (false, a)).2 ∧ Fr atF h h')
    by_cases q : nx X a = c
    · have := nx_in2 (X := X) (a := a) (by omega)
      have F1 : Fr atF h (setI h 134 13 (nI (a + 1))) := Fr.set rfl
      rw [if_pos q]
      refine r_iload_n dX7_takesWord_2 rfl ?_
      refine r_iload_n dX7_takesWord_3 rfl ?_
      refine r_icmp_ge (tgt := 30) dX7_takesWord_4 (by decide) (fun c_4 => ?_) (fun c_4 => ?_)
      · exact absurd c_4 (nI_ge (by omega) (by omega))
      · refine r_aload_n dX7_takesWord_7 rfl ?_
        refine r_aload_n dX7_takesWord_8 rfl ?_
        refine r_getR (j := 149) dX7_takesWord_9 k_X7_89 rfl (by decide) rfl rfl ?_
        refine r_iload_n dX7_takesWord_12 rfl ?_
        refine r_iload_n dX7_takesWord_13 rfl ?_
        refine r_iadd dX7_takesWord_14 ?_
        refine r_iald (f + k) dX7_takesWord_15 rfl (by rw [nI_add]) (show f + k < 21 by omega) ?_
        rw [w1]
        refine r_callV dX7_takesWord_16 l_X7_228 o_X7_takes v_X7_takes rfl (by decide) rfl rfl (m_X7_takes hG H hc) (by decide) rfl (Nat.le_of_ble_eq_true rfl) (fun r16 h16 hq16 => ?_)
        obtain ⟨rfl, rfl⟩ := hq16.1 q
        refine r_if_ne (tgt := 24) dX7_takesWord_19 (by decide) (fun c_19 => ?_) (fun c_19 => ?_)
        · refine r_iinc dX7_takesWord_24 rfl (by first | exact nI_inc _ | rfl) (by decide) rfl rfl ?_
          dsimp only [List.set]
          refine r_goto (tgt := 2) dX7_takesWord_27 (by decide) ?_
          exact Wp.mono (ih (k + 1) (a + 1) _ (by omega) (H.mv this) (HL.fr F1 (fun _ => rfl))) (fun r h' q => ⟨q.1, q.2.1, F1.tr q.2.2⟩)
        · exact absurd c_19 (by decide)
    · rw [if_neg q]
      refine r_iload_n dX7_takesWord_2 rfl ?_
      refine r_iload_n dX7_takesWord_3 rfl ?_
      refine r_icmp_ge (tgt := 30) dX7_takesWord_4 (by decide) (fun c_4 => ?_) (fun c_4 => ?_)
      · exact absurd c_4 (nI_ge (by omega) (by omega))
      · refine r_aload_n dX7_takesWord_7 rfl ?_
        refine r_aload_n dX7_takesWord_8 rfl ?_
        refine r_getR (j := 149) dX7_takesWord_9 k_X7_89 rfl (by decide) rfl rfl ?_
        refine r_iload_n dX7_takesWord_12 rfl ?_
        refine r_iload_n dX7_takesWord_13 rfl ?_
        refine r_iadd dX7_takesWord_14 ?_
        refine r_iald (f + k) dX7_takesWord_15 rfl (by rw [nI_add]) (show f + k < 21 by omega) ?_
        rw [w1]
        refine r_callV dX7_takesWord_16 l_X7_228 o_X7_takes v_X7_takes rfl (by decide) rfl rfl (m_X7_takes hG H hc) (by decide) rfl (Nat.le_of_ble_eq_true rfl) (fun r16 h16 hq16 => ?_)
        obtain ⟨rfl, rfl⟩ := hq16.2 q
        refine r_if_ne (tgt := 24) dX7_takesWord_19 (by decide) (fun c_19 => ?_) (fun c_19 => ?_)
        · exact absurd rfl c_19
        · refine r_iconst (v := 0) dX7_takesWord_22 (by decide) ?_
          refine r_ireturn dX7_takesWord_23 ⟨_, rfl, rfl⟩ ?_
          exact ⟨rfl, H, Fr.rf⟩
set_option maxRecDepth 100000 in
theorem m_X7_takesWord {G : WT} {l : Launch} (hG : GOK G) {h : Hp} {X : Tx} {a f m : Nat} (hm : f + m ≤ 21) (H : RAt h X a) (HL : RLe h) : Cl G l 3 yX7_takesWord cX7_takesWord 4 (some .boolean) [.ref (gA G 134), .int (nI f), .int (nI m)] h (fun r h' => r = some (.int (b01 (wordS X a ((letM.drop f).take m)).1)) ∧ RAt h' X (wordS X a ((letM.drop f).take m)).2 ∧ Fr atF h h') := by
  refine Cl.of hG (by decide) (Nat.le_of_ble_eq_true rfl) ?_
  show Wp G l 3 RX7 cX7_takesWord 4 (some .boolean) 0 [.ref (gA G 134), .int (nI f), .int (nI m), mk0] [] h _
  refine r_iconst (v := 0) dX7_takesWord_0 (by decide) ?_
  refine r_istore_n dX7_takesWord_1 (by decide) rfl rfl ?_
  dsimp only [List.set]
  exact word_loop hG hm m 0 a h (by omega) H HL
theorem head_far {x : Int} (z1 : ¬ x = (119 : Nat)) (z2 : ¬ x = (98 : Nat)) (z3 : ¬ x = (108 : Nat)) : Op.lookupswitch.offset #[(98, 49), (108, 63), (119, 35)].toList 104 x = 104 := by
  show (if (98 : Int) = x then (49 : Int) else if (108 : Int) = x then 63 else if (119 : Int) = x then 35 else 104) = 104
  rw [if_neg (by omega), if_neg (by omega), if_neg (by omega)]
def hdF (c a i : Nat) : Bool := atF a i || (a == 143 && i == c)
set_option maxRecDepth 100000 in
theorem m_X7_takesHead {G : WT} {l : Launch} (hG : GOK G) {h : Hp} {X : Tx} {a c : Nat} (hc : c < 60) (H : RAt h X a) (HL : RLe h) : Cl G l 4 yX7_takesHead cX7_takesHead 3 (some .boolean) [.ref (gA G 134), .int (nI c)] h (fun r h' => r = some (.int (b01 (wordS X a (headS X a).2).1)) ∧ RAt h' X (wordS X a (headS X a).2).2 ∧ h'.1 143 c = nI (headS X a).1 ∧ Fr (hdF c) h h') := by
  refine Cl.of hG (by decide) (Nat.le_of_ble_eq_true rfl) ?_
  show Wp G l 4 RX7 cX7_takesHead 3 (some .boolean) 0 [.ref (gA G 134), .int (nI c), mk0] [] h _
  have hX := H.2.1
  have HW : ∀ v, RAt (setI h 143 c v) X a ∧ RLe (setI h 143 c v) ∧ Fr (hdF c) h (setI h 143 c v) := fun v => ⟨H.fr (Fr.set (S := fun a i => a == 143) rfl) rfl (fun _ => rfl) rfl, HL.fr (Fr.set (S := fun a i => a == 143) rfl) (fun _ => rfl), Fr.set (by simp [hdF])⟩
  have fin : ∀ (v : Nat) (L : List Nat) (r : Option Value) (h' : Hp), headS X a = (v, L) → (r = some (.int (b01 (wordS X a L).1)) ∧ RAt h' X (wordS X a L).2 ∧ Fr atF (setI h 143 c (nI v)) h') → r = some (.int (b01 (wordS X a (headS X a).2).1)) ∧ RAt h' X (wordS X a (headS X a).2).2 ∧ h'.1 143 c = nI (headS X a).1 ∧ Fr (hdF c) h h' := by
    intro v L r h' e q
    rw [e]
    exact ⟨q.1, q.2.1, by rw [q.2.2.1 _ _ rfl, setI_at], (HW _).2.2.tr (q.2.2.wk (fun x i z => by simp only [hdF, Bool.or_eq_false_iff] at z; exact z.1))⟩
  have n1 : ∀ c, c < 128 → ¬ nx X a = c → ¬ (nxI X a).toInt = c := fun c hc q y => q ((nxI_eq hX hc).mp (Int32.toInt_inj.mp (by rw [y, nI_toInt (by omega)])))
  by_cases c1 : nx X a = 119
  · have e : headS X a = (0, [119, 111, 114, 116, 104]) := by rw [headS, if_pos c1]
    have en : nxI X a = nI 119 := (nxI_eq hX (by omega)).mpr c1
    refine r_aload_n dX7_takesHead_0 rfl ?_
    refine r_callV dX7_takesHead_1 l_X7_255 o_X7_second v_X7_second rfl (by decide) rfl rfl (m_X7_second hG H) (by decide) rfl (Nat.le_of_ble_eq_true rfl) (fun r1 h1 hq1 => ?_)
    obtain ⟨rfl, e1⟩ := hq1
    rw [e1]
    clear e1 h1
    refine r_istore_n dX7_takesHead_4 (by decide) rfl rfl ?_
    dsimp only [List.set]
    refine r_aload_n dX7_takesHead_5 rfl ?_
    refine r_callV dX7_takesHead_6 l_X7_224 o_X7_next v_X7_next rfl (by decide) rfl rfl (m_X7_next hG H) (by decide) rfl (Nat.le_of_ble_eq_true rfl) (fun r6 h6 hq6 => ?_)
    obtain ⟨rfl, e6⟩ := hq6
    rw [e6]
    clear e6 h6
    rw [en]
    · refine r_lsw 44 dX7_takesHead_9 (by decide) rfl (by decide) ?_
      refine r_aload_n dX7_takesHead_44 rfl ?_
      refine r_getR (j := 143) dX7_takesHead_45 k_X7_62 rfl (by decide) rfl rfl ?_
      refine r_iload_n dX7_takesHead_48 rfl ?_
      refine r_iconst (v := 0) dX7_takesHead_49 (by decide) ?_
      refine r_iast (c) dX7_takesHead_50 rfl rfl (show c < 60 by omega) ?_
      refine r_aload_n dX7_takesHead_51 rfl ?_
      refine r_iconst (v := 0) dX7_takesHead_52 (by decide) ?_
      refine r_iconst (v := 5) dX7_takesHead_53 (by decide) ?_
      refine r_callV dX7_takesHead_54 l_X7_258 o_X7_takesWord v_X7_takesWord rfl (by decide) rfl rfl (m_X7_takesWord hG (f := 0) (m := 5) (by omega) (HW (nI 0)).1 (HW (nI 0)).2.1) (by decide) rfl (Nat.le_of_ble_eq_true rfl) (fun r54 h54 hq54 => ?_)
      have k := fin 0 [119, 111, 114, 116, 104] r54 h54 e hq54
      obtain ⟨rfl, k2⟩ := k
      refine r_ireturn dX7_takesHead_57 ⟨_, rfl, (b01_nar _)⟩ ?_
      exact ⟨rfl, k2⟩
  · by_cases c2 : nx X a = 98
    · have e : headS X a = (1, [98, 97, 107, 101]) := by rw [headS, if_neg c1, if_pos c2]
      have en : nxI X a = nI 98 := (nxI_eq hX (by omega)).mpr c2
      refine r_aload_n dX7_takesHead_0 rfl ?_
      refine r_callV dX7_takesHead_1 l_X7_255 o_X7_second v_X7_second rfl (by decide) rfl rfl (m_X7_second hG H) (by decide) rfl (Nat.le_of_ble_eq_true rfl) (fun r1 h1 hq1 => ?_)
      obtain ⟨rfl, e1⟩ := hq1
      rw [e1]
      clear e1 h1
      refine r_istore_n dX7_takesHead_4 (by decide) rfl rfl ?_
      dsimp only [List.set]
      refine r_aload_n dX7_takesHead_5 rfl ?_
      refine r_callV dX7_takesHead_6 l_X7_224 o_X7_next v_X7_next rfl (by decide) rfl rfl (m_X7_next hG H) (by decide) rfl (Nat.le_of_ble_eq_true rfl) (fun r6 h6 hq6 => ?_)
      obtain ⟨rfl, e6⟩ := hq6
      rw [e6]
      clear e6 h6
      rw [en]
      · refine r_lsw 58 dX7_takesHead_9 (by decide) rfl (by decide) ?_
        refine r_aload_n dX7_takesHead_58 rfl ?_
        refine r_getR (j := 143) dX7_takesHead_59 k_X7_62 rfl (by decide) rfl rfl ?_
        refine r_iload_n dX7_takesHead_62 rfl ?_
        refine r_iconst (v := 1) dX7_takesHead_63 (by decide) ?_
        refine r_iast (c) dX7_takesHead_64 rfl rfl (show c < 60 by omega) ?_
        refine r_aload_n dX7_takesHead_65 rfl ?_
        refine r_iconst (v := 5) dX7_takesHead_66 (by decide) ?_
        refine r_iconst (v := 4) dX7_takesHead_67 (by decide) ?_
        refine r_callV dX7_takesHead_68 l_X7_258 o_X7_takesWord v_X7_takesWord rfl (by decide) rfl rfl (m_X7_takesWord hG (f := 5) (m := 4) (by omega) (HW (nI 1)).1 (HW (nI 1)).2.1) (by decide) rfl (Nat.le_of_ble_eq_true rfl) (fun r68 h68 hq68 => ?_)
        have k := fin 1 [98, 97, 107, 101] r68 h68 e hq68
        obtain ⟨rfl, k2⟩ := k
        refine r_ireturn dX7_takesHead_71 ⟨_, rfl, (b01_nar _)⟩ ?_
        exact ⟨rfl, k2⟩
    · by_cases c3 : nx X a = 108
      · have en : nxI X a = nI 108 := (nxI_eq hX (by omega)).mpr c3
        by_cases c4 : nx X (a + 1) = 97
        · have e : headS X a = (3, [108, 97, 119]) := by rw [headS, if_neg c1, if_neg c2, if_pos c3, if_pos c4]
          have en2 : nxI X (a + 1) = 97 := (nxI_eq (c := 97) hX (by omega)).mpr c4
          refine r_aload_n dX7_takesHead_0 rfl ?_
          refine r_callV dX7_takesHead_1 l_X7_255 o_X7_second v_X7_second rfl (by decide) rfl rfl (m_X7_second hG H) (by decide) rfl (Nat.le_of_ble_eq_true rfl) (fun r1 h1 hq1 => ?_)
          obtain ⟨rfl, e1⟩ := hq1
          rw [e1]
          clear e1 h1
          refine r_istore_n dX7_takesHead_4 (by decide) rfl rfl ?_
          dsimp only [List.set]
          refine r_aload_n dX7_takesHead_5 rfl ?_
          refine r_callV dX7_takesHead_6 l_X7_224 o_X7_next v_X7_next rfl (by decide) rfl rfl (m_X7_next hG H) (by decide) rfl (Nat.le_of_ble_eq_true rfl) (fun r6 h6 hq6 => ?_)
          obtain ⟨rfl, e6⟩ := hq6
          rw [e6]
          clear e6 h6
          rw [en]
          · refine r_lsw 72 dX7_takesHead_9 (by decide) rfl (by decide) ?_
            refine r_aload_n dX7_takesHead_72 rfl ?_
            refine r_getR (j := 143) dX7_takesHead_73 k_X7_62 rfl (by decide) rfl rfl ?_
            refine r_iload_n dX7_takesHead_76 rfl ?_
            refine r_iload_n dX7_takesHead_77 rfl ?_
            refine r_bipush (v := 97) dX7_takesHead_78 (by decide) ?_
            refine r_icmp_ne (tgt := 87) dX7_takesHead_80 (by decide) (fun c_80 => ?_) (fun c_80 => ?_)
            · exact absurd en2 c_80
            · refine r_iconst (v := 3) dX7_takesHead_83 (by decide) ?_
              refine r_goto (tgt := 88) dX7_takesHead_84 (by decide) ?_
              refine r_iast (c) dX7_takesHead_88 rfl rfl (show c < 60 by omega) ?_
              refine r_iload_n dX7_takesHead_89 rfl ?_
              refine r_bipush (v := 97) dX7_takesHead_90 (by decide) ?_
              refine r_icmp_ne (tgt := 105) dX7_takesHead_92 (by decide) (fun c_92 => ?_) (fun c_92 => ?_)
              · exact absurd en2 c_92
              · refine r_aload_n dX7_takesHead_95 rfl ?_
                refine r_bipush (v := 13) dX7_takesHead_96 (by decide) ?_
                refine r_iconst (v := 3) dX7_takesHead_98 (by decide) ?_
                refine r_callV dX7_takesHead_99 l_X7_258 o_X7_takesWord v_X7_takesWord rfl (by decide) rfl rfl (m_X7_takesWord hG (f := 13) (m := 3) (by omega) (HW (nI 3)).1 (HW (nI 3)).2.1) (by decide) rfl (Nat.le_of_ble_eq_true rfl) (fun r99 h99 hq99 => ?_)
                have k := fin 3 [108, 97, 119] r99 h99 e hq99
                obtain ⟨rfl, k2⟩ := k
                refine r_goto (tgt := 112) dX7_takesHead_102 (by decide) ?_
                refine r_ireturn dX7_takesHead_112 ⟨_, rfl, (b01_nar _)⟩ ?_
                exact ⟨rfl, k2⟩
        · have e : headS X a = (2, [108, 111, 97, 102]) := by rw [headS, if_neg c1, if_neg c2, if_pos c3, if_neg c4]
          have en2 : ¬ nxI X (a + 1) = 97 := fun y => c4 ((nxI_eq (c := 97) hX (by omega)).mp y)
          refine r_aload_n dX7_takesHead_0 rfl ?_
          refine r_callV dX7_takesHead_1 l_X7_255 o_X7_second v_X7_second rfl (by decide) rfl rfl (m_X7_second hG H) (by decide) rfl (Nat.le_of_ble_eq_true rfl) (fun r1 h1 hq1 => ?_)
          obtain ⟨rfl, e1⟩ := hq1
          rw [e1]
          clear e1 h1
          refine r_istore_n dX7_takesHead_4 (by decide) rfl rfl ?_
          dsimp only [List.set]
          refine r_aload_n dX7_takesHead_5 rfl ?_
          refine r_callV dX7_takesHead_6 l_X7_224 o_X7_next v_X7_next rfl (by decide) rfl rfl (m_X7_next hG H) (by decide) rfl (Nat.le_of_ble_eq_true rfl) (fun r6 h6 hq6 => ?_)
          obtain ⟨rfl, e6⟩ := hq6
          rw [e6]
          clear e6 h6
          rw [en]
          · refine r_lsw 72 dX7_takesHead_9 (by decide) rfl (by decide) ?_
            refine r_aload_n dX7_takesHead_72 rfl ?_
            refine r_getR (j := 143) dX7_takesHead_73 k_X7_62 rfl (by decide) rfl rfl ?_
            refine r_iload_n dX7_takesHead_76 rfl ?_
            refine r_iload_n dX7_takesHead_77 rfl ?_
            refine r_bipush (v := 97) dX7_takesHead_78 (by decide) ?_
            refine r_icmp_ne (tgt := 87) dX7_takesHead_80 (by decide) (fun c_80 => ?_) (fun c_80 => ?_)
            · refine r_iconst (v := 2) dX7_takesHead_87 (by decide) ?_
              refine r_iast (c) dX7_takesHead_88 rfl rfl (show c < 60 by omega) ?_
              refine r_iload_n dX7_takesHead_89 rfl ?_
              refine r_bipush (v := 97) dX7_takesHead_90 (by decide) ?_
              refine r_icmp_ne (tgt := 105) dX7_takesHead_92 (by decide) (fun c_92 => ?_) (fun c_92 => ?_)
              · refine r_aload_n dX7_takesHead_105 rfl ?_
                refine r_bipush (v := 9) dX7_takesHead_106 (by decide) ?_
                refine r_iconst (v := 4) dX7_takesHead_108 (by decide) ?_
                refine r_callV dX7_takesHead_109 l_X7_258 o_X7_takesWord v_X7_takesWord rfl (by decide) rfl rfl (m_X7_takesWord hG (f := 9) (m := 4) (by omega) (HW (nI 2)).1 (HW (nI 2)).2.1) (by decide) rfl (Nat.le_of_ble_eq_true rfl) (fun r109 h109 hq109 => ?_)
                have k := fin 2 [108, 111, 97, 102] r109 h109 e hq109
                obtain ⟨rfl, k2⟩ := k
                refine r_ireturn dX7_takesHead_112 ⟨_, rfl, (b01_nar _)⟩ ?_
                exact ⟨rfl, k2⟩
              · exact absurd c_92 en2
            · exact absurd c_80 en2
      · have e : headS X a = (4, [115, 99, 97, 108, 101]) := by rw [headS, if_neg c1, if_neg c2, if_neg c3]
        have z1 := n1 119 (by omega) c1
        have z2 := n1 98 (by omega) c2
        have z3 := n1 108 (by omega) c3
        refine r_aload_n dX7_takesHead_0 rfl ?_
        refine r_callV dX7_takesHead_1 l_X7_255 o_X7_second v_X7_second rfl (by decide) rfl rfl (m_X7_second hG H) (by decide) rfl (Nat.le_of_ble_eq_true rfl) (fun r1 h1 hq1 => ?_)
        obtain ⟨rfl, e1⟩ := hq1
        rw [e1]
        clear e1 h1
        refine r_istore_n dX7_takesHead_4 (by decide) rfl rfl ?_
        dsimp only [List.set]
        refine r_aload_n dX7_takesHead_5 rfl ?_
        refine r_callV dX7_takesHead_6 l_X7_224 o_X7_next v_X7_next rfl (by decide) rfl rfl (m_X7_next hG H) (by decide) rfl (Nat.le_of_ble_eq_true rfl) (fun r6 h6 hq6 => ?_)
        obtain ⟨rfl, e6⟩ := hq6
        rw [e6]
        clear e6 h6
        · refine r_lsw 113 dX7_takesHead_9 (by decide) (head_far z1 z2 z3) (by decide) ?_
          refine r_aload_n dX7_takesHead_113 rfl ?_
          refine r_getR (j := 143) dX7_takesHead_114 k_X7_62 rfl (by decide) rfl rfl ?_
          refine r_iload_n dX7_takesHead_117 rfl ?_
          refine r_iconst (v := 4) dX7_takesHead_118 (by decide) ?_
          refine r_iast (c) dX7_takesHead_119 rfl rfl (show c < 60 by omega) ?_
          refine r_aload_n dX7_takesHead_120 rfl ?_
          refine r_bipush (v := 16) dX7_takesHead_121 (by decide) ?_
          refine r_iconst (v := 5) dX7_takesHead_123 (by decide) ?_
          refine r_callV dX7_takesHead_124 l_X7_258 o_X7_takesWord v_X7_takesWord rfl (by decide) rfl rfl (m_X7_takesWord hG (f := 16) (m := 5) (by omega) (HW (nI 4)).1 (HW (nI 4)).2.1) (by decide) rfl (Nat.le_of_ble_eq_true rfl) (fun r124 h124 hq124 => ?_)
          have k := fin 4 [115, 99, 97, 108, 101] r124 h124 e hq124
          obtain ⟨rfl, k2⟩ := k
          refine r_ireturn dX7_takesHead_127 ⟨_, rfl, (b01_nar _)⟩ ?_
          exact ⟨rfl, k2⟩
