/-! what changes the table by a call -/
def setT (T : Tb) (q x v : Nat) : Tb := (fun r i => if r = q ∧ i = x then v else T.1 r i, T.2)
def eaterS (T : Tb) (k n w : Int32) : Int32 × Tb := match dec k 7 with
  | none => (-1, T)
  | some k => match dec n 10, dec w 10 with
    | some n, some w => if T.1 7 0 = 5 then (-4, T) else (nI (T.1 7 0), addEater T k n w)
    | _, _ => (-2, T)
def hungerS (T : Tb) (i n : Int32) : Int32 × Tb := match dec i (T.1 7 0) with
  | none => (-1, T)
  | some i => match dec n 10 with
    | none => (-2, T)
    | some n => (nI (T.1 2 i), setT T 2 i n)
def rowS (T : Tb) (i p n : Int32) : Int32 × Tb := match dec i (T.1 7 0), dec p 4 with
  | some i, some p => (match dec n 10 with
    | none => (-2, T)
    | some n => if T.1 0 i = 6 then (nI (T.1 5 (4 * i + p)), setT T 5 (4 * i + p) n) else (-3, T))
  | _, _ => (-1, T)
def binS (T : Tb) (n : Int32) : Int32 × Tb := match dec n 100 with
  | none => (-2, T)
  | some n => (nI (T.1 7 1), setT T 7 1 n)
def bookS (T : Tb) (n : Int32) : Int32 × Tb := if n = -1 then (0, setT T 7 4 0) else match dec n 100 with
  | none => (-2, T)
  | some n => if T.1 7 4 = 12 then (-4, T) else (nI (T.1 7 4 + 1), setT (setT T 6 (T.1 7 4) n) 7 4 (T.1 7 4 + 1))
def ofA (V : Hv) (T : Tb) (i w : Int32) : Int32 := match dec i (T.1 7 0) with
  | none => farN
  | some i => match dec (w - nI 11) 9 with
    | some a => nI (worthS V (ltS T i (a + 1)))
    | none => if w = 0 then nI (T.1 0 i) else if w = 1 then nI (T.1 1 i) else if w = 2 then nI (T.1 2 i) else if w = 3 then nI (T.1 3 i) else if w = 4 then T.2 i else if w = 5 then nI (wishS V (P0 V) T i) else if w = 6 then nI (costS V (ltS T i (T.1 3 i))) else farN
def toldA (V : Hv) (T : Tb) (w : Int32) : Int32 := if w = 0 then nI (loafS V) else if w = 1 then nI (lawS V) else if w = 2 then nI (scaleS V) else if w = 3 then nI (T.1 7 1) else if w = 4 then nI (T.1 7 2) else if w = 5 then bkA (T.1 7 3) else -1
theorem addEater_ok {T : Tb} {k n w : Nat} (hT : TbOK T) (hE : ¬ T.1 7 0 = 5) (hk : k < 7) (hn : n < 10) (hw : w < 10) : TbOK (addEater T k n w) := by
  obtain ⟨t1, t2, t3, t4, t5, t6, t7, t8, t9⟩ := hT
  refine ⟨by show T.1 7 0 + 1 ≤ 5; omega, t2, t3, by show T.1 7 3 ≤ T.1 7 0 + 1; omega, t5, t6, fun e => ?_, fun q => ?_, fun q => by show (if q = T.1 7 0 then T.1 6 q else T.1 6 q) ≤ 99; split <;> exact t9 q⟩
  · have := t7 e
    show (if e = T.1 7 0 then k else T.1 0 e) ≤ 6 ∧ (if e = T.1 7 0 then n else T.1 1 e) ≤ 9 ∧ (if e = T.1 7 0 then w else T.1 2 e) ≤ 9 ∧ (if e = T.1 7 0 then 0 else T.1 3 e) ≤ 9
    split <;> omega
  · have := t8 q
    show (if T.1 7 0 * 4 ≤ q ∧ q < T.1 7 0 * 4 + 4 then 0 else T.1 5 q) ≤ 9
    split <;> omega
def layF (a _i : Nat) : Bool := decide (135 ≤ a) && decide (a ≤ 140)
/-- what lay leaves in the rows -/
def layV (f : Nat → Nat → Int32) (i : Nat) (k n w : Int32) (a x : Nat) : Int32 :=
  if a = 140 ∧ 4 * i ≤ x ∧ x < 4 * i + 4 then 0 else if x = i ∧ a = 135 then k else if x = i ∧ a = 136 then n else if x = i ∧ a = 137 then w else if x = i ∧ (a = 138 ∨ a = 139) then 0 else f a x
theorem lay_loop {G : WT} {l : Launch} {i : Nat} {w1 w2 w3 : Int32} {g0 : Hp} {Q : Option Value → Hp → Prop} (hi : i < 6) (k : ∀ g : Hp, g.2 = g0.2 → (∀ a x, g.1 a x = if a = 140 ∧ 4 * i ≤ x ∧ x < 4 * i + 4 then 0 else g0.1 a x) → Q none g) :
    ∀ (m p : Nat) (g : Hp), p + m = 4 → g.2 = g0.2 → (∀ a x, g.1 a x = if a = 140 ∧ 4 * i ≤ x ∧ x < 4 * i + p then 0 else g0.1 a x) → Wp G l 1 RX7 cX7_lay 6 none 39 [.ref (gA G 134), .int (nI i), .int w1, .int w2, .int w3, .int (nI p)] [] g Q := by
  intro m
  induction m with
  | zero =>
    intro p g hp h2 h1
    obtain rfl : p = 4 := by omega
    refine r_iload dX7_lay_39 rfl ?_
    refine r_iconst (v := 4) dX7_lay_41 (by decide) ?_
    refine r_icmp_ge (tgt := 63) dX7_lay_42 (by decide) (fun c_42 => ?_) (fun c_42 => ?_)
    · refine r_return dX7_lay_63 rfl ?_
      exact k g h2 h1
    · exact absurd (Int32.le_refl _) c_42
  | succ m ih =>
    intro p g hp h2 h1
    refine r_iload dX7_lay_39 rfl ?_
    refine r_iconst (v := 4) dX7_lay_41 (by decide) ?_
    refine r_icmp_ge (tgt := 63) dX7_lay_42 (by decide) (fun c_42 => ?_) (fun c_42 => ?_)
    · exact absurd c_42 (nI_ge (a := p) (b := 4) (by omega) (by omega))
    · refine r_aload_n dX7_lay_45 rfl ?_
      refine r_getR (j := 140) dX7_lay_46 k_X7_38 rfl (by decide) rfl rfl ?_
      refine r_iconst (v := 4) dX7_lay_49 (by decide) ?_
      refine r_iload_n dX7_lay_50 rfl ?_
      refine r_imul dX7_lay_51 ?_
      refine r_iload dX7_lay_52 rfl ?_
      refine r_iadd dX7_lay_54 ?_
      refine r_iconst (v := 0) dX7_lay_55 (by decide) ?_
      refine r_iast (4 * i + p) dX7_lay_56 rfl (by rw [show (4 : Int32) = nI 4 from rfl, pk_mul, nI_add]) (show 4 * i + p < 24 by omega) ?_
      refine r_iinc dX7_lay_57 rfl (by first | exact nI_inc _ | rfl) (by decide) rfl rfl ?_
      dsimp only [List.set]
      refine r_goto (tgt := 39) dX7_lay_60 (by decide) ?_
      refine ih (p + 1) _ (by omega) h2 (fun a x => ?_)
      rw [setI_1, h1]
      by_cases ha : a = 140 ∧ x = 4 * i + p
      · rw [if_pos ha, if_pos (by omega)]
      · rw [if_neg ha]
        by_cases hb : a = 140 ∧ 4 * i ≤ x ∧ x < 4 * i + p
        · rw [if_pos hb, if_pos (by omega)]
        · rw [if_neg hb, if_neg (by omega)]
set_option maxRecDepth 100000 in
theorem m_X7_lay {G : WT} {l : Launch} (hG : GOK G) {h : Hp} {i : Nat} {k n w : Int32} (hi : i < 6) : Cl G l 1 yX7_lay cX7_lay 6 none [.ref (gA G 134), .int (nI i), .int k, .int n, .int w] h (fun r h' => r = none ∧ h'.2 = h.2 ∧ ∀ a x, h'.1 a x = layV h.1 i k n w a x) := by
  refine Cl.of hG (by decide) (Nat.le_of_ble_eq_true rfl) ?_
  show Wp G l 1 RX7 cX7_lay 6 none 0 [.ref (gA G 134), .int (nI i), .int k, .int n, .int w, mk0] [] h _
  refine r_aload_n dX7_lay_0 rfl ?_
  refine r_getR (j := 135) dX7_lay_1 k_X7_22 rfl (by decide) rfl rfl ?_
  refine r_iload_n dX7_lay_4 rfl ?_
  refine r_iload_n dX7_lay_5 rfl ?_
  refine r_iast (i) dX7_lay_6 rfl rfl (show i < 6 by omega) ?_
  refine r_aload_n dX7_lay_7 rfl ?_
  refine r_getR (j := 136) dX7_lay_8 k_X7_26 rfl (by decide) rfl rfl ?_
  refine r_iload_n dX7_lay_11 rfl ?_
  refine r_iload_n dX7_lay_12 rfl ?_
  refine r_iast (i) dX7_lay_13 rfl rfl (show i < 6 by omega) ?_
  refine r_aload_n dX7_lay_14 rfl ?_
  refine r_getR (j := 137) dX7_lay_15 k_X7_29 rfl (by decide) rfl rfl ?_
  refine r_iload_n dX7_lay_18 rfl ?_
  refine r_iload dX7_lay_19 rfl ?_
  refine r_iast (i) dX7_lay_21 rfl rfl (show i < 6 by omega) ?_
  refine r_aload_n dX7_lay_22 rfl ?_
  refine r_getR (j := 138) dX7_lay_23 k_X7_32 rfl (by decide) rfl rfl ?_
  refine r_iload_n dX7_lay_26 rfl ?_
  refine r_iconst (v := 0) dX7_lay_27 (by decide) ?_
  refine r_iast (i) dX7_lay_28 rfl rfl (show i < 6 by omega) ?_
  refine r_aload_n dX7_lay_29 rfl ?_
  refine r_getR (j := 139) dX7_lay_30 k_X7_35 rfl (by decide) rfl rfl ?_
  refine r_iload_n dX7_lay_33 rfl ?_
  refine r_iconst (v := 0) dX7_lay_34 (by decide) ?_
  refine r_iast (i) dX7_lay_35 rfl rfl (show i < 6 by omega) ?_
  refine r_iconst (v := 0) dX7_lay_36 (by decide) ?_
  refine r_istore dX7_lay_37 (by decide) rfl rfl ?_
  dsimp only [List.set]
  refine lay_loop hi (fun g h2 h1 => ⟨rfl, h2, fun a x => ?_⟩) 4 0 _ (by omega) rfl (fun a x => by rw [if_neg (by omega)])
  rw [h1, layV]
  split
  · rfl
  · simp only [setI_1]
    by_cases hx : x = i
    · by_cases h5 : a = 139
      · simp [hx, h5]
      · by_cases h4 : a = 138
        · simp [hx, h4]
        · by_cases h3 : a = 137
          · simp [hx, h3]
          · by_cases h6 : a = 136
            · simp [hx, h6]
            · by_cases h7 : a = 135
              · simp [hx, h7]
              · simp [hx, h3, h4, h5, h6, h7]
    · simp [hx]
theorem lay_fr {h h' : Hp} {i : Nat} {k n w : Int32} (h2 : h'.2 = h.2) (h1 : ∀ a x, h'.1 a x = layV h.1 i k n w a x) : Fr layF h h' := ⟨fun a x q => by
  simp only [layF, Bool.and_eq_false_iff, decide_eq_false_iff_not] at q
  rw [h1, layV, if_neg (by omega), if_neg (by omega), if_neg (by omega), if_neg (by omega), if_neg (by omega)], h2⟩
/-- the row laid is an eater's once it counts -/
theorem lay_tb {h h' : Hp} {T : Tb} {k n w : Nat} (hR : RTb h T) (h2 : h'.2 = h.2) (h1 : ∀ a x, h'.1 a x = layV h.1 (T.1 7 0) (nI k) (nI n) (nI w) a x) : RTb (setI h' 134 0 (nI (T.1 7 0 + 1))) (addEater T k n w) ∧ RTb h' T := by
  obtain ⟨r1, r2, r3, r4, r5⟩ := hR
  have b0 : ∀ x, h'.1 134 x = h.1 134 x := fun x => by
    rw [h1, layV, if_neg (by omega), if_neg (by omega), if_neg (by omega), if_neg (by omega), if_neg (by omega)]
  have old : ∀ e, e < T.1 7 0 → h'.1 135 e = nI (T.1 0 e) ∧ h'.1 136 e = nI (T.1 1 e) ∧ h'.1 137 e = nI (T.1 2 e) ∧ h'.1 138 e = nI (T.1 3 e) ∧ h'.1 139 e = T.2 e ∧ ∀ p, p < 4 → h'.1 140 (4 * e + p) = nI (T.1 5 (4 * e + p)) := by
    intro e he
    obtain ⟨s1, s2, s3, s4, s5, s6⟩ := r5 e he
    refine ⟨?_, ?_, ?_, ?_, ?_, fun p hp => ?_⟩
    · rw [h1, layV, if_neg (by omega), if_neg (by omega), if_neg (by omega), if_neg (by omega), if_neg (by omega)]; exact s1
    · rw [h1, layV, if_neg (by omega), if_neg (by omega), if_neg (by omega), if_neg (by omega), if_neg (by omega)]; exact s2
    · rw [h1, layV, if_neg (by omega), if_neg (by omega), if_neg (by omega), if_neg (by omega), if_neg (by omega)]; exact s3
    · rw [h1, layV, if_neg (by omega), if_neg (by omega), if_neg (by omega), if_neg (by omega), if_neg (by omega)]; exact s4
    · rw [h1, layV, if_neg (by omega), if_neg (by omega), if_neg (by omega), if_neg (by omega), if_neg (by omega)]; exact s5
    · rw [h1, layV, if_neg (by omega), if_neg (by omega), if_neg (by omega), if_neg (by omega), if_neg (by omega)]; exact s6 p hp
  refine ⟨⟨setI_at, ?_, ?_, ?_, fun e he => ?_⟩, by rw [b0]; exact r1, by rw [b0]; exact r2, by rw [b0]; exact r3, by rw [b0]; exact r4, old⟩
  · rw [setI_nj (by decide), b0]; exact r2
  · rw [setI_nj (by decide), b0]; exact r3
  · rw [setI_nj (by decide), b0]; exact r4
  · have he1 : e < T.1 7 0 + 1 := he
    rw [setI_ne (by decide), setI_ne (by decide), setI_ne (by decide), setI_ne (by decide), setI_ne (by decide)]
    by_cases hee : e = T.1 7 0
    · refine ⟨?_, ?_, ?_, ?_, ?_, fun p hp => ?_⟩
      · show _ = nI (if e = T.1 7 0 then k else T.1 0 e)
        rw [if_pos hee, h1, layV, if_neg (by omega), if_pos ⟨hee, rfl⟩]
      · show _ = nI (if e = T.1 7 0 then n else T.1 1 e)
        rw [if_pos hee, h1, layV, if_neg (by omega), if_neg (by omega), if_pos ⟨hee, rfl⟩]
      · show _ = nI (if e = T.1 7 0 then w else T.1 2 e)
        rw [if_pos hee, h1, layV, if_neg (by omega), if_neg (by omega), if_neg (by omega), if_pos ⟨hee, rfl⟩]
      · show _ = nI (if e = T.1 7 0 then 0 else T.1 3 e)
        rw [if_pos hee, h1, layV, if_neg (by omega), if_neg (by omega), if_neg (by omega), if_neg (by omega), if_pos ⟨hee, Or.inl rfl⟩]
        rfl
      · show _ = (if e = T.1 7 0 then 0 else T.2 e)
        rw [if_pos hee, h1, layV, if_neg (by omega), if_neg (by omega), if_neg (by omega), if_neg (by omega), if_pos ⟨hee, Or.inr rfl⟩]
      · show _ = nI (if T.1 7 0 * 4 ≤ 4 * e + p ∧ 4 * e + p < T.1 7 0 * 4 + 4 then 0 else T.1 5 (4 * e + p))
        rw [setI_ne (by decide), if_pos (by omega), h1, layV, if_pos (by omega)]
        rfl
    · obtain ⟨s1, s2, s3, s4, s5, s6⟩ := old e (by omega)
      refine ⟨?_, ?_, ?_, ?_, ?_, fun p hp => ?_⟩
      · show _ = nI (if e = T.1 7 0 then k else T.1 0 e)
        rw [if_neg hee]; exact s1
      · show _ = nI (if e = T.1 7 0 then n else T.1 1 e)
        rw [if_neg hee]; exact s2
      · show _ = nI (if e = T.1 7 0 then w else T.1 2 e)
        rw [if_neg hee]; exact s3
      · show _ = nI (if e = T.1 7 0 then 0 else T.1 3 e)
        rw [if_neg hee]; exact s4
      · show _ = (if e = T.1 7 0 then 0 else T.2 e)
        rw [if_neg hee]; exact s5
      · show _ = nI (if T.1 7 0 * 4 ≤ 4 * e + p ∧ 4 * e + p < T.1 7 0 * 4 + 4 then 0 else T.1 5 (4 * e + p))
        rw [setI_ne (by decide), if_neg (by omega)]; exact s6 p hp
set_option maxRecDepth 100000 in
theorem m_X7_eater {G : WT} {l : Launch} (hG : GOK G) {h : Hp} {b : Nat} {V : Hv} {T : Tb} {k n w : Int32} (C : RIc h b V T) : Cl G l 2 yX7_eater cX7_eater 4 (some .int) [.ref (gA G 134), .int k, .int n, .int w] h (fun r h' => r = some (.int (eaterS T k n w).1) ∧ RIc h' b V (eaterS T k n w).2 ∧ Fr scrF h h') := by
  refine Cl.of hG (by decide) (Nat.le_of_ble_eq_true rfl) ?_
  show Wp G l 2 RX7 cX7_eater 4 (some .int) 0 [.ref (gA G 134), .int k, .int n, .int w] [] h _
  have hE := C.1.2.1.1
  cases hk : dec k 7 with
  | none =>
    refine r_aload_n dX7_eater_0 rfl ?_
    refine r_iload_n dX7_eater_1 rfl ?_
    refine r_iconst (v := 0) dX7_eater_2 (by decide) ?_
    refine r_bipush (v := 6) dX7_eater_3 (by decide) ?_
    refine r_callV dX7_eater_5 l_X7_212 o_X7_in v_X7_in rfl (by decide) rfl rfl (m_X7_in hG) (by decide) rfl (Nat.le_of_ble_eq_true rfl) (fun r5 h5 hq5 => ?_)
    obtain ⟨rfl, e5⟩ := hq5
    rw [e5]
    clear e5 h5
    rw [show inP k 0 6 = (dec k 7).isSome from inP_dec0 (c := 6) (by omega) rfl, hk]
    refine r_if_ne (tgt := 13) dX7_eater_8 (by decide) (fun c_8 => ?_) (fun c_8 => ?_)
    · exact absurd rfl c_8
    · refine r_iconst (v := -1) dX7_eater_11 (by decide) ?_
      refine r_ireturn dX7_eater_12 ⟨_, rfl, rfl⟩ ?_
      rw [eaterS, hk]
      exact ⟨rfl, C, Fr.rf⟩
  | some k1 =>
    obtain ⟨hk1, rfl, -⟩ := dec_some.mp hk
    cases hn : dec n 10 with
    | none =>
      refine r_aload_n dX7_eater_0 rfl ?_
      refine r_iload_n dX7_eater_1 rfl ?_
      refine r_iconst (v := 0) dX7_eater_2 (by decide) ?_
      refine r_bipush (v := 6) dX7_eater_3 (by decide) ?_
      refine r_callV dX7_eater_5 l_X7_212 o_X7_in v_X7_in rfl (by decide) rfl rfl (m_X7_in hG) (by decide) rfl (Nat.le_of_ble_eq_true rfl) (fun r5 h5 hq5 => ?_)
      obtain ⟨rfl, e5⟩ := hq5
      rw [e5]
      clear e5 h5
      rw [show inP (nI k1) 0 6 = (dec (nI k1) 7).isSome from inP_dec0 (c := 6) (by omega) rfl, hk]
      refine r_if_ne (tgt := 13) dX7_eater_8 (by decide) (fun c_8 => ?_) (fun c_8 => ?_)
      · refine r_aload_n dX7_eater_13 rfl ?_
        refine r_iload_n dX7_eater_14 rfl ?_
        refine r_iconst (v := 0) dX7_eater_15 (by decide) ?_
        refine r_bipush (v := 9) dX7_eater_16 (by decide) ?_
        refine r_callV dX7_eater_18 l_X7_212 o_X7_in v_X7_in rfl (by decide) rfl rfl (m_X7_in hG) (by decide) rfl (Nat.le_of_ble_eq_true rfl) (fun r18 h18 hq18 => ?_)
        obtain ⟨rfl, e18⟩ := hq18
        rw [e18]
        clear e18 h18
        rw [show inP n 0 9 = (dec n 10).isSome from inP_dec0 (c := 9) (by omega) rfl, hn]
        refine r_if_eq (tgt := 35) dX7_eater_21 (by decide) (fun c_21 => ?_) (fun c_21 => ?_)
        · refine r_bipush (v := -2) dX7_eater_35 (by decide) ?_
          refine r_ireturn dX7_eater_37 ⟨_, rfl, rfl⟩ ?_
          rw [eaterS, hk, hn]
          exact ⟨rfl, C, Fr.rf⟩
        · exact absurd rfl c_21
      · exact absurd c_8 (b01_n0.mpr rfl)
    | some n1 =>
      obtain ⟨hn1, rfl, -⟩ := dec_some.mp hn
      cases hw : dec w 10 with
      | none =>
        refine r_aload_n dX7_eater_0 rfl ?_
        refine r_iload_n dX7_eater_1 rfl ?_
        refine r_iconst (v := 0) dX7_eater_2 (by decide) ?_
        refine r_bipush (v := 6) dX7_eater_3 (by decide) ?_
        refine r_callV dX7_eater_5 l_X7_212 o_X7_in v_X7_in rfl (by decide) rfl rfl (m_X7_in hG) (by decide) rfl (Nat.le_of_ble_eq_true rfl) (fun r5 h5 hq5 => ?_)
        obtain ⟨rfl, e5⟩ := hq5
        rw [e5]
        clear e5 h5
        rw [show inP (nI k1) 0 6 = (dec (nI k1) 7).isSome from inP_dec0 (c := 6) (by omega) rfl, hk]
        refine r_if_ne (tgt := 13) dX7_eater_8 (by decide) (fun c_8 => ?_) (fun c_8 => ?_)
        · refine r_aload_n dX7_eater_13 rfl ?_
          refine r_iload_n dX7_eater_14 rfl ?_
          refine r_iconst (v := 0) dX7_eater_15 (by decide) ?_
          refine r_bipush (v := 9) dX7_eater_16 (by decide) ?_
          refine r_callV dX7_eater_18 l_X7_212 o_X7_in v_X7_in rfl (by decide) rfl rfl (m_X7_in hG) (by decide) rfl (Nat.le_of_ble_eq_true rfl) (fun r18 h18 hq18 => ?_)
          obtain ⟨rfl, e18⟩ := hq18
          rw [e18]
          clear e18 h18
          rw [show inP (nI n1) 0 9 = (dec (nI n1) 10).isSome from inP_dec0 (c := 9) (by omega) rfl, hn]
          refine r_if_eq (tgt := 35) dX7_eater_21 (by decide) (fun c_21 => ?_) (fun c_21 => ?_)
          · exact absurd c_21 (b01_n0.mpr rfl)
          · refine r_aload_n dX7_eater_24 rfl ?_
            refine r_iload_n dX7_eater_25 rfl ?_
            refine r_iconst (v := 0) dX7_eater_26 (by decide) ?_
            refine r_bipush (v := 9) dX7_eater_27 (by decide) ?_
            refine r_callV dX7_eater_29 l_X7_212 o_X7_in v_X7_in rfl (by decide) rfl rfl (m_X7_in hG) (by decide) rfl (Nat.le_of_ble_eq_true rfl) (fun r29 h29 hq29 => ?_)
            obtain ⟨rfl, e29⟩ := hq29
            rw [e29]
            clear e29 h29
            rw [show inP w 0 9 = (dec w 10).isSome from inP_dec0 (c := 9) (by omega) rfl, hw]
            refine r_if_ne (tgt := 38) dX7_eater_32 (by decide) (fun c_32 => ?_) (fun c_32 => ?_)
            · exact absurd rfl c_32
            · refine r_bipush (v := -2) dX7_eater_35 (by decide) ?_
              refine r_ireturn dX7_eater_37 ⟨_, rfl, rfl⟩ ?_
              rw [eaterS, hk, hn, hw]
              exact ⟨rfl, C, Fr.rf⟩
        · exact absurd c_8 (b01_n0.mpr rfl)
      | some w1 =>
        obtain ⟨hw1, rfl, -⟩ := dec_some.mp hw
        refine r_aload_n dX7_eater_0 rfl ?_
        refine r_iload_n dX7_eater_1 rfl ?_
        refine r_iconst (v := 0) dX7_eater_2 (by decide) ?_
        refine r_bipush (v := 6) dX7_eater_3 (by decide) ?_
        refine r_callV dX7_eater_5 l_X7_212 o_X7_in v_X7_in rfl (by decide) rfl rfl (m_X7_in hG) (by decide) rfl (Nat.le_of_ble_eq_true rfl) (fun r5 h5 hq5 => ?_)
        obtain ⟨rfl, e5⟩ := hq5
        rw [e5]
        clear e5 h5
        rw [show inP (nI k1) 0 6 = (dec (nI k1) 7).isSome from inP_dec0 (c := 6) (by omega) rfl, hk]
        refine r_if_ne (tgt := 13) dX7_eater_8 (by decide) (fun c_8 => ?_) (fun c_8 => ?_)
        · refine r_aload_n dX7_eater_13 rfl ?_
          refine r_iload_n dX7_eater_14 rfl ?_
          refine r_iconst (v := 0) dX7_eater_15 (by decide) ?_
          refine r_bipush (v := 9) dX7_eater_16 (by decide) ?_
          refine r_callV dX7_eater_18 l_X7_212 o_X7_in v_X7_in rfl (by decide) rfl rfl (m_X7_in hG) (by decide) rfl (Nat.le_of_ble_eq_true rfl) (fun r18 h18 hq18 => ?_)
          obtain ⟨rfl, e18⟩ := hq18
          rw [e18]
          clear e18 h18
          rw [show inP (nI n1) 0 9 = (dec (nI n1) 10).isSome from inP_dec0 (c := 9) (by omega) rfl, hn]
          refine r_if_eq (tgt := 35) dX7_eater_21 (by decide) (fun c_21 => ?_) (fun c_21 => ?_)
          · exact absurd c_21 (b01_n0.mpr rfl)
          · refine r_aload_n dX7_eater_24 rfl ?_
            refine r_iload_n dX7_eater_25 rfl ?_
            refine r_iconst (v := 0) dX7_eater_26 (by decide) ?_
            refine r_bipush (v := 9) dX7_eater_27 (by decide) ?_
            refine r_callV dX7_eater_29 l_X7_212 o_X7_in v_X7_in rfl (by decide) rfl rfl (m_X7_in hG) (by decide) rfl (Nat.le_of_ble_eq_true rfl) (fun r29 h29 hq29 => ?_)
            obtain ⟨rfl, e29⟩ := hq29
            rw [e29]
            clear e29 h29
            rw [show inP (nI w1) 0 9 = (dec (nI w1) 10).isSome from inP_dec0 (c := 9) (by omega) rfl, hw]
            refine r_if_ne (tgt := 38) dX7_eater_32 (by decide) (fun c_32 => ?_) (fun c_32 => ?_)
            · refine r_aload_n dX7_eater_38 rfl ?_
              refine r_getI dX7_eater_39 k_X7_7 rfl (by decide) rfl ?_
              refine r_iconst (v := 5) dX7_eater_42 (by decide) ?_
              rw [C.1.1.1]
              refine r_icmp_ne (tgt := 49) dX7_eater_43 (by decide) (fun c_43 => ?_) (fun c_43 => ?_)
              · have y : ¬ T.1 7 0 = 5 := fun q => c_43 (by rw [q]; rfl)
                refine r_aload_n dX7_eater_49 rfl ?_
                refine r_aload_n dX7_eater_50 rfl ?_
                refine r_getI dX7_eater_51 k_X7_7 rfl (by decide) rfl ?_
                refine r_iload_n dX7_eater_54 rfl ?_
                refine r_iload_n dX7_eater_55 rfl ?_
                refine r_iload_n dX7_eater_56 rfl ?_
                rw [C.1.1.1]
                refine r_callV dX7_eater_57 l_X7_216 o_X7_lay v_X7_lay rfl (by decide) rfl rfl (m_X7_lay hG (show T.1 7 0 < 6 by omega)) (by decide) rfl (Nat.le_of_ble_eq_true rfl) (fun r57 h57 hq57 => ?_)
                obtain ⟨rfl, h2, h1⟩ := hq57
                have b0 : ∀ x, h57.1 134 x = h.1 134 x := fun x => by
                  rw [h1, layV, if_neg (by omega), if_neg (by omega), if_neg (by omega), if_neg (by omega), if_neg (by omega)]
                refine r_aload_n dX7_eater_60 rfl ?_
                refine r_dup dX7_eater_61 rfl ?_
                refine r_getI dX7_eater_62 k_X7_7 rfl (by decide) rfl ?_
                refine r_iconst (v := 1) dX7_eater_65 (by decide) ?_
                refine r_iadd dX7_eater_66 ?_
                rw [b0, C.1.1.1, nI_1]
                refine r_putI dX7_eater_67 k_X7_7 rfl (by decide) rfl rfl rfl rfl ?_
                refine r_aload_n dX7_eater_70 rfl ?_
                refine r_getI dX7_eater_71 k_X7_7 rfl (by decide) rfl ?_
                refine r_iconst (v := 1) dX7_eater_74 (by decide) ?_
                rw [setI_at]
                refine r_isub dX7_eater_75 ?_
                rw [nI_pred]
                refine r_ireturn dX7_eater_76 ⟨_, rfl, rfl⟩ ?_
                rw [eaterS, hk, hn, hw]
                show _ ∧ RIc _ b V (if T.1 7 0 = 5 then ((-4 : Int32), T) else (nI (T.1 7 0), addEater T k1 n1 w1)).2 ∧ _
                rw [if_neg y]
                have F1 : Fr scrF h57 (setI h57 134 0 (nI (T.1 7 0 + 1))) := Fr.set rfl
                have F2 : Fr scrF h h57 := (lay_fr h2 h1).wk (fun a i q => by
                  simp only [scrF, Bool.or_eq_false_iff] at q
                  exact q.1.1)
                refine ⟨by show _ = some (Value.int (if T.1 7 0 = 5 then ((-4 : Int32), T) else (nI (T.1 7 0), addEater T k1 n1 w1)).1); rw [if_neg y], C.end (lay_tb C.1.1 h2 h1).1 (addEater_ok C.1.2.1 y hk1 hn1 hw1) C.2.2 (F2.tr F1) ⟨?_, ?_, ?_⟩⟩
                · rw [setI_nj (by decide), b0]; exact C.calm.1
                · rw [setI_nj (by decide), b0]; exact C.calm.2.1
                · rw [setI_nj (by decide), b0]; exact C.calm.2.2
              · have y : T.1 7 0 = 5 := (nI_eq' (b := 5) (by omega) (by omega)).mp c_43
                refine r_bipush (v := -4) dX7_eater_46 (by decide) ?_
                refine r_ireturn dX7_eater_48 ⟨_, rfl, rfl⟩ ?_
                rw [eaterS, hk, hn, hw]
                show _ ∧ RIc _ b V (if T.1 7 0 = 5 then ((-4 : Int32), T) else (nI (T.1 7 0), addEater T k1 n1 w1)).2 ∧ _
                rw [if_pos y]
                exact ⟨by show _ = some (Value.int (if T.1 7 0 = 5 then ((-4 : Int32), T) else (nI (T.1 7 0), addEater T k1 n1 w1)).1); rw [if_pos y], C, Fr.rf⟩
            · exact absurd c_32 (b01_n0.mpr rfl)
        · exact absurd c_8 (b01_n0.mpr rfl)
