/-! a clause, a text, a house read -/
def clF (s0 c a i : Nat) : Bool := tkF s0 c a i || (a == 143 && i == c) || (a == 144 && i == c)
theorem hdF_cl {s0 c : Nat} {h h' : Hp} (H : Fr (hdF c) h h') : Fr (clF s0 c) h h' := H.wk (fun x i q => by simp only [clF, tkF, eF, teF, nuF, Bool.or_eq_false_iff] at q; simp only [hdF, atF, Bool.or_eq_false_iff]; exact ⟨by have := q.1.1.1.1.1.2; simp only [Bool.and_eq_false_iff, Bool.or_eq_false_iff] at this ⊢; exact this.elim Or.inl (fun y => Or.inr y.1), q.1.2⟩)
theorem nuF_cl {s0 c : Nat} {h h' : Hp} (H : Fr nuF h h') : Fr (clF s0 c) h h' := H.wk (fun x i q => by simp only [clF, tkF, eF, teF, Bool.or_eq_false_iff] at q; exact q.1.1.1.1.1.2)
theorem tkF_cl {s0 c : Nat} {h h' : Hp} (H : Fr (tkF s0 c) h h') : Fr (clF s0 c) h h' := H.wk (fun x i q => by simp only [clF, Bool.or_eq_false_iff] at q; exact q.1.1)
theorem clF_n {s0 c a i : Nat} (h1 : ¬ a = 134) (h2 : ¬ a = 148) (h3 : ¬ (a = 147 ∧ s0 ≤ i)) (h4 : ¬ ((a = 143 ∨ a = 144 ∨ a = 145 ∨ a = 146) ∧ i = c)) : clF s0 c a i = false := by
  simp only [clF, tkF, eF, teF, whF, puF, nuF, Bool.or_eq_false_iff, Bool.and_eq_false_iff, beq_eq_false_iff_ne, ne_eq, decide_eq_false_iff_not]
  omega
/-- the clause that was read, in the reference's rows -/
def ClPost (X : Tx) (s0 c : Nat) (h0 : Hp) (out : Option Cz × Nat) (r : Option Value) (h' : Hp) : Prop := (∀ b, out = (none, b) → r = some (.int 0) ∧ RAt h' X b) ∧ (∀ z b, out = (some z, b) → r = some (.int 1) ∧ RAt h' X b ∧ h'.1 134 23 = nI (s0 + z.2.2.length) ∧ h'.1 143 c = nI z.1 ∧ h'.1 144 c = nI z.2.1 ∧ (z.1 ≤ 1 → h'.1 145 c = nI s0 ∧ h'.1 146 c = nI (s0 + z.2.2.length) ∧ ∀ j t, z.2.2[j]? = some t → h'.1 147 (s0 + j) = zI t)) ∧ Fr (clF s0 c) h0 h'
theorem clauseS_no {X : Tx} {a : Nat} (h : (wordS X a (headS X a).2).1 = false) : clauseS X a = (none, (wordS X a (headS X a).2).2) := by rw [clauseS, h, if_neg Bool.false_ne_true]
theorem clauseS_nn {X : Tx} {a : Nat} (h : (wordS X a (headS X a).2).1 = true) (hn : numS X (wordS X a (headS X a).2).2 = none) : clauseS X a = (none, (wordS X a (headS X a).2).2) := by rw [clauseS, h, if_pos rfl, hn]
theorem clauseS_go {X : Tx} {a b n : Nat} (h : (wordS X a (headS X a).2).1 = true) (hn : numS X (wordS X a (headS X a).2).2 = some (b, n)) : clauseS X a = exprS X (headS X a).1 n b := by rw [clauseS, h, if_pos rfl, hn]
theorem clause_rest {G : WT} {l : Launch} (hG : GOK G) {X : Tx} {b c s0 z0 w n : Nat} {g h0 : Hp} (hc : c < 60) (hs : s0 ≤ 500 + z0) (hz : z0 ≤ b) (hw : w ≤ 4) (hn : n ≤ 99) (H : RAt g X b) (hsg : g.1 134 23 = nI s0) (hwd : g.1 143 c = nI w) (hdg : g.1 134 14 = nI n) (hF : Fr (clF s0 c) h0 g) :
    Wp G l 6 RX7 cX7_takesClause 2 (some .boolean) 17 [.ref (gA G 134), .int (nI c)] [] g (ClPost X s0 c h0 (exprS X w n b)) := by
  have FA : Fr (clF s0 c) g (setI g 144 c (nI n)) := Fr.set (by simp [clF])
  have HA : RAt (setI g 144 c (nI n)) X b := H.fr (Fr.set (S := fun a i => a == 144) rfl) rfl (fun _ => rfl) rfl
  have hX := H.2.1.1
  by_cases hw1 : 1 < w
  · have e : exprS X w n b = (some (w, n, []), b) := by rw [exprS, if_pos hw1]
    refine r_aload_n dX7_takesClause_17 rfl ?_
    refine r_getR (j := 144) dX7_takesClause_18 k_X7_65 rfl (by decide) rfl rfl ?_
    refine r_iload_n dX7_takesClause_21 rfl ?_
    refine r_aload_n dX7_takesClause_22 rfl ?_
    refine r_getI dX7_takesClause_23 k_X7_53 rfl (by decide) rfl ?_
    rw [hdg]
    refine r_iast (c) dX7_takesClause_26 rfl rfl (show c < 60 by omega) ?_
    refine r_aload_n dX7_takesClause_27 rfl ?_
    refine r_getR (j := 143) dX7_takesClause_28 k_X7_62 rfl (by decide) rfl rfl ?_
    refine r_iload_n dX7_takesClause_31 rfl ?_
    refine r_iald (c) dX7_takesClause_32 rfl rfl (show c < 60 by omega) ?_
    rw [setI_ne (by decide), hwd]
    refine r_iconst (v := 1) dX7_takesClause_33 (by decide) ?_
    refine r_icmp_gt (tgt := 54) dX7_takesClause_34 (by decide) (fun c_34 => ?_) (fun c_34 => ?_)
    · refine r_iconst (v := 1) dX7_takesClause_54 (by decide) ?_
      refine r_goto (tgt := 59) dX7_takesClause_55 (by decide) ?_
      refine r_ireturn dX7_takesClause_59 ⟨_, rfl, rfl⟩ ?_
      refine ⟨fun b2 q => (by rw [e] at q; cases q), fun z b2 q => ?_, hF.tr FA⟩
      rw [e] at q
      cases q
      exact ⟨rfl, HA, by rw [setI_ne (by decide)]; exact hsg, by rw [setI_ne (by decide)]; exact hwd, setI_at, fun y => absurd y (by show ¬ w ≤ 1; omega)⟩
    · exact absurd ((nI_lt' (a := 1) (b := w) (by omega) (by omega)).mpr hw1) c_34
  · by_cases h32 : nx X b = 32
    · have b1 := nx_in2 (X := X) (a := b) (by omega)
      have HB := HA.mv (b := b + 1) b1
      have FB : Fr (clF s0 c) (setI g 144 c (nI n)) (setI (setI g 144 c (nI n)) 134 13 (nI (b + 1))) := Fr.set (by simp [clF, tkF, eF, teF, nuF])
      refine r_aload_n dX7_takesClause_17 rfl ?_
      refine r_getR (j := 144) dX7_takesClause_18 k_X7_65 rfl (by decide) rfl rfl ?_
      refine r_iload_n dX7_takesClause_21 rfl ?_
      refine r_aload_n dX7_takesClause_22 rfl ?_
      refine r_getI dX7_takesClause_23 k_X7_53 rfl (by decide) rfl ?_
      rw [hdg]
      refine r_iast (c) dX7_takesClause_26 rfl rfl (show c < 60 by omega) ?_
      refine r_aload_n dX7_takesClause_27 rfl ?_
      refine r_getR (j := 143) dX7_takesClause_28 k_X7_62 rfl (by decide) rfl rfl ?_
      refine r_iload_n dX7_takesClause_31 rfl ?_
      refine r_iald (c) dX7_takesClause_32 rfl rfl (show c < 60 by omega) ?_
      rw [setI_ne (by decide), hwd]
      refine r_iconst (v := 1) dX7_takesClause_33 (by decide) ?_
      refine r_icmp_gt (tgt := 54) dX7_takesClause_34 (by decide) (fun c_34 => ?_) (fun c_34 => ?_)
      · exact absurd ((nI_lt' (a := 1) (b := w) (by omega) (by omega)).mp c_34) hw1
      · refine r_aload_n dX7_takesClause_37 rfl ?_
        refine r_bipush (v := 32) dX7_takesClause_38 (by decide) ?_
        rw [show (32 : Int32) = nI 32 from rfl]
        refine r_callV dX7_takesClause_40 l_X7_228 o_X7_takes v_X7_takes rfl (by decide) rfl rfl (m_X7_takes hG HA (c := 32) (by omega)) (by decide) rfl (Nat.le_of_ble_eq_true rfl) (fun r40 h40 hq40 => ?_)
        obtain ⟨rfl, rfl⟩ := hq40.1 h32
        refine r_if_eq (tgt := 58) dX7_takesClause_43 (by decide) (fun c_43 => ?_) (fun c_43 => ?_)
        · exact absurd c_43 (by decide)
        · refine r_aload_n dX7_takesClause_46 rfl ?_
          refine r_iload_n dX7_takesClause_47 rfl ?_
          refine r_callV dX7_takesClause_48 l_X7_265 o_X7_takesE v_X7_takesE rfl (by decide) rfl rfl (m_X7_takesE hG hc hs (z0 := z0) (by omega) HB (by rw [setI_nj (by decide), setI_ne (by decide)]; exact hsg)) (by decide) rfl (Nat.le_of_ble_eq_true rfl) (fun r48 h48 hq48 => ?_)
          obtain ⟨y1, y2, y3⟩ := hq48
          have FE := (hF.tr FA).tr (FB.tr (tkF_cl y3))
          have ew : h48.1 143 c = nI w := by rw [y3.1 _ _ (by simp [tkF, eF, teF, whF, puF, nuF]), setI_ne (by decide), setI_ne (by decide)]; exact hwd
          have en : h48.1 144 c = nI n := by rw [y3.1 _ _ (by simp [tkF, eF, teF, whF, puF, nuF]), setI_ne (by decide), setI_at]
          cases he : evE X (b + 1, true, [], []) with
          | mk o d =>
            rw [he] at y1
            cases o with
            | none =>
              obtain ⟨rfl, H4⟩ := y1.1 d rfl
              have e : exprS X w n b = (none, d) := by rw [exprS, if_neg hw1, if_pos h32, he]
              refine r_if_eq (tgt := 58) dX7_takesClause_51 (by decide) (fun c_51 => ?_) (fun c_51 => absurd rfl c_51)
              refine r_iconst (v := 0) dX7_takesClause_58 (by decide) ?_
              refine r_ireturn dX7_takesClause_59 ⟨_, rfl, rfl⟩ ?_
              exact ⟨fun b2 q => (by rw [e] at q; cases q; exact ⟨rfl, H4⟩), fun z b2 q => (by rw [e] at q; cases q), FE⟩
            | some cs =>
              obtain ⟨rfl, H4, G4, t4⟩ := y1.2.1 cs d rfl
              have e : exprS X w n b = (some (w, n, cs), d) := by rw [exprS, if_neg hw1, if_pos h32, he]
              refine r_if_eq (tgt := 58) dX7_takesClause_51 (by decide) (fun c_51 => absurd c_51 (by decide)) (fun c_51 => ?_)
              refine r_iconst (v := 1) dX7_takesClause_54 (by decide) ?_
              refine r_goto (tgt := 59) dX7_takesClause_55 (by decide) ?_
              refine r_ireturn dX7_takesClause_59 ⟨_, rfl, rfl⟩ ?_
              exact ⟨fun b2 q => (by rw [e] at q; cases q), fun z b2 q => (by rw [e] at q; cases q; exact ⟨rfl, H4, G4.1, ew, en, fun _ => ⟨y2, t4, G4.2⟩⟩), FE⟩
    · have e : exprS X w n b = (none, b) := by rw [exprS, if_neg hw1, if_neg h32]
      refine r_aload_n dX7_takesClause_17 rfl ?_
      refine r_getR (j := 144) dX7_takesClause_18 k_X7_65 rfl (by decide) rfl rfl ?_
      refine r_iload_n dX7_takesClause_21 rfl ?_
      refine r_aload_n dX7_takesClause_22 rfl ?_
      refine r_getI dX7_takesClause_23 k_X7_53 rfl (by decide) rfl ?_
      rw [hdg]
      refine r_iast (c) dX7_takesClause_26 rfl rfl (show c < 60 by omega) ?_
      refine r_aload_n dX7_takesClause_27 rfl ?_
      refine r_getR (j := 143) dX7_takesClause_28 k_X7_62 rfl (by decide) rfl rfl ?_
      refine r_iload_n dX7_takesClause_31 rfl ?_
      refine r_iald (c) dX7_takesClause_32 rfl rfl (show c < 60 by omega) ?_
      rw [setI_ne (by decide), hwd]
      refine r_iconst (v := 1) dX7_takesClause_33 (by decide) ?_
      refine r_icmp_gt (tgt := 54) dX7_takesClause_34 (by decide) (fun c_34 => ?_) (fun c_34 => ?_)
      · exact absurd ((nI_lt' (a := 1) (b := w) (by omega) (by omega)).mp c_34) hw1
      · refine r_aload_n dX7_takesClause_37 rfl ?_
        refine r_bipush (v := 32) dX7_takesClause_38 (by decide) ?_
        rw [show (32 : Int32) = nI 32 from rfl]
        refine r_callV dX7_takesClause_40 l_X7_228 o_X7_takes v_X7_takes rfl (by decide) rfl rfl (m_X7_takes hG HA (c := 32) (by omega)) (by decide) rfl (Nat.le_of_ble_eq_true rfl) (fun r40 h40 hq40 => ?_)
        obtain ⟨rfl, rfl⟩ := hq40.2 h32
        refine r_if_eq (tgt := 58) dX7_takesClause_43 (by decide) (fun c_43 => ?_) (fun c_43 => ?_)
        · refine r_iconst (v := 0) dX7_takesClause_58 (by decide) ?_
          refine r_ireturn dX7_takesClause_59 ⟨_, rfl, rfl⟩ ?_
          exact ⟨fun b2 q => (by rw [e] at q; cases q; exact ⟨rfl, HA⟩), fun z b2 q => (by rw [e] at q; cases q), hF.tr FA⟩
        · exact absurd rfl c_43
set_option maxRecDepth 100000 in
theorem m_X7_takesClause {G : WT} {l : Launch} (hG : GOK G) {h : Hp} {X : Tx} {a c s0 z0 : Nat} (hc : c < 60) (hs : s0 ≤ 500 + z0) (hz : z0 ≤ a) (H : RAt h X a) (HL : RLe h) (hsg : h.1 134 23 = nI s0) : Cl G l 6 yX7_takesClause cX7_takesClause 2 (some .boolean) [.ref (gA G 134), .int (nI c)] h (fun r h' => ClPost X s0 c h (clauseS X a) r h') := by
  refine Cl.of hG (by decide) (Nat.le_of_ble_eq_true rfl) ?_
  show Wp G l 6 RX7 cX7_takesClause 2 (some .boolean) 0 [.ref (gA G 134), .int (nI c)] [] h _
  have hh := headS_ok X a
  have wa := wordS_at (headS X a).2 a hh.2 H.2.2.2
  have go15 : ∀ (g : Hp) (Q : Option Value → Hp → Prop), Q (some (.int 0)) g → Wp G l 6 RX7 cX7_takesClause 2 (some .boolean) 15 [.ref (gA G 134), .int (nI c)] [] g Q := by
    intro g Q k
    refine r_iconst (v := 0) dX7_takesClause_15 (by decide) ?_
    refine r_ireturn dX7_takesClause_16 ⟨_, rfl, rfl⟩ ?_
    exact k
  cases hw : (wordS X a (headS X a).2).1 with
  | false =>
    have e := clauseS_no hw
    refine r_aload_n dX7_takesClause_0 rfl ?_
    refine r_iload_n dX7_takesClause_1 rfl ?_
    refine r_callV dX7_takesClause_2 l_X7_262 o_X7_takesHead v_X7_takesHead rfl (by decide) rfl rfl (m_X7_takesHead hG hc H HL) (by decide) rfl (Nat.le_of_ble_eq_true rfl) (fun r2 h2 hq2 => ?_)
    obtain ⟨rfl, H2, w2, F2⟩ := hq2
    rw [hw]
    refine r_if_eq (tgt := 15) dX7_takesClause_5 (by decide) (fun c_5 => ?_) (fun c_5 => ?_)
    · exact go15 _ _ ⟨fun b2 q => (by rw [e] at q; cases q; exact ⟨rfl, H2⟩), fun z b2 q => (by rw [e] at q; cases q), hdF_cl F2⟩
    · exact absurd rfl c_5
  | true =>
    cases hn : numS X (wordS X a (headS X a).2).2 with
    | none =>
      have e := clauseS_nn hw hn
      refine r_aload_n dX7_takesClause_0 rfl ?_
      refine r_iload_n dX7_takesClause_1 rfl ?_
      refine r_callV dX7_takesClause_2 l_X7_262 o_X7_takesHead v_X7_takesHead rfl (by decide) rfl rfl (m_X7_takesHead hG hc H HL) (by decide) rfl (Nat.le_of_ble_eq_true rfl) (fun r2 h2 hq2 => ?_)
      obtain ⟨rfl, H2, w2, F2⟩ := hq2
      rw [hw]
      refine r_if_eq (tgt := 15) dX7_takesClause_5 (by decide) (fun c_5 => ?_) (fun c_5 => ?_)
      · exact absurd c_5 (by decide)
      · refine r_aload_n dX7_takesClause_8 rfl ?_
        refine r_callV dX7_takesClause_9 l_X7_243 o_X7_takesNumber v_X7_takesNumber rfl (by decide) rfl rfl (m_X7_takesNumber hG H2) (by decide) rfl (Nat.le_of_ble_eq_true rfl) (fun r9 h9 hq9 => ?_)
        obtain ⟨rfl, rfl⟩ := hq9.1 hn
        refine r_if_ne (tgt := 17) dX7_takesClause_12 (by decide) (fun c_12 => ?_) (fun c_12 => ?_)
        · exact absurd rfl c_12
        · exact go15 _ _ ⟨fun b2 q => (by rw [e] at q; cases q; exact ⟨rfl, H2⟩), fun z b2 q => (by rw [e] at q; cases q), hdF_cl F2⟩
    | some bn =>
      obtain ⟨b, n⟩ := bn
      have e := clauseS_go hw hn
      have z := num_at hn
      rw [e]
      refine r_aload_n dX7_takesClause_0 rfl ?_
      refine r_iload_n dX7_takesClause_1 rfl ?_
      refine r_callV dX7_takesClause_2 l_X7_262 o_X7_takesHead v_X7_takesHead rfl (by decide) rfl rfl (m_X7_takesHead hG hc H HL) (by decide) rfl (Nat.le_of_ble_eq_true rfl) (fun r2 h2 hq2 => ?_)
      obtain ⟨rfl, H2, w2, F2⟩ := hq2
      rw [hw]
      refine r_if_eq (tgt := 15) dX7_takesClause_5 (by decide) (fun c_5 => ?_) (fun c_5 => ?_)
      · exact absurd c_5 (by decide)
      · refine r_aload_n dX7_takesClause_8 rfl ?_
        refine r_callV dX7_takesClause_9 l_X7_243 o_X7_takesNumber v_X7_takesNumber rfl (by decide) rfl rfl (m_X7_takesNumber hG H2) (by decide) rfl (Nat.le_of_ble_eq_true rfl) (fun r9 h9 hq9 => ?_)
        obtain ⟨rfl, H3, d3, F3⟩ := hq9.2 b n hn
        refine r_if_ne (tgt := 17) dX7_takesClause_12 (by decide) (fun c_12 => ?_) (fun c_12 => ?_)
        · exact clause_rest hG hc hs (by omega) hh.1 z.2.2.1 H3 (by rw [F3.1 _ _ rfl, F2.1 _ _ (by simp [hdF, atF])]; exact hsg) (by rw [F3.1 _ _ rfl]; exact w2) d3 ((hdF_cl F2).tr (nuF_cl F3))
        · exact absurd c_12 (by decide)
/-! a house in the reference's rows: clauses 10 * f on, signs 100 * f on -/
def RCx (h : Hp) (c lo hi : Nat) (z : Cz) : Prop := h.1 143 c = nI z.1 ∧ h.1 144 c = nI z.2.1 ∧ (z.1 ≤ 1 → ∃ fr, lo ≤ fr ∧ h.1 145 c = nI fr ∧ h.1 146 c = nI (fr + z.2.2.length) ∧ fr + z.2.2.length ≤ hi ∧ (∀ (j : Nat) (t : Int), z.2.2[j]? = some t → h.1 147 (fr + j) = zI t) ∧ dpL 0 z.2.2 = some 1)
def RLs (h : Hp) (f : Nat) (L : List Cz) : Prop := ∀ c z, L[c]? = some z → RCx h (10 * f + c) (100 * f) (100 * f + 100) z ∧ z.1 ≤ 4 ∧ z.2.1 ≤ 99
/-- a house's cells from the reading's are others' -/
def gtF (f a i : Nat) : Bool := a == 134 && (i == 13 || i == 14 || i == 23 || i == 24 || i == 25) || a == 148 || (a == 142 && i == f) || ((a == 143 || a == 144 || a == 145 || a == 146) && decide (10 * f ≤ i ∧ i < 10 * f + 10)) || (a == 147 && decide (100 * f ≤ i))
theorem clF_gt {f s0 c : Nat} {h h' : Hp} (hs : 100 * f ≤ s0) (h1 : 10 * f ≤ c) (h2 : c < 10 * f + 10) (H : Fr (clF s0 c) h h') : Fr (gtF f) h h' := H.wk (fun x i q => by
  simp only [clF, tkF, eF, teF, whF, puF, nuF, gtF, Bool.or_eq_false_iff, Bool.and_eq_false_iff, beq_eq_false_iff_ne, ne_eq, decide_eq_false_iff_not] at q ⊢
  omega)
theorem RCx.fr {h h' : Hp} {c s0 k hi lo : Nat} {z : Cz} (H : RCx h c lo hi z) (hF : Fr (clF s0 k) h h') (hk : ¬ c = k) (hs : hi ≤ s0) : RCx h' c lo hi z := by
  obtain ⟨q1, q2, q3⟩ := H
  refine ⟨by rw [hF.1 _ _ (clF_n (by omega) (by omega) (by omega) (by omega))]; exact q1, by rw [hF.1 _ _ (clF_n (by omega) (by omega) (by omega) (by omega))]; exact q2, fun y => ?_⟩
  obtain ⟨fr, f0, f1, f2, f3, f4, f5⟩ := q3 y
  refine ⟨fr, f0, by rw [hF.1 _ _ (clF_n (by omega) (by omega) (by omega) (by omega))]; exact f1, by rw [hF.1 _ _ (clF_n (by omega) (by omega) (by omega) (by omega))]; exact f2, f3, fun j t q => ?_, f5⟩
  have hj : j < z.2.2.length := (List.getElem?_eq_some_iff.mp q).1
  rw [hF.1 _ _ (clF_n (by omega) (by omega) (by omega) (by omega))]
  exact f4 j t q
def RLp (h : Hp) (f s0 : Nat) (L : List Cz) : Prop := ∀ c z, L[c]? = some z → RCx h (10 * f + c) (100 * f) s0 z ∧ z.1 ≤ 4 ∧ z.2.1 ≤ 99
theorem RCx.up {h : Hp} {c lo hi hi2 : Nat} {z : Cz} (H : RCx h c lo hi z) (hh : hi ≤ hi2) : RCx h c lo hi2 z := ⟨H.1, H.2.1, fun y => by
  obtain ⟨fr, f0, f1, f2, f3, f4, f5⟩ := H.2.2 y
  exact ⟨fr, f0, f1, f2, by omega, f4, f5⟩⟩
def TxPost (X : Tx) (f : Nat) (h0 : Hp) (out : Option (List Cz) × Nat) (r : Option Value) (h' : Hp) : Prop := (∀ b, out = (none, b) → r = some (.int 0) ∧ RAt h' X b) ∧ (∀ L b, out = (some L, b) → r = some (.int 1) ∧ RAt h' X b ∧ RLs h' f L ∧ h'.1 142 f = nI L.length ∧ 0 < L.length ∧ L.length ≤ 10) ∧ Fr (gtF f) h0 h'
theorem textS_s {X : Tx} {k a b : Nat} {z : Cz} {L : List Cz} (h : clauseS X a = (some z, b)) : textS X (k + 1) a L = if b = X.1 then (some (L ++ [z]), b) else if k = 0 then (none, b) else if nx X b = 59 then textS X k (b + 1) (L ++ [z]) else (none, b) := by rw [textS, h]
theorem textS_n {X : Tx} {k a b : Nat} {L : List Cz} (h : clauseS X a = (none, b)) : textS X (k + 1) a L = (none, b) := by rw [textS, h]
theorem text_loop {G : WT} {l : Launch} (hG : GOK G) {X : Tx} {f : Nat} {h0 : Hp} (hf : f ≤ 5) : ∀ (k n a q0 : Nat) (L : List Cz) (g : Hp), k + n = 10 → 0 < k → L.length = n → q0 ≤ a → RAt g X a → RLe g → g.1 134 23 = nI (100 * f + q0) → RLp g f (100 * f + q0) L → Fr (gtF f) h0 g → Wp G l 7 RX7 cX7_goesText 3 (some .boolean) 15 [.ref (gA G 134), .int (nI f), .int (nI n)] [] g (TxPost X f h0 (textS X k a L)) := by
  intro k
  induction k with
  | zero => intro n a q0 L g _ h; omega
  | succ k ih =>
    intro n a q0 L g hkn h0k hLn hqa H HL hsg hLp hF
    have hX := H.2.1.1
    have ha := H.2.2.2
    have en : (10 : Int32) * nI f + nI n = nI (10 * f + n) := by rw [show (10 : Int32) = nI 10 from rfl, pk_mul, nI_add]
    cases hc : clauseS X a with
    | mk o b =>
      have ca := clauseS_at H.2.2.2 hc
      cases o with
      | none =>
        rw [textS_n hc]
        refine r_aload_n dX7_goesText_15 rfl ?_
        refine r_bipush (v := 10) dX7_goesText_16 (by decide) ?_
        refine r_iload_n dX7_goesText_18 rfl ?_
        refine r_imul dX7_goesText_19 ?_
        refine r_iload_n dX7_goesText_20 rfl ?_
        refine r_iadd dX7_goesText_21 ?_
        rw [en]
        refine r_callV dX7_goesText_22 l_X7_268 o_X7_takesClause v_X7_takesClause rfl (by decide) rfl rfl (m_X7_takesClause hG (show 10 * f + n < 60 by omega) (z0 := q0) (by omega) hqa H HL hsg) (by decide) rfl (Nat.le_of_ble_eq_true rfl) (fun r22 h22 hq22 => ?_)
        obtain ⟨y1, y2, y3⟩ := hq22
        obtain ⟨rfl, H2⟩ := y1 b hc
        refine r_if_ne (tgt := 30) dX7_goesText_25 (by decide) (fun c_25 => ?_) (fun c_25 => ?_)
        · exact absurd rfl c_25
        · refine r_iconst (v := 0) dX7_goesText_28 (by decide) ?_
          refine r_ireturn dX7_goesText_29 ⟨_, rfl, rfl⟩ ?_
          exact ⟨fun b2 q => (by cases q; exact ⟨rfl, H2⟩), fun L2 b2 q => (by cases q), hF.tr (clF_gt (by omega) (by omega) (by omega) y3)⟩
      | some z =>
        rw [textS_s hc]
        obtain ⟨z1, z2, z3, z4, z5⟩ := ca.2.2 z rfl
        have hLl : (L ++ [z]).length = n + 1 := by rw [List.length_append, hLn]; rfl
        have st : ∀ (g1 : Hp), RAt g1 X b → g1.1 134 23 = nI (100 * f + q0 + z.2.2.length) → g1.1 143 (10 * f + n) = nI z.1 → g1.1 144 (10 * f + n) = nI z.2.1 → (z.1 ≤ 1 → g1.1 145 (10 * f + n) = nI (100 * f + q0) ∧ g1.1 146 (10 * f + n) = nI (100 * f + q0 + z.2.2.length) ∧ ∀ j t, z.2.2[j]? = some t → g1.1 147 (100 * f + q0 + j) = zI t) → Fr (clF (100 * f + q0) (10 * f + n)) g g1 → RLp (setI g1 142 f (nI (n + 1))) f (100 * f + (q0 + z.2.2.length)) (L ++ [z]) := by
          intro g1 H2 s2 w2 n2 e2 F2 c y q
          have cv : ∀ (lo hi d : Nat) (x : Cz), RCx g1 d lo hi x → RCx (setI g1 142 f (nI (n + 1))) d lo hi x := fun lo hi d x u => ⟨by rw [setI_ne (by decide)]; exact u.1, by rw [setI_ne (by decide)]; exact u.2.1, fun v => by
            obtain ⟨fr, f0, f1, f2, f3, f4, f5⟩ := u.2.2 v
            exact ⟨fr, f0, by rw [setI_ne (by decide)]; exact f1, by rw [setI_ne (by decide)]; exact f2, f3, fun j t w => by rw [setI_ne (by decide)]; exact f4 j t w, f5⟩⟩
          by_cases hcn : c < L.length
          · rw [List.getElem?_append_left hcn] at q
            have u := hLp c y q
            exact ⟨cv _ _ _ _ ((u.1.fr F2 (by omega) (Nat.le_refl _)).up (by omega)), u.2⟩
          · by_cases hce : c = L.length
            · subst hce
              rw [List.getElem?_append_right (Nat.le_refl _), Nat.sub_self] at q
              have : z = y := Option.some.inj q
              subst this
              rw [hLn]
              refine ⟨cv _ _ _ _ ⟨w2, n2, fun v => ?_⟩, z2, z3⟩
              obtain ⟨e3, e4, e5⟩ := e2 v
              exact ⟨100 * f + q0, by omega, e3, e4, by omega, e5, z4 v⟩
            · rw [List.getElem?_eq_none (by rw [hLl]; omega)] at q
              cases q
        have F3 : ∀ (g1 : Hp), Fr (clF (100 * f + q0) (10 * f + n)) g g1 → Fr (gtF f) h0 (setI g1 142 f (nI (n + 1))) := fun g1 F2 => (hF.tr (clF_gt (by omega) (by omega) (by omega) F2)).tr (Fr.set (by simp [gtF]))
        have lets : ∀ (g1 : Hp), Fr (clF (100 * f + q0) (10 * f + n)) g g1 → RLe (setI g1 142 f (nI (n + 1))) := fun g1 F2 => (HL.fr F2 (fun j => clF_n (by omega) (by omega) (by omega) (by omega))).fr (Fr.set (S := fun a i => a == 142) rfl) (fun _ => rfl)
        by_cases hb : b = X.1
        · rw [if_pos hb]
          refine r_aload_n dX7_goesText_15 rfl ?_
          refine r_bipush (v := 10) dX7_goesText_16 (by decide) ?_
          refine r_iload_n dX7_goesText_18 rfl ?_
          refine r_imul dX7_goesText_19 ?_
          refine r_iload_n dX7_goesText_20 rfl ?_
          refine r_iadd dX7_goesText_21 ?_
          rw [en]
          refine r_callV dX7_goesText_22 l_X7_268 o_X7_takesClause v_X7_takesClause rfl (by decide) rfl rfl (m_X7_takesClause hG (show 10 * f + n < 60 by omega) (z0 := q0) (by omega) hqa H HL hsg) (by decide) rfl (Nat.le_of_ble_eq_true rfl) (fun r22 h22 hq22 => ?_)
          obtain ⟨y1, y2, y3⟩ := hq22
          obtain ⟨rfl, H2, s2, w2, n2, e2⟩ := y2 z b hc
          have st := st h22 H2 s2 w2 n2 e2 y3
          refine r_if_ne (tgt := 30) dX7_goesText_25 (by decide) (fun c_25 => ?_) (fun c_25 => ?_)
          · refine r_iinc dX7_goesText_30 rfl (by first | exact nI_inc _ | rfl) (by decide) rfl rfl ?_
            dsimp only [List.set]
            refine r_aload_n dX7_goesText_33 rfl ?_
            refine r_getR (j := 142) dX7_goesText_34 k_X7_59 rfl (by decide) rfl rfl ?_
            refine r_iload_n dX7_goesText_37 rfl ?_
            refine r_iload_n dX7_goesText_38 rfl ?_
            refine r_iast (f) dX7_goesText_39 rfl rfl (show f < 6 by omega) ?_
            refine r_aload_n dX7_goesText_40 rfl ?_
            refine r_getI dX7_goesText_41 k_X7_50 rfl (by decide) rfl ?_
            refine r_aload_n dX7_goesText_44 rfl ?_
            refine r_getI dX7_goesText_45 k_X7_47 rfl (by decide) rfl ?_
            rw [setI_ne (by decide), H2.1.1, setI_ne (by decide), H2.2.2.1]
            refine r_icmp_ne (tgt := 53) dX7_goesText_48 (by decide) (fun c_48 => ?_) (fun c_48 => ?_)
            · exact absurd (by rw [hb]) c_48
            · refine r_iconst (v := 1) dX7_goesText_51 (by decide) ?_
              refine r_ireturn dX7_goesText_52 ⟨_, rfl, rfl⟩ ?_
              refine ⟨fun b2 q => (by cases q), fun L2 b2 q => ?_, F3 _ y3⟩
              cases q
              refine ⟨rfl, H2.fr (Fr.set (S := fun a i => a == 142) rfl) rfl (fun _ => rfl) rfl, fun c y q => ⟨(st c y q).1.up (by omega), (st c y q).2⟩, by rw [setI_at, hLl], by omega, by omega⟩
          · exact absurd c_25 (by decide)
        · rw [if_neg hb]
          by_cases hk : k = 0
          · rw [if_pos hk]
            refine r_aload_n dX7_goesText_15 rfl ?_
            refine r_bipush (v := 10) dX7_goesText_16 (by decide) ?_
            refine r_iload_n dX7_goesText_18 rfl ?_
            refine r_imul dX7_goesText_19 ?_
            refine r_iload_n dX7_goesText_20 rfl ?_
            refine r_iadd dX7_goesText_21 ?_
            rw [en]
            refine r_callV dX7_goesText_22 l_X7_268 o_X7_takesClause v_X7_takesClause rfl (by decide) rfl rfl (m_X7_takesClause hG (show 10 * f + n < 60 by omega) (z0 := q0) (by omega) hqa H HL hsg) (by decide) rfl (Nat.le_of_ble_eq_true rfl) (fun r22 h22 hq22 => ?_)
            obtain ⟨y1, y2, y3⟩ := hq22
            obtain ⟨rfl, H2, s2, w2, n2, e2⟩ := y2 z b hc
            refine r_if_ne (tgt := 30) dX7_goesText_25 (by decide) (fun c_25 => ?_) (fun c_25 => ?_)
            · refine r_iinc dX7_goesText_30 rfl (by first | exact nI_inc _ | rfl) (by decide) rfl rfl ?_
              dsimp only [List.set]
              refine r_aload_n dX7_goesText_33 rfl ?_
              refine r_getR (j := 142) dX7_goesText_34 k_X7_59 rfl (by decide) rfl rfl ?_
              refine r_iload_n dX7_goesText_37 rfl ?_
              refine r_iload_n dX7_goesText_38 rfl ?_
              refine r_iast (f) dX7_goesText_39 rfl rfl (show f < 6 by omega) ?_
              refine r_aload_n dX7_goesText_40 rfl ?_
              refine r_getI dX7_goesText_41 k_X7_50 rfl (by decide) rfl ?_
              refine r_aload_n dX7_goesText_44 rfl ?_
              refine r_getI dX7_goesText_45 k_X7_47 rfl (by decide) rfl ?_
              rw [setI_ne (by decide), H2.1.1, setI_ne (by decide), H2.2.2.1]
              refine r_icmp_ne (tgt := 53) dX7_goesText_48 (by decide) (fun c_48 => ?_) (fun c_48 => ?_)
              · refine r_iload_n dX7_goesText_53 rfl ?_
                refine r_bipush (v := 10) dX7_goesText_54 (by decide) ?_
                refine r_icmp_eq (tgt := 68) dX7_goesText_56 (by decide) (fun c_56 => ?_) (fun c_56 => ?_)
                · refine r_iconst (v := 0) dX7_goesText_68 (by decide) ?_
                  refine r_ireturn dX7_goesText_69 ⟨_, rfl, rfl⟩ ?_
                  exact ⟨fun b2 q => (by cases q; exact ⟨rfl, H2.fr (Fr.set (S := fun a i => a == 142) rfl) rfl (fun _ => rfl) rfl⟩), fun L2 b2 q => (by cases q), F3 _ y3⟩
                · exact absurd (by rw [show n + 1 = 10 by omega]; rfl) c_56
              · exact absurd ((nI_eq' (by omega) (by omega)).mp c_48) hb
            · exact absurd c_25 (by decide)
          · rw [if_neg hk]
            by_cases h59 : nx X b = 59
            · rw [if_pos h59]
              have b1 := nx_in2 (X := X) (a := b) (by omega)
              refine r_aload_n dX7_goesText_15 rfl ?_
              refine r_bipush (v := 10) dX7_goesText_16 (by decide) ?_
              refine r_iload_n dX7_goesText_18 rfl ?_
              refine r_imul dX7_goesText_19 ?_
              refine r_iload_n dX7_goesText_20 rfl ?_
              refine r_iadd dX7_goesText_21 ?_
              rw [en]
              refine r_callV dX7_goesText_22 l_X7_268 o_X7_takesClause v_X7_takesClause rfl (by decide) rfl rfl (m_X7_takesClause hG (show 10 * f + n < 60 by omega) (z0 := q0) (by omega) hqa H HL hsg) (by decide) rfl (Nat.le_of_ble_eq_true rfl) (fun r22 h22 hq22 => ?_)
              obtain ⟨y1, y2, y3⟩ := hq22
              obtain ⟨rfl, H2, s2, w2, n2, e2⟩ := y2 z b hc
              have st := st h22 H2 s2 w2 n2 e2 y3
              have H3 : RAt (setI h22 142 f (nI (n + 1))) X b := H2.fr (Fr.set (S := fun a i => a == 142) rfl) rfl (fun _ => rfl) rfl
              refine r_if_ne (tgt := 30) dX7_goesText_25 (by decide) (fun c_25 => ?_) (fun c_25 => ?_)
              · refine r_iinc dX7_goesText_30 rfl (by first | exact nI_inc _ | rfl) (by decide) rfl rfl ?_
                dsimp only [List.set]
                refine r_aload_n dX7_goesText_33 rfl ?_
                refine r_getR (j := 142) dX7_goesText_34 k_X7_59 rfl (by decide) rfl rfl ?_
                refine r_iload_n dX7_goesText_37 rfl ?_
                refine r_iload_n dX7_goesText_38 rfl ?_
                refine r_iast (f) dX7_goesText_39 rfl rfl (show f < 6 by omega) ?_
                refine r_aload_n dX7_goesText_40 rfl ?_
                refine r_getI dX7_goesText_41 k_X7_50 rfl (by decide) rfl ?_
                refine r_aload_n dX7_goesText_44 rfl ?_
                refine r_getI dX7_goesText_45 k_X7_47 rfl (by decide) rfl ?_
                rw [setI_ne (by decide), H2.1.1, setI_ne (by decide), H2.2.2.1]
                refine r_icmp_ne (tgt := 53) dX7_goesText_48 (by decide) (fun c_48 => ?_) (fun c_48 => ?_)
                · refine r_iload_n dX7_goesText_53 rfl ?_
                  refine r_bipush (v := 10) dX7_goesText_54 (by decide) ?_
                  refine r_icmp_eq (tgt := 68) dX7_goesText_56 (by decide) (fun c_56 => ?_) (fun c_56 => ?_)
                  · exact absurd ((nI_eq' (a := n + 1) (b := 10) (by omega) (by omega)).mp c_56) (by omega)
                  · refine r_aload_n dX7_goesText_59 rfl ?_
                    refine r_bipush (v := 59) dX7_goesText_60 (by decide) ?_
                    rw [show (59 : Int32) = nI 59 from rfl]
                    refine r_callV dX7_goesText_62 l_X7_228 o_X7_takes v_X7_takes rfl (by decide) rfl rfl (m_X7_takes hG H3 (c := 59) (by omega)) (by decide) rfl (Nat.le_of_ble_eq_true rfl) (fun r62 h62 hq62 => ?_)
                    obtain ⟨rfl, rfl⟩ := hq62.1 h59
                    refine r_if_ne (tgt := 15) dX7_goesText_65 (by decide) (fun c_65 => ?_) (fun c_65 => ?_)
                    · refine ih (n + 1) (b + 1) (q0 + z.2.2.length) (L ++ [z]) _ (by omega) (by omega) hLl (by omega) (H3.mv b1) ((lets _ y3).fr (Fr.set (S := fun a i => a == 134) rfl) (fun _ => rfl)) ?_ ?_ ((F3 _ y3).tr (Fr.set (by simp [gtF])))
                      · rw [setI_nj (by decide), setI_ne (by decide), s2, Nat.add_assoc]
                      · intro c y q
                        have u := st c y q
                        refine ⟨⟨by rw [setI_ne (by decide)]; exact u.1.1, by rw [setI_ne (by decide)]; exact u.1.2.1, fun v => ?_⟩, u.2⟩
                        obtain ⟨fr, f0, f1, f2, f3, f4, f5⟩ := u.1.2.2 v
                        exact ⟨fr, f0, by rw [setI_ne (by decide)]; exact f1, by rw [setI_ne (by decide)]; exact f2, f3, fun j t w => by rw [setI_ne (by decide)]; exact f4 j t w, f5⟩
                    · exact absurd c_65 (by decide)
                · exact absurd ((nI_eq' (by omega) (by omega)).mp c_48) hb
              · exact absurd c_25 (by decide)
            · rw [if_neg h59]
              refine r_aload_n dX7_goesText_15 rfl ?_
              refine r_bipush (v := 10) dX7_goesText_16 (by decide) ?_
              refine r_iload_n dX7_goesText_18 rfl ?_
              refine r_imul dX7_goesText_19 ?_
              refine r_iload_n dX7_goesText_20 rfl ?_
              refine r_iadd dX7_goesText_21 ?_
              rw [en]
              refine r_callV dX7_goesText_22 l_X7_268 o_X7_takesClause v_X7_takesClause rfl (by decide) rfl rfl (m_X7_takesClause hG (show 10 * f + n < 60 by omega) (z0 := q0) (by omega) hqa H HL hsg) (by decide) rfl (Nat.le_of_ble_eq_true rfl) (fun r22 h22 hq22 => ?_)
              obtain ⟨y1, y2, y3⟩ := hq22
              obtain ⟨rfl, H2, s2, w2, n2, e2⟩ := y2 z b hc
              have H3 : RAt (setI h22 142 f (nI (n + 1))) X b := H2.fr (Fr.set (S := fun a i => a == 142) rfl) rfl (fun _ => rfl) rfl
              refine r_if_ne (tgt := 30) dX7_goesText_25 (by decide) (fun c_25 => ?_) (fun c_25 => ?_)
              · refine r_iinc dX7_goesText_30 rfl (by first | exact nI_inc _ | rfl) (by decide) rfl rfl ?_
                dsimp only [List.set]
                refine r_aload_n dX7_goesText_33 rfl ?_
                refine r_getR (j := 142) dX7_goesText_34 k_X7_59 rfl (by decide) rfl rfl ?_
                refine r_iload_n dX7_goesText_37 rfl ?_
                refine r_iload_n dX7_goesText_38 rfl ?_
                refine r_iast (f) dX7_goesText_39 rfl rfl (show f < 6 by omega) ?_
                refine r_aload_n dX7_goesText_40 rfl ?_
                refine r_getI dX7_goesText_41 k_X7_50 rfl (by decide) rfl ?_
                refine r_aload_n dX7_goesText_44 rfl ?_
                refine r_getI dX7_goesText_45 k_X7_47 rfl (by decide) rfl ?_
                rw [setI_ne (by decide), H2.1.1, setI_ne (by decide), H2.2.2.1]
                refine r_icmp_ne (tgt := 53) dX7_goesText_48 (by decide) (fun c_48 => ?_) (fun c_48 => ?_)
                · refine r_iload_n dX7_goesText_53 rfl ?_
                  refine r_bipush (v := 10) dX7_goesText_54 (by decide) ?_
                  refine r_icmp_eq (tgt := 68) dX7_goesText_56 (by decide) (fun c_56 => ?_) (fun c_56 => ?_)
                  · exact absurd ((nI_eq' (a := n + 1) (b := 10) (by omega) (by omega)).mp c_56) (by omega)
                  · refine r_aload_n dX7_goesText_59 rfl ?_
                    refine r_bipush (v := 59) dX7_goesText_60 (by decide) ?_
                    rw [show (59 : Int32) = nI 59 from rfl]
                    refine r_callV dX7_goesText_62 l_X7_228 o_X7_takes v_X7_takes rfl (by decide) rfl rfl (m_X7_takes hG H3 (c := 59) (by omega)) (by decide) rfl (Nat.le_of_ble_eq_true rfl) (fun r62 h62 hq62 => ?_)
                    obtain ⟨rfl, rfl⟩ := hq62.2 h59
                    refine r_if_ne (tgt := 15) dX7_goesText_65 (by decide) (fun c_65 => ?_) (fun c_65 => ?_)
                    · exact absurd rfl c_65
                    · refine r_iconst (v := 0) dX7_goesText_68 (by decide) ?_
                      refine r_ireturn dX7_goesText_69 ⟨_, rfl, rfl⟩ ?_
                      exact ⟨fun b2 q => (by cases q; exact ⟨rfl, H3⟩), fun L2 b2 q => (by cases q), F3 _ y3⟩
                · exact absurd ((nI_eq' (by omega) (by omega)).mp c_48) hb
              · exact absurd c_25 (by decide)
set_option maxRecDepth 100000 in
theorem m_X7_goesText {G : WT} {l : Launch} (hG : GOK G) {h : Hp} {X : Tx} {f : Nat} (hf : f ≤ 5) (HX : RTx h X) (hX : TxOK X) (HL : RLe h) : Cl G l 7 yX7_goesText cX7_goesText 3 (some .boolean) [.ref (gA G 134), .int (nI f)] h (fun r h' => TxPost X f h (houseT X) r h') := by
  refine Cl.of hG (by decide) (Nat.le_of_ble_eq_true rfl) ?_
  show Wp G l 7 RX7 cX7_goesText 3 (some .boolean) 0 [.ref (gA G 134), .int (nI f), mk0] [] h _
  have e1 : (100 : Int32) * nI f = nI (100 * f) := by rw [show (100 : Int32) = nI 100 from rfl, pk_mul]
  refine r_aload_n dX7_goesText_0 rfl ?_
  refine r_iconst (v := 0) dX7_goesText_1 (by decide) ?_
  refine r_putI dX7_goesText_2 k_X7_50 rfl (by decide) rfl rfl rfl rfl ?_
  refine r_aload_n dX7_goesText_5 rfl ?_
  refine r_bipush (v := 100) dX7_goesText_6 (by decide) ?_
  refine r_iload_n dX7_goesText_8 rfl ?_
  refine r_imul dX7_goesText_9 ?_
  rw [e1]
  refine r_putI dX7_goesText_10 k_X7_80 rfl (by decide) rfl rfl rfl rfl ?_
  refine r_iconst (v := 0) dX7_goesText_13 (by decide) ?_
  refine r_istore_n dX7_goesText_14 (by decide) rfl rfl ?_
  dsimp only [List.set]
  refine text_loop hG hf 10 0 0 0 [] _ (by omega) (by omega) rfl (by omega) ⟨⟨?_, fun j hj => ?_⟩, hX, ?_, Nat.zero_le _⟩ (fun j hj => ?_) setI_at (fun c z q => (by cases q)) ((Fr.set (by simp [gtF])).tr (Fr.set (by simp [gtF])))
  · rw [setI_nj (by decide), setI_nj (by decide)]; exact HX.1
  · rw [setI_ne (by decide), setI_ne (by decide)]; exact HX.2 j hj
  · rw [setI_nj (by decide), setI_at]; rfl
  · rw [setI_ne (by decide), setI_ne (by decide)]; exact HL j hj
