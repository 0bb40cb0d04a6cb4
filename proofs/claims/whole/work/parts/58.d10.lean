/-! faultOf -/
theorem HC.da2 {h h' : Hp} {q : Nat} {L : List Cz} (hq : ksh q = 1) (H : HC h q L) (hF : Fr dnF h h') : HC h' q L := H.ds hq (dn_ds hF)
theorem HC.dhs {h : Hp} {q : Nat} {L : List Cz} (H : HC h q L) (HB : DBl h q (flatS L)) (hf : FlatOK L) (h100 : (flatS L).length ≤ 100) (hz : ∀ z ∈ L, z.1 ≤ 4 ∧ z.2.1 ≤ 99 ∧ (z.1 ≤ 1 → dpL 0 z.2.2 = some 1)) : DHs h q (hvOf L) := by
  obtain ⟨h1, h2, h3, h4, h5, h6⟩ := H
  have gm : ∀ c, c < L.length → L.getD c cz0 ∈ L ∧ L[c]? = some (L.getD c cz0) := fun c hc => by
    rw [List.getD_eq_getElem?_getD, List.getElem?_eq_getElem hc]
    exact ⟨List.getElem_mem hc, rfl⟩
  refine ⟨h1, ⟨h2, fun c hc => ?_⟩, by rw [show (hvOf L).1 = L.length from rfl, ← hf.1]; exact h100, fun c hc => ?_, h4, h5, h6⟩
  · have := hz _ (gm c hc).1
    exact ⟨this.1, this.2.1⟩
  · obtain ⟨a1, a2, a3⟩ := h3 c hc
    refine ⟨a1, a2, a3, fun j t e => ?_, (hz _ (gm c hc).1).2.2⟩
    have k9 := HB.2 _ t (hf.2 c _ (gm c hc).2 j t e)
    rw [Nat.zero_add] at k9
    exact k9
def FxF (q : Nat) (h h' : Hp) : Prop := (∀ a i, dcF q a i = false → h'.1 a i = h.1 a i) ∧ h'.2.1 = h.2.1 ∧ h'.2.2 37 8 = h.2.2 37 8
def FPost (X : Tx) (q : Nat) (h : Hp) (out : Option (List Cz) × Nat) (r : Option Value) (h' : Hp) : Prop := (∀ b, out = (none, b) → r = some (.int (nI b)) ∧ b ≤ 100) ∧ (∀ L b, out = (some L, b) → r = some (.int (-1)) ∧ DHs h' q (hvOf L) ∧ 0 < L.length ∧ L.length ≤ 10) ∧ FxF q h h'
theorem fault_61 {G : WT} {l : Launch} (hG : GOK G) {X : Tx} {b : Nat} {good : Bool} {x1 x3 : Value} {g : Hp} {Q : Option Value → Hp → Prop} (H : DAt g X b) (k1 : good = true → b = X.1 → Q (some (.int (-1))) g) (k2 : ¬ (good = true ∧ b = X.1) → Q (some (.int (nI b))) g) : Wp G l 25 RX2 cX2_faultOf 4 (some .int) 61 [.ref (gA G 46), x1, .int (b01 good), x3] [] g Q := by
  have hX := H.2.1.1
  have hb := H.2.2.2
  cases good with
  | false =>
    refine r_iload_n dX2_faultOf_61 rfl ?_
    refine r_if_eq (tgt := 80) dX2_faultOf_62 (by decide) (fun c_62 => ?_) (fun c_62 => ?_)
    · refine r_aload_n dX2_faultOf_80 rfl ?_
      refine r_getI dX2_faultOf_81 k_X2_19 rfl (by decide) rfl ?_
      rw [H.2.2.1]
      refine r_ireturn dX2_faultOf_84 ⟨_, rfl, rfl⟩ ?_
      exact k2 (fun y => absurd y.1 Bool.false_ne_true)
    · exact absurd rfl c_62
  | true =>
    by_cases h1 : b = X.1
    · refine r_iload_n dX2_faultOf_61 rfl ?_
      refine r_if_eq (tgt := 80) dX2_faultOf_62 (by decide) (fun c_62 => ?_) (fun c_62 => ?_)
      · exact absurd c_62 (by decide)
      · refine r_aload_n dX2_faultOf_65 rfl ?_
        refine r_getI dX2_faultOf_66 k_X2_19 rfl (by decide) rfl ?_
        refine r_aload_n dX2_faultOf_69 rfl ?_
        refine r_getI dX2_faultOf_70 k_X2_15 rfl (by decide) rfl ?_
        rw [H.2.2.1, H.1.1]
        refine r_icmp_ne (tgt := 80) dX2_faultOf_73 (by decide) (fun c_73 => ?_) (fun c_73 => ?_)
        · exact absurd (by rw [h1]) c_73
        · refine r_iconst (v := -1) dX2_faultOf_76 (by decide) ?_
          refine r_goto (tgt := 84) dX2_faultOf_77 (by decide) ?_
          refine r_ireturn dX2_faultOf_84 ⟨_, rfl, rfl⟩ ?_
          exact k1 rfl h1
    · refine r_iload_n dX2_faultOf_61 rfl ?_
      refine r_if_eq (tgt := 80) dX2_faultOf_62 (by decide) (fun c_62 => ?_) (fun c_62 => ?_)
      · exact absurd c_62 (by decide)
      · refine r_aload_n dX2_faultOf_65 rfl ?_
        refine r_getI dX2_faultOf_66 k_X2_19 rfl (by decide) rfl ?_
        refine r_aload_n dX2_faultOf_69 rfl ?_
        refine r_getI dX2_faultOf_70 k_X2_15 rfl (by decide) rfl ?_
        rw [H.2.2.1, H.1.1]
        refine r_icmp_ne (tgt := 80) dX2_faultOf_73 (by decide) (fun c_73 => ?_) (fun c_73 => ?_)
        · refine r_aload_n dX2_faultOf_80 rfl ?_
          refine r_getI dX2_faultOf_81 k_X2_19 rfl (by decide) rfl ?_
          rw [H.2.2.1]
          refine r_ireturn dX2_faultOf_84 ⟨_, rfl, rfl⟩ ?_
          exact k2 (fun y => h1 y.2)
        · exact absurd ((nI_eq' (by omega) (by omega)).mp c_73) h1
/-- behind a clause that was read: what textS answers from there -/
def contS (X : Tx) (k b : Nat) (L : List Cz) : Option (List Cz) × Nat := if b = X.1 then (some L, b) else if k = 0 then (none, b) else if nx X b = 59 then textS X k (b + 1) L else (none, b)
theorem textS_c {X : Tx} {k a b : Nat} {z : Cz} {L : List Cz} (h : clauseS X a = (some z, b)) : textS X (k + 1) a L = contS X k b (L ++ [z]) := textS_s h
def LOK (X : Tx) (L : List Cz) (b : Nat) : Prop := FlatOK L ∧ (flatS L).length ≤ b ∧ ∀ z ∈ L, z.1 ≤ 4 ∧ z.2.1 ≤ 99 ∧ (z.1 ≤ 1 → dpL 0 z.2.2 = some 1)
theorem LOK.app {X : Tx} {L : List Cz} {a b : Nat} {z : Cz} (H : LOK X L a) (ha : a ≤ X.1) (h : clauseS X a = (some z, b)) : LOK X (L ++ [z]) b := by
  obtain ⟨z1, z2, z3⟩ := clauseS_at ha h
  obtain ⟨z4, z5, z6, z7, z8⟩ := z3 z rfl
  refine ⟨H.1.app, ?_, fun y hy => ?_⟩
  · rw [flat_app, List.length_append]
    have := H.2.1
    omega
  · rcases List.mem_append.mp hy with hy | hy
    · exact H.2.2 y hy
    · rw [List.mem_singleton.mp hy]
      exact ⟨z5, z6, z7⟩
theorem fault_loop {G : WT} {l : Launch} (hG : GOK G) {X : Tx} {q : Nat} {h0 : Hp} (hq : ksh q = 1) : ∀ (k n b : Nat) (L : List Cz) (g : Hp), k + n = 10 → L.length = n → 0 < n → g.2.2 46 4 = q → DAt g X b → DBl g q (flatS L) → HC g q L → LOK X L b → FxF q h0 g → Wp G l 25 RX2 cX2_faultOf 4 (some .int) 21 [.ref (gA G 46), .ref (gA G q), .int 1, .int (nI n)] [] g (FPost X q h0 (contS X k b L)) := by
  intro k
  induction k with
  | zero =>
    intro n b L g hn hL h0n hh H HB HL hO hF
    have hX := H.2.1.1
    have hb := H.2.2.2
    have k61 : ∀ x3, Wp G l 25 RX2 cX2_faultOf 4 (some .int) 61 [.ref (gA G 46), .ref (gA G q), .int (b01 true), x3] [] g (FPost X q h0 (contS X 0 b L)) := fun x3 => fault_61 hG H (fun _ e => by
      rw [contS, if_pos e]
      exact ⟨fun b9 y => (by cases y), fun L9 b9 y => (by cases y; exact ⟨rfl, HL.dhs HB hO.1 (by have := hO.2.1; omega) hO.2.2, by omega, HL.2.1⟩), hF⟩) (fun e => by
      rw [contS, if_neg (fun y => e ⟨rfl, y⟩), if_pos rfl]
      exact ⟨fun b9 y => (by cases y; exact ⟨rfl, by omega⟩), fun L9 b9 y => (by cases y), hF⟩)
    refine r_iload_n dX2_faultOf_21 rfl ?_
    refine r_bipush (v := 10) dX2_faultOf_22 (by decide) ?_
    refine r_icmp_ge (tgt := 61) dX2_faultOf_24 (by decide) (fun c_24 => ?_) (fun c_24 => ?_)
    · exact k61 _
    · exact absurd (by rw [show n = 10 by omega]; exact Int32.le_refl _) c_24
  | succ k ih =>
    intro n b L g hn hL h0n hh H HB HL hO hF
    have hX := H.2.1.1
    have hb := H.2.2.2
    by_cases h59 : nx X b = 59
    · have b1 := nx_in2 (X := X) (a := b) (by omega)
      have ec : contS X (k + 1) b L = textS X (k + 1) (b + 1) L := by rw [contS, if_neg (by omega), if_neg (by omega), if_pos h59]
      have H1 := H.mv (b := b + 1) b1
      have F1 : Fr dnF g (setI g 46 2 (nI (b + 1))) := Fr.set rfl
      have FX : ∀ g2, Fr (dcF q) (setI g 46 2 (nI (b + 1))) g2 → FxF q h0 g2 := fun g2 F2 => by
        have F3 := (ds_dc (dn_ds (q := q) F1)).tr F2
        exact ⟨fun a i e => (F3.1 a i e).trans (hF.1 a i e), by rw [F3.2]; exact hF.2.1, by rw [F3.2]; exact hF.2.2⟩
      have hO2 := hO.2.1
      rw [ec]
      cases hc : clauseS X (b + 1) with
      | mk o b2 =>
        cases o with
        | none =>
          rw [textS_n hc]
          refine r_iload_n dX2_faultOf_21 rfl ?_
          refine r_bipush (v := 10) dX2_faultOf_22 (by decide) ?_
          refine r_icmp_ge (tgt := 61) dX2_faultOf_24 (by decide) (fun c_24 => ?_) (fun c_24 => ?_)
          · exact absurd c_24 (nI_ge (a := n) (b := 10) (by omega) (by omega))
          · refine r_iload_n dX2_faultOf_27 rfl ?_
            refine r_if_eq (tgt := 61) dX2_faultOf_28 (by decide) (fun c_28 => ?_) (fun c_28 => ?_)
            · exact absurd c_28 (by decide)
            · refine r_aload_n dX2_faultOf_31 rfl ?_
              refine r_bipush (v := 59) dX2_faultOf_32 (by decide) ?_
              rw [show (59 : Int32) = nI 59 from rfl]
              refine r_callV dX2_faultOf_34 l_X2_39 o_X2_sees v_X2_sees rfl (by decide) rfl rfl (m_X2_sees hG H (c := 59) (by omega)) (by decide) rfl (Nat.le_of_ble_eq_true rfl) (fun r34 h34 hq34 => ?_)
              obtain ⟨rfl, rfl⟩ := hq34
              rw [decide_eq_true h59]
              refine r_if_eq (tgt := 61) dX2_faultOf_37 (by decide) (fun c_37 => ?_) (fun c_37 => ?_)
              · exact absurd c_37 (by decide)
              · refine r_aload_n dX2_faultOf_40 rfl ?_
                refine r_dup dX2_faultOf_41 rfl ?_
                refine r_getI dX2_faultOf_42 k_X2_19 rfl (by decide) rfl ?_
                refine r_iconst (v := 1) dX2_faultOf_45 (by decide) ?_
                refine r_iadd dX2_faultOf_46 ?_
                rw [H.2.2.1, nI_1]
                refine r_putI dX2_faultOf_47 k_X2_19 rfl (by decide) rfl rfl rfl rfl ?_
                refine r_aload_n dX2_faultOf_50 rfl ?_
                refine r_callV dX2_faultOf_51 l_X2_35 o_X2_readClause v_X2_readClause rfl (by decide) rfl rfl (m_X2_readClause hG hq hh H1 (HB.dn hq F1) (HL.da2 hq F1) (by omega) hO.1.1 (by omega)) (by decide) rfl (Nat.le_of_ble_eq_true rfl) (fun r51 h51 hq51 => ?_)
                obtain ⟨y1, y2, y3⟩ := hq51
                obtain ⟨rfl, H2⟩ := y1 b2 hc
                refine r_istore_n dX2_faultOf_54 (by decide) rfl rfl ?_
                dsimp only [List.set]
                refine r_iinc dX2_faultOf_55 rfl (by first | exact nI_inc _ | rfl) (by decide) rfl rfl ?_
                dsimp only [List.set]
                refine r_goto (tgt := 21) dX2_faultOf_58 (by decide) ?_
                have fl : ∀ x3, Wp G l 25 RX2 cX2_faultOf 4 (some .int) 61 [.ref (gA G 46), .ref (gA G q), .int (b01 false), x3] [] h51 (FPost X q h0 (none, b2)) := fun x3 => fault_61 hG H2 (fun e => absurd e Bool.false_ne_true) (fun _ => ⟨fun b9 y => (by cases y; exact ⟨rfl, by have := H2.2.2.2; omega⟩), fun L9 b9 y => (by cases y), FX _ y3⟩)
                refine r_iload_n dX2_faultOf_21 rfl ?_
                refine r_bipush (v := 10) dX2_faultOf_22 (by decide) ?_
                refine r_icmp_ge (tgt := 61) dX2_faultOf_24 (by decide) (fun c_24 => fl _) (fun c_24 => ?_)
                refine r_iload_n dX2_faultOf_27 rfl ?_
                exact r_if_eq (tgt := 61) dX2_faultOf_28 (by decide) (fun c_28 => fl _) (fun c_28 => absurd rfl c_28)
        | some z =>
          rw [textS_c hc]
          refine r_iload_n dX2_faultOf_21 rfl ?_
          refine r_bipush (v := 10) dX2_faultOf_22 (by decide) ?_
          refine r_icmp_ge (tgt := 61) dX2_faultOf_24 (by decide) (fun c_24 => ?_) (fun c_24 => ?_)
          · exact absurd c_24 (nI_ge (a := n) (b := 10) (by omega) (by omega))
          · refine r_iload_n dX2_faultOf_27 rfl ?_
            refine r_if_eq (tgt := 61) dX2_faultOf_28 (by decide) (fun c_28 => ?_) (fun c_28 => ?_)
            · exact absurd c_28 (by decide)
            · refine r_aload_n dX2_faultOf_31 rfl ?_
              refine r_bipush (v := 59) dX2_faultOf_32 (by decide) ?_
              rw [show (59 : Int32) = nI 59 from rfl]
              refine r_callV dX2_faultOf_34 l_X2_39 o_X2_sees v_X2_sees rfl (by decide) rfl rfl (m_X2_sees hG H (c := 59) (by omega)) (by decide) rfl (Nat.le_of_ble_eq_true rfl) (fun r34 h34 hq34 => ?_)
              obtain ⟨rfl, rfl⟩ := hq34
              rw [decide_eq_true h59]
              refine r_if_eq (tgt := 61) dX2_faultOf_37 (by decide) (fun c_37 => ?_) (fun c_37 => ?_)
              · exact absurd c_37 (by decide)
              · refine r_aload_n dX2_faultOf_40 rfl ?_
                refine r_dup dX2_faultOf_41 rfl ?_
                refine r_getI dX2_faultOf_42 k_X2_19 rfl (by decide) rfl ?_
                refine r_iconst (v := 1) dX2_faultOf_45 (by decide) ?_
                refine r_iadd dX2_faultOf_46 ?_
                rw [H.2.2.1, nI_1]
                refine r_putI dX2_faultOf_47 k_X2_19 rfl (by decide) rfl rfl rfl rfl ?_
                refine r_aload_n dX2_faultOf_50 rfl ?_
                refine r_callV dX2_faultOf_51 l_X2_35 o_X2_readClause v_X2_readClause rfl (by decide) rfl rfl (m_X2_readClause hG hq hh H1 (HB.dn hq F1) (HL.da2 hq F1) (by omega) hO.1.1 (by omega)) (by decide) rfl (Nat.le_of_ble_eq_true rfl) (fun r51 h51 hq51 => ?_)
                obtain ⟨y1, y2, y3⟩ := hq51
                obtain ⟨rfl, H2, B2, C2⟩ := y2 z b2 hc
                refine r_istore_n dX2_faultOf_54 (by decide) rfl rfl ?_
                dsimp only [List.set]
                refine r_iinc dX2_faultOf_55 rfl (by first | exact nI_inc _ | rfl) (by decide) rfl rfl ?_
                dsimp only [List.set]
                refine r_goto (tgt := 21) dX2_faultOf_58 (by decide) ?_
                exact ih (n + 1) b2 (L ++ [z]) h51 (by omega) (by rw [List.length_append, hL]; rfl) (by omega) (by rw [y3.2]; exact hh) H2 (by rw [flat_app]; exact B2) C2 (LOK.app (a := b + 1) ⟨hO.1, by omega, hO.2.2⟩ (by omega) hc) (FX _ y3)
    · have k61 : ∀ x3, Wp G l 25 RX2 cX2_faultOf 4 (some .int) 61 [.ref (gA G 46), .ref (gA G q), .int (b01 true), x3] [] g (FPost X q h0 (contS X (k + 1) b L)) := fun x3 => fault_61 hG H (fun _ e => by
        rw [contS, if_pos e]
        exact ⟨fun b9 y => (by cases y), fun L9 b9 y => (by cases y; exact ⟨rfl, HL.dhs HB hO.1 (by have := hO.2.1; omega) hO.2.2, by omega, HL.2.1⟩), hF⟩) (fun e => by
        rw [contS, if_neg (fun y => e ⟨rfl, y⟩), if_neg (by omega), if_neg h59]
        exact ⟨fun b9 y => (by cases y; exact ⟨rfl, by omega⟩), fun L9 b9 y => (by cases y), hF⟩)
      refine r_iload_n dX2_faultOf_21 rfl ?_
      refine r_bipush (v := 10) dX2_faultOf_22 (by decide) ?_
      refine r_icmp_ge (tgt := 61) dX2_faultOf_24 (by decide) (fun c_24 => ?_) (fun c_24 => ?_)
      · exact absurd c_24 (nI_ge (a := n) (b := 10) (by omega) (by omega))
      · refine r_iload_n dX2_faultOf_27 rfl ?_
        refine r_if_eq (tgt := 61) dX2_faultOf_28 (by decide) (fun c_28 => ?_) (fun c_28 => ?_)
        · exact absurd c_28 (by decide)
        · refine r_aload_n dX2_faultOf_31 rfl ?_
          refine r_bipush (v := 59) dX2_faultOf_32 (by decide) ?_
          rw [show (59 : Int32) = nI 59 from rfl]
          refine r_callV dX2_faultOf_34 l_X2_39 o_X2_sees v_X2_sees rfl (by decide) rfl rfl (m_X2_sees hG H (c := 59) (by omega)) (by decide) rfl (Nat.le_of_ble_eq_true rfl) (fun r34 h34 hq34 => ?_)
          obtain ⟨rfl, rfl⟩ := hq34
          rw [decide_eq_false h59]
          refine r_if_eq (tgt := 61) dX2_faultOf_37 (by decide) (fun c_37 => ?_) (fun c_37 => ?_)
          · exact k61 _
          · exact absurd rfl c_37
/-- the text in the developers' rows -/
def DTx (h : Hp) (X : Tx) : Prop := h.1 46 1 = nI X.1 ∧ ∀ j, j < X.1 → h.1 47 j = nI (X.2 j)
set_option maxRecDepth 100000 in
theorem m_X2_faultOf {G : WT} {l : Launch} (hG : GOK G) {h : Hp} {X : Tx} {q : Nat} (hq : ksh q = 1) (HX : DTx h X) (hX : TxOK X) : Cl G l 25 yX2_faultOf cX2_faultOf 4 (some .int) [.ref (gA G 46), .ref (gA G q)] h (fun r h' => FPost X q h (houseT X) r h') := by
  refine Cl.of hG (by decide) (Nat.le_of_ble_eq_true rfl) ?_
  show Wp G l 25 RX2 cX2_faultOf 4 (some .int) 0 [.ref (gA G 46), .ref (gA G q), mk0, mk0] [] h _
  obtain ⟨u, u1, u2⟩ := hs_at hq
  obtain ⟨g, hg⟩ : ∃ g, g = setD (setI h 46 2 0) 46 4 q := ⟨_, rfl⟩
  have e1 : g.1 = (setI h 46 2 0).1 := by rw [hg]; rfl
  have e2 : g.2.2 46 4 = q := by rw [hg, setD_3, if_pos ⟨rfl, rfl⟩]
  obtain ⟨g2, hg2⟩ : ∃ g2, g2 = setI (setI (setI (setI (setI g q 7 0) q 8 0) q 9 8) q 10 0) q 11 1 := ⟨_, rfl⟩
  have o2 : ∀ a i, ¬ a = q → g2.1 a i = g.1 a i := fun a i ha => by rw [hg2, setI_ne ha, setI_ne ha, setI_ne ha, setI_ne ha, setI_ne ha]
  have DA : DAt g2 X 0 := by
    refine ⟨⟨?_, fun j hj => ?_⟩, hX, ?_, Nat.zero_le _⟩
    · rw [o2 _ _ (by omega), e1, setI_nj (by decide)]; exact HX.1
    · rw [o2 _ _ (by omega), e1, setI_ne (by decide)]; exact HX.2 j hj
    · rw [o2 _ _ (by omega), e1, setI_at]; rfl
  have DB : DBl g2 q (flatS []) := ⟨by rw [hg2, setI_nj (by decide), setI_nj (by decide), setI_nj (by decide), setI_at]; rfl, fun j t e => by cases e⟩
  have DC : HC g2 q [] := by
    refine ⟨?_, by decide, fun c hc => absurd hc (by show ¬ c < 0; omega), ?_, ?_, ?_⟩
    · rw [hg2, setI_nj (by decide), setI_nj (by decide), setI_nj (by decide), setI_nj (by decide), setI_at]; rfl
    · rw [hg2, setI_nj (by decide), setI_nj (by decide), setI_at]; rfl
    · rw [hg2, setI_nj (by decide), setI_at]; rfl
    · rw [hg2, setI_at]; rfl
  have hh2 : g2.2.2 46 4 = q := by rw [hg2]; exact e2
  have FX : ∀ g3, Fr (dcF q) g2 g3 → FxF q h g3 := fun g3 F2 => by
    refine ⟨fun a i e => ?_, ?_, ?_⟩
    · rw [F2.1 a i e, hg2]
      have n1 : ¬ (a = q ∧ (i = 7 ∨ i = 8 ∨ i = 9 ∨ i = 10 ∨ i = 11)) := fun y => by
        simp only [dcF, dsF, dbF, daF, Bool.or_eq_false_iff, Bool.and_eq_false_iff, beq_eq_false_iff_ne, ne_eq, decide_eq_false_iff_not] at e
        omega
      have n2 : ¬ (a = 46 ∧ i = 2) := fun y => by
        simp only [dcF, dsF, dnF, Bool.or_eq_false_iff, Bool.and_eq_false_iff, beq_eq_false_iff_ne, ne_eq, decide_eq_false_iff_not] at e
        omega
      rw [setI_1, if_neg (by omega), setI_1, if_neg (by omega), setI_1, if_neg (by omega), setI_1, if_neg (by omega), setI_1, if_neg (by omega), e1, setI_1, if_neg n2]
    · rw [F2.2, hg2]
      show g.2.1 = h.2.1
      rw [hg]; rfl
    · rw [F2.2, hg2]
      show g.2.2 37 8 = h.2.2 37 8
      rw [hg, setD_3, if_neg (by decide)]; rfl
  have hO : LOK X [] 0 := ⟨FlatOK.nil, Nat.le_refl _, fun z y => absurd y List.not_mem_nil⟩
  cases hc : clauseS X 0 with
  | mk o b =>
    cases o with
    | none =>
      have et : houseT X = (none, b) := textS_n hc
      rw [et]
      refine r_aload_n dX2_faultOf_0 rfl ?_
      refine r_iconst (v := 0) dX2_faultOf_1 (by decide) ?_
      refine r_putI dX2_faultOf_2 k_X2_19 rfl (by decide) rfl rfl rfl rfl ?_
      refine r_aload_n dX2_faultOf_5 rfl ?_
      refine r_aload_n dX2_faultOf_6 rfl ?_
      refine r_putD dX2_faultOf_7 k_X2_28 rfl (by decide) rfl rfl rfl rfl rfl ?_
      rw [← hg]
      refine r_aload_n dX2_faultOf_10 rfl ?_
      refine r_callV dX2_faultOf_11 l_X2_32 o_X1_clear v_X1_clear (by assumption) (by decide) rfl rfl (m_X1_clear hG hq) (by decide) rfl (Nat.le_of_ble_eq_true rfl) (fun r11 h11 hq11 => ?_)
      obtain ⟨rfl, rfl⟩ := hq11
      rw [← hg2]
      refine r_aload_n dX2_faultOf_14 rfl ?_
      refine r_callV dX2_faultOf_15 l_X2_35 o_X2_readClause v_X2_readClause rfl (by decide) rfl rfl (m_X2_readClause hG hq hh2 DA DB DC (by decide) rfl (by decide)) (by decide) rfl (Nat.le_of_ble_eq_true rfl) (fun r15 h15 hq15 => ?_)
      obtain ⟨y1, y2, y3⟩ := hq15
      obtain ⟨rfl, H2⟩ := y1 b hc
      refine r_istore_n dX2_faultOf_18 (by decide) rfl rfl ?_
      dsimp only [List.set]
      refine r_iconst (v := 1) dX2_faultOf_19 (by decide) ?_
      refine r_istore_n dX2_faultOf_20 (by decide) rfl rfl ?_
      dsimp only [List.set]
      have fl : ∀ x3, Wp G l 25 RX2 cX2_faultOf 4 (some .int) 61 [.ref (gA G 46), .ref (gA G q), .int (b01 false), x3] [] h15 (FPost X q h (none, b)) := fun x3 => fault_61 hG H2 (fun e => absurd e Bool.false_ne_true) (fun _ => ⟨fun b9 y => (by cases y; exact ⟨rfl, by have := H2.2.2.2; have := hX.1; omega⟩), fun L9 b9 y => (by cases y), FX _ y3⟩)
      refine r_iload_n dX2_faultOf_21 rfl ?_
      refine r_bipush (v := 10) dX2_faultOf_22 (by decide) ?_
      refine r_icmp_ge (tgt := 61) dX2_faultOf_24 (by decide) (fun c_24 => fl _) (fun c_24 => ?_)
      refine r_iload_n dX2_faultOf_27 rfl ?_
      exact r_if_eq (tgt := 61) dX2_faultOf_28 (by decide) (fun c_28 => fl _) (fun c_28 => absurd rfl c_28)
    | some z =>
      have et : houseT X = contS X 9 b ([] ++ [z]) := textS_c hc
      rw [et]
      refine r_aload_n dX2_faultOf_0 rfl ?_
      refine r_iconst (v := 0) dX2_faultOf_1 (by decide) ?_
      refine r_putI dX2_faultOf_2 k_X2_19 rfl (by decide) rfl rfl rfl rfl ?_
      refine r_aload_n dX2_faultOf_5 rfl ?_
      refine r_aload_n dX2_faultOf_6 rfl ?_
      refine r_putD dX2_faultOf_7 k_X2_28 rfl (by decide) rfl rfl rfl rfl rfl ?_
      rw [← hg]
      refine r_aload_n dX2_faultOf_10 rfl ?_
      refine r_callV dX2_faultOf_11 l_X2_32 o_X1_clear v_X1_clear (by assumption) (by decide) rfl rfl (m_X1_clear hG hq) (by decide) rfl (Nat.le_of_ble_eq_true rfl) (fun r11 h11 hq11 => ?_)
      obtain ⟨rfl, rfl⟩ := hq11
      rw [← hg2]
      refine r_aload_n dX2_faultOf_14 rfl ?_
      refine r_callV dX2_faultOf_15 l_X2_35 o_X2_readClause v_X2_readClause rfl (by decide) rfl rfl (m_X2_readClause hG hq hh2 DA DB DC (by decide) rfl (by decide)) (by decide) rfl (Nat.le_of_ble_eq_true rfl) (fun r15 h15 hq15 => ?_)
      obtain ⟨y1, y2, y3⟩ := hq15
      obtain ⟨rfl, H2, B2, C2⟩ := y2 z b hc
      refine r_istore_n dX2_faultOf_18 (by decide) rfl rfl ?_
      dsimp only [List.set]
      refine r_iconst (v := 1) dX2_faultOf_19 (by decide) ?_
      refine r_istore_n dX2_faultOf_20 (by decide) rfl rfl ?_
      dsimp only [List.set]
      exact fault_loop hG hq 9 1 b ([] ++ [z]) h15 (by omega) rfl (by omega) (by rw [y3.2]; exact hh2) H2 (by rw [flat_app]; exact B2) C2 (hO.app (Nat.zero_le _) hc) (FX _ y3)
