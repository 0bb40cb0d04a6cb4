/-! clauses put in a house -/
abbrev cz0 : Cz := (0, 0, [])
def flatS (L : List Cz) : List Int := L.flatMap (fun z => z.2.2)
def FlatOK (L : List Cz) : Prop := (flatS L).length = enS (hvOf L) L.length ∧ ∀ c z, L[c]? = some z → ∀ j t, z.2.2[j]? = some t → (flatS L)[enS (hvOf L) c + j]? = some t
theorem flat_app (L : List Cz) (z : Cz) : flatS (L ++ [z]) = flatS L ++ z.2.2 := by simp [flatS]
theorem gd_app {L : List Cz} {z : Cz} {c : Nat} (hc : c < L.length) : (L ++ [z]).getD c cz0 = L.getD c cz0 := by
  rw [List.getD_eq_getElem?_getD, List.getD_eq_getElem?_getD, List.getElem?_append_left hc]
theorem gd_end {L : List Cz} {z : Cz} : (L ++ [z]).getD L.length cz0 = z := by
  rw [List.getD_eq_getElem?_getD, List.getElem?_append_right (Nat.le_refl _), Nat.sub_self]; rfl
theorem sumTo_congr {f g : Nat → Nat} : ∀ n, (∀ c, c < n → f c = g c) → sumTo f n = sumTo g n := by
  intro n
  induction n with
  | zero => intro _; rfl
  | succ n ih =>
    intro h
    show sumTo f n + f n = sumTo g n + g n
    rw [ih (fun c hc => h c (by omega)), h n (by omega)]
theorem enS_app {L : List Cz} {z : Cz} {c : Nat} (hc : c ≤ L.length) : enS (hvOf (L ++ [z])) c = enS (hvOf L) c := sumTo_congr c (fun j hj => by
  show ((L ++ [z]).getD j cz0).2.2.length = (L.getD j cz0).2.2.length
  rw [gd_app (by omega)])
theorem enS_end {L : List Cz} {z : Cz} : enS (hvOf (L ++ [z])) (L.length + 1) = enS (hvOf L) L.length + z.2.2.length := by
  show enS (hvOf (L ++ [z])) L.length + ((L ++ [z]).getD L.length cz0).2.2.length = _
  rw [enS_app (Nat.le_refl _), gd_end]
theorem FlatOK.nil : FlatOK [] := ⟨rfl, fun c z h => by cases h⟩
theorem FlatOK.app {L : List Cz} {z : Cz} (H : FlatOK L) : FlatOK (L ++ [z]) := by
  refine ⟨?_, fun c y e j t e2 => ?_⟩
  · rw [flat_app, List.length_append, H.1, List.length_append]
    exact enS_end.symm
  · rw [flat_app]
    by_cases hc : c < L.length
    · rw [List.getElem?_append_left hc] at e
      rw [enS_app (by omega)]
      have k9 := H.2 c y e j t e2
      rw [List.getElem?_append_left (List.getElem?_eq_some_iff.mp k9).1]
      exact k9
    · by_cases hc2 : c = L.length
      · subst hc2
        rw [List.getElem?_append_right (Nat.le_refl _), Nat.sub_self] at e
        have : z = y := Option.some.inj e
        subst this
        rw [enS_app (Nat.le_refl _), List.getElem?_append_right (by rw [H.1]; omega), H.1, Nat.add_sub_cancel_left]
        exact e2
      · rw [List.getElem?_eq_none (by rw [List.length_append]; show L.length + 1 ≤ c; omega)] at e
        cases e
theorem lastTo_congr {p p' : Nat → Bool} {v v' : Nat → Nat} {d : Nat} : ∀ n, (∀ c, c < n → p c = p' c ∧ v c = v' c) → lastTo p v d n = lastTo p' v' d n := by
  intro n
  induction n with
  | zero => intro _; rfl
  | succ n ih =>
    intro h
    show (if p n = true then v n else lastTo p v d n) = (if p' n = true then v' n else lastTo p' v' d n)
    rw [ih (fun c hc => h c (by omega)), (h n (by omega)).1, (h n (by omega)).2]
theorem lastS_app {L : List Cz} {z : Cz} {w d : Nat} : lastS (hvOf (L ++ [z])) w d = if z.1 = w then z.2.1 else lastS (hvOf L) w d := by
  unfold lastS
  have e1 : (hvOf (L ++ [z])).1 = L.length + 1 := by show (L ++ [z]).length = _; rw [List.length_append]; rfl
  rw [e1]
  show (if isS (hvOf (L ++ [z])) w L.length = true then ((L ++ [z]).getD L.length cz0).2.1 else lastTo (isS (hvOf (L ++ [z])) w) (hvOf (L ++ [z])).2.2.1 d L.length) = _
  have e2 : isS (hvOf (L ++ [z])) w L.length = decide (z.1 = w) := by
    unfold isS
    show decide (((L ++ [z]).getD L.length cz0).1 = w) = _
    rw [gd_end]
  have e3 : lastTo (isS (hvOf (L ++ [z])) w) (hvOf (L ++ [z])).2.2.1 d L.length = lastTo (isS (hvOf L) w) (hvOf L).2.2.1 d (hvOf L).1 := lastTo_congr L.length (fun c hc => by
    constructor
    · unfold isS
      show decide (((L ++ [z]).getD c cz0).1 = w) = decide ((L.getD c cz0).1 = w)
      rw [gd_app hc]
    · show ((L ++ [z]).getD c cz0).2.1 = (L.getD c cz0).2.1
      rw [gd_app hc])
  rw [e2, e3, gd_end]
  by_cases h9 : z.1 = w
  · rw [decide_eq_true h9, if_pos rfl, if_pos h9]
  · rw [decide_eq_false h9, if_neg Bool.false_ne_true, if_neg h9]
/-- the clauses that stand in a house -/
def HC (h : Hp) (q : Nat) (L : List Cz) : Prop := h.1 q 7 = nI L.length ∧ L.length ≤ 10 ∧ (∀ c, c < L.length → h.1 (q + 1) c = nI (L.getD c cz0).1 ∧ h.1 (q + 2) c = nI (L.getD c cz0).2.1 ∧ h.1 (q + 3) c = nI (enS (hvOf L) (c + 1))) ∧ h.1 q 9 = nI (loafS (hvOf L)) ∧ h.1 q 10 = nI (lawS (hvOf L)) ∧ h.1 q 11 = nI (scaleS (hvOf L))
def daF (q a i : Nat) : Bool := (a == q && (i == 7 || i == 9 || i == 10 || i == 11)) || (decide (q + 1 ≤ a) && decide (a ≤ q + 3))
theorem HC.ext {h h' : Hp} {q : Nat} {L : List Cz} (H : HC h q L) (e0 : ∀ i, i = 7 ∨ i = 9 ∨ i = 10 ∨ i = 11 → h'.1 q i = h.1 q i) (e1 : ∀ a i, q + 1 ≤ a → a ≤ q + 3 → h'.1 a i = h.1 a i) : HC h' q L := by
  obtain ⟨h1, h2, h3, h4, h5, h6⟩ := H
  refine ⟨by rw [e0 _ (by omega)]; exact h1, h2, fun c hc => ?_, by rw [e0 _ (by omega)]; exact h4, by rw [e0 _ (by omega)]; exact h5, by rw [e0 _ (by omega)]; exact h6⟩
  rw [e1 _ _ (by omega) (by omega), e1 _ _ (by omega) (by omega), e1 _ _ (by omega) (by omega)]
  exact h3 c hc
theorem HC.ds {h h' : Hp} {q : Nat} {L : List Cz} (hq : ksh q = 1) (H : HC h q L) (hF : Fr (dsF q) h h') : HC h' q L := by
  obtain ⟨k, k1, rfl⟩ := hs_at hq
  exact H.ext (fun i hi => hF.1 _ _ (by simp [dsF, dbF, dnF]; omega)) (fun a i h1 h2 => hF.1 _ _ (by simp [dsF, dbF, dnF]; omega))
theorem HC.put {h g : Hp} {q n w m : Nat} {L : List Cz} {cs : List Int} (H : HC h q L) (hn : L.length = n) (hl : n < 10) (hm : nI m = nI (enS (hvOf L) L.length + cs.length)) {v : Nat}
    (hg : ∀ a i, ¬ (a = q ∧ (i = 7 ∨ i = 9 ∨ i = 10 ∨ i = 11)) → g.1 a i = (setI (setI (setI h (q + 1) n (nI w)) (q + 2) n (nI v)) (q + 3) n (nI m)).1 a i)
    (g7 : g.1 q 7 = nI (n + 1)) (g9 : g.1 q 9 = if w = 2 then nI v else h.1 q 9) (g10 : g.1 q 10 = if w = 3 then nI (v % 3) else h.1 q 10) (g11 : g.1 q 11 = if w = 4 then nI (if v = 0 then 1 else v) else h.1 q 11) : HC g q (L ++ [(w, v, cs)]) := by
  subst hn
  obtain ⟨h1, h2, h3, h4, h5, h6⟩ := H
  have hl2 : (L ++ [(w, v, cs)]).length = L.length + 1 := by rw [List.length_append]; rfl
  refine ⟨by rw [g7, hl2], by omega, fun c hc => ?_, ?_, ?_, ?_⟩
  · rw [hg (q + 1) c (by omega), hg (q + 2) c (by omega), hg (q + 3) c (by omega)]
    by_cases hc2 : c < L.length
    · rw [gd_app hc2, enS_app (by omega), setI_nj (by omega), setI_nj (by omega), setI_nj (by omega), setI_nj (by omega), setI_nj (by omega), setI_nj (by omega), setI_nj (by omega), setI_nj (by omega), setI_nj (by omega)]
      exact h3 c hc2
    · have e : c = L.length := by omega
      subst e
      rw [gd_end, enS_end]
      refine ⟨?_, ?_, ?_⟩
      · rw [setI_ne (by omega), setI_ne (by omega), setI_at]
      · rw [setI_ne (by omega), setI_at]
      · rw [setI_at, hm]
  · rw [g9, loafS, lastS_app]
    show _ = nI (if w = 2 then v else _)
    split
    · rfl
    · exact h4
  · rw [g10, lawS, lastS_app]
    show _ = nI ((if w = 3 then v else _) % 3)
    split
    · rfl
    · exact h5
  · rw [g11, scaleS, lastS_app]
    show _ = nI (if (if w = 4 then v else _) = 0 then 1 else (if w = 4 then v else _))
    split
    · rfl
    · exact h6
set_option maxRecDepth 100000 in
theorem m_X1_addClause {G : WT} {l : Launch} (hG : GOK G) {h : Hp} {q w v m : Nat} {L : List Cz} {cs : List Int} (hq : ksh q = 1) (H : HC h q L) (hl : L.length < 10) (hw : w ≤ 4) (hv : v ≤ 99) (h8 : h.1 q 8 = nI m) (hm : m = enS (hvOf L) L.length + cs.length) : Cl G l 2 yX1_addClause cX1_addClause 3 none [.ref (gA G q), .int (nI w), .int (nI v)] h (fun r h' => r = none ∧ HC h' q (L ++ [(w, v, cs)]) ∧ Fr (daF q) h h') := by
  refine Cl.of hG (by decide) (Nat.le_of_ble_eq_true rfl) ?_
  show Wp G l 2 RX1 cX1_addClause 3 none 0 [.ref (gA G q), .int (nI w), .int (nI v)] [] h _
  have i1 : (setI h (q + 1) L.length (nI w)).1 q 7 = nI L.length := by rw [setI_ne (by omega)]; exact H.1
  have i2 : (setI (setI h (q + 1) L.length (nI w)) (q + 2) L.length (nI v)).1 q 7 = nI L.length := by rw [setI_ne (by omega)]; exact i1
  have i3 : (setI (setI h (q + 1) L.length (nI w)) (q + 2) L.length (nI v)).1 q 8 = nI m := by rw [setI_ne (by omega), setI_ne (by omega)]; exact h8
  have i4 : (setI (setI (setI h (q + 1) L.length (nI w)) (q + 2) L.length (nI v)) (q + 3) L.length (nI m)).1 q 7 = nI L.length := by rw [setI_ne (by omega)]; exact i2
  have FA : Fr (daF q) h (setI (setI (setI (setI h (q + 1) L.length (nI w)) (q + 2) L.length (nI v)) (q + 3) L.length (nI m)) q 7 (nI (L.length + 1))) := (((Fr.set (by simp [daF])).tr (Fr.set (by simp [daF]))).tr (Fr.set (by simp [daF]))).tr (Fr.set (by simp [daF]))
  have o9 : ∀ i, ¬ i = 7 → (setI (setI (setI (setI h (q + 1) L.length (nI w)) (q + 2) L.length (nI v)) (q + 3) L.length (nI m)) q 7 (nI (L.length + 1))).1 q i = h.1 q i := fun i hi => by rw [setI_nj hi, setI_ne (by omega), setI_ne (by omega), setI_ne (by omega)]
  have put := fun (g : Hp) => H.put (g := g) (n := L.length) (w := w) (m := m) (cs := cs) (v := v) rfl hl (by rw [hm])
  by_cases w2 : w = 2
  · subst w2
    refine r_aload_n dX1_addClause_0 rfl ?_
    refine r_getI dX1_addClause_1 k_X1_33 (by assumption) (by decide) rfl ?_
    refine r_bipush (v := 10) dX1_addClause_4 (by decide) ?_
    rw [H.1]
    refine r_icmp_lt (tgt := 10) dX1_addClause_6 (by decide) (fun c_6 => ?_) (fun c_6 => ?_)
    · refine r_aload_n dX1_addClause_10 rfl ?_
      refine r_getR (j := q + 1) dX1_addClause_11 k_X1_9 (by assumption) (by decide) rfl (rf_H (by assumption) (by decide)) ?_
      refine r_aload_n dX1_addClause_14 rfl ?_
      refine r_getI dX1_addClause_15 k_X1_33 (by assumption) (by decide) rfl ?_
      refine r_iload_n dX1_addClause_18 rfl ?_
      refine r_iast (L.length) dX1_addClause_19 (ks_H (by assumption) (by decide)) H.1 (bH1 0 hq (by decide) hl) ?_
      refine r_aload_n dX1_addClause_20 rfl ?_
      refine r_getR (j := q + 2) dX1_addClause_21 k_X1_15 (by assumption) (by decide) rfl (rf_H (by assumption) (by decide)) ?_
      refine r_aload_n dX1_addClause_24 rfl ?_
      refine r_getI dX1_addClause_25 k_X1_33 (by assumption) (by decide) rfl ?_
      refine r_iload_n dX1_addClause_28 rfl ?_
      refine r_iast (L.length) dX1_addClause_29 (ks_H (by assumption) (by decide)) i1 (bH1 1 hq (by decide) hl) ?_
      refine r_aload_n dX1_addClause_30 rfl ?_
      refine r_getR (j := q + 3) dX1_addClause_31 k_X1_18 (by assumption) (by decide) rfl (rf_H (by assumption) (by decide)) ?_
      refine r_aload_n dX1_addClause_34 rfl ?_
      refine r_getI dX1_addClause_35 k_X1_33 (by assumption) (by decide) rfl ?_
      refine r_aload_n dX1_addClause_38 rfl ?_
      refine r_getI dX1_addClause_39 k_X1_37 (by assumption) (by decide) rfl ?_
      rw [i3]
      refine r_iast (L.length) dX1_addClause_42 (ks_H (by assumption) (by decide)) i2 (bH1 2 hq (by decide) hl) ?_
      refine r_aload_n dX1_addClause_43 rfl ?_
      refine r_dup dX1_addClause_44 rfl ?_
      refine r_getI dX1_addClause_45 k_X1_33 (by assumption) (by decide) rfl ?_
      refine r_iconst (v := 1) dX1_addClause_48 (by decide) ?_
      refine r_iadd dX1_addClause_49 ?_
      rw [i4, nI_1]
      refine r_putI dX1_addClause_50 k_X1_33 (by assumption) (by decide) rfl rfl rfl rfl ?_
      refine r_iload_n dX1_addClause_53 rfl ?_
      · refine r_tsw 80 dX1_addClause_54 rfl (by decide) rfl ?_
        refine r_aload_n dX1_addClause_80 rfl ?_
        refine r_iload_n dX1_addClause_81 rfl ?_
        refine r_putI dX1_addClause_82 k_X1_40 (by assumption) (by decide) rfl rfl rfl rfl ?_
        refine r_goto (tgt := 110) dX1_addClause_85 (by decide) ?_
        refine r_return dX1_addClause_110 rfl ?_
        refine ⟨rfl, put _ (fun a i hn => ?_) ?_ ?_ ?_ ?_, FA.tr (Fr.set (by simp [daF]))⟩
        · rw [setI_1, if_neg (by omega), setI_1, if_neg (by omega)]
        · rw [setI_nj (by decide), setI_at]
        · rw [setI_at]; rfl
        · rw [setI_nj (by decide), o9 _ (by decide)]; rfl
        · rw [setI_nj (by decide), o9 _ (by decide)]; rfl
    · exact absurd (nI_lt (a := L.length) (b := 10) (by omega) (by omega)) c_6
  · by_cases w3 : w = 3
    · subst w3
      refine r_aload_n dX1_addClause_0 rfl ?_
      refine r_getI dX1_addClause_1 k_X1_33 (by assumption) (by decide) rfl ?_
      refine r_bipush (v := 10) dX1_addClause_4 (by decide) ?_
      rw [H.1]
      refine r_icmp_lt (tgt := 10) dX1_addClause_6 (by decide) (fun c_6 => ?_) (fun c_6 => ?_)
      · refine r_aload_n dX1_addClause_10 rfl ?_
        refine r_getR (j := q + 1) dX1_addClause_11 k_X1_9 (by assumption) (by decide) rfl (rf_H (by assumption) (by decide)) ?_
        refine r_aload_n dX1_addClause_14 rfl ?_
        refine r_getI dX1_addClause_15 k_X1_33 (by assumption) (by decide) rfl ?_
        refine r_iload_n dX1_addClause_18 rfl ?_
        refine r_iast (L.length) dX1_addClause_19 (ks_H (by assumption) (by decide)) H.1 (bH1 0 hq (by decide) hl) ?_
        refine r_aload_n dX1_addClause_20 rfl ?_
        refine r_getR (j := q + 2) dX1_addClause_21 k_X1_15 (by assumption) (by decide) rfl (rf_H (by assumption) (by decide)) ?_
        refine r_aload_n dX1_addClause_24 rfl ?_
        refine r_getI dX1_addClause_25 k_X1_33 (by assumption) (by decide) rfl ?_
        refine r_iload_n dX1_addClause_28 rfl ?_
        refine r_iast (L.length) dX1_addClause_29 (ks_H (by assumption) (by decide)) i1 (bH1 1 hq (by decide) hl) ?_
        refine r_aload_n dX1_addClause_30 rfl ?_
        refine r_getR (j := q + 3) dX1_addClause_31 k_X1_18 (by assumption) (by decide) rfl (rf_H (by assumption) (by decide)) ?_
        refine r_aload_n dX1_addClause_34 rfl ?_
        refine r_getI dX1_addClause_35 k_X1_33 (by assumption) (by decide) rfl ?_
        refine r_aload_n dX1_addClause_38 rfl ?_
        refine r_getI dX1_addClause_39 k_X1_37 (by assumption) (by decide) rfl ?_
        rw [i3]
        refine r_iast (L.length) dX1_addClause_42 (ks_H (by assumption) (by decide)) i2 (bH1 2 hq (by decide) hl) ?_
        refine r_aload_n dX1_addClause_43 rfl ?_
        refine r_dup dX1_addClause_44 rfl ?_
        refine r_getI dX1_addClause_45 k_X1_33 (by assumption) (by decide) rfl ?_
        refine r_iconst (v := 1) dX1_addClause_48 (by decide) ?_
        refine r_iadd dX1_addClause_49 ?_
        rw [i4, nI_1]
        refine r_putI dX1_addClause_50 k_X1_33 (by assumption) (by decide) rfl rfl rfl rfl ?_
        refine r_iload_n dX1_addClause_53 rfl ?_
        · refine r_tsw 88 dX1_addClause_54 rfl (by decide) rfl ?_
          refine r_aload_n dX1_addClause_88 rfl ?_
          refine r_iload_n dX1_addClause_89 rfl ?_
          refine r_iconst (v := 3) dX1_addClause_90 (by decide) ?_
          refine r_irem dX1_addClause_91 (by decide) ?_
          rw [show (3 : Int32) = nI 3 from rfl, nI_rem (by omega) (by omega) (by omega)]
          refine r_putI dX1_addClause_92 k_X1_43 (by assumption) (by decide) rfl rfl rfl rfl ?_
          refine r_goto (tgt := 110) dX1_addClause_95 (by decide) ?_
          refine r_return dX1_addClause_110 rfl ?_
          refine ⟨rfl, put _ (fun a i hn => ?_) ?_ ?_ ?_ ?_, FA.tr (Fr.set (by simp [daF]))⟩
          · rw [setI_1, if_neg (by omega), setI_1, if_neg (by omega)]
          · rw [setI_nj (by decide), setI_at]
          · rw [setI_nj (by decide), o9 _ (by decide)]; rfl
          · rw [setI_at]; rfl
          · rw [setI_nj (by decide), o9 _ (by decide)]; rfl
      · exact absurd (nI_lt (a := L.length) (b := 10) (by omega) (by omega)) c_6
    · by_cases w4 : w = 4
      · subst w4
        have em : (if (1 : Int32) < nI v then nI v else 1) = nI (if v = 0 then 1 else v) := by
          rw [show (1 : Int32) = nI 1 from rfl]
          by_cases z9 : 1 < v
          · rw [if_pos (nI_lt (a := 1) z9 (by omega)), if_neg (by omega)]
          · rw [if_neg (fun y => z9 ((nI_lt' (a := 1) (by omega) (by omega)).mp y))]
            by_cases z8 : v = 0
            · rw [if_pos z8]
            · rw [if_neg z8, show v = 1 by omega]
        refine r_aload_n dX1_addClause_0 rfl ?_
        refine r_getI dX1_addClause_1 k_X1_33 (by assumption) (by decide) rfl ?_
        refine r_bipush (v := 10) dX1_addClause_4 (by decide) ?_
        rw [H.1]
        refine r_icmp_lt (tgt := 10) dX1_addClause_6 (by decide) (fun c_6 => ?_) (fun c_6 => ?_)
        · refine r_aload_n dX1_addClause_10 rfl ?_
          refine r_getR (j := q + 1) dX1_addClause_11 k_X1_9 (by assumption) (by decide) rfl (rf_H (by assumption) (by decide)) ?_
          refine r_aload_n dX1_addClause_14 rfl ?_
          refine r_getI dX1_addClause_15 k_X1_33 (by assumption) (by decide) rfl ?_
          refine r_iload_n dX1_addClause_18 rfl ?_
          refine r_iast (L.length) dX1_addClause_19 (ks_H (by assumption) (by decide)) H.1 (bH1 0 hq (by decide) hl) ?_
          refine r_aload_n dX1_addClause_20 rfl ?_
          refine r_getR (j := q + 2) dX1_addClause_21 k_X1_15 (by assumption) (by decide) rfl (rf_H (by assumption) (by decide)) ?_
          refine r_aload_n dX1_addClause_24 rfl ?_
          refine r_getI dX1_addClause_25 k_X1_33 (by assumption) (by decide) rfl ?_
          refine r_iload_n dX1_addClause_28 rfl ?_
          refine r_iast (L.length) dX1_addClause_29 (ks_H (by assumption) (by decide)) i1 (bH1 1 hq (by decide) hl) ?_
          refine r_aload_n dX1_addClause_30 rfl ?_
          refine r_getR (j := q + 3) dX1_addClause_31 k_X1_18 (by assumption) (by decide) rfl (rf_H (by assumption) (by decide)) ?_
          refine r_aload_n dX1_addClause_34 rfl ?_
          refine r_getI dX1_addClause_35 k_X1_33 (by assumption) (by decide) rfl ?_
          refine r_aload_n dX1_addClause_38 rfl ?_
          refine r_getI dX1_addClause_39 k_X1_37 (by assumption) (by decide) rfl ?_
          rw [i3]
          refine r_iast (L.length) dX1_addClause_42 (ks_H (by assumption) (by decide)) i2 (bH1 2 hq (by decide) hl) ?_
          refine r_aload_n dX1_addClause_43 rfl ?_
          refine r_dup dX1_addClause_44 rfl ?_
          refine r_getI dX1_addClause_45 k_X1_33 (by assumption) (by decide) rfl ?_
          refine r_iconst (v := 1) dX1_addClause_48 (by decide) ?_
          refine r_iadd dX1_addClause_49 ?_
          rw [i4, nI_1]
          refine r_putI dX1_addClause_50 k_X1_33 (by assumption) (by decide) rfl rfl rfl rfl ?_
          refine r_iload_n dX1_addClause_53 rfl ?_
          · refine r_tsw 98 dX1_addClause_54 rfl (by decide) rfl ?_
            refine r_aload_n dX1_addClause_98 rfl ?_
            refine r_iconst (v := 1) dX1_addClause_99 (by decide) ?_
            refine r_iload_n dX1_addClause_100 rfl ?_
            refine r_max dX1_addClause_101 l_X1_49 o_J9_max_7cf53 rfl s_J9_max_7cf53 (by decide) (Nat.le_of_ble_eq_true rfl) ?_
            rw [em]
            refine r_putI dX1_addClause_104 k_X1_46 (by assumption) (by decide) rfl rfl rfl rfl ?_
            refine r_goto (tgt := 110) dX1_addClause_107 (by decide) ?_
            refine r_return dX1_addClause_110 rfl ?_
            refine ⟨rfl, put _ (fun a i hn => ?_) ?_ ?_ ?_ ?_, FA.tr (Fr.set (by simp [daF]))⟩
            · rw [setI_1, if_neg (by omega), setI_1, if_neg (by omega)]
            · rw [setI_nj (by decide), setI_at]
            · rw [setI_nj (by decide), o9 _ (by decide)]; rfl
            · rw [setI_nj (by decide), o9 _ (by decide)]; rfl
            · rw [setI_at]; rfl
        · exact absurd (nI_lt (a := L.length) (b := 10) (by omega) (by omega)) c_6
      · have w1 : w = 0 ∨ w = 1 := by omega
        have sw9 : tswT 56 2 4 #[26, 34, 44].toList 54 (nI w).toInt = 110 := by
          rcases w1 with rfl | rfl <;> rfl
        refine r_aload_n dX1_addClause_0 rfl ?_
        refine r_getI dX1_addClause_1 k_X1_33 (by assumption) (by decide) rfl ?_
        refine r_bipush (v := 10) dX1_addClause_4 (by decide) ?_
        rw [H.1]
        refine r_icmp_lt (tgt := 10) dX1_addClause_6 (by decide) (fun c_6 => ?_) (fun c_6 => ?_)
        · refine r_aload_n dX1_addClause_10 rfl ?_
          refine r_getR (j := q + 1) dX1_addClause_11 k_X1_9 (by assumption) (by decide) rfl (rf_H (by assumption) (by decide)) ?_
          refine r_aload_n dX1_addClause_14 rfl ?_
          refine r_getI dX1_addClause_15 k_X1_33 (by assumption) (by decide) rfl ?_
          refine r_iload_n dX1_addClause_18 rfl ?_
          refine r_iast (L.length) dX1_addClause_19 (ks_H (by assumption) (by decide)) H.1 (bH1 0 hq (by decide) hl) ?_
          refine r_aload_n dX1_addClause_20 rfl ?_
          refine r_getR (j := q + 2) dX1_addClause_21 k_X1_15 (by assumption) (by decide) rfl (rf_H (by assumption) (by decide)) ?_
          refine r_aload_n dX1_addClause_24 rfl ?_
          refine r_getI dX1_addClause_25 k_X1_33 (by assumption) (by decide) rfl ?_
          refine r_iload_n dX1_addClause_28 rfl ?_
          refine r_iast (L.length) dX1_addClause_29 (ks_H (by assumption) (by decide)) i1 (bH1 1 hq (by decide) hl) ?_
          refine r_aload_n dX1_addClause_30 rfl ?_
          refine r_getR (j := q + 3) dX1_addClause_31 k_X1_18 (by assumption) (by decide) rfl (rf_H (by assumption) (by decide)) ?_
          refine r_aload_n dX1_addClause_34 rfl ?_
          refine r_getI dX1_addClause_35 k_X1_33 (by assumption) (by decide) rfl ?_
          refine r_aload_n dX1_addClause_38 rfl ?_
          refine r_getI dX1_addClause_39 k_X1_37 (by assumption) (by decide) rfl ?_
          rw [i3]
          refine r_iast (L.length) dX1_addClause_42 (ks_H (by assumption) (by decide)) i2 (bH1 2 hq (by decide) hl) ?_
          refine r_aload_n dX1_addClause_43 rfl ?_
          refine r_dup dX1_addClause_44 rfl ?_
          refine r_getI dX1_addClause_45 k_X1_33 (by assumption) (by decide) rfl ?_
          refine r_iconst (v := 1) dX1_addClause_48 (by decide) ?_
          refine r_iadd dX1_addClause_49 ?_
          rw [i4, nI_1]
          refine r_putI dX1_addClause_50 k_X1_33 (by assumption) (by decide) rfl rfl rfl rfl ?_
          refine r_iload_n dX1_addClause_53 rfl ?_
          · refine r_tsw 110 dX1_addClause_54 rfl (by decide) sw9 ?_
            refine r_return dX1_addClause_110 rfl ?_
            refine ⟨rfl, put _ (fun a i hn => ?_) ?_ ?_ ?_ ?_, FA⟩
            · rw [setI_1, if_neg (by omega)]
            · rw [setI_at]
            · rw [o9 _ (by decide), if_neg (by omega)]
            · rw [o9 _ (by decide), if_neg (by omega)]
            · rw [o9 _ (by decide), if_neg (by omega)]
        · exact absurd (nI_lt (a := L.length) (b := 10) (by omega) (by omega)) c_6
