/-! rows that all might wish -/
theorem sh4 (code k : Nat) (hk : k ≤ 3) (hc : code < 1000000) : nI code >>> ((2 * nI k) &&& 31) = nI (code / 4 ^ k) := by
  rcases (show k = 0 ∨ k = 1 ∨ k = 2 ∨ k = 3 by omega) with rfl | rfl | rfl | rfl
  · exact pk_shrN (by omega) _ 0 (by decide)
  · exact pk_shrN (by omega) _ 2 (by decide)
  · exact pk_shrN (by omega) _ 4 (by decide)
  · exact pk_shrN (by omega) _ 6 (by decide)
set_option maxRecDepth 100000 in
theorem m_X6_rowsInAll {G : WT} {l : Launch} (hG : GOK G) {h : Hp} {E : Nat} (hE4 : E ≤ 4) (h0 : h.1 1 7 = nI E) : Cl G l 1 yX6_rowsInAll cX6_rowsInAll 1 (some .int) [.ref (gA G 0)] h (fun r h' => r = some (.int (nI (4 ^ E))) ∧ h' = h) := by
  refine Cl.of hG (by decide) (Nat.le_of_ble_eq_true rfl) ?_
  show Wp G l 1 RX6 cX6_rowsInAll 1 (some .int) 0 [.ref (gA G 0)] [] h _
  have e9 : (1 : Int32) <<< ((2 * nI E) &&& 31) = nI (4 ^ E) := by
    rcases (show E = 0 ∨ E = 1 ∨ E = 2 ∨ E = 3 ∨ E = 4 by omega) with rfl | rfl | rfl | rfl | rfl <;> decide
  refine r_iconst (v := 1) dX6_rowsInAll_0 (by decide) ?_
  refine r_iconst (v := 2) dX6_rowsInAll_1 (by decide) ?_
  refine r_aload_n dX6_rowsInAll_2 rfl ?_
  refine r_getR (j := 1) dX6_rowsInAll_3 k_X6_12 rfl (by decide) rfl rfl ?_
  refine r_getI dX6_rowsInAll_6 k_X6_82 rfl (by decide) rfl ?_
  rw [h0]
  refine r_imul dX6_rowsInAll_9 ?_
  refine r_ishl dX6_rowsInAll_10 ?_
  rw [e9]
  refine r_ireturn dX6_rowsInAll_11 ⟨_, rfl, rfl⟩ ?_
  exact ⟨rfl, rfl⟩
def trF (a _i : Nat) : Bool := a == 35
set_option maxRecDepth 100000 in
theorem m_X6_becomesRow {G : WT} {l : Launch} (hG : GOK G) {h : Hp} {E code : Nat} (hE4 : E ≤ 4) (hc : code < 1000000) (h0 : h.1 1 7 = nI E) : Cl G l 1 yX6_becomesRow cX6_becomesRow 3 none [.ref (gA G 0), .int (nI code)] h (fun r h' => r = none ∧ Fr trF h h' ∧ ∀ j, j < E → h'.1 35 j = nI (rowW E code j)) := by
  refine Cl.of hG (by decide) (Nat.le_of_ble_eq_true rfl) ?_
  show Wp G l 1 RX6 cX6_becomesRow 3 none 0 [.ref (gA G 0), .int (nI code), mk0] [] h _
  have lp : ∀ (m j : Nat) (g : Hp), j + m = E → Fr trF h g → (∀ i, i < j → g.1 35 i = nI (rowW E code i)) → Wp G l 1 RX6 cX6_becomesRow 3 none 2 [.ref (gA G 0), .int (nI code), .int (nI j)] [] g (fun r h' => r = none ∧ Fr trF h h' ∧ ∀ j, j < E → h'.1 35 j = nI (rowW E code j)) := by
    intro m
    induction m with
    | zero =>
      intro j g hj hF hw
      have e1 : g.1 1 7 = nI E := by rw [hF.1 _ _ rfl]; exact h0
      refine r_iload_n dX6_becomesRow_2 rfl ?_
      refine r_aload_n dX6_becomesRow_3 rfl ?_
      refine r_getR (j := 1) dX6_becomesRow_4 k_X6_12 rfl (by decide) rfl rfl ?_
      refine r_getI dX6_becomesRow_7 k_X6_82 rfl (by decide) rfl ?_
      rw [e1]
      refine r_icmp_ge (tgt := 42) dX6_becomesRow_10 (by decide) (fun c_10 => ?_) (fun c_10 => ?_)
      · refine r_return dX6_becomesRow_42 rfl ?_
        exact ⟨rfl, hF, fun i hi => hw i (by omega)⟩
      · exact absurd (nI_le (by omega) (by omega)) c_10
    | succ m ih =>
      intro j g hj hF hw
      have e1 : g.1 1 7 = nI E := by rw [hF.1 _ _ rfl]; exact h0
      have e2 : nI E - 1 - nI j = nI (E - 1 - j) := by rw [show (1 : Int32) = nI 1 from rfl, pk_sub (by omega), pk_sub (by omega)]
      have e3 : nI (code / 4 ^ (E - 1 - j)) &&& 3 = nI (rowW E code j) := pk_andN (by have := Nat.div_le_self code (4 ^ (E - 1 - j)); omega) 2 (by decide)
      refine r_iload_n dX6_becomesRow_2 rfl ?_
      refine r_aload_n dX6_becomesRow_3 rfl ?_
      refine r_getR (j := 1) dX6_becomesRow_4 k_X6_12 rfl (by decide) rfl rfl ?_
      refine r_getI dX6_becomesRow_7 k_X6_82 rfl (by decide) rfl ?_
      rw [e1]
      refine r_icmp_ge (tgt := 42) dX6_becomesRow_10 (by decide) (fun c_10 => ?_) (fun c_10 => ?_)
      · exact absurd c_10 (nI_ge (by omega) (by omega))
      · refine r_aload_n dX6_becomesRow_13 rfl ?_
        refine r_getR (j := 35) dX6_becomesRow_14 k_X6_62 rfl (by decide) rfl rfl ?_
        refine r_iload_n dX6_becomesRow_17 rfl ?_
        refine r_iload_n dX6_becomesRow_18 rfl ?_
        refine r_iconst (v := 2) dX6_becomesRow_19 (by decide) ?_
        refine r_aload_n dX6_becomesRow_20 rfl ?_
        refine r_getR (j := 1) dX6_becomesRow_21 k_X6_12 rfl (by decide) rfl rfl ?_
        refine r_getI dX6_becomesRow_24 k_X6_82 rfl (by decide) rfl ?_
        rw [e1]
        refine r_iconst (v := 1) dX6_becomesRow_27 (by decide) ?_
        refine r_isub dX6_becomesRow_28 ?_
        refine r_iload_n dX6_becomesRow_29 rfl ?_
        refine r_isub dX6_becomesRow_30 ?_
        rw [e2]
        refine r_imul dX6_becomesRow_31 ?_
        refine r_ishr dX6_becomesRow_32 ?_
        rw [sh4 code _ (by omega) hc]
        refine r_iconst (v := 3) dX6_becomesRow_33 (by decide) ?_
        refine r_iand dX6_becomesRow_34 ?_
        rw [e3]
        refine r_iast (j) dX6_becomesRow_35 rfl rfl (show j < 5 by omega) ?_
        refine r_iinc dX6_becomesRow_36 rfl (by first | exact nI_inc _ | rfl) (by decide) rfl rfl ?_
        dsimp only [List.set]
        refine r_goto (tgt := 2) dX6_becomesRow_39 (by decide) ?_
        refine ih (j + 1) _ (by omega) (hF.tr (Fr.set rfl)) (fun i hi => ?_)
        by_cases z : i = j
        · rw [z, setI_at]
        · rw [setI_nj z]; exact hw i (by omega)
  refine r_iconst (v := 0) dX6_becomesRow_0 (by decide) ?_
  refine r_istore_n dX6_becomesRow_1 (by decide) rfl rfl ?_
  dsimp only [List.set]
  exact lp E 0 _ (by omega) Fr.rf (fun i y => absurd y (by omega))
set_option maxRecDepth 100000 in
theorem m_X6_keepIf {G : WT} {l : Launch} (hG : GOK G) {h : Hp} {b : Bool} : Cl G l 2 yX6_keepIf cX6_keepIf 2 none [.ref (gA G 0), .int (b01 b)] h (fun r h' => r = none ∧ Fr (fun a _ => a == 36) h h' ∧ (b = true → ∀ j, j < 5 → h'.1 36 j = h.1 35 j) ∧ (b = false → h' = h)) := by
  refine Cl.of hG (by decide) (Nat.le_of_ble_eq_true rfl) ?_
  show Wp G l 2 RX6 cX6_keepIf 2 none 0 [.ref (gA G 0), .int (b01 b)] [] h _
  cases b with
  | false =>
    refine r_iload_n dX6_keepIf_0 rfl ?_
    refine r_if_eq (tgt := 18) dX6_keepIf_1 (by decide) (fun c_1 => ?_) (fun c_1 => ?_)
    · refine r_return dX6_keepIf_18 rfl ?_
      exact ⟨rfl, Fr.rf, fun y => (by cases y), fun _ => rfl⟩
    · exact absurd rfl c_1
  | true =>
    refine r_iload_n dX6_keepIf_0 rfl ?_
    refine r_if_eq (tgt := 18) dX6_keepIf_1 (by decide) (fun c_1 => ?_) (fun c_1 => ?_)
    · exact absurd c_1 (by decide)
    · refine r_aload_n dX6_keepIf_4 rfl ?_
      refine r_getR (j := 35) dX6_keepIf_5 k_X6_62 rfl (by decide) rfl rfl ?_
      refine r_iconst (v := 0) dX6_keepIf_8 (by decide) ?_
      refine r_aload_n dX6_keepIf_9 rfl ?_
      refine r_getR (j := 36) dX6_keepIf_10 k_X6_66 rfl (by decide) rfl rfl ?_
      refine r_iconst (v := 0) dX6_keepIf_13 (by decide) ?_
      refine r_iconst (v := 5) dX6_keepIf_14 (by decide) ?_
      refine r_acopyI (0) (0) (5) dX6_keepIf_15 l_X6_204 rfl rfl rfl rfl rfl (by decide) (by decide) (by decide) (by decide) ?_
      refine r_return dX6_keepIf_18 rfl ?_
      exact ⟨rfl, Fr.row (fun j y => by simp at y), fun _ j hj => by rw [rowI_at, cpy_at hj], fun y => (by cases y)⟩
/-! who gains -/
def gaF (a i : Nat) : Bool := svF a i || haF a i || a == 35
theorem sv_ga {h h' : Hp} (H : Fr svF h h') : Fr gaF h h' := H.wk (fun x i y => by simp only [gaF, Bool.or_eq_false_iff] at y; exact y.1.1)
theorem ha_ga {h h' : Hp} (H : Fr haF h h') : Fr gaF h h' := H.wk (fun x i y => by simp only [gaF, Bool.or_eq_false_iff] at y; exact y.1.2)
theorem tr_ga {h h' : Hp} (H : Fr trF h h') : Fr gaF h h' := H.wk (fun x i y => by simp only [gaF, Bool.or_eq_false_iff] at y; exact y.2)
theorem ga_as {h h' : Hp} (H : Fr gaF h h') : Fx asF h h' := H.x.wk (fun x i y => by
  simp only [asF, gaF, svF, haF, Bool.or_eq_false_iff, Bool.and_eq_false_iff, decide_eq_false_iff_not, beq_eq_false_iff_ne, ne_eq] at y ⊢
  omega)
theorem EvC.t35 {h h' : Hp} {t q law : Nat} {V : Hv} {T : Tb} {free : Bool} {k : Nat} (hk : k = 35 ∨ k = 36) (C : EvC h t q V T law free) (hF : Fr (fun a _ => a == k) h h') : EvC h' t q V T law free := by
  obtain ⟨u, u1, u2⟩ := ts_at C.1.2.2.1
  exact C.fr hF (fun a i y1 y2 => by simp; omega) (fun i => Or.inl (by simp; omega)) (fun i => by simp; omega) ⟨by simp; omega, by simp; omega, by simp; omega, by simp; omega⟩ (C.2.2.2.2.2.2.eq (fun a y1 y2 => funext fun i => hF.1 a i (by simp; omega)))
theorem DTb.ga {h h' : Hp} {T : Tb} (H : DTb h 1 T) (hF : Fr gaF h h') : DTb h' 1 T := H.frF hF (fun a i y1 y2 => by simp [gaF, svF, haF]; omega)
theorem dhasW_bd {V : Hv} {T : Tb} {w : Nat → Nat} {e : Nat} (hV : HvOK V) (h9 : w e ≤ 9) : -1000 ≤ hasW V (P0 V) T w e ∧ hasW V (P0 V) T w e ≤ 10000 := hasS_bd hV (Nat.le_trans (ateS_le _ _ _) h9)
/-- a row served, and what one has by it -/
theorem sv_has {G : WT} {l : Launch} (hG : GOK G) {g : Hp} {q : Nat} {V : Hv} {T : Tb} {w : Nat → Nat} (C : EvC g 1 q V T (lawS V) false) (D : DTb g 1 T) (hw : ∀ e, e < T.1 7 0 → g.1 35 e = nI (w e) ∧ w e ≤ 9) : Cl G l 3 yX3_serve cX3_serve 3 none [.ref (gA G 37), .ref (gA G 35)] g (fun r h' => r = none ∧ Fr svF g h' ∧ EvC h' 1 q V T (lawS V) false ∧ DTb h' 1 T ∧ (∀ e, e < T.1 7 0 → h'.1 40 e = nI (ateS (T.1 7 1) w e)) ∧ (0 < T.1 7 0 → h'.1 37 12 = nI (bkS V (P0 V) T w))) := by
  have ok := C.2.2.1
  have hV := C.2.1.2.1
  have k9 := m_X3_serve (l := l) hG C.1.2.2.1 C.1.2.2.2 (a := 35) rfl (by decide) (by decide) (by decide) ok.1 ok.2.1 (scaleS_pos V) (scaleS_le hV) C.1.1 C.1.2.1 C.2.2.2.1.1 D.1.2.1 C.2.1.2.2.2.2.2.2 C.2.2.2.2.1.1 (lawS_lt V) hw
  refine Cl.mono k9 (fun r h' y => ?_)
  obtain ⟨y1, y2, y3, y4, y5⟩ := y
  exact ⟨y1, y2, C.sv y2, D.ga (sv_ga y2), fun e he => (y3 e he).1, fun he => by rw [y5, bk5, if_neg (by omega)]; rfl⟩
theorem has_row {G : WT} {l : Launch} (hG : GOK G) {g : Hp} {q e : Nat} {V : Hv} {T : Tb} {w : Nat → Nat} (C : EvC g 1 q V T (lawS V) false) (he : e < T.1 7 0) (h9 : w e ≤ 9) (ha : g.1 40 e = nI (ateS (T.1 7 1) w e)) (hb : g.1 37 12 = nI (bkS V (P0 V) T w)) : Cl G l 3 yX3_has cX3_has 4 (some .int) [.ref (gA G 37), .int (nI e)] g (fun r h' => r = some (.int (zI (hasW V (P0 V) T w e))) ∧ Fr haF g h' ∧ EvC h' 1 q V T (lawS V) false) := by
  have hbk : bkS V (P0 V) T w < T.1 7 0 := bakeS_lt (by omega)
  have hE5 := C.2.2.1.1
  have k9 := m_X3_has (l := l) hG C he ha (Nat.le_trans (ateS_le _ _ _) h9) hb (by omega)
  exact Cl.mono k9 (fun r h' y => ⟨y.1, y.2.2, y.2.1⟩)
theorem noG_false {V : Hv} {T : Tb} {w : Nat → Nat} {i j : Nat} (h : noGain V T w i j = false) : ∀ n, j ≤ n → noGain V T w i n = false := by
  intro n hn
  induction n with
  | zero => rw [show j = 0 by omega] at h; exact h
  | succ n ih =>
    by_cases e9 : j = n + 1
    · rw [← e9]; exact h
    · show (noGain V T w i n && _) = false
      rw [ih (by omega), Bool.false_and]
theorem ga_88 {G : WT} {l : Launch} {g : Hp} {e v : Nat} {b : Bool} {x3 x5 : Value} {Q : Option Value → Hp → Prop} (he : e < 5) (k : Q (some (.int (b01 b))) (setI g 35 e (nI v))) : Wp G l 4 RX6 cX6_gains 6 (some .boolean) 88 [.ref (gA G 0), .int (nI e), .int (nI v), x3, .int (b01 b), x5] [] g Q := by
  refine r_aload_n dX6_gains_88 rfl ?_
  refine r_getR (j := 35) dX6_gains_89 k_X6_62 rfl (by decide) rfl rfl ?_
  refine r_iload_n dX6_gains_92 rfl ?_
  refine r_iload_n dX6_gains_93 rfl ?_
  refine r_iast (e) dX6_gains_94 rfl rfl (show e < 5 from he) ?_
  refine r_iload dX6_gains_95 rfl ?_
  refine r_ireturn dX6_gains_97 ⟨_, rfl, (b01_nar _)⟩ ?_
  exact k
theorem ga_lp {G : WT} {l : Launch} (hG : GOK G) {q e : Nat} {V : Hv} {T : Tb} {w : Nat → Nat} {h0 : Hp} (he : e < T.1 7 0) (h9 : ∀ j, w j ≤ 9) : ∀ (m a : Nat) (g : Hp), a + m = 4 → noGain V T w e a = true → EvC g 1 q V T (lawS V) false → DTb g 1 T → (∀ j, j < T.1 7 0 → ¬ j = e → g.1 35 j = nI (w j)) → Fr gaF h0 g → Wp G l 4 RX6 cX6_gains 6 (some .boolean) 33 [.ref (gA G 0), .int (nI e), .int (nI (w e)), .int (zI (hasW V (P0 V) T w e)), .int (b01 false), .int (nI a)] [] g (fun r h' => r = some (.int (b01 (!noGain V T w e 4))) ∧ EvC h' 1 q V T (lawS V) false ∧ (∀ j, j < T.1 7 0 → h'.1 35 j = nI (w j)) ∧ Fr gaF h0 h') := by
  intro m
  have fin : ∀ (g : Hp) (b : Bool) (x5 : Value), b = (!noGain V T w e 4) → EvC g 1 q V T (lawS V) false → (∀ j, j < T.1 7 0 → ¬ j = e → g.1 35 j = nI (w j)) → Fr gaF h0 g → Wp G l 4 RX6 cX6_gains 6 (some .boolean) 88 [.ref (gA G 0), .int (nI e), .int (nI (w e)), .int (zI (hasW V (P0 V) T w e)), .int (b01 b), x5] [] g (fun r h' => r = some (.int (b01 (!noGain V T w e 4))) ∧ EvC h' 1 q V T (lawS V) false ∧ (∀ j, j < T.1 7 0 → h'.1 35 j = nI (w j)) ∧ Fr gaF h0 h') := by
    intro g b x5 hb C hj hF
    have hE5 := C.2.2.1.1
    have F1 : Fr trF g (setI g 35 e (nI (w e))) := Fr.set rfl
    refine ga_88 (by omega) ⟨by rw [hb], C.t35 (Or.inl rfl) F1, fun j y => ?_, hF.tr (tr_ga F1)⟩
    by_cases z : j = e
    · rw [z, setI_at]
    · rw [setI_nj z]; exact hj j y z
  induction m with
  | zero =>
    intro a g ha hn C D hj hF
    have hE5 := C.2.2.1.1
    refine r_iload dX6_gains_33 rfl ?_
    refine r_iconst (v := 3) dX6_gains_35 (by decide) ?_
    refine r_icmp_gt (tgt := 88) dX6_gains_36 (by decide) (fun c_36 => ?_) (fun c_36 => ?_)
    · exact fin g false _ (by rw [show (4 : Nat) = a by omega, hn]; rfl) C hj hF
    · exact absurd (nI_lt (a := 3) (by omega) (by omega)) c_36
  | succ m ih =>
    intro a g ha hn C D hj hF
    have hE5 := C.2.2.1.1
    have hV := C.2.1.2.1
    obtain ⟨g1, hg1⟩ : ∃ g1, g1 = setI g 35 e (nI a) := ⟨_, rfl⟩
    have F1 : Fr trF g g1 := by rw [hg1]; exact Fr.set rfl
    have C1 := C.t35 (Or.inl rfl) F1
    have D1 := D.ga (tr_ga F1)
    have hu9 : ∀ j, upW w e a j ≤ 9 := fun j => by
      unfold upW
      split
      · omega
      · exact h9 j
    have hw1 : ∀ j, j < T.1 7 0 → g1.1 35 j = nI (upW w e a j) ∧ upW w e a j ≤ 9 := fun j y => by
      refine ⟨?_, hu9 j⟩
      rw [hg1]
      unfold upW
      by_cases z : j = e
      · rw [z, setI_at, if_pos rfl]
      · rw [setI_nj z, if_neg z]; exact hj j y z
    have k9 := sv_has (l := l) hG C1 D1 hw1
    have b1 := dhasW_bd (V := V) (T := T) (w := w) (e := e) hV (h9 e)
    have b2 := dhasW_bd (V := V) (T := T) (w := upW w e a) (e := e) hV (hu9 e)
    have cs : noGain V T w e (a + 1) = decide (¬ hasW V (P0 V) T w e < hasW V (P0 V) T (upW w e a) e) := by
      show (noGain V T w e a && _) = _
      rw [hn, Bool.true_and]
    refine r_iload dX6_gains_33 rfl ?_
    refine r_iconst (v := 3) dX6_gains_35 (by decide) ?_
    refine r_icmp_gt (tgt := 88) dX6_gains_36 (by decide) (fun c_36 => ?_) (fun c_36 => ?_)
    · exact absurd ((nI_lt' (a := 3) (by omega) (by omega)).mp c_36) (by omega)
    · refine r_iload dX6_gains_39 rfl ?_
      refine r_if_ne (tgt := 88) dX6_gains_41 (by decide) (fun c_41 => ?_) (fun c_41 => ?_)
      · exact absurd rfl c_41
      · refine r_aload_n dX6_gains_44 rfl ?_
        refine r_getR (j := 35) dX6_gains_45 k_X6_62 rfl (by decide) rfl rfl ?_
        refine r_iload_n dX6_gains_48 rfl ?_
        refine r_iload dX6_gains_49 rfl ?_
        refine r_iast (e) dX6_gains_51 rfl rfl (show e < 5 by omega) ?_
        rw [← hg1]
        refine r_aload_n dX6_gains_52 rfl ?_
        refine r_getR (j := 37) dX6_gains_53 k_X6_38 rfl (by decide) rfl rfl ?_
        refine r_aload_n dX6_gains_56 rfl ?_
        refine r_getR (j := 35) dX6_gains_57 k_X6_62 rfl (by decide) rfl rfl ?_
        refine r_callV dX6_gains_60 l_X6_197 o_X3_serve v_X3_serve rfl (by decide) rfl rfl (k9) (by decide) rfl (Nat.le_of_ble_eq_true rfl) (fun r60 h60 hq60 => ?_)
        obtain ⟨rfl, F2, C2, D2, a2, b9⟩ := hq60
        have j2 : ∀ j, j < T.1 7 0 → ¬ j = e → h60.1 35 j = nI (w j) := fun j y z => by rw [F2.1 _ _ rfl, hg1, setI_nj z]; exact hj j y z
        refine r_aload_n dX6_gains_63 rfl ?_
        refine r_getR (j := 37) dX6_gains_64 k_X6_38 rfl (by decide) rfl rfl ?_
        refine r_iload_n dX6_gains_67 rfl ?_
        refine r_callV dX6_gains_68 l_X6_213 o_X3_has v_X3_has rfl (by decide) rfl rfl (has_row hG C2 he (hu9 e) (a2 e he) (b9 (by omega))) (by decide) rfl (Nat.le_of_ble_eq_true rfl) (fun r68 h68 hq68 => ?_)
        obtain ⟨rfl, F3, C3⟩ := hq68
        have D3 := D2.ga (ha_ga F3)
        have j3 : ∀ j, j < T.1 7 0 → ¬ j = e → h68.1 35 j = nI (w j) := fun j y z => by rw [F3.1 _ _ rfl]; exact j2 j y z
        have FF := ((hF.tr (tr_ga F1)).tr (sv_ga F2)).tr (ha_ga F3)
        refine r_iload_n dX6_gains_71 rfl ?_
        refine r_icmp_le (tgt := 79) dX6_gains_72 (by decide) (fun c_72 => ?_) (fun c_72 => ?_)
        · refine r_iconst (v := 0) dX6_gains_79 (by decide) ?_
          refine r_istore dX6_gains_80 (by decide) rfl rfl ?_
          dsimp only [List.set]
          refine r_iinc dX6_gains_82 rfl (by first | exact nI_inc _ | rfl) (by decide) rfl rfl ?_
          dsimp only [List.set]
          refine r_goto (tgt := 33) dX6_gains_85 (by decide) ?_
          exact ih (a + 1) h68 (by omega) (by rw [cs]; exact decide_eq_true (fun y => by
            have := (zI_le (by omega) (by omega) (by omega) (by omega)).mp c_72
            omega)) C3 D3 j3 FF
        · refine r_iconst (v := 1) dX6_gains_75 (by decide) ?_
          refine r_goto (tgt := 80) dX6_gains_76 (by decide) ?_
          refine r_istore dX6_gains_80 (by decide) rfl rfl ?_
          dsimp only [List.set]
          refine r_iinc dX6_gains_82 rfl (by first | exact nI_inc _ | rfl) (by decide) rfl rfl ?_
          dsimp only [List.set]
          refine r_goto (tgt := 33) dX6_gains_85 (by decide) ?_
          have y9 : hasW V (P0 V) T w e < hasW V (P0 V) T (upW w e a) e := by
            have : ¬ hasW V (P0 V) T (upW w e a) e ≤ hasW V (P0 V) T w e := fun y => c_72 ((zI_le (by omega) (by omega) (by omega) (by omega)).mpr y)
            omega
          have n9 : noGain V T w e 4 = false := noG_false (j := a + 1) (by rw [cs]; exact decide_eq_false (fun y => y y9)) 4 (by omega)
          have k88 := fun x5 => fin h68 true x5 (by rw [n9]; rfl) C3 j3 FF
          refine r_iload dX6_gains_33 rfl ?_
          refine r_iconst (v := 3) dX6_gains_35 (by decide) ?_
          refine r_icmp_gt (tgt := 88) dX6_gains_36 (by decide) (fun c_36 => k88 _) (fun c_36 => ?_)
          refine r_iload dX6_gains_39 rfl ?_
          exact r_if_ne (tgt := 88) dX6_gains_41 (by decide) (fun c_41 => k88 _) (fun c_41 => absurd c_41 (by decide))
set_option maxRecDepth 100000 in
theorem m_X6_gains {G : WT} {l : Launch} (hG : GOK G) {h : Hp} {q e : Nat} {V : Hv} {T : Tb} {w : Nat → Nat} (C : EvC h 1 q V T (lawS V) false) (D : DTb h 1 T) (he : e < T.1 7 0) (h9 : ∀ j, w j ≤ 9) (hw : ∀ j, j < T.1 7 0 → h.1 35 j = nI (w j)) : Cl G l 4 yX6_gains cX6_gains 6 (some .boolean) [.ref (gA G 0), .int (nI e)] h (fun r h' => r = some (.int (b01 (!noGain V T w e 4))) ∧ EvC h' 1 q V T (lawS V) false ∧ (∀ j, j < T.1 7 0 → h'.1 35 j = nI (w j)) ∧ Fr gaF h h') := by
  refine Cl.of hG (by decide) (Nat.le_of_ble_eq_true rfl) ?_
  show Wp G l 4 RX6 cX6_gains 6 (some .boolean) 0 [.ref (gA G 0), .int (nI e), mk0, mk0, mk0, mk0] [] h _
  have hE5 := C.2.2.1.1
  have k9 := sv_has (l := l) hG C D (fun j y => ⟨hw j y, h9 j⟩)
  refine r_aload_n dX6_gains_0 rfl ?_
  refine r_getR (j := 35) dX6_gains_1 k_X6_62 rfl (by decide) rfl rfl ?_
  refine r_iload_n dX6_gains_4 rfl ?_
  refine r_iald (e) dX6_gains_5 rfl rfl (show e < 5 by omega) ?_
  rw [hw e he]
  refine r_istore_n dX6_gains_6 (by decide) rfl rfl ?_
  dsimp only [List.set]
  refine r_aload_n dX6_gains_7 rfl ?_
  refine r_getR (j := 37) dX6_gains_8 k_X6_38 rfl (by decide) rfl rfl ?_
  refine r_aload_n dX6_gains_11 rfl ?_
  refine r_getR (j := 35) dX6_gains_12 k_X6_62 rfl (by decide) rfl rfl ?_
  refine r_callV dX6_gains_15 l_X6_197 o_X3_serve v_X3_serve rfl (by decide) rfl rfl (k9) (by decide) rfl (Nat.le_of_ble_eq_true rfl) (fun r15 h15 hq15 => ?_)
  obtain ⟨rfl, F2, C2, D2, a2, b9⟩ := hq15
  refine r_aload_n dX6_gains_18 rfl ?_
  refine r_getR (j := 37) dX6_gains_19 k_X6_38 rfl (by decide) rfl rfl ?_
  refine r_iload_n dX6_gains_22 rfl ?_
  refine r_callV dX6_gains_23 l_X6_213 o_X3_has v_X3_has rfl (by decide) rfl rfl (has_row hG C2 he (h9 e) (a2 e he) (b9 (by omega))) (by decide) rfl (Nat.le_of_ble_eq_true rfl) (fun r23 h23 hq23 => ?_)
  obtain ⟨rfl, F3, C3⟩ := hq23
  have D3 := D2.ga (ha_ga F3)
  refine r_istore_n dX6_gains_26 (by decide) rfl rfl ?_
  dsimp only [List.set]
  refine r_iconst (v := 0) dX6_gains_27 (by decide) ?_
  refine r_istore dX6_gains_28 (by decide) rfl rfl ?_
  dsimp only [List.set]
  refine r_iconst (v := 0) dX6_gains_30 (by decide) ?_
  refine r_istore dX6_gains_31 (by decide) rfl rfl ?_
  dsimp only [List.set]
  exact ga_lp hG he h9 4 0 h23 (by omega) rfl C3 D3 (fun j y _ => by rw [F3.1 _ _ rfl, F2.1 _ _ rfl]; exact hw j y) ((sv_ga F2).tr (ha_ga F3))
