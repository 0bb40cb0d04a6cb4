set_option maxRecDepth 100000 in
theorem m_X7_goOn {G : WT} {l : Launch} (hG : GOK G) {h : Hp} {b : Nat} {V : Hv} {T : Tb} {told : Option Nat} {free : Bool} {pact : Option (Nat × Nat)} {N : Nat} (hN : N ≤ 1000) (hday : T.1 7 2 + N < 100000) (C : SC h b V T told free) (hP : RPc h (T.1 7 0) pact) : Cl G l 10 yX7_goOn cX7_goOn 3 none [.ref (gA G 134), .int (nI N)] h (fun r h' => r = none ∧ Fr goF h h' ∧ RTb h' (supN V (supE V told free pact) T N) ∧ ∀ i, h'.1 155 i = h.1 155 i + nI (bakeN V (supE V told free pact) T i N)) := by
  refine Cl.of hG (by decide) (Nat.le_of_ble_eq_true rfl) ?_
  show Wp G l 10 RX7 cX7_goOn 3 none 0 [.ref (gA G 134), .int (nI N), mk0] [] h _
  refine r_iconst (v := 0) dX7_goOn_0 (by decide) ?_
  refine r_istore_n dX7_goOn_1 (by decide) rfl rfl ?_
  dsimp only [List.set]
  exact goOn_loop hG hN hday C.2.1 hP N 0 h (by omega) Fr.rf C (fun i => by show _ = _ + nI 0; rw [nI_0, Int32.add_zero])
/-! what is asked is put back -/
def scrF (a i : Nat) : Bool := (decide (135 ≤ a) && decide (a ≤ 140)) || (decide (150 ≤ a) && decide (a ≤ 158)) || (a == 134 && (decide (i ≤ 3) || i == 28 || i == 29 || i == 33 || i == 35 || i == 36 || i == 40 || i == 41 || i == 42))
theorem goF_scr {h h' : Hp} (H : Fr goF h h') : Fr scrF h h' := H.wk (fun x i q => by
  simp only [scrF, Bool.or_eq_false_iff, Bool.and_eq_false_iff, beq_eq_false_iff_ne, decide_eq_false_iff_not] at q
  simp only [goF, wshF, bestF, supF, Bool.or_eq_false_iff, Bool.and_eq_false_iff, beq_eq_false_iff_ne]
  omega)
def Calm (h : Hp) : Prop := h.1 134 28 = 0 ∧ h.1 134 29 = -1 ∧ h.1 134 35 = -1
def AskP (h h' : Hp) (T : Tb) : Prop := RTb h' T ∧ Calm h' ∧ Fr scrF h h'
/-- kept: as the table was at h -/
def Kept (h g : Hp) : Prop := (∀ i, i < 6 → g.1 156 i = h.1 138 i ∧ g.1 157 i = h.1 139 i) ∧ g.1 134 40 = h.1 134 1 ∧ g.1 134 41 = h.1 134 2 ∧ g.1 134 42 = h.1 134 3
def kpF (a i : Nat) : Bool := a == 156 || a == 157 || a == 155 || (a == 134 && (i == 40 || i == 41 || i == 42))
theorem kpF_scr {h h' : Hp} (H : Fr kpF h h') : Fr scrF h h' := H.wk (fun x i q => by
  simp only [scrF, Bool.or_eq_false_iff, Bool.and_eq_false_iff, beq_eq_false_iff_ne, decide_eq_false_iff_not] at q
  simp only [kpF, Bool.or_eq_false_iff, Bool.and_eq_false_iff, beq_eq_false_iff_ne]
  omega)
theorem kpF_dom (a i : Nat) (hd : supDom a i) : kpF a i = false := by
  simp only [supDom] at hd
  simp only [kpF, Bool.or_eq_false_iff, Bool.and_eq_false_iff, beq_eq_false_iff_ne]
  omega
theorem keep_loop {G : WT} {l : Launch} {h : Hp} : ∀ (m i : Nat) (g : Hp), i + m = 6 → Fr kpF h g → (∀ j, j < i → g.1 156 j = h.1 138 j ∧ g.1 157 j = h.1 139 j ∧ g.1 155 j = 0) → Wp G l 1 RX7 cX7_keep 2 none 2 [.ref (gA G 134), .int (nI i)] [] g (fun r h' => r = none ∧ Fr kpF h h' ∧ Kept h h' ∧ ∀ j, j < 6 → h'.1 155 j = 0) := by
  intro m
  induction m with
  | zero =>
    intro i g hi hF hg
    obtain rfl : i = 6 := by omega
    refine r_iload_n dX7_keep_2 rfl ?_
    refine r_bipush (v := 6) dX7_keep_3 (by decide) ?_
    refine r_icmp_ge (tgt := 45) dX7_keep_5 (by decide) (fun c_5 => ?_) (fun c_5 => ?_)
    · refine r_aload_n dX7_keep_45 rfl ?_
      refine r_aload_n dX7_keep_46 rfl ?_
      refine r_getI dX7_keep_47 k_X7_13 rfl (by decide) rfl ?_
      refine r_putI dX7_keep_50 k_X7_133 rfl (by decide) rfl rfl rfl rfl ?_
      refine r_aload_n dX7_keep_53 rfl ?_
      refine r_aload_n dX7_keep_54 rfl ?_
      refine r_getI dX7_keep_55 k_X7_16 rfl (by decide) rfl ?_
      refine r_putI dX7_keep_58 k_X7_136 rfl (by decide) rfl rfl rfl rfl ?_
      refine r_aload_n dX7_keep_61 rfl ?_
      refine r_aload_n dX7_keep_62 rfl ?_
      refine r_getI dX7_keep_63 k_X7_19 rfl (by decide) rfl ?_
      refine r_putI dX7_keep_66 k_X7_139 rfl (by decide) rfl rfl rfl rfl ?_
      refine r_return dX7_keep_69 rfl ?_
      refine ⟨rfl, ((hF.tr (Fr.set rfl)).tr (Fr.set rfl)).tr (Fr.set rfl), ⟨fun j hj => ?_, ?_, ?_, ?_⟩, fun j hj => ?_⟩
      · rw [setI_ne (by decide), setI_ne (by decide), setI_ne (by decide), setI_ne (by decide), setI_ne (by decide), setI_ne (by decide)]; exact ⟨(hg j hj).1, (hg j hj).2.1⟩
      · rw [setI_nj (by decide), setI_nj (by decide), setI_at, hF.1 _ _ rfl]
      · rw [setI_nj (by decide), setI_at, setI_nj (by decide), hF.1 _ _ rfl]
      · rw [setI_at, setI_nj (by decide), setI_nj (by decide), hF.1 _ _ rfl]
      · rw [setI_ne (by decide), setI_ne (by decide), setI_ne (by decide)]; exact (hg j hj).2.2
    · exact absurd (Int32.le_refl _) c_5
  | succ m ih =>
    intro i g hi hF hg
    refine r_iload_n dX7_keep_2 rfl ?_
    refine r_bipush (v := 6) dX7_keep_3 (by decide) ?_
    refine r_icmp_ge (tgt := 45) dX7_keep_5 (by decide) (fun c_5 => ?_) (fun c_5 => ?_)
    · exact absurd c_5 (nI_ge (a := i) (b := 6) (by omega) (by omega))
    · refine r_aload_n dX7_keep_8 rfl ?_
      refine r_getR (j := 156) dX7_keep_9 k_X7_127 rfl (by decide) rfl rfl ?_
      refine r_iload_n dX7_keep_12 rfl ?_
      refine r_aload_n dX7_keep_13 rfl ?_
      refine r_getR (j := 138) dX7_keep_14 k_X7_32 rfl (by decide) rfl rfl ?_
      refine r_iload_n dX7_keep_17 rfl ?_
      refine r_iald (i) dX7_keep_18 rfl rfl (show i < 6 by omega) ?_
      refine r_iast (i) dX7_keep_19 rfl rfl (show i < 6 by omega) ?_
      refine r_aload_n dX7_keep_20 rfl ?_
      refine r_getR (j := 157) dX7_keep_21 k_X7_130 rfl (by decide) rfl rfl ?_
      refine r_iload_n dX7_keep_24 rfl ?_
      refine r_aload_n dX7_keep_25 rfl ?_
      refine r_getR (j := 139) dX7_keep_26 k_X7_35 rfl (by decide) rfl rfl ?_
      refine r_iload_n dX7_keep_29 rfl ?_
      refine r_iald (i) dX7_keep_30 rfl rfl (show i < 6 by omega) ?_
      refine r_iast (i) dX7_keep_31 rfl rfl (show i < 6 by omega) ?_
      refine r_aload_n dX7_keep_32 rfl ?_
      refine r_getR (j := 155) dX7_keep_33 k_X7_124 rfl (by decide) rfl rfl ?_
      refine r_iload_n dX7_keep_36 rfl ?_
      refine r_iconst (v := 0) dX7_keep_37 (by decide) ?_
      refine r_iast (i) dX7_keep_38 rfl rfl (show i < 6 by omega) ?_
      refine r_iinc dX7_keep_39 rfl (by first | exact nI_inc _ | rfl) (by decide) rfl rfl ?_
      dsimp only [List.set]
      refine r_goto (tgt := 2) dX7_keep_42 (by decide) ?_
      refine ih (i + 1) _ (by omega) (((hF.tr (Fr.set rfl)).tr (Fr.set rfl)).tr (Fr.set rfl)) (fun j hj => ?_)
      by_cases hji : j = i
      · rw [hji]
        refine ⟨?_, ?_, ?_⟩
        · rw [setI_ne (by decide), setI_ne (by decide), setI_at, hF.1 _ _ rfl]
        · rw [setI_ne (by decide), setI_at, setI_ne (by decide), hF.1 _ _ rfl]
        · rw [setI_at]
      · obtain ⟨g1, g2, g3⟩ := hg j (by omega)
        refine ⟨?_, ?_, ?_⟩
        · rw [setI_ne (by decide), setI_ne (by decide), setI_nj hji]; exact g1
        · rw [setI_ne (by decide), setI_nj hji, setI_ne (by decide)]; exact g2
        · rw [setI_nj hji, setI_ne (by decide), setI_ne (by decide)]; exact g3
set_option maxRecDepth 100000 in
theorem m_X7_keep {G : WT} {l : Launch} (hG : GOK G) {h : Hp}  : Cl G l 1 yX7_keep cX7_keep 2 none [.ref (gA G 134)] h (fun r h' => r = none ∧ Fr kpF h h' ∧ Kept h h' ∧ ∀ j, j < 6 → h'.1 155 j = 0) := by
  refine Cl.of hG (by decide) (Nat.le_of_ble_eq_true rfl) ?_
  show Wp G l 1 RX7 cX7_keep 2 none 0 [.ref (gA G 134), mk0] [] h _
  refine r_iconst (v := 0) dX7_keep_0 (by decide) ?_
  refine r_istore_n dX7_keep_1 (by decide) rfl rfl ?_
  dsimp only [List.set]
  exact keep_loop 6 0 h (by omega) Fr.rf (fun j hj => absurd hj (by omega))
def pbF (a i : Nat) : Bool := a == 138 || a == 139 || (a == 134 && (i == 1 || i == 2 || i == 3))
theorem pbF_scr {h h' : Hp} (H : Fr pbF h h') : Fr scrF h h' := H.wk (fun x i q => by
  simp only [scrF, Bool.or_eq_false_iff, Bool.and_eq_false_iff, beq_eq_false_iff_ne, decide_eq_false_iff_not] at q
  simp only [pbF, Bool.or_eq_false_iff, Bool.and_eq_false_iff, beq_eq_false_iff_ne]
  omega)
def Back1 (h g : Hp) : Prop := (∀ i, i < 6 → g.1 138 i = h.1 156 i ∧ g.1 139 i = h.1 157 i) ∧ g.1 134 1 = h.1 134 40 ∧ g.1 134 2 = h.1 134 41 ∧ g.1 134 3 = h.1 134 42
theorem back_loop {G : WT} {l : Launch} {h : Hp} : ∀ (m i : Nat) (g : Hp), i + m = 6 → Fr pbF h g → (∀ j, j < i → g.1 138 j = h.1 156 j ∧ g.1 139 j = h.1 157 j) → Wp G l 1 RX7 cX7_putBack 2 none 2 [.ref (gA G 134), .int (nI i)] [] g (fun r h' => r = none ∧ Fr pbF h h' ∧ Back1 h h') := by
  intro m
  induction m with
  | zero =>
    intro i g hi hF hg
    obtain rfl : i = 6 := by omega
    refine r_iload_n dX7_putBack_2 rfl ?_
    refine r_bipush (v := 6) dX7_putBack_3 (by decide) ?_
    refine r_icmp_ge (tgt := 38) dX7_putBack_5 (by decide) (fun c_5 => ?_) (fun c_5 => ?_)
    · refine r_aload_n dX7_putBack_38 rfl ?_
      refine r_aload_n dX7_putBack_39 rfl ?_
      refine r_getI dX7_putBack_40 k_X7_133 rfl (by decide) rfl ?_
      refine r_putI dX7_putBack_43 k_X7_13 rfl (by decide) rfl rfl rfl rfl ?_
      refine r_aload_n dX7_putBack_46 rfl ?_
      refine r_aload_n dX7_putBack_47 rfl ?_
      refine r_getI dX7_putBack_48 k_X7_136 rfl (by decide) rfl ?_
      refine r_putI dX7_putBack_51 k_X7_16 rfl (by decide) rfl rfl rfl rfl ?_
      refine r_aload_n dX7_putBack_54 rfl ?_
      refine r_aload_n dX7_putBack_55 rfl ?_
      refine r_getI dX7_putBack_56 k_X7_139 rfl (by decide) rfl ?_
      refine r_putI dX7_putBack_59 k_X7_19 rfl (by decide) rfl rfl rfl rfl ?_
      refine r_return dX7_putBack_62 rfl ?_
      refine ⟨rfl, ((hF.tr (Fr.set rfl)).tr (Fr.set rfl)).tr (Fr.set rfl), fun j hj => ?_, ?_, ?_, ?_⟩
      · rw [setI_ne (by decide), setI_ne (by decide), setI_ne (by decide), setI_ne (by decide), setI_ne (by decide), setI_ne (by decide)]; exact hg j hj
      · rw [setI_nj (by decide), setI_nj (by decide), setI_at, hF.1 _ _ rfl]
      · rw [setI_nj (by decide), setI_at, setI_nj (by decide), hF.1 _ _ rfl]
      · rw [setI_at, setI_nj (by decide), setI_nj (by decide), hF.1 _ _ rfl]
    · exact absurd (Int32.le_refl _) c_5
  | succ m ih =>
    intro i g hi hF hg
    refine r_iload_n dX7_putBack_2 rfl ?_
    refine r_bipush (v := 6) dX7_putBack_3 (by decide) ?_
    refine r_icmp_ge (tgt := 38) dX7_putBack_5 (by decide) (fun c_5 => ?_) (fun c_5 => ?_)
    · exact absurd c_5 (nI_ge (a := i) (b := 6) (by omega) (by omega))
    · refine r_aload_n dX7_putBack_8 rfl ?_
      refine r_getR (j := 138) dX7_putBack_9 k_X7_32 rfl (by decide) rfl rfl ?_
      refine r_iload_n dX7_putBack_12 rfl ?_
      refine r_aload_n dX7_putBack_13 rfl ?_
      refine r_getR (j := 156) dX7_putBack_14 k_X7_127 rfl (by decide) rfl rfl ?_
      refine r_iload_n dX7_putBack_17 rfl ?_
      refine r_iald (i) dX7_putBack_18 rfl rfl (show i < 6 by omega) ?_
      refine r_iast (i) dX7_putBack_19 rfl rfl (show i < 6 by omega) ?_
      refine r_aload_n dX7_putBack_20 rfl ?_
      refine r_getR (j := 139) dX7_putBack_21 k_X7_35 rfl (by decide) rfl rfl ?_
      refine r_iload_n dX7_putBack_24 rfl ?_
      refine r_aload_n dX7_putBack_25 rfl ?_
      refine r_getR (j := 157) dX7_putBack_26 k_X7_130 rfl (by decide) rfl rfl ?_
      refine r_iload_n dX7_putBack_29 rfl ?_
      refine r_iald (i) dX7_putBack_30 rfl rfl (show i < 6 by omega) ?_
      refine r_iast (i) dX7_putBack_31 rfl rfl (show i < 6 by omega) ?_
      refine r_iinc dX7_putBack_32 rfl (by first | exact nI_inc _ | rfl) (by decide) rfl rfl ?_
      dsimp only [List.set]
      refine r_goto (tgt := 2) dX7_putBack_35 (by decide) ?_
      refine ih (i + 1) _ (by omega) ((hF.tr (Fr.set rfl)).tr (Fr.set rfl)) (fun j hj => ?_)
      by_cases hji : j = i
      · rw [hji]
        refine ⟨?_, ?_⟩
        · rw [setI_ne (by decide), setI_at, hF.1 _ _ rfl]
        · rw [setI_at, setI_ne (by decide), hF.1 _ _ rfl]
      · obtain ⟨g1, g2⟩ := hg j (by omega)
        refine ⟨?_, ?_⟩
        · rw [setI_ne (by decide), setI_nj hji]; exact g1
        · rw [setI_nj hji, setI_ne (by decide)]; exact g2
set_option maxRecDepth 100000 in
theorem m_X7_putBack {G : WT} {l : Launch} (hG : GOK G) {h : Hp}  : Cl G l 1 yX7_putBack cX7_putBack 2 none [.ref (gA G 134)] h (fun r h' => r = none ∧ Fr pbF h h' ∧ Back1 h h') := by
  refine Cl.of hG (by decide) (Nat.le_of_ble_eq_true rfl) ?_
  show Wp G l 1 RX7 cX7_putBack 2 none 0 [.ref (gA G 134), mk0] [] h _
  refine r_iconst (v := 0) dX7_putBack_0 (by decide) ?_
  refine r_istore_n dX7_putBack_1 (by decide) rfl rfl ?_
  dsimp only [List.set]
  exact back_loop 6 0 h (by omega) Fr.rf (fun j hj => absurd hj (by omega))
/-- kept, gone on, put back: the table is as it was -/
theorem back_tb {h g g1 g2 : Hp} {T : Tb} (hT : RTb h T) (hE : T.1 7 0 ≤ 5) (hK : Kept h g) (hF : Fr kpF h g) (hG1 : Fr goF g g1) (hB : Fr pbF g1 g2) (hB1 : Back1 g1 g2) : RTb g2 T := by
  obtain ⟨r1, r2, r3, r4, r5⟩ := hT
  obtain ⟨b1, b2, b3, b4⟩ := hB1
  obtain ⟨k1, k2, k3, k4⟩ := hK
  have e1 : ∀ a i, keepDom a i → g2.1 a i = h.1 a i := by
    intro a i hd
    have z := goF_dom a i hd
    simp only [keepDom] at hd
    rw [hB.1, hG1.1 _ _ z, hF.1]
    · simp only [kpF, Bool.or_eq_false_iff, Bool.and_eq_false_iff, beq_eq_false_iff_ne]; omega
    · simp only [pbF, Bool.or_eq_false_iff, Bool.and_eq_false_iff, beq_eq_false_iff_ne]; omega
  refine ⟨by rw [e1 _ _ (by simp [keepDom])]; exact r1, by rw [b2, hG1.1 _ _ rfl, k2]; exact r2, by rw [b3, hG1.1 _ _ rfl, k3]; exact r3, by rw [b4, hG1.1 _ _ rfl, k4]; exact r4, fun e he => ?_⟩
  obtain ⟨s1, s2, s3, s4, s5, s6⟩ := r5 e he
  have q := b1 e (by omega)
  have q2 := k1 e (by omega)
  exact ⟨by rw [e1 _ _ (by simp [keepDom])]; exact s1, by rw [e1 _ _ (by simp [keepDom])]; exact s2, by rw [e1 _ _ (by simp [keepDom])]; exact s3, by rw [q.1, hG1.1 _ _ rfl, q2.1]; exact s4, by rw [q.2, hG1.1 _ _ rfl, q2.2]; exact s5, fun p hp => by rw [e1 _ _ (by simp [keepDom])]; exact s6 p hp⟩
theorem goF_kept {h g g1 : Hp} (hK : Kept h g) (hG1 : Fr goF g g1) : Kept h g1 := by
  obtain ⟨k1, k2, k3, k4⟩ := hK
  exact ⟨fun i hi => by rw [hG1.1 _ _ rfl, hG1.1 _ _ rfl]; exact k1 i hi, by rw [hG1.1 _ _ rfl]; exact k2, by rw [hG1.1 _ _ rfl]; exact k3, by rw [hG1.1 _ _ rfl]; exact k4⟩
set_option maxRecDepth 100000 in
theorem m_X7_gladBehind {G : WT} {l : Launch} (hG : GOK G) {h : Hp} {b : Nat} {V : Hv} {T : Tb} {told : Option Nat} {free : Bool} {pact : Option (Nat × Nat)} {N i : Nat} (hi : i < T.1 7 0) (hN : N ≤ 1000) (hday : T.1 7 2 + N < 100000) (C : SC h b V T told free) (hP : RPc h (T.1 7 0) pact) : Cl G l 11 yX7_gladBehind cX7_gladBehind 4 (some .int) [.ref (gA G 134), .int (nI i), .int (nI N)] h (fun r h' => r = some (.int ((supN V (supE V told free pact) T N).2 i)) ∧ RTb h' T ∧ Fr (fun a i => kpF a i || goF a i) h h') := by
  refine Cl.of hG (by decide) (Nat.le_of_ble_eq_true rfl) ?_
  show Wp G l 11 RX7 cX7_gladBehind 4 (some .int) 0 [.ref (gA G 134), .int (nI i), .int (nI N), mk0] [] h _
  have hE := C.2.1.1
  refine r_aload_n dX7_gladBehind_0 rfl ?_
  refine r_callV dX7_gladBehind_1 l_X7_341 o_X7_keep v_X7_keep rfl (by decide) rfl rfl (m_X7_keep hG) (by decide) rfl (Nat.le_of_ble_eq_true rfl) (fun r1 h1 hq1 => ?_)
  obtain ⟨rfl, hF1, hK1, hB1⟩ := hq1
  refine r_aload_n dX7_gladBehind_4 rfl ?_
  refine r_iload_n dX7_gladBehind_5 rfl ?_
  refine r_callV dX7_gladBehind_6 l_X7_344 o_X7_goOn v_X7_goOn rfl (by decide) rfl rfl (m_X7_goOn (pact := pact) hG hN hday (C.fr hF1 kpF_dom) (hP.fr hF1 rfl rfl)) (by decide) rfl (Nat.le_of_ble_eq_true rfl) (fun r6 h6 hq6 => ?_)
  obtain ⟨rfl, hF6, hR6, hB6⟩ := hq6
  refine r_aload_n dX7_gladBehind_9 rfl ?_
  refine r_getR (j := 139) dX7_gladBehind_10 k_X7_35 rfl (by decide) rfl rfl ?_
  refine r_iload_n dX7_gladBehind_13 rfl ?_
  refine r_iald (i) dX7_gladBehind_14 rfl rfl (show i < 6 by omega) ?_
  refine r_istore_n dX7_gladBehind_15 (by decide) rfl rfl ?_
  dsimp only [List.set]
  refine r_aload_n dX7_gladBehind_16 rfl ?_
  refine r_callV dX7_gladBehind_17 l_X7_347 o_X7_putBack v_X7_putBack rfl (by decide) rfl rfl (m_X7_putBack hG) (by decide) rfl (Nat.le_of_ble_eq_true rfl) (fun r17 h17 hq17 => ?_)
  obtain ⟨rfl, hF17, hB17⟩ := hq17
  refine r_iload_n dX7_gladBehind_20 rfl ?_
  refine r_ireturn dX7_gladBehind_21 ⟨_, rfl, rfl⟩ ?_
  refine ⟨by rw [(hR6.2.2.2.2 i (by rw [supN_E]; exact hi)).2.2.2.2.1], back_tb C.1 hE hK1 hF1 hF6 hF17 hB17, ?_⟩
  refine ((hF1.wk ?_).tr (hF6.wk ?_)).tr (hF17.wk ?_)
  · intro x j q; simp only [Bool.or_eq_false_iff] at q; exact q.1
  · intro x j q; simp only [Bool.or_eq_false_iff] at q; exact q.2
  · intro x j q
    simp only [goF, Bool.or_eq_false_iff] at q
    simp only [pbF, Bool.or_eq_false_iff]
    exact ⟨⟨q.2.1.1.1.2, q.2.1.1.2⟩, q.2.2⟩
