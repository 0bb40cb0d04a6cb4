/-! the supper's end -/
def midT (T : Tb) (A : Nat → Nat) (Z : Nat → Int32) (j : Nat) : Tb := (fun r i => if r = 3 ∧ i < j then A i else T.1 r i, fun i => if i < j then Z i else T.2 i)
theorem midT_ne {T : Tb} {A : Nat → Nat} {Z : Nat → Int32} {j r i : Nat} (h : ¬ r = 3) : (midT T A Z j).1 r i = T.1 r i := if_neg (fun y => h y.1)
theorem midT_0 {T : Tb} {A : Nat → Nat} {Z : Nat → Int32} : midT T A Z 0 = T := by
  unfold midT
  refine Prod.ext (funext fun r => funext fun i => ?_) (funext fun i => ?_)
  · exact if_neg (fun y => Nat.not_lt_zero _ y.2)
  · rfl
theorem DTb.eatg {g g' : Hp} {t j : Nat} {T : Tb} {A : Nat → Nat} {Z : Nat → Int32} (H : DTb g t (midT T A Z j)) (hj : j < T.1 7 0) (h5 : T.1 7 0 ≤ 5) (e4 : ∀ i, g'.1 (t + 4) i = if i = j then nI (A j) else g.1 (t + 4) i) (e5 : ∀ i, g'.1 (t + 5) i = if i = j then Z j else g.1 (t + 5) i) (eo : ∀ b, t ≤ b → b ≤ t + 7 → ¬ b = t + 4 → ¬ b = t + 5 → g'.1 b = g.1 b) : DTb g' t (midT T A Z (j + 1)) := by
  obtain ⟨⟨a1, a2, a3, a4, a5, a6⟩, b, c⟩ := H
  rw [midT_ne (by decide)] at a1 a2 a3 a4 a5 a6
  refine ⟨⟨?_, ?_, ?_, ?_, ?_, ?_⟩, fun e he => ⟨fun y => ?_, fun y => ?_⟩, fun k hk h12 => ?_⟩
  · rw [eo t (by omega) (by omega) (by omega) (by omega), midT_ne (by decide)]; exact a1
  · rw [eo t (by omega) (by omega) (by omega) (by omega), midT_ne (by decide)]; exact a2
  · rw [eo t (by omega) (by omega) (by omega) (by omega), midT_ne (by decide)]; exact a3
  · rw [eo t (by omega) (by omega) (by omega) (by omega), midT_ne (by decide)]; exact a4
  · rw [eo t (by omega) (by omega) (by omega) (by omega), midT_ne (by decide)]; exact a5
  · rw [eo t (by omega) (by omega) (by omega) (by omega), midT_ne (by decide)]; exact a6
  · rw [midT_ne (by decide)] at y
    obtain ⟨b1, b2, b3, b4, b5, b6⟩ := (b e he).1 (by rw [midT_ne (by decide)]; exact y)
    rw [midT_ne (by decide)] at b1 b2 b3
    rw [eo (t + 1) (by omega) (by omega) (by omega) (by omega), eo (t + 2) (by omega) (by omega) (by omega) (by omega), eo (t + 3) (by omega) (by omega) (by omega) (by omega), eo (t + 6) (by omega) (by omega) (by omega) (by omega), midT_ne (by decide), midT_ne (by decide), midT_ne (by decide)]
    refine ⟨b1, b2, b3, ?_, ?_, fun p hp => ?_⟩
    · rw [e4]
      show _ = nI (if 3 = 3 ∧ e < j + 1 then A e else T.1 3 e)
      by_cases z : e = j
      · rw [if_pos z, if_pos ⟨rfl, by omega⟩, z]
      · rw [if_neg z, b4]
        show nI (if 3 = 3 ∧ e < j then A e else T.1 3 e) = _
        by_cases z2 : e < j
        · rw [if_pos ⟨rfl, z2⟩, if_pos ⟨rfl, by omega⟩]
        · rw [if_neg (fun y9 => z2 y9.2), if_neg (fun y9 => absurd y9.2 (by omega))]
    · rw [e5]
      show _ = if e < j + 1 then Z e else T.2 e
      by_cases z : e = j
      · rw [if_pos z, if_pos (by omega), z]
      · rw [if_neg z, b5]
        show (if e < j then Z e else T.2 e) = _
        by_cases z2 : e < j
        · rw [if_pos z2, if_pos (by omega)]
        · rw [if_neg z2, if_neg (by omega)]
    · have b6 := b6 p hp
      rw [midT_ne (by decide)] at b6 ⊢
      exact b6
  · rw [midT_ne (by decide)] at y
    obtain ⟨b1, b2, b3⟩ := (b e he).2 (by rw [midT_ne (by decide)]; exact y)
    rw [e4, e5, eo (t + 6) (by omega) (by omega) (by omega) (by omega), if_neg (by omega), if_neg (by omega)]
    exact ⟨b1, b2, b3⟩
  · rw [midT_ne (by decide)] at hk ⊢
    rw [eo (t + 7) (by omega) (by omega) (by omega) (by omega)]
    have c9 := c k (by rw [midT_ne (by decide)]; exact hk) h12
    rw [midT_ne (by decide)] at c9
    exact c9
def ehF (t a _i : Nat) : Bool := a == t + 4 || a == t + 5
theorem EvC.eh {h h' : Hp} {t q law : Nat} {V : Hv} {T : Tb} {free : Bool} (C : EvC h t q V T law free) (hF : Fr (ehF t) h h') : EvC h' t q V T law free := by
  obtain ⟨u, u1, u2⟩ := ts_at C.1.2.2.1
  exact C.fr hF (fun a i y1 y2 => by simp [ehF]; omega) (fun i => Or.inl (by simp [ehF])) (fun i => by simp [ehF]) ⟨by simp [ehF]; omega, by simp [ehF]; omega, by simp [ehF]; omega, by simp [ehF]; omega⟩ (C.2.2.2.2.2.2.eq (fun a y1 y2 => funext fun i => hF.1 a i (by simp [ehF]; omega)))
theorem eh_ho {t : Nat} {h h' : Hp} (H : Fr (ehF t) h h') : Fx (hoFd t) h h' := H.x.wk (fun x i y => by
  simp only [hoFd, ehF, Bool.or_eq_false_iff, Bool.and_eq_false_iff, decide_eq_false_iff_not, beq_eq_false_iff_ne, ne_eq] at y ⊢
  omega)
/-- what is known of the supper held -/
def HeldC (h : Hp) (t q : Nat) (V : Hv) (P : Sup) (T : Tb) : Prop := h.2.2 37 8 = t ∧ h.2.2 37 9 = q ∧ h.1 37 12 = nI (bkS V P T (wishP V P T)) ∧ ∀ e, e < T.1 7 0 → h.1 40 e = nI (ateS (T.1 7 1) (wishP V P T) e) ∧ h.1 41 e = nI (prtS V (ateS (T.1 7 1) (wishP V P T)) e) ∧ h.1 38 e = nI (wishP V P T e)
def HoldP (h h' : Hp) (t q : Nat) (V : Hv) (P : Sup) (T : Tb) : Prop := Fx (hoFd t) h h' ∧ DTb h' t (supS V P T) ∧ W0 h' ∧ (0 < T.1 7 0 → HeldC h' t q V P T)
theorem ho_end {G : WT} {l : Launch} (hG : GOK G) {t q law : Nat} {V : Hv} {T : Tb} {free : Bool} {pact : Option (Nat × Nat)} {h0 g : Hp} {x3 : Value} (hday : T.1 7 2 + 1 < 100000) (hE0 : 0 < T.1 7 0) (C : EvC g t q V T law free) (D : DTb g t (midT T (ateS (T.1 7 1) (wishP V (supL law free pact) T)) (fun i => T.2 i + zI (hasW V (supL law free pact) T (wishP V (supL law free pact) T) i)) (T.1 7 0))) (hF : Fx (hoFd t) h0 g) (hlf : g.1 37 11 = nI (leftS (T.1 7 1) (wishP V (supL law free pact) T) (T.1 7 0))) (hH : HeldC g t q V (supL law free pact) T) : Wp G l 5 RX3 cX3_hold 4 none 95 [.ref (gA G 37), .ref (gA G t), .ref (gA G q), x3] [] g (fun r h' => r = none ∧ HoldP h0 h' t q V (supL law free pact) T) := by
  have ok := C.2.2.1
  have r3 := C.1.2.2.1
  have r4 := C.1.2.2.2
  obtain ⟨u, u1, u2⟩ := ts_at r3
  obtain ⟨v, v1, v2⟩ := hs_at r4
  have h5 := ok.1
  have hlo := lastS_le C.2.1.2.1 2 (d := 8) (by omega)
  have hlo : loafS V ≤ 99 := hlo
  have hll := leftS_le (T.1 7 1) (wishP V (supL law free pact) T) (T.1 7 0)
  have hbn := ok.2.1
  have eloaf : g.1 q 9 = nI (loafS V) := C.2.1.2.2.2.2.1
  obtain ⟨d1, d2, d3⟩ := id D
  have em : (if nI (leftS (T.1 7 1) (wishP V (supL law free pact) T) (T.1 7 0)) + nI (loafS V) < (99 : Int32) then nI (leftS (T.1 7 1) (wishP V (supL law free pact) T) (T.1 7 0)) + nI (loafS V) else 99) = nI (min 99 (leftS (T.1 7 1) (wishP V (supL law free pact) T) (T.1 7 0) + loafS V)) := by
    rw [nI_add]
    exact minI (a := 99) (by omega) (by omega)
  have eday : g.1 t 9 = nI (T.1 7 2) := by have := d1.2.2.1; rwa [midT_ne (by decide)] at this
  refine r_aload_n dX3_hold_95 rfl ?_
  refine r_bipush (v := 99) dX3_hold_96 (by decide) ?_
  refine r_aload_n dX3_hold_98 rfl ?_
  refine r_getI dX3_hold_99 k_X3_54 rfl (by decide) rfl ?_
  refine r_aload_n dX3_hold_102 rfl ?_
  refine r_getI dX3_hold_103 k_X3_113 (by assumption) (by decide) rfl ?_
  rw [hlf, eloaf]
  refine r_iadd dX3_hold_106 ?_
  refine r_min dX3_hold_107 l_X3_116 o_J9_min_7cf53 rfl s_J9_min_7cf53 (by decide) (Nat.le_of_ble_eq_true rfl) ?_
  rw [em]
  refine r_putI dX3_hold_110 k_X3_74 (by assumption) (by decide) rfl rfl rfl rfl ?_
  refine r_aload_n dX3_hold_113 rfl ?_
  refine r_dup dX3_hold_114 rfl ?_
  refine r_getI dX3_hold_115 k_X3_77 (by assumption) (by decide) rfl ?_
  rw [setI_nj (by decide), eday]
  refine r_iconst (v := 1) dX3_hold_118 (by decide) ?_
  refine r_iadd dX3_hold_119 ?_
  rw [nI_1]
  refine r_putI dX3_hold_120 k_X3_77 (by assumption) (by decide) rfl rfl rfl rfl ?_
  refine r_aload_n dX3_hold_123 rfl ?_
  refine r_aload_n dX3_hold_124 rfl ?_
  refine r_getI dX3_hold_125 k_X3_57 rfl (by decide) rfl ?_
  rw [setI_ne (by omega), setI_ne (by omega), hH.2.2.1]
  refine r_putI dX3_hold_128 k_X3_122 (by assumption) (by decide) rfl rfl rfl rfl ?_
  refine r_return dX3_hold_131 rfl ?_
  obtain ⟨g2, hg2⟩ : ∃ g2, g2 = setI (setI (setI g t 8 (nI (min 99 (leftS (T.1 7 1) (wishP V (supL law free pact) T) (T.1 7 0) + loafS V)))) t 9 (nI (T.1 7 2 + 1))) t 10 (nI (bkS V (supL law free pact) T (wishP V (supL law free pact) T))) := ⟨_, rfl⟩
  rw [← hg2]
  have o1 : ∀ a, ¬ a = t → g2.1 a = g.1 a := fun a y => by rw [hg2, setI_nx y, setI_nx y, setI_nx y]
  have o2 : ∀ i, ¬ i = 8 → ¬ i = 9 → ¬ i = 10 → g2.1 t i = g.1 t i := fun i y1 y2 y3 => by rw [hg2, setI_nj y3, setI_nj y2, setI_nj y1]
  have n2 : g2.2 = g.2 := by rw [hg2]; rfl
  have es : supS V (supL law free pact) T = supC V (supL law free pact) T (wishP V (supL law free pact) T) := by rw [supS, if_neg (by omega)]
  rw [midT_ne (by decide), midT_ne (by decide), midT_ne (by decide), midT_ne (by decide), midT_ne (by decide), midT_ne (by decide)] at d1
  refine ⟨rfl, hF.tr ⟨fun a i y => ?_, by rw [n2], Or.inl (by rw [n2])⟩, ?_, fun e he => ?_, fun _ => ⟨by rw [n2]; exact hH.1, by rw [n2]; exact hH.2.1, by rw [o1 _ (by omega)]; exact hH.2.2.1, fun e he => ?_⟩⟩
  · have : ¬ a = t := fun z => by
      subst z
      simp [hoFd] at y
    rw [o1 a this]
  · rw [es]
    have es0 : (supC V (supL law free pact) T (wishP V (supL law free pact) T)).1 7 0 = T.1 7 0 := rfl
    refine ⟨⟨?_, ?_, ?_, ?_, ?_, ?_⟩, fun e he => ⟨fun y => ?_, fun y => ?_⟩, fun k hk h12 => ?_⟩
    · rw [o2 _ (by decide) (by decide) (by decide)]; exact d1.1
    · rw [hg2, setI_nj (by decide), setI_nj (by decide), setI_at]; rfl
    · rw [hg2, setI_nj (by decide), setI_at]; rfl
    · rw [hg2, setI_at]
      show _ = bkA (bkS V (supL law free pact) T (wishP V (supL law free pact) T) + 1)
      rw [bkA, if_neg (by omega), Nat.add_sub_cancel]
    · rw [o2 _ (by decide) (by decide) (by decide)]; exact d1.2.2.2.2.1
    · rw [o2 _ (by decide) (by decide) (by decide)]; exact d1.2.2.2.2.2
    · rw [es0] at y
      obtain ⟨b1, b2, b3, b4, b5, b6⟩ := (d2 e he).1 (by rw [midT_ne (by decide)]; exact y)
      rw [o1 _ (by omega), o1 _ (by omega), o1 _ (by omega), o1 _ (by omega), o1 _ (by omega), o1 _ (by omega)]
      rw [midT_ne (by decide)] at b1 b2 b3
      refine ⟨b1, b2, b3, ?_, ?_, fun p hp => ?_⟩
      · rw [b4, show (midT T (ateS (T.1 7 1) (wishP V (supL law free pact) T)) (fun i => T.2 i + zI (hasW V (supL law free pact) T (wishP V (supL law free pact) T) i)) (T.1 7 0)).1 3 e = ateS (T.1 7 1) (wishP V (supL law free pact) T) e from if_pos ⟨rfl, y⟩]
        simp [supC, y]
      · rw [b5, show (midT T (ateS (T.1 7 1) (wishP V (supL law free pact) T)) (fun i => T.2 i + zI (hasW V (supL law free pact) T (wishP V (supL law free pact) T) i)) (T.1 7 0)).2 e = T.2 e + zI (hasW V (supL law free pact) T (wishP V (supL law free pact) T) e) from if_pos y]
        simp [supC, y]
      · have b6 := b6 p hp
        rw [midT_ne (by decide)] at b6
        exact b6
    · rw [es0] at y
      obtain ⟨b1, b2, b3⟩ := (d2 e he).2 (by rw [midT_ne (by decide)]; exact y)
      rw [o1 _ (by omega), o1 _ (by omega), o1 _ (by omega)]
      exact ⟨b1, b2, b3⟩
    · have c9 := d3 k (by rw [midT_ne (by decide)]; exact hk) h12
      rw [midT_ne (by decide)] at c9
      rw [o1 _ (by omega)]
      exact c9
  · rw [o1 _ (by omega)]; exact C.2.2.2.2.2.2.2 e he
  · rw [o1 _ (by omega), o1 _ (by omega), o1 _ (by omega)]; exact hH.2.2.2 e he
theorem ho_lp {G : WT} {l : Launch} (hG : GOK G) {t q law : Nat} {V : Hv} {T : Tb} {free : Bool} {pact : Option (Nat × Nat)} {h0 : Hp} (hday : T.1 7 2 + 1 < 100000) (hE0 : 0 < T.1 7 0) : ∀ (n j : Nat) (g : Hp), j + n = T.1 7 0 → EvC g t q V T law free → DTb g t (midT T (ateS (T.1 7 1) (wishP V (supL law free pact) T)) (fun i => T.2 i + zI (hasW V (supL law free pact) T (wishP V (supL law free pact) T) i)) j) → Fx (hoFd t) h0 g → g.1 37 11 = nI (leftS (T.1 7 1) (wishP V (supL law free pact) T) (T.1 7 0)) → HeldC g t q V (supL law free pact) T → Wp G l 5 RX3 cX3_hold 4 none 55 [.ref (gA G 37), .ref (gA G t), .ref (gA G q), .int (nI j)] [] g (fun r h' => r = none ∧ HoldP h0 h' t q V (supL law free pact) T) := by
  intro n
  induction n with
  | zero =>
    intro j g hj C D hF hlf hH
    have ej : j = T.1 7 0 := by omega
    subst ej
    have h5 := C.2.2.1.1
    have r3 := C.1.2.2.1
    refine r_iload_n dX3_hold_55 rfl ?_
    refine r_aload_n dX3_hold_56 rfl ?_
    refine r_getI dX3_hold_57 k_X3_86 (by assumption) (by decide) rfl ?_
    rw [C.2.2.2.1.1]
    refine r_icmp_ge (tgt := 95) dX3_hold_60 (by decide) (fun c_60 => ?_) (fun c_60 => ?_)
    · exact ho_end hG hday hE0 C D hF hlf hH
    · exact absurd (nI_le (by omega) (by omega)) c_60
  | succ n ih =>
    intro j g hj C D hF hlf hH
    have h5 := C.2.2.1.1
    have r3 := C.1.2.2.1
    obtain ⟨u, u1, u2⟩ := ts_at r3
    obtain ⟨m1, m2, m3⟩ := hH.2.2.2 j (by omega)
    have hbk : bkS V (supL law free pact) T (wishP V (supL law free pact) T) < T.1 7 0 := bakeS_lt hE0
    obtain ⟨g1, hg1⟩ : ∃ g1, g1 = setI g (t + 4) j (nI (ateS (T.1 7 1) (wishP V (supL law free pact) T) j)) := ⟨_, rfl⟩
    have F1 : Fr (ehF t) g g1 := by rw [hg1]; exact Fr.set (by simp [ehF])
    have C1 := C.eh F1
    have gl : g1.1 (t + 5) j = T.2 j := by
      rw [hg1, setI_ne (by omega), ((D.2.1 j (by omega)).1 (by rw [midT_ne (by decide)]; omega)).2.2.2.2.1]
      exact if_neg (by omega)
    refine r_iload_n dX3_hold_55 rfl ?_
    refine r_aload_n dX3_hold_56 rfl ?_
    refine r_getI dX3_hold_57 k_X3_86 (by assumption) (by decide) rfl ?_
    rw [C.2.2.2.1.1]
    refine r_icmp_ge (tgt := 95) dX3_hold_60 (by decide) (fun c_60 => ?_) (fun c_60 => ?_)
    · exact absurd c_60 (nI_ge (by omega) (by omega))
    · refine r_aload_n dX3_hold_63 rfl ?_
      refine r_getR (j := t + 4) dX3_hold_64 k_X3_104 (by assumption) (by decide) rfl (rf_T (by assumption) (by decide)) ?_
      refine r_iload_n dX3_hold_67 rfl ?_
      refine r_aload_n dX3_hold_68 rfl ?_
      refine r_getR (j := 40) dX3_hold_69 k_X3_18 rfl (by decide) rfl rfl ?_
      refine r_iload_n dX3_hold_72 rfl ?_
      refine r_iald (j) dX3_hold_73 rfl rfl (show j < 5 by omega) ?_
      rw [m1]
      refine r_iast (j) dX3_hold_74 (ks_T (by assumption) (by decide)) rfl (bT1 3 r3 (by decide) (show j < 5 by omega)) ?_
      rw [← hg1]
      refine r_aload_n dX3_hold_75 rfl ?_
      refine r_getR (j := t + 5) dX3_hold_76 k_X3_107 (by assumption) (by decide) rfl (rf_T (by assumption) (by decide)) ?_
      refine r_iload_n dX3_hold_79 rfl ?_
      refine r_dup2 dX3_hold_80 rfl rfl ?_
      refine r_iald (j) dX3_hold_81 (ks_T (by assumption) (by decide)) rfl (bT1 4 r3 (by decide) (show j < 5 by omega)) ?_
      rw [gl]
      refine r_aload_n dX3_hold_82 rfl ?_
      refine r_iload_n dX3_hold_83 rfl ?_
      refine r_callV dX3_hold_84 l_X3_110 o_X3_has v_X3_has rfl (by decide) rfl rfl (m_X3_has hG C1 (show j < T.1 7 0 by omega) (by rw [F1.1 _ _ (by simp [ehF]; omega)]; exact m1) (Nat.le_trans (ateS_le _ _ _) (wishP_le C.2.2.1 j)) (by rw [F1.1 _ _ (by simp [ehF]; omega)]; exact hH.2.2.1) (by omega)) (by decide) rfl (Nat.le_of_ble_eq_true rfl) (fun r84 h84 hq84 => ?_)
      obtain ⟨rfl, C2, F2⟩ := hq84
      have e9 : (worthTo V T j (ateS (T.1 7 1) (wishP V (supL law free pact) T) j) : Int) - (if j = bkS V (supL law free pact) T (wishP V (supL law free pact) T) ∧ free = false then (costS V (ltS T j (ateS (T.1 7 1) (wishP V (supL law free pact) T) j)) : Int) else 0) = hasW V (supL law free pact) T (wishP V (supL law free pact) T) j := rfl
      rw [e9]
      refine r_iadd dX3_hold_87 ?_
      refine r_iast (j) dX3_hold_88 (ks_T (by assumption) (by decide)) rfl (bT1 4 r3 (by decide) (show j < 5 by omega)) ?_
      refine r_iinc dX3_hold_89 rfl (by first | exact nI_inc _ | rfl) (by decide) rfl rfl ?_
      dsimp only [List.set]
      refine r_goto (tgt := 55) dX3_hold_92 (by decide) ?_
      obtain ⟨g3, hg3⟩ : ∃ g3, g3 = setI h84 (t + 5) j (T.2 j + zI (hasW V (supL law free pact) T (wishP V (supL law free pact) T) j)) := ⟨_, rfl⟩
      rw [← hg3]
      have F3 : Fr (ehF t) h84 g3 := by rw [hg3]; exact Fr.set (by simp [ehF])
      have o9 : ∀ a i, ¬ a = t + 4 → ¬ a = t + 5 → ¬ (42 ≤ a ∧ a ≤ 45) → g3.1 a i = g.1 a i := fun a i y1 y2 y3 => by
        rw [F3.1 _ _ (by simp [ehF, y1, y2]), F2.1 _ _ (by simp [haF]; omega), F1.1 _ _ (by simp [ehF, y1, y2])]
      have n9 : g3.2 = g.2 := by rw [F3.2, F2.2, F1.2]
      refine ih (j + 1) g3 (by omega) (C2.eh F3) (D.eatg (by omega) h5 (fun i => ?_) (fun i => ?_) (fun b y1 y2 y3 y4 => funext fun i => o9 b i y3 y4 (by omega))) (((hF.tr (eh_ho F1)).tr (wi_ho (ha_wi F2))).tr (eh_ho F3)) (by rw [o9 _ _ (by omega) (by omega) (by omega)]; exact hlf) ⟨by rw [n9]; exact hH.1, by rw [n9]; exact hH.2.1, by rw [o9 _ _ (by omega) (by omega) (by omega)]; exact hH.2.2.1, fun e he => by rw [o9 _ _ (by omega) (by omega) (by omega), o9 _ _ (by omega) (by omega) (by omega), o9 _ _ (by omega) (by omega) (by omega)]; exact hH.2.2.2 e he⟩
      · rw [hg3, setI_ne (by omega), F2.1 _ _ (by simp [haF]; omega), hg1]
        by_cases z : i = j
        · rw [if_pos z, z, setI_at]
        · rw [if_neg z, setI_nj z]
      · rw [hg3]
        by_cases z : i = j
        · rw [if_pos z, z, setI_at]
        · rw [if_neg z, setI_nj z, F2.1 _ _ (by simp [haF]; omega), hg1, setI_ne (by omega)]
theorem ho_41 {G : WT} {l : Launch} (hG : GOK G) {t q law : Nat} {V : Hv} {T : Tb} {free : Bool} {pact : Option (Nat × Nat)} {h0 g : Hp} {x3 : Value} (ht : ksh t = 4) (hq : ksh q = 1) (hE0 : 0 < T.1 7 0) (hday : T.1 7 2 + 1 < 100000) (hl3 : law < 3) (C : EvC g t q V T law free) (D : DTb g t T) (hw : ∀ j, j < T.1 7 0 → g.1 38 j = nI (wishS V (supL law free pact) T j)) (hF : Fx (hoFd t) h0 g) (hP : RDp g (T.1 7 0) pact) : Wp G l 5 RX3 cX3_hold 4 none 41 [.ref (gA G 37), .ref (gA G t), .ref (gA G q), x3] [] g (fun r h' => r = none ∧ HoldP h0 h' t q V (supL law free pact) T) := by
  have ok := C.2.2.1
  have h5 := ok.1
  have hV := C.2.1.2.1
  obtain ⟨u, u1, u2⟩ := ts_at ht
  obtain ⟨v, v1, v2⟩ := hs_at hq
  refine r_aload_n dX3_hold_41 rfl ?_
  refine r_callV dX3_hold_42 l_X3_97 o_X3_keepPact v_X3_keepPact rfl (by decide) rfl rfl (m_X3_keepPact hG ht C.1.1 D.1.2.2.1 ok hP hw) (by decide) rfl (Nat.le_of_ble_eq_true rfl) (fun r42 h42 hq42 => ?_)
  obtain ⟨rfl, F1, w1⟩ := hq42
  have C1 := C.wish F1
  have D1 := D.wish ht F1
  have hw1 : ∀ e, e < T.1 7 0 → h42.1 38 e = nI (wishP V (supL law free pact) T e) ∧ wishP V (supL law free pact) T e ≤ 9 := fun e he => ⟨by rw [w1 e he, pactW_P], wishP_le ok e⟩
  refine r_aload_n dX3_hold_45 rfl ?_
  refine r_aload_n dX3_hold_46 rfl ?_
  refine r_getR (j := 38) dX3_hold_47 k_X3_9 rfl (by decide) rfl rfl ?_
  refine r_callV dX3_hold_50 l_X3_100 o_X3_serve v_X3_serve rfl (by decide) rfl rfl (m_X3_serve hG ht hq (a := 38) rfl (by decide) (by decide) (by decide) h5 ok.2.1 (scaleS_pos V) (scaleS_le hV) C1.1.1 C1.1.2.1 C1.2.2.2.1.1 D1.1.2.1 C1.2.1.2.2.2.2.2.2 C1.2.2.2.2.1.1 hl3 hw1) (by decide) rfl (Nat.le_of_ble_eq_true rfl) (fun r50 h50 hq50 => ?_)
  obtain ⟨rfl, F2, s2, s3, s4⟩ := hq50
  have C2 := C1.sv F2
  have D2 := D1.wi ht (sv_wi F2)
  refine r_iconst (v := 0) dX3_hold_53 (by decide) ?_
  refine r_istore_n dX3_hold_54 (by decide) rfl rfl ?_
  dsimp only [List.set]
  refine ho_lp hG hday hE0 (T.1 7 0) 0 h50 (by omega) C2 (by rw [midT_0]; exact D2) ((hF.tr (wish_wi F1)).tr (wi_ho (sv_wi F2))) s3 ⟨C2.1.1, C2.1.2.1, by rw [s4, bk5, if_neg (by omega)]; rfl, fun e he => ⟨(s2 e he).1, (s2 e he).2, by rw [F2.1 _ _ rfl]; exact (hw1 e he).1⟩⟩
set_option maxRecDepth 100000 in
theorem m_X3_hold {G : WT} {l : Launch} (hG : GOK G) {h : Hp} {t q : Nat} {V : Hv} {T : Tb} {told : Option Nat} {free : Bool} {pact : Option (Nat × Nat)} (ht : ksh t = 4) (hu : t = 1 ∨ t = 17) (hq : ksh q = 1) (HT : DTb h t T) (hT : TbOK T) (HV : DHs h q V) (hS : SeC h told free) (h0 : W0 h) (hP : RDp h (T.1 7 0) pact) (hday : T.1 7 2 + 1 < 100000) : Cl G l 5 yX3_hold cX3_hold 4 none [.ref (gA G 37), .ref (gA G t), .ref (gA G q)] h (fun r h' => r = none ∧ HoldP h h' t q V (supE V told free pact) T) := by
  refine Cl.of hG (by decide) (Nat.le_of_ble_eq_true rfl) ?_
  show Wp G l 5 RX3 cX3_hold 4 none 0 [.ref (gA G 37), .ref (gA G t), .ref (gA G q), mk0] [] h _
  obtain ⟨u, u1, u2⟩ := ts_at ht
  obtain ⟨v, v1, v2⟩ := hs_at hq
  have h5 := hT.1
  by_cases hE : T.1 7 0 = 0
  · refine r_aload_n dX3_hold_0 rfl ?_
    refine r_getI dX3_hold_1 k_X3_86 (by assumption) (by decide) rfl ?_
    rw [HT.1.1]
    refine r_if_ne (tgt := 8) dX3_hold_4 (by decide) (fun c_4 => ?_) (fun c_4 => ?_)
    · exact absurd (by rw [hE]; rfl) c_4
    · refine r_return dX3_hold_7 rfl ?_
      exact ⟨rfl, Fx.rf, by rw [supS, if_pos hE]; exact HT, h0, fun y => absurd y (by omega)⟩
  · refine r_aload_n dX3_hold_0 rfl ?_
    refine r_getI dX3_hold_1 k_X3_86 (by assumption) (by decide) rfl ?_
    rw [HT.1.1]
    refine r_if_ne (tgt := 8) dX3_hold_4 (by decide) (fun c_4 => ?_) (fun c_4 => ?_)
    · refine r_aload_n dX3_hold_8 rfl ?_
      refine r_aload_n dX3_hold_9 rfl ?_
      refine r_aload_n dX3_hold_10 rfl ?_
      refine r_callV dX3_hold_11 l_X3_89 o_X3_begin v_X3_begin rfl (by decide) rfl rfl (m_X3_begin hG ht hu hq HT hT HV hS h0) (by decide) rfl (Nat.le_of_ble_eq_true rfl) (fun r11 h11 hq11 => ?_)
      obtain ⟨rfl, C1, F1⟩ := hq11
      have D1 := HT.be ht F1
      have hl3 := C1.2.2.2.2.1.2.1
      refine r_iconst (v := 0) dX3_hold_14 (by decide) ?_
      refine r_istore_n dX3_hold_15 (by decide) rfl rfl ?_
      dsimp only [List.set]
      refine wl_lp hG (h0 := h11) (pact := pact) hl3 (fun g C2 D2 hw2 F2 hp2 x3 => ?_) (T.1 7 0) 0 h11 (by omega) C1 D1 (fun i y => absurd y (by omega)) Fx.rf (fun _ _ => rfl)
      exact ho_41 hG ht hq (by omega) hday hl3 C2 D2 hw2 ((be_ho F1).tr F2) (hP.eq (fun i hi => by rw [hp2 i hi]; exact F1.1 _ _ (by rcases hi with rfl | rfl <;> rfl)))
    · exact absurd ((nI_eq' (b := 0) (by omega) (by omega)).mp c_4) hE
