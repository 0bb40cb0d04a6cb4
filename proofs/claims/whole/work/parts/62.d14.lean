/-! what each has, by the developers' class: worths and costs that are known stand in rows -/
def W0 (h : Hp) : Prop := ∀ e, e < 5 → h.1 43 (10 * e) = 0
def CaOK (h : Hp) (V : Hv) (T : Tb) : Prop := (∀ e, e < T.1 7 0 → (∃ k, k ≤ 9 ∧ h.1 44 e = nI k ∧ ∀ a, a ≤ k → h.1 43 (10 * e + a) = nI (worthTo V T e a)) ∧ ∀ a, a ≤ 9 → h.1 45 (10 * e + a) = -1 ∨ h.1 45 (10 * e + a) = nI (costS V (ltS T e a))) ∧ W0 h
def EvC (h : Hp) (t q : Nat) (V : Hv) (T : Tb) (law : Nat) (free : Bool) : Prop := (h.2.2 37 8 = t ∧ h.2.2 37 9 = q ∧ ksh t = 4 ∧ ksh q = 1) ∧ DHs h q V ∧ TbOK T ∧ (h.1 t 7 = nI (T.1 7 0) ∧ ∀ e, e < T.1 7 0 → h.1 (t + 1) e = nI (T.1 0 e) ∧ h.1 (t + 3) e = nI (T.1 2 e)) ∧ (h.1 37 10 = nI law ∧ law < 3 ∧ h.1 37 14 = b01 free) ∧ (h.1 42 4 = nI (T.1 7 1 / 10) ∧ h.1 42 5 = nI (T.1 7 2 % 7)) ∧ CaOK h V T
theorem DHs.eq {h h' : Hp} {q : Nat} {V : Hv} (H : DHs h q V) (e : ∀ a, q ≤ a → a ≤ q + 7 → h'.1 a = h.1 a) : DHs h' q V := by
  obtain ⟨h1, h2, h3, h4, h5, h6, h7⟩ := H
  refine ⟨by rw [e q (by omega) (by omega)]; exact h1, h2, h3, fun c hc => ?_, by rw [e q (by omega) (by omega)]; exact h5, by rw [e q (by omega) (by omega)]; exact h6, by rw [e q (by omega) (by omega)]; exact h7⟩
  obtain ⟨a1, a2, a3, a4, a5⟩ := h4 c hc
  refine ⟨by rw [e _ (by omega) (by omega)]; exact a1, by rw [e _ (by omega) (by omega)]; exact a2, by rw [e _ (by omega) (by omega)]; exact a3, fun j u y => (a4 j u y).eq (fun a h8 h9 => by rw [e a (by omega) (by omega)]), a5⟩
theorem EvC.fr {h h' : Hp} {t q law : Nat} {V : Hv} {T : Tb} {free : Bool} {S : Nat → Nat → Bool} (C : EvC h t q V T law free) (hF : Fr S h h') (s1 : ∀ a i, 50 ≤ a → a ≤ 121 → S a i = false) (s2 : ∀ i, S t i = false ∨ ¬ i = 7) (s3 : ∀ i, S (t + 1) i = false ∧ S (t + 3) i = false) (s4 : S 37 10 = false ∧ S 37 14 = false ∧ S 42 4 = false ∧ S 42 5 = false) (hc : CaOK h' V T) : EvC h' t q V T law free := by
  obtain ⟨⟨r1, r2, r3, r4⟩, d, ok, ⟨t1, t2⟩, ⟨l1, l2, l3⟩, ⟨m1, m2⟩, -⟩ := C
  obtain ⟨u, u1, u2⟩ := hs_at r4
  refine ⟨⟨by rw [hF.2]; exact r1, by rw [hF.2]; exact r2, r3, r4⟩, d.eq (fun a y1 y2 => funext fun i => hF.1 a i (s1 a i (by omega) (by omega))), ok, ⟨?_, fun e he => ?_⟩, ⟨by rw [hF.1 _ _ s4.1]; exact l1, l2, by rw [hF.1 _ _ s4.2.1]; exact l3⟩, ⟨by rw [hF.1 _ _ s4.2.2.1]; exact m1, by rw [hF.1 _ _ s4.2.2.2]; exact m2⟩, hc⟩
  · rw [hF.1 _ _ ((s2 7).resolve_right (fun y => y rfl))]; exact t1
  · rw [hF.1 _ _ (s3 e).1, hF.1 _ _ (s3 e).2]; exact t2 e he
def haF (a i : Nat) : Bool := (a == 42 && decide (i ≤ 3)) || a == 43 || a == 44 || a == 45
theorem EvC.ha {h h' : Hp} {t q law : Nat} {V : Hv} {T : Tb} {free : Bool} (C : EvC h t q V T law free) (hF : Fr haF h h') (hc : CaOK h' V T) : EvC h' t q V T law free := by
  obtain ⟨u, u1, u2⟩ := ts_at C.1.2.2.1
  exact C.fr hF (fun a i y1 y2 => by simp [haF]; omega) (fun i => Or.inl (by simp [haF]; omega)) (fun i => by simp [haF]; omega) ⟨rfl, rfl, rfl, rfl⟩ hc
theorem CaOK.eq {h h' : Hp} {V : Hv} {T : Tb} (H : CaOK h V T) (e : ∀ a, 43 ≤ a → a ≤ 45 → h'.1 a = h.1 a) : CaOK h' V T := by
  refine ⟨fun j hj => ?_, fun j hj => ?_⟩
  · rw [e 43 (by omega) (by omega), e 44 (by omega) (by omega), e 45 (by omega) (by omega)]
    exact H.1 j hj
  · rw [e 43 (by omega) (by omega)]
    exact H.2 j hj
set_option maxRecDepth 100000 in
theorem m_X3_turnTo {G : WT} {l : Launch} (hG : GOK G) {h : Hp} {t q law e : Nat} {V : Hv} {T : Tb} {free : Bool} (C : EvC h t q V T law free) (he : e < T.1 7 0) : Cl G l 1 yX3_turnTo cX3_turnTo 2 none [.ref (gA G 37), .int (nI e)] h (fun r h' => r = none ∧ EvC h' t q V T law free ∧ h'.1 42 0 = nI e ∧ h'.1 42 1 = nI (T.1 0 e) ∧ h'.1 42 2 = nI (T.1 2 e) ∧ Fr (fun a i => a == 42 && decide (i ≤ 2)) h h') := by
  refine Cl.of hG (by decide) (Nat.le_of_ble_eq_true rfl) ?_
  show Wp G l 1 RX3 cX3_turnTo 2 none 0 [.ref (gA G 37), .int (nI e)] [] h _
  obtain ⟨⟨r1, r2, r3, r4⟩, d, ok, ⟨t1, t2⟩, l, m, ca⟩ := id C
  obtain ⟨u, u1, u2⟩ := ts_at r3
  obtain ⟨k1, k2⟩ := t2 e he
  have h5 := ok.1
  refine r_aload_n dX3_turnTo_0 rfl ?_
  refine r_getR (j := 42) dX3_turnTo_1 k_X3_24 rfl (by decide) rfl rfl ?_
  refine r_iconst (v := 0) dX3_turnTo_4 (by decide) ?_
  refine r_iload_n dX3_turnTo_5 rfl ?_
  refine r_iast (0) dX3_turnTo_6 rfl rfl (by decide) ?_
  refine r_aload_n dX3_turnTo_7 rfl ?_
  refine r_getR (j := 42) dX3_turnTo_8 k_X3_24 rfl (by decide) rfl rfl ?_
  refine r_iconst (v := 1) dX3_turnTo_11 (by decide) ?_
  refine r_aload_n dX3_turnTo_12 rfl ?_
  refine r_getR (j := t) dX3_turnTo_13 k_X3_39 rfl (by decide) rfl r1 ?_
  refine r_getR (j := t + 1) dX3_turnTo_16 k_X3_123 (by assumption) (by decide) rfl (rf_T (by assumption) (by decide)) ?_
  refine r_iload_n dX3_turnTo_19 rfl ?_
  refine r_iald (e) dX3_turnTo_20 (ks_T (by assumption) (by decide)) rfl (bT1 0 r3 (by decide) (show e < 5 by omega)) ?_
  rw [setI_ne (by omega), k1]
  refine r_iast (1) dX3_turnTo_21 rfl rfl (by decide) ?_
  refine r_aload_n dX3_turnTo_22 rfl ?_
  refine r_getR (j := 42) dX3_turnTo_23 k_X3_24 rfl (by decide) rfl rfl ?_
  refine r_iconst (v := 2) dX3_turnTo_26 (by decide) ?_
  refine r_aload_n dX3_turnTo_27 rfl ?_
  refine r_getR (j := t) dX3_turnTo_28 k_X3_39 rfl (by decide) rfl r1 ?_
  refine r_getR (j := t + 3) dX3_turnTo_31 k_X3_157 (by assumption) (by decide) rfl (rf_T (by assumption) (by decide)) ?_
  refine r_iload_n dX3_turnTo_34 rfl ?_
  refine r_iald (e) dX3_turnTo_35 (ks_T (by assumption) (by decide)) rfl (bT1 2 r3 (by decide) (show e < 5 by omega)) ?_
  rw [setI_ne (by omega), setI_ne (by omega), k2]
  refine r_iast (2) dX3_turnTo_36 rfl rfl (by decide) ?_
  refine r_return dX3_turnTo_37 rfl ?_
  have F9 : Fr (fun a i => a == 42 && decide (i ≤ 2)) h (setI (setI (setI h 42 0 (nI e)) 42 1 (nI (T.1 0 e))) 42 2 (nI (T.1 2 e))) := ((Fr.set rfl).tr (Fr.set rfl)).tr (Fr.set rfl)
  refine ⟨rfl, C.ha (F9.wk (fun x i y => ?_)) (ca.eq (fun a y1 y2 => by rw [setI_nx (by omega), setI_nx (by omega), setI_nx (by omega)])), ?_, ?_, ?_, F9⟩
  · simp only [haF, Bool.or_eq_false_iff, Bool.and_eq_false_iff, decide_eq_false_iff_not] at y ⊢
    exact y.1.1.1.elim Or.inl (fun z => Or.inr (by omega))
  · rw [setI_nj (by decide), setI_nj (by decide), setI_at]
  · rw [setI_nj (by decide), setI_at]
  · rw [setI_at]
theorem EvC.lt {h : Hp} {t q law e a : Nat} {V : Hv} {T : Tb} {free : Bool} (C : EvC h t q V T law free) (he : e < T.1 7 0) (ha : a < 100) (l0 : h.1 42 0 = nI e) (l1 : h.1 42 1 = nI (T.1 0 e)) (l2 : h.1 42 2 = nI (T.1 2 e)) (l3 : h.1 42 3 = nI a) : LtOK h (ltS T e a) := by
  have ok := C.2.2.1
  obtain ⟨t1, t2, t3, t4⟩ := ok.2.2.2.2.2.2.1 e
  have h5 := ok.1
  have h6 := ok.2.1
  have h7 := ok.2.2.1
  intro f hf
  rcases (show f = 0 ∨ f = 1 ∨ f = 2 ∨ f = 3 ∨ f = 4 ∨ f = 5 by omega) with rfl | rfl | rfl | rfl | rfl | rfl
  · exact ⟨l0, by show e < 100; omega⟩
  · exact ⟨l1, by show T.1 0 e < 100; omega⟩
  · exact ⟨l2, by show T.1 2 e < 100; omega⟩
  · exact ⟨l3, by show a < 100; omega⟩
  · exact ⟨C.2.2.2.2.2.1.1, by show T.1 7 1 / 10 < 100; omega⟩
  · exact ⟨C.2.2.2.2.2.1.2, by show T.1 7 2 % 7 < 100; omega⟩
def LeT (h : Hp) (T : Tb) (e : Nat) : Prop := h.1 42 0 = nI e ∧ h.1 42 1 = nI (T.1 0 e) ∧ h.1 42 2 = nI (T.1 2 e)
theorem worth_step (V : Hv) (T : Tb) (e k : Nat) : worthTo V T e (k + 1) = worthTo V T e k + worthS V (ltS T e (k + 1)) := rfl
theorem has_lp {G : WT} {l : Launch} (hG : GOK G) {t q law e n : Nat} {V : Hv} {T : Tb} {free : Bool} {h0 : Hp} (he : e < T.1 7 0) (hn : n ≤ 9) {Q : Option Value → Hp → Prop}
    (k : ∀ (g : Hp) (x3 : Value), EvC g t q V T law free → LeT g T e → g.1 40 e = nI n → g.1 43 (10 * e + n) = nI (worthTo V T e n) → Fr haF h0 g → Wp G l 3 RX3 cX3_has 4 (some .int) 80 [.ref (gA G 37), .int (nI e), .int (nI (10 * e)), x3] [] g Q) :
    ∀ (m a : Nat) (g : Hp), n + 1 ≤ m + a + 1 → a ≤ 9 → EvC g t q V T law free → LeT g T e → g.1 40 e = nI n → g.1 44 e = nI a → (∀ b, b ≤ a → g.1 43 (10 * e + b) = nI (worthTo V T e b)) → Fr haF h0 g → Wp G l 3 RX3 cX3_has 4 (some .int) 19 [.ref (gA G 37), .int (nI e), .int (nI (10 * e)), .int (nI (a + 1))] [] g Q := by
  intro m
  induction m with
  | zero =>
    intro a g hm ha C L hate hkn hwo hF
    have h5 := C.2.2.1.1
    refine r_iload_n dX3_has_19 rfl ?_
    refine r_aload_n dX3_has_20 rfl ?_
    refine r_getR (j := 40) dX3_has_21 k_X3_18 rfl (by decide) rfl rfl ?_
    refine r_iload_n dX3_has_24 rfl ?_
    refine r_iald (e) dX3_has_25 rfl rfl (show e < 5 by omega) ?_
    rw [hate]
    refine r_icmp_gt (tgt := 80) dX3_has_26 (by decide) (fun c_26 => ?_) (fun c_26 => ?_)
    · exact k g _ C L hate (hwo n (by omega)) hF
    · exact absurd (nI_lt (by omega) (by omega)) c_26
  | succ m ih =>
    intro a g hm ha C L hate hkn hwo hF
    have h5 := C.2.2.1.1
    by_cases hna : n ≤ a
    · refine r_iload_n dX3_has_19 rfl ?_
      refine r_aload_n dX3_has_20 rfl ?_
      refine r_getR (j := 40) dX3_has_21 k_X3_18 rfl (by decide) rfl rfl ?_
      refine r_iload_n dX3_has_24 rfl ?_
      refine r_iald (e) dX3_has_25 rfl rfl (show e < 5 by omega) ?_
      rw [hate]
      refine r_icmp_gt (tgt := 80) dX3_has_26 (by decide) (fun c_26 => ?_) (fun c_26 => ?_)
      · exact k g _ C L hate (hwo n (by omega)) hF
      · exact absurd (nI_lt (by omega) (by omega)) c_26
    · have wb := worthTo_le C.2.1.2.1 T e a
      have wb2 := worthS_le C.2.1.2.1 (ltS T e (a + 1))
      obtain ⟨g1, hg1⟩ : ∃ g1, g1 = setI g 42 3 (nI (a + 1)) := ⟨_, rfl⟩
      have F1 : Fr haF g g1 := by rw [hg1]; exact Fr.set rfl
      have C1 : EvC g1 t q V T law free := C.ha F1 (C.2.2.2.2.2.2.eq (fun b y1 y2 => by rw [hg1, setI_nx (by omega)]))
      have L1 : LeT g1 T e := by rw [hg1]; exact ⟨by rw [setI_nj (by decide)]; exact L.1, by rw [setI_nj (by decide)]; exact L.2.1, by rw [setI_nj (by decide)]; exact L.2.2⟩
      have lt1 := C1.lt (a := a + 1) he (by omega) L1.1 L1.2.1 L1.2.2 (by rw [hg1, setI_at])
      have w1 : g1.1 43 (10 * e + a) = nI (worthTo V T e a) := by rw [hg1, setI_ne (by decide)]; exact hwo a (Nat.le_refl _)
      obtain ⟨g2, hg2⟩ : ∃ g2, g2 = setI g1 43 (10 * e + (a + 1)) (nI (worthTo V T e (a + 1))) := ⟨_, rfl⟩
      obtain ⟨g3, hg3⟩ : ∃ g3, g3 = setI g2 44 e (nI (a + 1)) := ⟨_, rfl⟩
      have F2 : Fr haF g1 g3 := by rw [hg3, hg2]; exact (Fr.set rfl).tr (Fr.set rfl)
      have w3 : ∀ b, b ≤ a + 1 → g3.1 43 (10 * e + b) = nI (worthTo V T e b) := fun b hb => by
        rw [hg3, setI_ne (by decide), hg2]
        by_cases z : b = a + 1
        · rw [z, setI_at]
        · rw [setI_nj (by omega), hg1, setI_ne (by decide)]; exact hwo b (by omega)
      have ca3 : CaOK g3 V T := by
        refine ⟨fun j hj => ?_, fun j hj => by rw [hg3, setI_ne (by decide), hg2, setI_nj (by omega)]; exact C1.2.2.2.2.2.2.2 j hj⟩
        obtain ⟨⟨kk, y1, y2, y3⟩, y4⟩ := C1.2.2.2.2.2.2.1 j hj
        by_cases z : j = e
        · subst z
          refine ⟨⟨a + 1, by omega, by rw [hg3, setI_at], w3⟩, fun b hb => ?_⟩
          rw [hg3, setI_ne (by decide), hg2, setI_ne (by decide)]
          exact y4 b hb
        · refine ⟨⟨kk, y1, by rw [hg3, setI_nj z, hg2, setI_ne (by decide)]; exact y2, fun b hb => ?_⟩, fun b hb => ?_⟩
          · rw [hg3, setI_ne (by decide), hg2, setI_nj (by omega)]; exact y3 b hb
          · rw [hg3, setI_ne (by decide), hg2, setI_ne (by decide)]; exact y4 b hb
      have L3 : LeT g3 T e := by rw [hg3, hg2]; exact ⟨by rw [setI_ne (by decide), setI_ne (by decide)]; exact L1.1, by rw [setI_ne (by decide), setI_ne (by decide)]; exact L1.2.1, by rw [setI_ne (by decide), setI_ne (by decide)]; exact L1.2.2⟩
      have kk := ih (a + 1) g3 (by omega) (by omega) (C1.ha F2 ca3) L3 (by rw [hg3, hg2, hg1, setI_ne (by decide), setI_ne (by decide), setI_ne (by decide)]; exact hate) (by rw [hg3, setI_at]) w3 ((hF.tr F1).tr F2)
      have e52 : nI (10 * e) + nI (a + 1) - 1 = nI (10 * e + a) := by
        rw [nI_add, show (1 : Int32) = nI 1 from rfl, pk_sub (by omega)]
        congr 1
      have r2 := C1.1.2.1
      have r4 := C1.1.2.2.2
      refine r_iload_n dX3_has_19 rfl ?_
      refine r_aload_n dX3_has_20 rfl ?_
      refine r_getR (j := 40) dX3_has_21 k_X3_18 rfl (by decide) rfl rfl ?_
      refine r_iload_n dX3_has_24 rfl ?_
      refine r_iald (e) dX3_has_25 rfl rfl (show e < 5 by omega) ?_
      rw [hate]
      refine r_icmp_gt (tgt := 80) dX3_has_26 (by decide) (fun c_26 => ?_) (fun c_26 => ?_)
      · exact absurd ((nI_lt' (by omega) (by omega)).mp c_26) (by omega)
      · refine r_aload_n dX3_has_29 rfl ?_
        refine r_getR (j := 42) dX3_has_30 k_X3_24 rfl (by decide) rfl rfl ?_
        refine r_iconst (v := 3) dX3_has_33 (by decide) ?_
        refine r_iload_n dX3_has_34 rfl ?_
        refine r_iast (3) dX3_has_35 rfl rfl (by decide) ?_
        rw [← hg1]
        refine r_aload_n dX3_has_36 rfl ?_
        refine r_getR (j := 43) dX3_has_37 k_X3_27 rfl (by decide) rfl rfl ?_
        refine r_iload_n dX3_has_40 rfl ?_
        refine r_iload_n dX3_has_41 rfl ?_
        refine r_iadd dX3_has_42 ?_
        refine r_aload_n dX3_has_43 rfl ?_
        refine r_getR (j := 43) dX3_has_44 k_X3_27 rfl (by decide) rfl rfl ?_
        refine r_iload_n dX3_has_47 rfl ?_
        refine r_iload_n dX3_has_48 rfl ?_
        refine r_iadd dX3_has_49 ?_
        refine r_iconst (v := 1) dX3_has_50 (by decide) ?_
        refine r_isub dX3_has_51 ?_
        refine r_iald (10 * e + a) dX3_has_52 rfl e52 (show 10 * e + a < 50 by omega) ?_
        rw [w1]
        refine r_aload_n dX3_has_53 rfl ?_
        refine r_getR (j := q) dX3_has_54 k_X3_46 rfl (by decide) rfl r2 ?_
        refine r_iconst (v := 0) dX3_has_57 (by decide) ?_
        refine r_aload_n dX3_has_58 rfl ?_
        refine r_getR (j := 42) dX3_has_59 k_X3_24 rfl (by decide) rfl rfl ?_
        refine r_callV dX3_has_62 l_X3_153 o_X1_together v_X1_together (by assumption) (by decide) rfl rfl (m_X1_together hG (w := 0) r4 C1.2.1 (by decide) lt1) (by decide) rfl (Nat.le_of_ble_eq_true rfl) (fun r62 h62 hq62 => ?_)
        obtain ⟨rfl, e62⟩ := hq62
        rw [e62]
        clear e62 h62
        refine r_iadd dX3_has_65 ?_
        rw [if_pos rfl, nI_add, ← worth_step]
        refine r_iast (10 * e + (a + 1)) dX3_has_66 rfl (by rw [nI_add]) (show 10 * e + (a + 1) < 50 by omega) ?_
        rw [← hg2]
        refine r_aload_n dX3_has_67 rfl ?_
        refine r_getR (j := 44) dX3_has_68 k_X3_30 rfl (by decide) rfl rfl ?_
        refine r_iload_n dX3_has_71 rfl ?_
        refine r_iload_n dX3_has_72 rfl ?_
        refine r_iast (e) dX3_has_73 rfl rfl (show e < 5 by omega) ?_
        rw [← hg3]
        refine r_iinc dX3_has_74 rfl (by first | exact nI_inc _ | rfl) (by decide) rfl rfl ?_
        dsimp only [List.set]
        refine r_goto (tgt := 19) dX3_has_77 (by decide) ?_
        exact kk
theorem zI_nn (a b : Nat) : nI a - nI b = zI ((a : Int) - b) := by rw [← zI_n, ← zI_n, zI_sub]
theorem has_80 {G : WT} {l : Launch} (hG : GOK G) {t q law e n bk : Nat} {V : Hv} {T : Tb} {free : Bool} {g h0 : Hp} {x3 : Value} (he : e < T.1 7 0) (hn : n ≤ 9) (C : EvC g t q V T law free) (L : LeT g T e) (hate : g.1 40 e = nI n) (hbk : g.1 37 12 = nI bk) (hb5 : bk < 5) (hwo : g.1 43 (10 * e + n) = nI (worthTo V T e n)) (hF : Fr haF h0 g) :
    Wp G l 3 RX3 cX3_has 4 (some .int) 80 [.ref (gA G 37), .int (nI e), .int (nI (10 * e)), x3] [] g (fun r h' => r = some (.int (zI ((worthTo V T e n : Int) - (if e = bk ∧ free = false then (costS V (ltS T e n) : Int) else 0)))) ∧ EvC h' t q V T law free ∧ Fr haF h0 h') := by
  have h5 := C.2.2.1.1
  have i1 : nI (10 * e) + nI n = nI (10 * e + n) := nI_add _ _
  have b1 : 10 * e + n < 50 := by omega
  by_cases hb : e = bk ∧ free = false
  · obtain ⟨hb, hfr⟩ := hb
    rw [if_pos ⟨hb, hfr⟩]
    have hfl : g.1 37 14 = 0 := by rw [C.2.2.2.2.1.2.2, hfr]; rfl
    rcases (C.2.2.2.2.2.2.1 e he).2 n hn with hc | hc
    · obtain ⟨g1, hg1⟩ : ∃ g1, g1 = setI g 42 3 (nI n) := ⟨_, rfl⟩
      have F1 : Fr haF g g1 := by rw [hg1]; exact Fr.set rfl
      have C1 : EvC g1 t q V T law free := C.ha F1 (C.2.2.2.2.2.2.eq (fun b y1 y2 => by rw [hg1, setI_nx (by omega)]))
      have lt1 := C1.lt (a := n) he (by omega) (by rw [hg1, setI_nj (by decide)]; exact L.1) (by rw [hg1, setI_nj (by decide)]; exact L.2.1) (by rw [hg1, setI_nj (by decide)]; exact L.2.2) (by rw [hg1, setI_at])
      obtain ⟨g2, hg2⟩ : ∃ g2, g2 = setI g1 45 (10 * e + n) (nI (costS V (ltS T e n))) := ⟨_, rfl⟩
      have F2 : Fr haF g1 g2 := by rw [hg2]; exact Fr.set rfl
      have ca2 : CaOK g2 V T := by
        refine ⟨fun j hj => ?_, fun j hj => by rw [hg2, setI_ne (by decide)]; exact C1.2.2.2.2.2.2.2 j hj⟩
        obtain ⟨⟨kk, y1, y2, y3⟩, y4⟩ := C1.2.2.2.2.2.2.1 j hj
        refine ⟨⟨kk, y1, by rw [hg2, setI_ne (by decide)]; exact y2, fun b hb => by rw [hg2, setI_ne (by decide)]; exact y3 b hb⟩, fun b hb => ?_⟩
        rw [hg2]
        by_cases z : j = e ∧ b = n
        · obtain ⟨z1, z2⟩ := z
          subst z1 z2
          rw [setI_at]
          exact Or.inr rfl
        · rw [setI_nj (by omega)]; exact y4 b hb
      have C2 := C1.ha F2 ca2
      have a1 : g1.1 40 e = nI n := by rw [hg1, setI_ne (by decide)]; exact hate
      have a2 : g2.1 40 e = nI n := by rw [hg2, setI_ne (by decide)]; exact a1
      have c2 : g2.1 45 (10 * e + n) = nI (costS V (ltS T e n)) := by rw [hg2, setI_at]
      have r2 := C1.1.2.1
      have r4 := C1.1.2.2.2
      refine r_aload_n dX3_has_80 rfl ?_
      refine r_getR (j := 43) dX3_has_81 k_X3_27 rfl (by decide) rfl rfl ?_
      refine r_iload_n dX3_has_84 rfl ?_
      refine r_aload_n dX3_has_85 rfl ?_
      refine r_getR (j := 40) dX3_has_86 k_X3_18 rfl (by decide) rfl rfl ?_
      refine r_iload_n dX3_has_89 rfl ?_
      refine r_iald (e) dX3_has_90 rfl rfl (show e < 5 by omega) ?_
      rw [hate]
      refine r_iadd dX3_has_91 ?_
      refine r_iald (10 * e + n) dX3_has_92 rfl i1 (show 10 * e + n < 50 from b1) ?_
      rw [hwo]
      refine r_istore_n dX3_has_93 (by decide) rfl rfl ?_
      dsimp only [List.set]
      refine r_iload_n dX3_has_94 rfl ?_
      refine r_aload_n dX3_has_95 rfl ?_
      refine r_getI dX3_has_96 k_X3_57 rfl (by decide) rfl ?_
      rw [hbk, ← hb]
      refine r_icmp_ne (tgt := 109) dX3_has_99 (by decide) (fun c_99 => ?_) (fun c_99 => ?_)
      · exact absurd rfl c_99
      · refine r_aload_n dX3_has_102 rfl ?_
        refine r_getI dX3_has_103 k_X3_63 rfl (by decide) rfl ?_
        rw [hfl]
        refine r_if_eq (tgt := 111) dX3_has_106 (by decide) (fun c_106 => ?_) (fun c_106 => ?_)
        · refine r_aload_n dX3_has_111 rfl ?_
          refine r_getR (j := 45) dX3_has_112 k_X3_33 rfl (by decide) rfl rfl ?_
          refine r_iload_n dX3_has_115 rfl ?_
          refine r_aload_n dX3_has_116 rfl ?_
          refine r_getR (j := 40) dX3_has_117 k_X3_18 rfl (by decide) rfl rfl ?_
          refine r_iload_n dX3_has_120 rfl ?_
          refine r_iald (e) dX3_has_121 rfl rfl (show e < 5 by omega) ?_
          rw [hate]
          refine r_iadd dX3_has_122 ?_
          refine r_iald (10 * e + n) dX3_has_123 rfl i1 (show 10 * e + n < 50 from b1) ?_
          rw [hc]
          refine r_if_ge (tgt := 164) dX3_has_124 (by decide) (fun c_124 => ?_) (fun c_124 => ?_)
          · exact absurd c_124 (by decide)
          · refine r_aload_n dX3_has_127 rfl ?_
            refine r_getR (j := 42) dX3_has_128 k_X3_24 rfl (by decide) rfl rfl ?_
            refine r_iconst (v := 3) dX3_has_131 (by decide) ?_
            refine r_aload_n dX3_has_132 rfl ?_
            refine r_getR (j := 40) dX3_has_133 k_X3_18 rfl (by decide) rfl rfl ?_
            refine r_iload_n dX3_has_136 rfl ?_
            refine r_iald (e) dX3_has_137 rfl rfl (show e < 5 by omega) ?_
            rw [hate]
            refine r_iast (3) dX3_has_138 rfl rfl (by decide) ?_
            rw [← hg1]
            refine r_aload_n dX3_has_139 rfl ?_
            refine r_getR (j := 45) dX3_has_140 k_X3_33 rfl (by decide) rfl rfl ?_
            refine r_iload_n dX3_has_143 rfl ?_
            refine r_aload_n dX3_has_144 rfl ?_
            refine r_getR (j := 40) dX3_has_145 k_X3_18 rfl (by decide) rfl rfl ?_
            refine r_iload_n dX3_has_148 rfl ?_
            refine r_iald (e) dX3_has_149 rfl rfl (show e < 5 by omega) ?_
            rw [a1]
            refine r_iadd dX3_has_150 ?_
            refine r_aload_n dX3_has_151 rfl ?_
            refine r_getR (j := q) dX3_has_152 k_X3_46 rfl (by decide) rfl r2 ?_
            refine r_iconst (v := 1) dX3_has_155 (by decide) ?_
            refine r_aload_n dX3_has_156 rfl ?_
            refine r_getR (j := 42) dX3_has_157 k_X3_24 rfl (by decide) rfl rfl ?_
            refine r_callV dX3_has_160 l_X3_153 o_X1_together v_X1_together (by assumption) (by decide) rfl rfl (m_X1_together hG (w := 1) r4 C1.2.1 (by decide) lt1) (by decide) rfl (Nat.le_of_ble_eq_true rfl) (fun r160 h160 hq160 => ?_)
            obtain ⟨rfl, e160⟩ := hq160
            rw [e160]
            clear e160 h160
            rw [if_neg (by decide)]
            refine r_iast (10 * e + n) dX3_has_163 rfl i1 (show 10 * e + n < 50 from b1) ?_
            rw [← hg2]
            refine r_iload_n dX3_has_164 rfl ?_
            refine r_aload_n dX3_has_165 rfl ?_
            refine r_getR (j := 45) dX3_has_166 k_X3_33 rfl (by decide) rfl rfl ?_
            refine r_iload_n dX3_has_169 rfl ?_
            refine r_aload_n dX3_has_170 rfl ?_
            refine r_getR (j := 40) dX3_has_171 k_X3_18 rfl (by decide) rfl rfl ?_
            refine r_iload_n dX3_has_174 rfl ?_
            refine r_iald (e) dX3_has_175 rfl rfl (show e < 5 by omega) ?_
            rw [a2]
            refine r_iadd dX3_has_176 ?_
            refine r_iald (10 * e + n) dX3_has_177 rfl i1 (show 10 * e + n < 50 from b1) ?_
            rw [c2]
            refine r_isub dX3_has_178 ?_
            refine r_ireturn dX3_has_179 ⟨_, rfl, rfl⟩ ?_
            exact ⟨by rw [zI_nn], C2, (hF.tr F1).tr F2⟩
        · exact absurd rfl c_106
    · have cb := costS_le C.2.1.2.1 (ltS T e n)
      refine r_aload_n dX3_has_80 rfl ?_
      refine r_getR (j := 43) dX3_has_81 k_X3_27 rfl (by decide) rfl rfl ?_
      refine r_iload_n dX3_has_84 rfl ?_
      refine r_aload_n dX3_has_85 rfl ?_
      refine r_getR (j := 40) dX3_has_86 k_X3_18 rfl (by decide) rfl rfl ?_
      refine r_iload_n dX3_has_89 rfl ?_
      refine r_iald (e) dX3_has_90 rfl rfl (show e < 5 by omega) ?_
      rw [hate]
      refine r_iadd dX3_has_91 ?_
      refine r_iald (10 * e + n) dX3_has_92 rfl i1 (show 10 * e + n < 50 from b1) ?_
      rw [hwo]
      refine r_istore_n dX3_has_93 (by decide) rfl rfl ?_
      dsimp only [List.set]
      refine r_iload_n dX3_has_94 rfl ?_
      refine r_aload_n dX3_has_95 rfl ?_
      refine r_getI dX3_has_96 k_X3_57 rfl (by decide) rfl ?_
      rw [hbk, ← hb]
      refine r_icmp_ne (tgt := 109) dX3_has_99 (by decide) (fun c_99 => ?_) (fun c_99 => ?_)
      · exact absurd rfl c_99
      · refine r_aload_n dX3_has_102 rfl ?_
        refine r_getI dX3_has_103 k_X3_63 rfl (by decide) rfl ?_
        rw [hfl]
        refine r_if_eq (tgt := 111) dX3_has_106 (by decide) (fun c_106 => ?_) (fun c_106 => ?_)
        · refine r_aload_n dX3_has_111 rfl ?_
          refine r_getR (j := 45) dX3_has_112 k_X3_33 rfl (by decide) rfl rfl ?_
          refine r_iload_n dX3_has_115 rfl ?_
          refine r_aload_n dX3_has_116 rfl ?_
          refine r_getR (j := 40) dX3_has_117 k_X3_18 rfl (by decide) rfl rfl ?_
          refine r_iload_n dX3_has_120 rfl ?_
          refine r_iald (e) dX3_has_121 rfl rfl (show e < 5 by omega) ?_
          rw [hate]
          refine r_iadd dX3_has_122 ?_
          refine r_iald (10 * e + n) dX3_has_123 rfl i1 (show 10 * e + n < 50 from b1) ?_
          rw [hc]
          refine r_if_ge (tgt := 164) dX3_has_124 (by decide) (fun c_124 => ?_) (fun c_124 => ?_)
          · refine r_iload_n dX3_has_164 rfl ?_
            refine r_aload_n dX3_has_165 rfl ?_
            refine r_getR (j := 45) dX3_has_166 k_X3_33 rfl (by decide) rfl rfl ?_
            refine r_iload_n dX3_has_169 rfl ?_
            refine r_aload_n dX3_has_170 rfl ?_
            refine r_getR (j := 40) dX3_has_171 k_X3_18 rfl (by decide) rfl rfl ?_
            refine r_iload_n dX3_has_174 rfl ?_
            refine r_iald (e) dX3_has_175 rfl rfl (show e < 5 by omega) ?_
            rw [hate]
            refine r_iadd dX3_has_176 ?_
            refine r_iald (10 * e + n) dX3_has_177 rfl i1 (show 10 * e + n < 50 from b1) ?_
            rw [hc]
            refine r_isub dX3_has_178 ?_
            refine r_ireturn dX3_has_179 ⟨_, rfl, rfl⟩ ?_
            exact ⟨by rw [zI_nn], C, hF⟩
          · exact absurd (nI_pos' (by omega)) c_124
        · exact absurd rfl c_106
  · rw [if_neg hb, Int.sub_zero, zI_n]
    have k109 : Wp G l 3 RX3 cX3_has 4 (some .int) 109 [.ref (gA G 37), .int (nI e), .int (nI (10 * e)), .int (nI (worthTo V T e n))] [] g (fun r h' => r = some (.int (nI (worthTo V T e n))) ∧ EvC h' t q V T law free ∧ Fr haF h0 h') := by
      refine r_iload_n dX3_has_109 rfl ?_
      refine r_ireturn dX3_has_110 ⟨_, rfl, rfl⟩ ?_
      exact ⟨rfl, C, hF⟩
    by_cases hb1 : e = bk
    · have hfr : free = true := by
        cases hfr : free with
        | true => rfl
        | false => exact absurd ⟨hb1, hfr⟩ hb
      have hfl : g.1 37 14 = 1 := by rw [C.2.2.2.2.1.2.2, hfr]; rfl
      refine r_aload_n dX3_has_80 rfl ?_
      refine r_getR (j := 43) dX3_has_81 k_X3_27 rfl (by decide) rfl rfl ?_
      refine r_iload_n dX3_has_84 rfl ?_
      refine r_aload_n dX3_has_85 rfl ?_
      refine r_getR (j := 40) dX3_has_86 k_X3_18 rfl (by decide) rfl rfl ?_
      refine r_iload_n dX3_has_89 rfl ?_
      refine r_iald (e) dX3_has_90 rfl rfl (show e < 5 by omega) ?_
      rw [hate]
      refine r_iadd dX3_has_91 ?_
      refine r_iald (10 * e + n) dX3_has_92 rfl i1 (show 10 * e + n < 50 from b1) ?_
      rw [hwo]
      refine r_istore_n dX3_has_93 (by decide) rfl rfl ?_
      dsimp only [List.set]
      refine r_iload_n dX3_has_94 rfl ?_
      refine r_aload_n dX3_has_95 rfl ?_
      refine r_getI dX3_has_96 k_X3_57 rfl (by decide) rfl ?_
      rw [hbk, ← hb1]
      refine r_icmp_ne (tgt := 109) dX3_has_99 (by decide) (fun c_99 => ?_) (fun c_99 => ?_)
      · exact absurd rfl c_99
      · refine r_aload_n dX3_has_102 rfl ?_
        refine r_getI dX3_has_103 k_X3_63 rfl (by decide) rfl ?_
        rw [hfl]
        refine r_if_eq (tgt := 111) dX3_has_106 (by decide) (fun c_106 => ?_) (fun c_106 => ?_)
        · exact absurd c_106 (by decide)
        · exact k109
    · refine r_aload_n dX3_has_80 rfl ?_
      refine r_getR (j := 43) dX3_has_81 k_X3_27 rfl (by decide) rfl rfl ?_
      refine r_iload_n dX3_has_84 rfl ?_
      refine r_aload_n dX3_has_85 rfl ?_
      refine r_getR (j := 40) dX3_has_86 k_X3_18 rfl (by decide) rfl rfl ?_
      refine r_iload_n dX3_has_89 rfl ?_
      refine r_iald (e) dX3_has_90 rfl rfl (show e < 5 by omega) ?_
      rw [hate]
      refine r_iadd dX3_has_91 ?_
      refine r_iald (10 * e + n) dX3_has_92 rfl i1 (show 10 * e + n < 50 from b1) ?_
      rw [hwo]
      refine r_istore_n dX3_has_93 (by decide) rfl rfl ?_
      dsimp only [List.set]
      refine r_iload_n dX3_has_94 rfl ?_
      refine r_aload_n dX3_has_95 rfl ?_
      refine r_getI dX3_has_96 k_X3_57 rfl (by decide) rfl ?_
      rw [hbk]
      refine r_icmp_ne (tgt := 109) dX3_has_99 (by decide) (fun c_99 => ?_) (fun c_99 => ?_)
      · exact k109
      · exact absurd ((nI_eq' (by omega) (by omega)).mp c_99) hb1
set_option maxRecDepth 100000 in
theorem m_X3_has {G : WT} {l : Launch} (hG : GOK G) {h : Hp} {t q law e n bk : Nat} {V : Hv} {T : Tb} {free : Bool} (C : EvC h t q V T law free) (he : e < T.1 7 0) (hate : h.1 40 e = nI n) (hn : n ≤ 9) (hbk : h.1 37 12 = nI bk) (hb5 : bk < 5) : Cl G l 3 yX3_has cX3_has 4 (some .int) [.ref (gA G 37), .int (nI e)] h (fun r h' => r = some (.int (zI ((worthTo V T e n : Int) - (if e = bk ∧ free = false then (costS V (ltS T e n) : Int) else 0)))) ∧ EvC h' t q V T law free ∧ Fr haF h h') := by
  refine Cl.of hG (by decide) (Nat.le_of_ble_eq_true rfl) ?_
  show Wp G l 3 RX3 cX3_has 4 (some .int) 0 [.ref (gA G 37), .int (nI e), mk0, mk0] [] h _
  have h5 := C.2.2.1.1
  refine r_iload_n dX3_has_0 rfl ?_
  refine r_bipush (v := 10) dX3_has_1 (by decide) ?_
  refine r_imul dX3_has_3 ?_
  rw [show (10 : Int32) = nI 10 from rfl, pk_mul, Nat.mul_comm]
  refine r_istore_n dX3_has_4 (by decide) rfl rfl ?_
  dsimp only [List.set]
  refine r_aload_n dX3_has_5 rfl ?_
  refine r_iload_n dX3_has_6 rfl ?_
  refine r_callV dX3_has_7 l_X3_149 o_X3_turnTo v_X3_turnTo rfl (by decide) rfl rfl (m_X3_turnTo hG C he) (by decide) rfl (Nat.le_of_ble_eq_true rfl) (fun r7 h7 hq7 => ?_)
  obtain ⟨rfl, C1, L0, L1, L2, F1⟩ := hq7
  obtain ⟨⟨kk, y1, y2, y3⟩, y4⟩ := C1.2.2.2.2.2.2.1 e he
  have F2 : Fr haF h h7 := F1.wk (fun x i y => by
    simp only [haF, Bool.or_eq_false_iff, Bool.and_eq_false_iff, decide_eq_false_iff_not] at y ⊢
    exact y.1.1.1.elim Or.inl (fun z => Or.inr (by omega)))
  have a1 : h7.1 40 e = nI n := by rw [F1.1 _ _ rfl]; exact hate
  have bk1 : h7.1 37 12 = nI bk := by rw [F1.1 _ _ rfl]; exact hbk
  refine r_aload_n dX3_has_10 rfl ?_
  refine r_getR (j := 44) dX3_has_11 k_X3_30 rfl (by decide) rfl rfl ?_
  refine r_iload_n dX3_has_14 rfl ?_
  refine r_iald (e) dX3_has_15 rfl rfl (show e < 5 by omega) ?_
  refine r_iconst (v := 1) dX3_has_16 (by decide) ?_
  refine r_iadd dX3_has_17 ?_
  rw [y2, nI_1]
  refine r_istore_n dX3_has_18 (by decide) rfl rfl ?_
  dsimp only [List.set]
  refine has_lp hG he hn (h0 := h) (fun g x3 C3 L3 a3 w3 F3 => ?_) 10 kk h7 (by omega) y1 C1 ⟨L0, L1, L2⟩ a1 y2 y3 F2
  exact has_80 hG he hn C3 L3 a3 (by rw [F3.1 _ _ rfl]; exact hbk) hb5 w3 F3
set_option maxRecDepth 100000 in
theorem m_X3_ask {G : WT} {l : Launch} (hG : GOK G) {h : Hp} {t q law e w n : Nat} {V : Hv} {T : Tb} {free : Bool} (C : EvC h t q V T law free) (he : e < T.1 7 0) (hw : w ≤ 1) (hn : n ≤ 9) : Cl G l 3 yX3_ask cX3_ask 4 (some .int) [.ref (gA G 37), .int (nI w), .int (nI e), .int (nI n)] h (fun r h' => r = some (.int (nI (if w = 0 then worthS V (ltS T e n) else costS V (ltS T e n)))) ∧ EvC h' t q V T law free ∧ Fr haF h h') := by
  refine Cl.of hG (by decide) (Nat.le_of_ble_eq_true rfl) ?_
  show Wp G l 3 RX3 cX3_ask 4 (some .int) 0 [.ref (gA G 37), .int (nI w), .int (nI e), .int (nI n)] [] h _
  refine r_aload_n dX3_ask_0 rfl ?_
  refine r_iload_n dX3_ask_1 rfl ?_
  refine r_callV dX3_ask_2 l_X3_149 o_X3_turnTo v_X3_turnTo rfl (by decide) rfl rfl (m_X3_turnTo hG C he) (by decide) rfl (Nat.le_of_ble_eq_true rfl) (fun r2 h2 hq2 => ?_)
  obtain ⟨rfl, C1, L0, L1, L2, F1⟩ := hq2
  have F2 : Fr haF h h2 := F1.wk (fun x i y => by
    simp only [haF, Bool.or_eq_false_iff, Bool.and_eq_false_iff, decide_eq_false_iff_not] at y ⊢
    exact y.1.1.1.elim Or.inl (fun z => Or.inr (by omega)))
  obtain ⟨g1, hg1⟩ : ∃ g1, g1 = setI h2 42 3 (nI n) := ⟨_, rfl⟩
  have F3 : Fr haF h2 g1 := by rw [hg1]; exact Fr.set rfl
  have C2 : EvC g1 t q V T law free := C1.ha F3 (C1.2.2.2.2.2.2.eq (fun b y1 y2 => by rw [hg1, setI_nx (by omega)]))
  have lt1 := C2.lt (a := n) he (by omega) (by rw [hg1, setI_nj (by decide)]; exact L0) (by rw [hg1, setI_nj (by decide)]; exact L1) (by rw [hg1, setI_nj (by decide)]; exact L2) (by rw [hg1, setI_at])
  have r2 := C2.1.2.1
  have r4 := C2.1.2.2.2
  refine r_aload_n dX3_ask_5 rfl ?_
  refine r_getR (j := 42) dX3_ask_6 k_X3_24 rfl (by decide) rfl rfl ?_
  refine r_iconst (v := 3) dX3_ask_9 (by decide) ?_
  refine r_iload_n dX3_ask_10 rfl ?_
  refine r_iast (3) dX3_ask_11 rfl rfl (by decide) ?_
  rw [← hg1]
  refine r_aload_n dX3_ask_12 rfl ?_
  refine r_getR (j := q) dX3_ask_13 k_X3_46 rfl (by decide) rfl r2 ?_
  refine r_iload_n dX3_ask_16 rfl ?_
  refine r_aload_n dX3_ask_17 rfl ?_
  refine r_getR (j := 42) dX3_ask_18 k_X3_24 rfl (by decide) rfl rfl ?_
  refine r_callV dX3_ask_21 l_X3_153 o_X1_together v_X1_together (by assumption) (by decide) rfl rfl (m_X1_together hG r4 C2.2.1 hw lt1) (by decide) rfl (Nat.le_of_ble_eq_true rfl) (fun r21 h21 hq21 => ?_)
  obtain ⟨rfl, e21⟩ := hq21
  rw [e21]
  clear e21 h21
  refine r_ireturn dX3_ask_24 ⟨_, rfl, rfl⟩ ?_
  exact ⟨rfl, C2, F2.tr F3⟩
