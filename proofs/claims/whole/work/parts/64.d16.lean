/-! wishes -/
def wiF (a i : Nat) : Bool := svF a i || haF a i || a == 39
theorem sv_wi {h h' : Hp} (H : Fr svF h h') : Fr wiF h h' := H.wk (fun x i y => by simp only [wiF, Bool.or_eq_false_iff] at y; exact y.1.1)
theorem ha_wi {h h' : Hp} (H : Fr haF h h') : Fr wiF h h' := H.wk (fun x i y => by simp only [wiF, Bool.or_eq_false_iff] at y; exact y.1.2)
theorem EvC.sv {h h' : Hp} {t q law : Nat} {V : Hv} {T : Tb} {free : Bool} (C : EvC h t q V T law free) (hF : Fr svF h h') : EvC h' t q V T law free := by
  obtain ⟨u, u1, u2⟩ := ts_at C.1.2.2.1
  exact C.fr hF (fun a i y1 y2 => by simp [svF]; omega) (fun i => Or.inl (by simp [svF]; omega)) (fun i => by simp [svF]; omega) ⟨rfl, rfl, rfl, rfl⟩ (C.2.2.2.2.2.2.eq (fun a y1 y2 => funext fun i => hF.1 a i (by simp [svF]; omega)))
theorem EvC.th {h : Hp} {t q law j : Nat} {V : Hv} {T : Tb} {free : Bool} {v : Int32} {a : Nat} (ha : a = 39 ∨ a = 38) (C : EvC h t q V T law free) : EvC (setI h a j v) t q V T law free := by
  obtain ⟨u, u1, u2⟩ := ts_at C.1.2.2.1
  refine C.fr (S := fun b _ => b == a) (Fr.set (by simp)) (fun b i y1 y2 => by simp; omega) (fun i => Or.inl (by simp; omega)) (fun i => by simp; omega) ⟨by simp; omega, by simp; omega, by simp; omega, by simp; omega⟩ (C.2.2.2.2.2.2.eq (fun b y1 y2 => by rw [setI_nx (by omega)]))
theorem DTb.wi {h h' : Hp} {t : Nat} {T : Tb} (ht : ksh t = 4) (H : DTb h t T) (hF : Fr wiF h h') : DTb h' t T := by
  obtain ⟨u, u1, u2⟩ := ts_at ht
  exact H.frF hF (fun a i y1 y2 => by simp [wiF, svF, haF]; omega)
/-- the law and what is supposed as the supper knows it -/
def supL (law : Nat) (free : Bool) (pact : Option (Nat × Nat)) : Sup := (law, free, pact)
theorem has_W {V : Hv} {T : Tb} {law : Nat} {free : Bool} {pact : Option (Nat × Nat)} {w : Nat → Nat} {e : Nat} : (worthTo V T e (ateS (T.1 7 1) w e) : Int) - (if e = bakeS law (fun e => ateS (T.1 7 1) w e / scaleS V) (T.1 7 0) ∧ free = false then (costS V (ltS T e (ateS (T.1 7 1) w e)) : Int) else 0) = hasW V (supL law free pact) T w e := rfl
theorem th_lp {G : WT} {l : Launch} (hG : GOK G) {t q law e : Nat} {V : Hv} {T : Tb} {free : Bool} {h0 : Hp} (he : e < T.1 7 0) {Q : Option Value → Hp → Prop} {x3 x4 x5 : Value}
    (k : ∀ g, EvC g t q V T law free → DTb g t T → (∀ j, j < T.1 7 0 → g.1 39 j = nI (plainS T j)) → Fr wiF h0 g → ∀ x2, Wp G l 4 RX3 cX3_wishOf 6 (some .int) 55 [.ref (gA G 37), .int (nI e), x2, x3, x4, x5] [] g Q) :
    ∀ (n j : Nat) (g : Hp), j + n = T.1 7 0 → EvC g t q V T law free → DTb g t T → (∀ i, i < j → g.1 39 i = nI (plainS T i)) → Fr wiF h0 g → Wp G l 4 RX3 cX3_wishOf 6 (some .int) 24 [.ref (gA G 37), .int (nI e), .int (nI j), x3, x4, x5] [] g Q := by
  intro n
  induction n with
  | zero =>
    intro j g hj C D hD hF
    have h5 := C.2.2.1.1
    have r1 := C.1.1
    have r3 := C.1.2.2.1
    refine r_iload_n dX3_wishOf_24 rfl ?_
    refine r_aload_n dX3_wishOf_25 rfl ?_
    refine r_getR (j := t) dX3_wishOf_26 k_X3_39 rfl (by decide) rfl r1 ?_
    refine r_getI dX3_wishOf_29 k_X3_86 (by assumption) (by decide) rfl ?_
    rw [D.1.1]
    refine r_icmp_ge (tgt := 55) dX3_wishOf_32 (by decide) (fun c_32 => ?_) (fun c_32 => ?_)
    · exact k g C D (fun i hi => hD i (by omega)) hF _
    · exact absurd (nI_le (by omega) (by omega)) c_32
  | succ n ih =>
    intro j g hj C D hD hF
    have h5 := C.2.2.1.1
    have r1 := C.1.1
    have r3 := C.1.2.2.1
    have F1 : Fr wiF g (setI g 39 j (nI (plainS T j))) := Fr.set rfl
    refine r_iload_n dX3_wishOf_24 rfl ?_
    refine r_aload_n dX3_wishOf_25 rfl ?_
    refine r_getR (j := t) dX3_wishOf_26 k_X3_39 rfl (by decide) rfl r1 ?_
    refine r_getI dX3_wishOf_29 k_X3_86 (by assumption) (by decide) rfl ?_
    rw [D.1.1]
    refine r_icmp_ge (tgt := 55) dX3_wishOf_32 (by decide) (fun c_32 => ?_) (fun c_32 => ?_)
    · exact absurd c_32 (nI_ge (by omega) (by omega))
    · refine r_aload_n dX3_wishOf_35 rfl ?_
      refine r_getR (j := 39) dX3_wishOf_36 k_X3_15 rfl (by decide) rfl rfl ?_
      refine r_iload_n dX3_wishOf_39 rfl ?_
      refine r_aload_n dX3_wishOf_40 rfl ?_
      refine r_getR (j := t) dX3_wishOf_41 k_X3_39 rfl (by decide) rfl r1 ?_
      refine r_iload_n dX3_wishOf_44 rfl ?_
      refine r_callV dX3_wishOf_45 l_X3_126 o_X4_plainWish v_X4_plainWish (by assumption) (by decide) rfl rfl (m_X4_plainWish hG r3 D C.2.2.1 (show j < T.1 7 0 by omega)) (by decide) rfl (Nat.le_of_ble_eq_true rfl) (fun r45 h45 hq45 => ?_)
      obtain ⟨rfl, e45⟩ := hq45
      rw [e45]
      clear e45 h45
      refine r_iast (j) dX3_wishOf_48 rfl rfl (show j < 5 by omega) ?_
      refine r_iinc dX3_wishOf_49 rfl (by first | exact nI_inc _ | rfl) (by decide) rfl rfl ?_
      dsimp only [List.set]
      refine r_goto (tgt := 24) dX3_wishOf_52 (by decide) ?_
      refine ih (j + 1) _ (by omega) (C.th (Or.inl rfl)) (D.wi r3 F1) (fun i hi => ?_) (hF.tr F1)
      by_cases z : i = j
      · rw [z, setI_at]
      · rw [setI_nj z]; exact hD i (by omega)
theorem tryS_le {T : Tb} (hT : TbOK T) {e a o : Nat} (ha : a ≤ 9) : tryS T e a o ≤ 9 := by
  unfold tryS
  split
  · exact ha
  · exact plainS_le hT o
theorem be_lp {G : WT} {l : Launch} (hG : GOK G) {t q law e : Nat} {V : Hv} {T : Tb} {free : Bool} {pact : Option (Nat × Nat)} {h0 : Hp} (he : e < T.1 7 0) (hl3 : law < 3) : ∀ (n w : Nat) (g : Hp) (best : Nat) (most : Int32) (x5 : Value), w + n = 10 → (0 < w → best = bestTo (fun a => hasW V (supL law free pact) T (tryS T e a) e) (w - 1) ∧ most = zI (hasW V (supL law free pact) T (tryS T e best) e)) → EvC g t q V T law free → DTb g t T → (∀ j, j < T.1 7 0 → ¬ j = e → g.1 39 j = nI (plainS T j)) → Fr wiF h0 g → Wp G l 4 RX3 cX3_wishOf 6 (some .int) 62 [.ref (gA G 37), .int (nI e), .int (nI best), .int most, .int (nI w), x5] [] g (fun r h' => r = some (.int (nI (bestS V (supL law free pact) T e))) ∧ EvC h' t q V T law free ∧ Fr wiF h0 h') := by
  intro n
  induction n with
  | zero =>
    intro w g best most x5 hw hb C D hD hF
    have hb := hb (by omega)
    refine r_iload dX3_wishOf_62 rfl ?_
    refine r_bipush (v := 9) dX3_wishOf_64 (by decide) ?_
    refine r_icmp_gt (tgt := 115) dX3_wishOf_66 (by decide) (fun c_66 => ?_) (fun c_66 => ?_)
    · refine r_iload_n dX3_wishOf_115 rfl ?_
      refine r_ireturn dX3_wishOf_116 ⟨_, rfl, rfl⟩ ?_
      exact ⟨by rw [hb.1, show w - 1 = 9 by omega]; rfl, C, hF⟩
    · exact absurd (nI_lt (a := 9) (by omega) (by omega)) c_66
  | succ n ih =>
    intro w g best most x5 hw hb C D hD hF
    have ok := C.2.2.1
    have h5 := ok.1
    have hbin := ok.2.1
    have r1 := C.1.1
    have r2 := C.1.2.1
    have r3 := C.1.2.2.1
    have r4 := C.1.2.2.2
    have hV := C.2.1.2.1
    obtain ⟨u, u1, u2⟩ := ts_at r3
    obtain ⟨v, v1, v2⟩ := hs_at r4
    obtain ⟨g1, hg1⟩ : ∃ g1, g1 = setI g 39 e (nI w) := ⟨_, rfl⟩
    have F1 : Fr wiF g g1 := by rw [hg1]; exact Fr.set rfl
    have C1 : EvC g1 t q V T law free := by rw [hg1]; exact C.th (Or.inl rfl)
    have D1 := D.wi r3 F1
    have hw1 : ∀ j, j < T.1 7 0 → g1.1 39 j = nI (tryS T e w j) ∧ tryS T e w j ≤ 9 := fun j hj => by
      refine ⟨?_, tryS_le ok (by omega)⟩
      rw [hg1]
      unfold tryS
      by_cases z : j = e
      · rw [z, setI_at, if_pos rfl]
      · rw [setI_nj z, if_neg z]; exact hD j hj z
    have bd : ∀ a, a ≤ 9 → -1000 ≤ hasW V (supL law free pact) T (tryS T e a) e ∧ hasW V (supL law free pact) T (tryS T e a) e ≤ 10000 := fun a ha => hasS_bd hV (Nat.le_trans (ateS_le _ _ _) (tryS_le ok ha))
    have bk5' : bakeS law (fun o => ateS (T.1 7 1) (tryS T e w) o / scaleS V) (T.1 7 0) < T.1 7 0 := bakeS_lt (by omega)
    refine r_iload dX3_wishOf_62 rfl ?_
    refine r_bipush (v := 9) dX3_wishOf_64 (by decide) ?_
    refine r_icmp_gt (tgt := 115) dX3_wishOf_66 (by decide) (fun c_66 => ?_) (fun c_66 => ?_)
    · exact absurd ((nI_lt' (a := 9) (by omega) (by omega)).mp c_66) (by omega)
    · refine r_aload_n dX3_wishOf_69 rfl ?_
      refine r_getR (j := 39) dX3_wishOf_70 k_X3_15 rfl (by decide) rfl rfl ?_
      refine r_iload_n dX3_wishOf_73 rfl ?_
      refine r_iload dX3_wishOf_74 rfl ?_
      refine r_iast (e) dX3_wishOf_76 rfl rfl (show e < 5 by omega) ?_
      rw [← hg1]
      refine r_aload_n dX3_wishOf_77 rfl ?_
      refine r_aload_n dX3_wishOf_78 rfl ?_
      refine r_getR (j := 39) dX3_wishOf_79 k_X3_15 rfl (by decide) rfl rfl ?_
      refine r_callV dX3_wishOf_82 l_X3_100 o_X3_serve v_X3_serve rfl (by decide) rfl rfl (m_X3_serve hG r3 r4 (a := 39) rfl (by decide) (by decide) (by decide) h5 hbin (scaleS_pos V) (scaleS_le hV) C1.1.1 C1.1.2.1 C1.2.2.2.1.1 D1.1.2.1 C1.2.1.2.2.2.2.2.2 C1.2.2.2.2.1.1 hl3 hw1) (by decide) rfl (Nat.le_of_ble_eq_true rfl) (fun r82 h82 hq82 => ?_)
      obtain ⟨rfl, F2, s2, s3, s4⟩ := hq82
      have C2 := C1.sv F2
      have D2 := D1.wi r3 (sv_wi F2)
      refine r_aload_n dX3_wishOf_85 rfl ?_
      refine r_iload_n dX3_wishOf_86 rfl ?_
      refine r_callV dX3_wishOf_87 l_X3_110 o_X3_has v_X3_has rfl (by decide) rfl rfl (m_X3_has hG C2 he (s2 e he).1 (Nat.le_trans (ateS_le _ _ _) (hw1 e he).2) (by rw [s4, bk5, if_neg (by omega)]) (by omega)) (by decide) rfl (Nat.le_of_ble_eq_true rfl) (fun r87 h87 hq87 => ?_)
      obtain ⟨rfl, C3, F3⟩ := hq87
      rw [has_W (pact := pact)]
      have D3 := D2.wi r3 (ha_wi F3)
      have FF := ((hF.tr F1).tr (sv_wi F2)).tr (ha_wi F3)
      have hD3 : ∀ j, j < T.1 7 0 → ¬ j = e → h87.1 39 j = nI (plainS T j) := fun j hj z => by rw [F3.1 _ _ rfl, F2.1 _ _ rfl, hg1, setI_nj z]; exact hD j hj z
      have bdw := bd w (by omega)
      refine r_istore dX3_wishOf_90 (by decide) rfl rfl ?_
      dsimp only [List.set]
      refine r_iload dX3_wishOf_92 rfl ?_
      refine r_if_eq (tgt := 103) dX3_wishOf_94 (by decide) (fun c_94 => ?_) (fun c_94 => ?_)
      · refine r_iload dX3_wishOf_103 rfl ?_
        refine r_istore_n dX3_wishOf_105 (by decide) rfl rfl ?_
        dsimp only [List.set]
        refine r_iload dX3_wishOf_106 rfl ?_
        refine r_istore_n dX3_wishOf_108 (by decide) rfl rfl ?_
        dsimp only [List.set]
        refine r_iinc dX3_wishOf_109 rfl (by first | exact nI_inc _ | rfl) (by decide) rfl rfl ?_
        dsimp only [List.set]
        refine r_goto (tgt := 62) dX3_wishOf_112 (by decide) ?_
        have hw0 : w = 0 := (nI_eq' (b := 0) (by omega) (by omega)).mp c_94
        refine ih (w + 1) h87 w _ _ (by omega) (fun _ => ⟨?_, rfl⟩) C3 D3 hD3 FF
        rw [hw0]; rfl
      · refine r_iload dX3_wishOf_97 rfl ?_
        refine r_iload_n dX3_wishOf_99 rfl ?_
        refine r_icmp_le (tgt := 109) dX3_wishOf_100 (by decide) (fun c_100 => ?_) (fun c_100 => ?_)
        · refine r_iinc dX3_wishOf_109 rfl (by first | exact nI_inc _ | rfl) (by decide) rfl rfl ?_
          dsimp only [List.set]
          refine r_goto (tgt := 62) dX3_wishOf_112 (by decide) ?_
          have hw0 : 0 < w := by
            by_cases z : w = 0
            · exact absurd (by rw [z]; rfl) c_94
            · omega
          obtain ⟨b1, b2⟩ := hb hw0
          have bl : best ≤ 9 := by rw [b1]; have := bestTo_le (fun a => hasW V (supL law free pact) T (tryS T e a) e) (w - 1); omega
          have bdb := bd best bl
          refine ih (w + 1) h87 best most _ (by omega) (fun _ => ⟨?_, b2⟩) C3 D3 hD3 FF
          rw [show w + 1 - 1 = w - 1 + 1 by omega]
          show best = if _ then _ else _
          rw [← b1, show w - 1 + 1 = w by omega, if_neg]
          intro y
          rw [b2, zI_le (by omega) (by omega) (by omega) (by omega)] at c_100
          dsimp only at y
          omega
        · refine r_iload dX3_wishOf_103 rfl ?_
          refine r_istore_n dX3_wishOf_105 (by decide) rfl rfl ?_
          dsimp only [List.set]
          refine r_iload dX3_wishOf_106 rfl ?_
          refine r_istore_n dX3_wishOf_108 (by decide) rfl rfl ?_
          dsimp only [List.set]
          refine r_iinc dX3_wishOf_109 rfl (by first | exact nI_inc _ | rfl) (by decide) rfl rfl ?_
          dsimp only [List.set]
          refine r_goto (tgt := 62) dX3_wishOf_112 (by decide) ?_
          have hw0 : 0 < w := by
            by_cases z : w = 0
            · exact absurd (by rw [z]; rfl) c_94
            · omega
          obtain ⟨b1, b2⟩ := hb hw0
          have bl : best ≤ 9 := by rw [b1]; have := bestTo_le (fun a => hasW V (supL law free pact) T (tryS T e a) e) (w - 1); omega
          have bdb := bd best bl
          refine ih (w + 1) h87 w _ _ (by omega) (fun _ => ⟨?_, rfl⟩) C3 D3 hD3 FF
          rw [show w + 1 - 1 = w - 1 + 1 by omega]
          show w = if _ then _ else _
          rw [← b1, show w - 1 + 1 = w by omega, if_pos]
          rw [b2, zI_le (by omega) (by omega) (by omega) (by omega)] at c_100
          dsimp only
          omega
set_option maxRecDepth 100000 in
theorem m_X3_wishOf {G : WT} {l : Launch} (hG : GOK G) {h : Hp} {t q law e : Nat} {V : Hv} {T : Tb} {free : Bool} {pact : Option (Nat × Nat)} (C : EvC h t q V T law free) (D : DTb h t T) (he : e < T.1 7 0) (hl3 : law < 3) : Cl G l 4 yX3_wishOf cX3_wishOf 6 (some .int) [.ref (gA G 37), .int (nI e)] h (fun r h' => r = some (.int (nI (wishS V (supL law free pact) T e))) ∧ EvC h' t q V T law free ∧ Fr wiF h h') := by
  refine Cl.of hG (by decide) (Nat.le_of_ble_eq_true rfl) ?_
  show Wp G l 4 RX3 cX3_wishOf 6 (some .int) 0 [.ref (gA G 37), .int (nI e), mk0, mk0, mk0, mk0] [] h _
  have ok := C.2.2.1
  have h5 := ok.1
  have r1 := C.1.1
  have r3 := C.1.2.2.1
  have k1 := (C.2.2.2.1.2 e he).1
  have k6 := (ok.2.2.2.2.2.2.1 e).1
  by_cases h4 : T.1 0 e = 4
  · have ew : wishS V (supL law free pact) T e = bestS V (supL law free pact) T e := by rw [wishS, if_pos h4]
    rw [ew]
    refine r_aload_n dX3_wishOf_0 rfl ?_
    refine r_getR (j := t) dX3_wishOf_1 k_X3_39 rfl (by decide) rfl r1 ?_
    refine r_getR (j := t + 1) dX3_wishOf_4 k_X3_123 (by assumption) (by decide) rfl (rf_T (by assumption) (by decide)) ?_
    refine r_iload_n dX3_wishOf_7 rfl ?_
    refine r_iald (e) dX3_wishOf_8 (ks_T (by assumption) (by decide)) rfl (bT1 0 r3 (by decide) (show e < 5 by omega)) ?_
    rw [k1, h4]
    refine r_iconst (v := 4) dX3_wishOf_9 (by decide) ?_
    refine r_icmp_eq (tgt := 22) dX3_wishOf_10 (by decide) (fun c_10 => ?_) (fun c_10 => ?_)
    · refine r_iconst (v := 0) dX3_wishOf_22 (by decide) ?_
      refine r_istore_n dX3_wishOf_23 (by decide) rfl rfl ?_
      dsimp only [List.set]
      refine th_lp hG he (h0 := h) (fun g C1 D1 hD1 hF1 x2 => ?_) (T.1 7 0) 0 h (by omega) C D (fun i y => absurd y (by omega)) Fr.rf
      refine r_iconst (v := 0) dX3_wishOf_55 (by decide) ?_
      refine r_istore_n dX3_wishOf_56 (by decide) rfl rfl ?_
      dsimp only [List.set]
      refine r_iconst (v := 0) dX3_wishOf_57 (by decide) ?_
      refine r_istore_n dX3_wishOf_58 (by decide) rfl rfl ?_
      dsimp only [List.set]
      refine r_iconst (v := 0) dX3_wishOf_59 (by decide) ?_
      refine r_istore dX3_wishOf_60 (by decide) rfl rfl ?_
      dsimp only [List.set]
      exact be_lp hG he hl3 10 0 g 0 0 _ (by omega) (fun y => absurd y (by omega)) C1 D1 (fun j hj _ => hD1 j hj) hF1
    · exact absurd rfl c_10
  · have ew : wishS V (supL law free pact) T e = plainS T e := by rw [wishS, if_neg h4]
    rw [ew]
    refine r_aload_n dX3_wishOf_0 rfl ?_
    refine r_getR (j := t) dX3_wishOf_1 k_X3_39 rfl (by decide) rfl r1 ?_
    refine r_getR (j := t + 1) dX3_wishOf_4 k_X3_123 (by assumption) (by decide) rfl (rf_T (by assumption) (by decide)) ?_
    refine r_iload_n dX3_wishOf_7 rfl ?_
    refine r_iald (e) dX3_wishOf_8 (ks_T (by assumption) (by decide)) rfl (bT1 0 r3 (by decide) (show e < 5 by omega)) ?_
    rw [k1]
    refine r_iconst (v := 4) dX3_wishOf_9 (by decide) ?_
    refine r_icmp_eq (tgt := 22) dX3_wishOf_10 (by decide) (fun c_10 => ?_) (fun c_10 => ?_)
    · exact absurd ((nI_eq' (b := 4) (by omega) (by omega)).mp c_10) h4
    · refine r_aload_n dX3_wishOf_13 rfl ?_
      refine r_getR (j := t) dX3_wishOf_14 k_X3_39 rfl (by decide) rfl r1 ?_
      refine r_iload_n dX3_wishOf_17 rfl ?_
      refine r_callV dX3_wishOf_18 l_X3_126 o_X4_plainWish v_X4_plainWish (by assumption) (by decide) rfl rfl (m_X4_plainWish hG r3 D ok he) (by decide) rfl (Nat.le_of_ble_eq_true rfl) (fun r18 h18 hq18 => ?_)
      obtain ⟨rfl, e18⟩ := hq18
      rw [e18]
      clear e18 h18
      refine r_ireturn dX3_wishOf_21 ⟨_, rfl, rfl⟩ ?_
      exact ⟨rfl, C, Fr.rf⟩
