/-! signs put, what waits settled -/
def RK (h : Hp) (K : List Nat) : Prop := h.1 134 24 = nI K.length ∧ h.1 134 25 = nI (opn K) ∧ ∀ j c, K[j]? = some c → h.1 148 (K.length - 1 - j) = nI c ∧ c < 128
def RG (h : Hp) (s0 : Nat) (acc : List Int) : Prop := h.1 134 23 = nI (s0 + acc.length) ∧ ∀ j t, acc[j]? = some t → h.1 147 (s0 + j) = zI t
def puF (s0 a i : Nat) : Bool := (a == 147 && decide (s0 ≤ i)) || (a == 134 && i == 23)
def whF (s0 a i : Nat) : Bool := puF s0 a i || (a == 134 && (i == 24 || i == 25))
theorem puF_wh {s0 : Nat} {h h' : Hp} (H : Fr (puF s0) h h') : Fr (whF s0) h h' := H.wk (fun x i q => by simp only [whF, Bool.or_eq_false_iff] at q; exact q.1)
theorem puF_at {s0 i : Nat} (hi : s0 ≤ i) : puF s0 147 i = true := by simp [puF, hi]
theorem RK.put {s0 : Nat} {h h' : Hp} {K : List Nat} (H : RK h K) (hF : Fr (puF s0) h h') : RK h' K :=
  ⟨by rw [hF.1 _ _ (by simp [puF])]; exact H.1, by rw [hF.1 _ _ (by simp [puF])]; exact H.2.1, fun j c q => ⟨by rw [hF.1 _ _ (by simp [puF])]; exact (H.2.2 j c q).1, (H.2.2 j c q).2⟩⟩
theorem RG.app {h : Hp} {s0 : Nat} {acc : List Int} {z : Int} (H : RG h s0 acc) : RG (setI (setI h 147 (s0 + acc.length) (zI z)) 134 23 (nI (s0 + (acc ++ [z]).length))) s0 (acc ++ [z]) := by
  refine ⟨setI_at, fun j t q => ?_⟩
  rw [setI_ne (by decide)]
  by_cases hj : j < acc.length
  · rw [List.getElem?_append_left hj] at q
    rw [setI_nj (by omega)]
    exact H.2 j t q
  · by_cases he : j = acc.length
    · subst he
      rw [List.getElem?_append_right (Nat.le_refl _), Nat.sub_self] at q
      have : z = t := Option.some.inj q
      rw [setI_at, this]
    · rw [List.getElem?_eq_none (by rw [List.length_append]; show acc.length + 1 ≤ j; omega)] at q
      cases q
set_option maxRecDepth 100000 in
theorem m_X7_put {G : WT} {l : Launch} (hG : GOK G) {h : Hp} {s0 : Nat} {acc : List Int} {z : Int} (H : RG h s0 acc) (hb : s0 + acc.length < 600) : Cl G l 1 yX7_put cX7_put 2 none [.ref (gA G 134), .int (zI z)] h (fun r h' => r = none ∧ RG h' s0 (acc ++ [z]) ∧ Fr (puF s0) h h') := by
  refine Cl.of hG (by decide) (Nat.le_of_ble_eq_true rfl) ?_
  show Wp G l 1 RX7 cX7_put 2 none 0 [.ref (gA G 134), .int (zI z)] [] h _
  refine r_aload_n dX7_put_0 rfl ?_
  refine r_getR (j := 147) dX7_put_1 k_X7_74 rfl (by decide) rfl rfl ?_
  refine r_aload_n dX7_put_4 rfl ?_
  refine r_getI dX7_put_5 k_X7_80 rfl (by decide) rfl ?_
  refine r_iload_n dX7_put_8 rfl ?_
  refine r_iast (s0 + acc.length) dX7_put_9 rfl H.1 (show s0 + acc.length < 600 by omega) ?_
  refine r_aload_n dX7_put_10 rfl ?_
  refine r_dup dX7_put_11 rfl ?_
  refine r_getI dX7_put_12 k_X7_80 rfl (by decide) rfl ?_
  refine r_iconst (v := 1) dX7_put_15 (by decide) ?_
  refine r_iadd dX7_put_16 ?_
  rw [setI_ne (by decide), H.1, nI_1, show s0 + acc.length + 1 = s0 + (acc ++ [z]).length by rw [List.length_append]; rfl]
  refine r_putI dX7_put_17 k_X7_80 rfl (by decide) rfl rfl rfl rfl ?_
  refine r_return dX7_put_20 rfl ?_
  exact ⟨rfl, H.app, (Fr.set (puF_at (by omega))).tr (Fr.set (by simp [puF]))⟩
theorem whS_ne {c : Nat} {K : List Nat} {acc : List Int} (h : ¬ c = 33) : whS (c :: K) acc = (c :: K, acc) := by
  unfold whS
  split
  · rename_i q; cases q; exact absurd rfl h
  · rfl
theorem whS_eq {K : List Nat} {acc : List Int} : whS (33 :: K) acc = whS K (acc ++ [-33]) := rfl
theorem RK.pop {s0 c : Nat} {h h' : Hp} {K : List Nat} (H : RK h (c :: K)) (hw : h'.1 134 24 = nI K.length) (ho : h'.1 134 25 = nI (opn K)) (hF : Fr (whF s0) h h') : RK h' K :=
  ⟨hw, ho, fun j d q => by
    have q2 := H.2.2 (j + 1) d q
    refine ⟨?_, q2.2⟩
    rw [hF.1 _ _ (by simp [whF, puF]), ← q2.1, show (c :: K).length - 1 - (j + 1) = K.length - 1 - j by show K.length + 1 - 1 - (j + 1) = _; omega]⟩
theorem opn_le (K : List Nat) : opn K ≤ K.length := by
  induction K with
  | nil => exact Nat.le_refl _
  | cons c K ih =>
    show opn K + (if c = 33 ∨ c = 40 then 1 else 0) ≤ K.length + 1
    split <;> omega
theorem whole_loop {G : WT} {l : Launch} (hG : GOK G) {s0 : Nat} : ∀ (K : List Nat) (acc : List Int) (h : Hp), RK h K → RG h s0 acc → s0 + acc.length + K.length ≤ 600 → K.length ≤ 101 → Wp G l 2 RX7 cX7_whole 1 none 0 [.ref (gA G 134)] [] h (fun r h' => r = none ∧ RK h' (whS K acc).1 ∧ RG h' s0 (whS K acc).2 ∧ Fr (whF s0) h h') := by
  intro K
  induction K with
  | nil =>
    intro acc h HK HG hb h1
    refine r_aload_n dX7_whole_0 rfl ?_
    refine r_getI dX7_whole_1 k_X7_83 rfl (by decide) rfl ?_
    rw [HK.1]
    refine r_if_le (tgt := 52) dX7_whole_4 (by decide) (fun c_4 => ?_) (fun c_4 => ?_)
    · refine r_return dX7_whole_52 rfl ?_
      exact ⟨rfl, HK, HG, Fr.rf⟩
    · exact absurd (Int32.le_refl _) c_4
  | cons c K ih =>
    intro acc h HK HG hb h1
    have hl : (c :: K).length = K.length + 1 := rfl
    have w0 := HK.2.2 0 c rfl
    have w1 : h.1 148 K.length = nI c := w0.1
    have hc := w0.2
    have ol := opn_le K
    by_cases h33 : c = 33
    · subst h33
      have eo : opn (33 :: K) = opn K + 1 := rfl
      refine r_aload_n dX7_whole_0 rfl ?_
      refine r_getI dX7_whole_1 k_X7_83 rfl (by decide) rfl ?_
      rw [HK.1, hl]
      refine r_if_le (tgt := 52) dX7_whole_4 (by decide) (fun c_4 => ?_) (fun c_4 => ?_)
      · exact absurd c_4 (nI_ge (a := 0) (b := K.length + 1) (by omega) (by omega))
      · refine r_aload_n dX7_whole_7 rfl ?_
        refine r_getR (j := 148) dX7_whole_8 k_X7_77 rfl (by decide) rfl rfl ?_
        refine r_aload_n dX7_whole_11 rfl ?_
        refine r_getI dX7_whole_12 k_X7_83 rfl (by decide) rfl ?_
        refine r_iconst (v := 1) dX7_whole_15 (by decide) ?_
        refine r_isub dX7_whole_16 ?_
        refine r_iald (K.length) dX7_whole_17 rfl (by rw [HK.1, hl, nI_pred]) (show K.length < 101 by omega) ?_
        rw [w1]
        refine r_bipush (v := 33) dX7_whole_18 (by decide) ?_
        refine r_icmp_ne (tgt := 52) dX7_whole_20 (by decide) (fun c_20 => ?_) (fun c_20 => ?_)
        · exact absurd rfl c_20
        · refine r_aload_n dX7_whole_23 rfl ?_
          refine r_bipush (v := -33) dX7_whole_24 (by decide) ?_
          rw [show (-33 : Int32) = zI (-33) from rfl]
          refine r_callV dX7_whole_26 l_X7_235 o_X7_put v_X7_put rfl (by decide) rfl rfl (m_X7_put hG HG (by omega)) (by decide) rfl (Nat.le_of_ble_eq_true rfl) (fun r26 h26 hq26 => ?_)
          obtain ⟨rfl, G1, F1⟩ := hq26
          have K1 := HK.put F1
          refine r_aload_n dX7_whole_29 rfl ?_
          refine r_dup dX7_whole_30 rfl ?_
          refine r_getI dX7_whole_31 k_X7_83 rfl (by decide) rfl ?_
          refine r_iconst (v := 1) dX7_whole_34 (by decide) ?_
          refine r_isub dX7_whole_35 ?_
          rw [K1.1, hl, nI_pred]
          refine r_putI dX7_whole_36 k_X7_83 rfl (by decide) rfl rfl rfl rfl ?_
          refine r_aload_n dX7_whole_39 rfl ?_
          refine r_dup dX7_whole_40 rfl ?_
          refine r_getI dX7_whole_41 k_X7_86 rfl (by decide) rfl ?_
          refine r_iconst (v := 1) dX7_whole_44 (by decide) ?_
          refine r_isub dX7_whole_45 ?_
          rw [setI_nj (by decide), K1.2.1, eo, nI_pred]
          refine r_putI dX7_whole_46 k_X7_86 rfl (by decide) rfl rfl rfl rfl ?_
          refine r_goto (tgt := 0) dX7_whole_49 (by decide) ?_
          have F2 : Fr (whF s0) h26 (setI (setI h26 134 24 (nI K.length)) 134 25 (nI (opn K))) := (Fr.set (by simp [whF])).tr (Fr.set (by simp [whF]))
          have G2 : RG (setI (setI h26 134 24 (nI K.length)) 134 25 (nI (opn K))) s0 (acc ++ [-33]) := ⟨by rw [setI_nj (by decide), setI_nj (by decide)]; exact G1.1, fun j t q => by rw [setI_ne (by decide), setI_ne (by decide)]; exact G1.2 j t q⟩
          refine Wp.mono (ih (acc ++ [-33]) _ (K1.pop (s0 := s0) (by rw [setI_nj (by decide), setI_at]) setI_at F2) G2 (by rw [List.length_append]; show s0 + (acc.length + 1) + K.length ≤ 600; omega) (by omega)) (fun r h' q => ?_)
          obtain ⟨q1, q2, q3, q4⟩ := q
          exact ⟨q1, q2, q3, ((puF_wh F1).tr F2).tr q4⟩
    · refine r_aload_n dX7_whole_0 rfl ?_
      refine r_getI dX7_whole_1 k_X7_83 rfl (by decide) rfl ?_
      rw [HK.1, hl]
      refine r_if_le (tgt := 52) dX7_whole_4 (by decide) (fun c_4 => ?_) (fun c_4 => ?_)
      · exact absurd c_4 (nI_ge (a := 0) (b := K.length + 1) (by omega) (by omega))
      · refine r_aload_n dX7_whole_7 rfl ?_
        refine r_getR (j := 148) dX7_whole_8 k_X7_77 rfl (by decide) rfl rfl ?_
        refine r_aload_n dX7_whole_11 rfl ?_
        refine r_getI dX7_whole_12 k_X7_83 rfl (by decide) rfl ?_
        refine r_iconst (v := 1) dX7_whole_15 (by decide) ?_
        refine r_isub dX7_whole_16 ?_
        refine r_iald (K.length) dX7_whole_17 rfl (by rw [HK.1, hl, nI_pred]) (show K.length < 101 by omega) ?_
        rw [w1]
        refine r_bipush (v := 33) dX7_whole_18 (by decide) ?_
        refine r_icmp_ne (tgt := 52) dX7_whole_20 (by decide) (fun c_20 => ?_) (fun c_20 => ?_)
        · refine r_return dX7_whole_52 rfl ?_
          rw [whS_ne h33]
          exact ⟨rfl, HK, HG, Fr.rf⟩
        · exact absurd ((nI_eq' (b := 33) (by omega) (by omega)).mp c_20) h33
set_option maxRecDepth 100000 in
theorem m_X7_whole {G : WT} {l : Launch} (hG : GOK G) {h : Hp} {s0 : Nat} {K : List Nat} {acc : List Int} (HK : RK h K) (HG : RG h s0 acc) (hb : s0 + acc.length + K.length ≤ 600) (hk : K.length ≤ 101) : Cl G l 2 yX7_whole cX7_whole 1 none [.ref (gA G 134)] h (fun r h' => r = none ∧ RK h' (whS K acc).1 ∧ RG h' s0 (whS K acc).2 ∧ Fr (whF s0) h h') := by
  refine Cl.of hG (by decide) (Nat.le_of_ble_eq_true rfl) ?_
  show Wp G l 2 RX7 cX7_whole 1 none 0 [.ref (gA G 134)] [] h _
  exact whole_loop hG K acc h HK HG hb hk
theorem stS_nil {s : Nat} {acc : List Int} : stS s [] acc = ([], acc) := rfl
theorem stS_pop {s c : Nat} {K : List Nat} {acc : List Int} (h : c = 38 ∨ (c = 124 ∧ s ≠ 38)) : stS s (c :: K) acc = stS s K (acc ++ [-(c : Int)]) := by rw [stS, if_pos h]
theorem stS_keep {s c : Nat} {K : List Nat} {acc : List Int} (h : ¬ (c = 38 ∨ (c = 124 ∧ s ≠ 38))) : stS s (c :: K) acc = (c :: K, acc) := by rw [stS, if_neg h]
theorem settle_loop {G : WT} {l : Launch} (hG : GOK G) {s0 s : Nat} (hs : s = 38 ∨ s = 124) : ∀ (K : List Nat) (acc : List Int) (h : Hp), RK h K → RG h s0 acc → s0 + acc.length + K.length ≤ 600 → K.length ≤ 101 → Wp G l 2 RX7 cX7_settle 2 none 0 [.ref (gA G 134), .int (nI s)] [] h (fun r h' => r = none ∧ RK h' (stS s K acc).1 ∧ RG h' s0 (stS s K acc).2 ∧ Fr (whF s0) h h') := by
  intro K
  induction K with
  | nil =>
    intro acc h HK HG hb h1
    refine r_aload_n dX7_settle_0 rfl ?_
    refine r_getI dX7_settle_1 k_X7_83 rfl (by decide) rfl ?_
    rw [HK.1]
    refine r_if_le (tgt := 72) dX7_settle_4 (by decide) (fun c_4 => ?_) (fun c_4 => ?_)
    · refine r_return dX7_settle_72 rfl ?_
      exact ⟨rfl, HK, HG, Fr.rf⟩
    · exact absurd (Int32.le_refl _) c_4
  | cons c K ih =>
    intro acc h HK HG hb h1
    have hl : (c :: K).length = K.length + 1 := rfl
    have w0 := HK.2.2 0 c rfl
    have w1 : h.1 148 K.length = nI c := w0.1
    have hc := w0.2
    have ol := opn_le K
    have t45 : c = 38 ∨ (c = 124 ∧ s ≠ 38) → Wp G l 2 RX7 cX7_settle 2 none 45 [.ref (gA G 134), .int (nI s)] [] h (fun r h' => r = none ∧ RK h' (stS s (c :: K) acc).1 ∧ RG h' s0 (stS s (c :: K) acc).2 ∧ Fr (whF s0) h h') := by
      intro hp
      have eo : opn (c :: K) = opn K := by show opn K + (if c = 33 ∨ c = 40 then 1 else 0) = _; rw [if_neg (by omega)]; rfl
      have F0 : Fr (whF s0) h (setI h 134 24 (nI K.length)) := Fr.set (by simp [whF])
      have K0 : RK (setI h 134 24 (nI K.length)) K := HK.pop (s0 := s0) setI_at (by rw [setI_nj (by decide), HK.2.1, eo]) F0
      have G0 : RG (setI h 134 24 (nI K.length)) s0 acc := ⟨by rw [setI_nj (by decide)]; exact HG.1, fun j t q => by rw [setI_ne (by decide)]; exact HG.2 j t q⟩
      rw [stS_pop hp]
      refine r_aload_n dX7_settle_45 rfl ?_
      refine r_dup dX7_settle_46 rfl ?_
      refine r_getI dX7_settle_47 k_X7_83 rfl (by decide) rfl ?_
      refine r_iconst (v := 1) dX7_settle_50 (by decide) ?_
      refine r_isub dX7_settle_51 ?_
      rw [HK.1, hl, nI_pred]
      refine r_putI dX7_settle_52 k_X7_83 rfl (by decide) rfl rfl rfl rfl ?_
      refine r_aload_n dX7_settle_55 rfl ?_
      refine r_aload_n dX7_settle_56 rfl ?_
      refine r_getR (j := 148) dX7_settle_57 k_X7_77 rfl (by decide) rfl rfl ?_
      refine r_aload_n dX7_settle_60 rfl ?_
      refine r_getI dX7_settle_61 k_X7_83 rfl (by decide) rfl ?_
      refine r_iald (K.length) dX7_settle_64 rfl setI_at (show K.length < 101 by omega) ?_
      rw [setI_ne (by decide), w1]
      refine r_ineg dX7_settle_65 ?_
      rw [show -nI c = zI (-(c : Int)) by rw [← zI_n, zI_neg]]
      refine r_callV dX7_settle_66 l_X7_235 o_X7_put v_X7_put rfl (by decide) rfl rfl (m_X7_put hG G0 (by omega)) (by decide) rfl (Nat.le_of_ble_eq_true rfl) (fun r66 h66 hq66 => ?_)
      obtain ⟨rfl, G1, F1⟩ := hq66
      refine r_goto (tgt := 0) dX7_settle_69 (by decide) ?_
      refine Wp.mono (ih (acc ++ [-(c : Int)]) _ (K0.put F1) G1 (by rw [List.length_append]; show s0 + (acc.length + 1) + K.length ≤ 600; omega) (by omega)) (fun r h' q => ?_)
      obtain ⟨q1, q2, q3, q4⟩ := q
      exact ⟨q1, q2, q3, (F0.tr (puF_wh F1)).tr q4⟩
    have t72 : ¬ (c = 38 ∨ (c = 124 ∧ s ≠ 38)) → Wp G l 2 RX7 cX7_settle 2 none 72 [.ref (gA G 134), .int (nI s)] [] h (fun r h' => r = none ∧ RK h' (stS s (c :: K) acc).1 ∧ RG h' s0 (stS s (c :: K) acc).2 ∧ Fr (whF s0) h h') := by
      intro hp
      rw [stS_keep hp]
      refine r_return dX7_settle_72 rfl ?_
      exact ⟨rfl, HK, HG, Fr.rf⟩
    refine r_aload_n dX7_settle_0 rfl ?_
    refine r_getI dX7_settle_1 k_X7_83 rfl (by decide) rfl ?_
    rw [HK.1, hl]
    refine r_if_le (tgt := 72) dX7_settle_4 (by decide) (fun c_4 => ?_) (fun c_4 => ?_)
    · exact absurd c_4 (nI_ge (a := 0) (b := K.length + 1) (by omega) (by omega))
    · refine r_aload_n dX7_settle_7 rfl ?_
      refine r_getR (j := 148) dX7_settle_8 k_X7_77 rfl (by decide) rfl rfl ?_
      refine r_aload_n dX7_settle_11 rfl ?_
      refine r_getI dX7_settle_12 k_X7_83 rfl (by decide) rfl ?_
      refine r_iconst (v := 1) dX7_settle_15 (by decide) ?_
      refine r_isub dX7_settle_16 ?_
      refine r_iald (K.length) dX7_settle_17 rfl (by rw [HK.1, hl, nI_pred]) (show K.length < 101 by omega) ?_
      rw [w1]
      refine r_bipush (v := 38) dX7_settle_18 (by decide) ?_
      refine r_icmp_eq (tgt := 45) dX7_settle_20 (by decide) (fun c_20 => ?_) (fun c_20 => ?_)
      · exact t45 (Or.inl ((nI_eq' (b := 38) (by omega) (by omega)).mp c_20))
      · refine r_aload_n dX7_settle_23 rfl ?_
        refine r_getR (j := 148) dX7_settle_24 k_X7_77 rfl (by decide) rfl rfl ?_
        refine r_aload_n dX7_settle_27 rfl ?_
        refine r_getI dX7_settle_28 k_X7_83 rfl (by decide) rfl ?_
        refine r_iconst (v := 1) dX7_settle_31 (by decide) ?_
        refine r_isub dX7_settle_32 ?_
        refine r_iald (K.length) dX7_settle_33 rfl (by rw [HK.1, hl, nI_pred]) (show K.length < 101 by omega) ?_
        rw [w1]
        refine r_bipush (v := 124) dX7_settle_34 (by decide) ?_
        refine r_icmp_ne (tgt := 72) dX7_settle_36 (by decide) (fun c_36 => ?_) (fun c_36 => ?_)
        · exact t72 (fun q => q.elim (fun y => c_20 (by rw [y]; rfl)) (fun y => c_36 (by rw [y.1]; rfl)))
        · refine r_iload_n dX7_settle_39 rfl ?_
          refine r_bipush (v := 38) dX7_settle_40 (by decide) ?_
          refine r_icmp_eq (tgt := 72) dX7_settle_42 (by decide) (fun c_42 => ?_) (fun c_42 => ?_)
          · exact t72 (fun q => q.elim (fun y => c_20 (by rw [y]; rfl)) (fun y => y.2 ((nI_eq' (b := 38) (by omega) (by omega)).mp c_42)))
          · exact t45 (Or.inr ⟨(nI_eq' (b := 124) (by omega) (by omega)).mp c_36, fun y => c_42 (by rw [y]; rfl)⟩)
set_option maxRecDepth 100000 in
theorem m_X7_settle {G : WT} {l : Launch} (hG : GOK G) {h : Hp} {s0 s : Nat} {K : List Nat} {acc : List Int} (hs : s = 38 ∨ s = 124) (HK : RK h K) (HG : RG h s0 acc) (hb : s0 + acc.length + K.length ≤ 600) (hk : K.length ≤ 101) : Cl G l 2 yX7_settle cX7_settle 2 none [.ref (gA G 134), .int (nI s)] h (fun r h' => r = none ∧ RK h' (stS s K acc).1 ∧ RG h' s0 (stS s K acc).2 ∧ Fr (whF s0) h h') := by
  refine Cl.of hG (by decide) (Nat.le_of_ble_eq_true rfl) ?_
  show Wp G l 2 RX7 cX7_settle 2 none 0 [.ref (gA G 134), .int (nI s)] [] h _
  exact settle_loop hG hs K acc h HK HG hb hk
