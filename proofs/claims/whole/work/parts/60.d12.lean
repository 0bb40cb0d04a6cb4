/-! a table of the class is the spec's -/
def DTb (h : Hp) (t : Nat) (T : Tb) : Prop := (h.1 t 7 = nI (T.1 7 0) ∧ h.1 t 8 = nI (T.1 7 1) ∧ h.1 t 9 = nI (T.1 7 2) ∧ h.1 t 10 = bkA (T.1 7 3) ∧ h.1 t 11 = nI (T.1 7 4) ∧ h.1 t 12 = nI (T.1 7 5) - 1) ∧
  (∀ e, e < 5 → (e < T.1 7 0 → h.1 (t + 1) e = nI (T.1 0 e) ∧ h.1 (t + 2) e = nI (T.1 1 e) ∧ h.1 (t + 3) e = nI (T.1 2 e) ∧ h.1 (t + 4) e = nI (T.1 3 e) ∧ h.1 (t + 5) e = T.2 e ∧ ∀ p, p < 4 → h.1 (t + 6) (4 * e + p) = nI (T.1 5 (4 * e + p))) ∧
    (¬ e < T.1 7 0 → h.1 (t + 4) e = 0 ∧ h.1 (t + 5) e = 0 ∧ ∀ p, p < 4 → h.1 (t + 6) (4 * e + p) = 0)) ∧
  (∀ k, k < T.1 7 4 → k < 12 → h.1 (t + 7) k = nI (T.1 6 k))
theorem DTb.same {h h' : Hp} {o t : Nat} {T : Tb} (H : DTb h o T) (S : SameT h h' o t) : DTb h' t T := by
  obtain ⟨⟨a1, a2, a3, a4, a5, a6⟩, b, c⟩ := H
  obtain ⟨s1, s2, s3, s4⟩ := S
  refine ⟨⟨?_, ?_, ?_, ?_, ?_, ?_⟩, fun e he => ⟨fun q => ?_, fun q => ?_⟩, fun k hk h12 => ?_⟩
  · rw [s4 7 (by omega) (by omega)]; exact a1
  · rw [s4 8 (by omega) (by omega)]; exact a2
  · rw [s4 9 (by omega) (by omega)]; exact a3
  · rw [s4 10 (by omega) (by omega)]; exact a4
  · rw [s4 11 (by omega) (by omega)]; exact a5
  · rw [s4 12 (by omega) (by omega)]; exact a6
  · obtain ⟨r1, r2, r3, r4, r5⟩ := s1 e he
    rw [r1, r2, r3, r4, r5]
    obtain ⟨b1, b2, b3, b4, b5, b6⟩ := (b e he).1 q
    exact ⟨b1, b2, b3, b4, b5, fun p hp => by rw [s2 _ (by omega)]; exact b6 p hp⟩
  · obtain ⟨r1, r2, r3, r4, r5⟩ := s1 e he
    rw [r4, r5]
    obtain ⟨b1, b2, b3⟩ := (b e he).2 q
    exact ⟨b1, b2, fun p hp => by rw [s2 _ (by omega)]; exact b3 p hp⟩
  · rw [s3 k h12]; exact c k hk h12
theorem DTb.fr {h h' : Hp} {t : Nat} {T : Tb} (H : DTb h t T) (e : ∀ a, t ≤ a → a ≤ t + 7 → h'.1 a = h.1 a) : DTb h' t T :=
  H.same ⟨fun j _ => by rw [e _ (by omega) (by omega), e _ (by omega) (by omega), e _ (by omega) (by omega), e _ (by omega) (by omega), e _ (by omega) (by omega)]; exact ⟨rfl, rfl, rfl, rfl, rfl⟩, fun j _ => by rw [e _ (by omega) (by omega)], fun j _ => by rw [e _ (by omega) (by omega)], fun f _ _ => by rw [e _ (by omega) (by omega)]⟩
theorem DTb.frF {h h' : Hp} {t : Nat} {T : Tb} {S : Nat → Nat → Bool} (H : DTb h t T) (hF : Fr S h h') (s : ∀ a i, t ≤ a → a ≤ t + 7 → S a i = false) : DTb h' t T := H.fr (fun a h1 h2 => funext fun i => hF.1 a i (s a i h1 h2))
theorem minI {a b : Nat} (ha : a < 2147483648) (hb : b < 2147483648) : (if nI b < nI a then nI b else nI a) = nI (min a b) := by
  by_cases z : b < a
  · rw [if_pos (nI_lt z (by omega)), Nat.min_eq_right (by omega)]
  · rw [if_neg (fun y => z ((nI_lt' hb ha).mp y)), Nat.min_eq_left (by omega)]
theorem maxI {a b : Nat} (ha : a < 2147483648) (hb : b < 2147483648) : (if nI a < nI b then nI b else nI a) = nI (max a b) := by
  by_cases z : a < b
  · rw [if_pos (nI_lt z (by omega)), Nat.max_eq_right (by omega)]
  · rw [if_neg (fun y => z ((nI_lt' ha hb).mp y)), Nat.max_eq_left (by omega)]
set_option maxRecDepth 100000 in
theorem m_X4_crumbMore {G : WT} {l : Launch} (hG : GOK G) {h : Hp} {t e : Nat} {T : Tb} (ht : ksh t = 4) (H : DTb h t T) (hT : TbOK T) (he : e < T.1 7 0) : Cl G l 2 yX4_crumbMore cX4_crumbMore 3 (some .int) [.ref (gA G t), .int (nI e)] h (fun r h' => r = some (.int (nI (crumbS T e))) ∧ h' = h) := by
  refine Cl.of hG (by decide) (Nat.le_of_ble_eq_true rfl) ?_
  show Wp G l 2 RX4 cX4_crumbMore 3 (some .int) 0 [.ref (gA G t), .int (nI e), mk0] [] h _
  have h5 := hT.1
  have fin : ∀ s, s < T.1 7 0 → crumbS T e = min 9 (T.1 3 s + 1) → Wp G l 2 RX4 cX4_crumbMore 3 (some .int) 16 [.ref (gA G t), .int (nI e), mk0] [.int (nI s)] h (fun r h' => r = some (.int (nI (crumbS T e))) ∧ h' = h) := by
    intro s hs ec
    have b4 := ((H.2.1 s (by omega)).1 hs).2.2.2.1
    have t9 := (hT.2.2.2.2.2.2.1 s).2.2.2
    have em : (if (0 : Int32) < nI s then nI s else 0) = nI s := (maxI (a := 0) (by omega) (by omega)).trans (by rw [Nat.max_eq_right (Nat.zero_le _)])
    rw [ec]
    refine r_istore_n dX4_crumbMore_16 (by decide) rfl rfl ?_
    dsimp only [List.set]
    refine r_bipush (v := 9) dX4_crumbMore_17 (by decide) ?_
    refine r_aload_n dX4_crumbMore_19 rfl ?_
    refine r_getR (j := t + 4) dX4_crumbMore_20 k_X4_21 (by assumption) (by decide) rfl (rf_T (by assumption) (by decide)) ?_
    refine r_iconst (v := 0) dX4_crumbMore_23 (by decide) ?_
    refine r_iload_n dX4_crumbMore_24 rfl ?_
    refine r_max dX4_crumbMore_25 l_X4_68 o_J9_max_7cf53 rfl s_J9_max_7cf53 (by decide) (Nat.le_of_ble_eq_true rfl) ?_
    rw [em]
    refine r_iald (s) dX4_crumbMore_28 (ks_T (by assumption) (by decide)) rfl (bT1 3 ht (by decide) (show s < 5 by omega)) ?_
    rw [b4]
    refine r_iconst (v := 1) dX4_crumbMore_29 (by decide) ?_
    refine r_iadd dX4_crumbMore_30 ?_
    rw [nI_1]
    refine r_min dX4_crumbMore_31 l_X4_58 o_J9_min_7cf53 rfl s_J9_min_7cf53 (by decide) (Nat.le_of_ble_eq_true rfl) ?_
    refine r_ireturn dX4_crumbMore_34 ⟨_, rfl, rfl⟩ ?_
    refine ⟨?_, rfl⟩
    congr 2
    exact minI (a := 9) (by omega) (by omega)
  by_cases h0 : e = 0
  · subst h0
    refine r_iload_n dX4_crumbMore_0 rfl ?_
    refine r_if_le (tgt := 10) dX4_crumbMore_1 (by decide) (fun c_1 => ?_) (fun c_1 => ?_)
    · refine r_aload_n dX4_crumbMore_10 rfl ?_
      refine r_getI dX4_crumbMore_11 k_X4_33 (by assumption) (by decide) rfl ?_
      refine r_iconst (v := 1) dX4_crumbMore_14 (by decide) ?_
      rw [H.1.1]
      refine r_isub dX4_crumbMore_15 ?_
      rw [show (1 : Int32) = nI 1 from rfl, pk_sub (by omega)]
      exact fin _ (by omega) (by rw [crumbS, if_pos rfl])
    · exact absurd (Int32.le_refl _) c_1
  · refine r_iload_n dX4_crumbMore_0 rfl ?_
    refine r_if_le (tgt := 10) dX4_crumbMore_1 (by decide) (fun c_1 => ?_) (fun c_1 => ?_)
    · exact absurd c_1 (nI_ge (a := 0) (by omega) (by omega))
    · refine r_iload_n dX4_crumbMore_4 rfl ?_
      refine r_iconst (v := 1) dX4_crumbMore_5 (by decide) ?_
      refine r_isub dX4_crumbMore_6 ?_
      refine r_goto (tgt := 16) dX4_crumbMore_7 (by decide) ?_
      rw [show (1 : Int32) = nI 1 from rfl, pk_sub (by omega)]
      exact fin _ (by omega) (by rw [crumbS, if_neg h0])
theorem plain_def {T : Tb} {e : Nat} (h : T.1 0 e = 0 ∨ 6 < T.1 0 e) : plainS T e = T.1 2 e := by
  unfold plainS
  split <;> first | rfl | (exfalso; omega)
set_option maxRecDepth 100000 in
theorem m_X4_plainWish {G : WT} {l : Launch} (hG : GOK G) {h : Hp} {t e : Nat} {T : Tb} (ht : ksh t = 4) (H : DTb h t T) (hT : TbOK T) (he : e < T.1 7 0) : Cl G l 3 yX4_plainWish cX4_plainWish 2 (some .int) [.ref (gA G t), .int (nI e)] h (fun r h' => r = some (.int (nI (plainS T e))) ∧ h' = h) := by
  refine Cl.of hG (by decide) (Nat.le_of_ble_eq_true rfl) ?_
  show Wp G l 3 RX4 cX4_plainWish 2 (some .int) 0 [.ref (gA G t), .int (nI e)] [] h _
  have h5 := hT.1
  obtain ⟨b1, b2, b3, b4, b5, b6⟩ := (H.2.1 e (by omega)).1 he
  obtain ⟨t1, t2, t3, t4⟩ := hT.2.2.2.2.2.2.1 e
  have he5 : e < 5 := by omega
  have emin : (if nI (T.1 2 e) + nI (T.1 1 e) < (9 : Int32) then nI (T.1 2 e) + nI (T.1 1 e) else (9 : Int32)) = nI (min 9 (T.1 2 e + T.1 1 e)) := by
    rw [nI_add]
    exact minI (a := 9) (by omega) (by omega)
  rcases (show T.1 0 e = 0 ∨ T.1 0 e = 1 ∨ T.1 0 e = 2 ∨ T.1 0 e = 3 ∨ T.1 0 e = 4 ∨ T.1 0 e = 5 ∨ T.1 0 e = 6 by omega) with k0 | k0 | k0 | k0 | k0 | k0 | k0
  · rw [plain_def (Or.inl k0)]
    refine r_aload_n dX4_plainWish_0 rfl ?_
    refine r_getR (j := t + 1) dX4_plainWish_1 k_X4_9 (by assumption) (by decide) rfl (rf_T (by assumption) (by decide)) ?_
    refine r_iload_n dX4_plainWish_4 rfl ?_
    refine r_iald (e) dX4_plainWish_5 (ks_T (by assumption) (by decide)) rfl (bT1 0 ht (by decide) he5) ?_
    rw [b1, k0]
    · refine r_tsw 136 dX4_plainWish_6 rfl (by decide) rfl ?_
      refine r_aload_n dX4_plainWish_136 rfl ?_
      refine r_getR (j := t + 3) dX4_plainWish_137 k_X4_18 (by assumption) (by decide) rfl (rf_T (by assumption) (by decide)) ?_
      refine r_iload_n dX4_plainWish_140 rfl ?_
      refine r_iald (e) dX4_plainWish_141 (ks_T (by assumption) (by decide)) rfl (bT1 2 ht (by decide) he5) ?_
      rw [b3]
      refine r_ireturn dX4_plainWish_142 ⟨_, rfl, rfl⟩ ?_
      exact ⟨rfl, rfl⟩
  · have ep : plainS T e = min 9 (T.1 2 e + T.1 1 e) := by unfold plainS; rw [k0]; rfl
    rw [ep]
    refine r_aload_n dX4_plainWish_0 rfl ?_
    refine r_getR (j := t + 1) dX4_plainWish_1 k_X4_9 (by assumption) (by decide) rfl (rf_T (by assumption) (by decide)) ?_
    refine r_iload_n dX4_plainWish_4 rfl ?_
    refine r_iald (e) dX4_plainWish_5 (ks_T (by assumption) (by decide)) rfl (bT1 0 ht (by decide) he5) ?_
    rw [b1, k0]
    · refine r_tsw 44 dX4_plainWish_6 rfl (by decide) rfl ?_
      refine r_bipush (v := 9) dX4_plainWish_44 (by decide) ?_
      refine r_aload_n dX4_plainWish_46 rfl ?_
      refine r_getR (j := t + 3) dX4_plainWish_47 k_X4_18 (by assumption) (by decide) rfl (rf_T (by assumption) (by decide)) ?_
      refine r_iload_n dX4_plainWish_50 rfl ?_
      refine r_iald (e) dX4_plainWish_51 (ks_T (by assumption) (by decide)) rfl (bT1 2 ht (by decide) he5) ?_
      rw [b3]
      refine r_aload_n dX4_plainWish_52 rfl ?_
      refine r_getR (j := t + 2) dX4_plainWish_53 k_X4_15 (by assumption) (by decide) rfl (rf_T (by assumption) (by decide)) ?_
      refine r_iload_n dX4_plainWish_56 rfl ?_
      refine r_iald (e) dX4_plainWish_57 (ks_T (by assumption) (by decide)) rfl (bT1 1 ht (by decide) he5) ?_
      rw [b2]
      refine r_iadd dX4_plainWish_58 ?_
      refine r_min dX4_plainWish_59 l_X4_58 o_J9_min_7cf53 rfl s_J9_min_7cf53 (by decide) (Nat.le_of_ble_eq_true rfl) ?_
      rw [emin]
      refine r_ireturn dX4_plainWish_62 ⟨_, rfl, rfl⟩ ?_
      exact ⟨rfl, rfl⟩
  · have ep : plainS T e = crumbS T e := by unfold plainS; rw [k0]; rfl
    rw [ep]
    refine r_aload_n dX4_plainWish_0 rfl ?_
    refine r_getR (j := t + 1) dX4_plainWish_1 k_X4_9 (by assumption) (by decide) rfl (rf_T (by assumption) (by decide)) ?_
    refine r_iload_n dX4_plainWish_4 rfl ?_
    refine r_iald (e) dX4_plainWish_5 (ks_T (by assumption) (by decide)) rfl (bT1 0 ht (by decide) he5) ?_
    rw [b1, k0]
    · refine r_tsw 63 dX4_plainWish_6 rfl (by decide) rfl ?_
      refine r_aload_n dX4_plainWish_63 rfl ?_
      refine r_iload_n dX4_plainWish_64 rfl ?_
      refine r_callV dX4_plainWish_65 l_X4_64 o_X4_crumbMore v_X4_crumbMore (by assumption) (by decide) rfl rfl (m_X4_crumbMore hG ht H hT he) (by decide) rfl (Nat.le_of_ble_eq_true rfl) (fun r65 h65 hq65 => ?_)
      obtain ⟨rfl, e65⟩ := hq65
      rw [e65]
      clear e65 h65
      refine r_ireturn dX4_plainWish_68 ⟨_, rfl, rfl⟩ ?_
      exact ⟨rfl, rfl⟩
  · have ep : plainS T e = if T.1 7 2 % T.1 7 0 = e then 0 else T.1 2 e := by unfold plainS; rw [k0]; rfl
    rw [ep]
    have hd := hT.2.2.1
    refine r_aload_n dX4_plainWish_0 rfl ?_
    refine r_getR (j := t + 1) dX4_plainWish_1 k_X4_9 (by assumption) (by decide) rfl (rf_T (by assumption) (by decide)) ?_
    refine r_iload_n dX4_plainWish_4 rfl ?_
    refine r_iald (e) dX4_plainWish_5 (ks_T (by assumption) (by decide)) rfl (bT1 0 ht (by decide) he5) ?_
    rw [b1, k0]
    · refine r_tsw 89 dX4_plainWish_6 rfl (by decide) rfl ?_
      refine r_aload_n dX4_plainWish_89 rfl ?_
      refine r_getI dX4_plainWish_90 k_X4_33 (by assumption) (by decide) rfl ?_
      rw [H.1.1]
      refine r_if_le (tgt := 113) dX4_plainWish_93 (by decide) (fun c_93 => ?_) (fun c_93 => ?_)
      · exact absurd c_93 (nI_ge (a := 0) (by omega) (by omega))
      · refine r_aload_n dX4_plainWish_96 rfl ?_
        refine r_getI dX4_plainWish_97 k_X4_40 (by assumption) (by decide) rfl ?_
        refine r_aload_n dX4_plainWish_100 rfl ?_
        refine r_getI dX4_plainWish_101 k_X4_33 (by assumption) (by decide) rfl ?_
        rw [H.1.2.2.1, H.1.1]
        refine r_irem dX4_plainWish_104 (fun y => absurd ((nI_eq' (b := 0) (by omega) (by omega)).mp y) (by omega)) ?_
        rw [nI_rem (by omega) (by omega) (by omega)]
        refine r_iload_n dX4_plainWish_105 rfl ?_
        refine r_icmp_ne (tgt := 113) dX4_plainWish_106 (by decide) (fun c_106 => ?_) (fun c_106 => ?_)
        · refine r_aload_n dX4_plainWish_113 rfl ?_
          refine r_getR (j := t + 3) dX4_plainWish_114 k_X4_18 (by assumption) (by decide) rfl (rf_T (by assumption) (by decide)) ?_
          refine r_iload_n dX4_plainWish_117 rfl ?_
          refine r_iald (e) dX4_plainWish_118 (ks_T (by assumption) (by decide)) rfl (bT1 2 ht (by decide) he5) ?_
          skip
          refine r_ireturn dX4_plainWish_119 ⟨_, rfl, rfl⟩ ?_
          exact ⟨by rw [if_neg (fun y => c_106 (by rw [y])), b3], rfl⟩
        · refine r_iconst (v := 0) dX4_plainWish_109 (by decide) ?_
          refine r_goto (tgt := 119) dX4_plainWish_110 (by decide) ?_
          skip
          refine r_ireturn dX4_plainWish_119 ⟨_, rfl, rfl⟩ ?_
          exact ⟨by rw [if_pos ((nI_eq' (by have := Nat.mod_lt (T.1 7 2) (show 0 < T.1 7 0 by omega); omega) (by omega)).mp c_106)]; rfl, rfl⟩
  · have ep : plainS T e = min 9 (T.1 2 e + T.1 1 e) := by unfold plainS; rw [k0]; rfl
    rw [ep]
    refine r_aload_n dX4_plainWish_0 rfl ?_
    refine r_getR (j := t + 1) dX4_plainWish_1 k_X4_9 (by assumption) (by decide) rfl (rf_T (by assumption) (by decide)) ?_
    refine r_iload_n dX4_plainWish_4 rfl ?_
    refine r_iald (e) dX4_plainWish_5 (ks_T (by assumption) (by decide)) rfl (bT1 0 ht (by decide) he5) ?_
    rw [b1, k0]
    · refine r_tsw 44 dX4_plainWish_6 rfl (by decide) rfl ?_
      refine r_bipush (v := 9) dX4_plainWish_44 (by decide) ?_
      refine r_aload_n dX4_plainWish_46 rfl ?_
      refine r_getR (j := t + 3) dX4_plainWish_47 k_X4_18 (by assumption) (by decide) rfl (rf_T (by assumption) (by decide)) ?_
      refine r_iload_n dX4_plainWish_50 rfl ?_
      refine r_iald (e) dX4_plainWish_51 (ks_T (by assumption) (by decide)) rfl (bT1 2 ht (by decide) he5) ?_
      rw [b3]
      refine r_aload_n dX4_plainWish_52 rfl ?_
      refine r_getR (j := t + 2) dX4_plainWish_53 k_X4_15 (by assumption) (by decide) rfl (rf_T (by assumption) (by decide)) ?_
      refine r_iload_n dX4_plainWish_56 rfl ?_
      refine r_iald (e) dX4_plainWish_57 (ks_T (by assumption) (by decide)) rfl (bT1 1 ht (by decide) he5) ?_
      rw [b2]
      refine r_iadd dX4_plainWish_58 ?_
      refine r_min dX4_plainWish_59 l_X4_58 o_J9_min_7cf53 rfl s_J9_min_7cf53 (by decide) (Nat.le_of_ble_eq_true rfl) ?_
      rw [emin]
      refine r_ireturn dX4_plainWish_62 ⟨_, rfl, rfl⟩ ?_
      exact ⟨rfl, rfl⟩
  · have ep : plainS T e = if T.1 1 e < 5 then 0 else crumbS T e := by unfold plainS; rw [k0]; rfl
    rw [ep]
    refine r_aload_n dX4_plainWish_0 rfl ?_
    refine r_getR (j := t + 1) dX4_plainWish_1 k_X4_9 (by assumption) (by decide) rfl (rf_T (by assumption) (by decide)) ?_
    refine r_iload_n dX4_plainWish_4 rfl ?_
    refine r_iald (e) dX4_plainWish_5 (ks_T (by assumption) (by decide)) rfl (bT1 0 ht (by decide) he5) ?_
    rw [b1, k0]
    · refine r_tsw 69 dX4_plainWish_6 rfl (by decide) rfl ?_
      refine r_aload_n dX4_plainWish_69 rfl ?_
      refine r_getR (j := t + 2) dX4_plainWish_70 k_X4_15 (by assumption) (by decide) rfl (rf_T (by assumption) (by decide)) ?_
      refine r_iload_n dX4_plainWish_73 rfl ?_
      refine r_iald (e) dX4_plainWish_74 (ks_T (by assumption) (by decide)) rfl (bT1 1 ht (by decide) he5) ?_
      rw [b2]
      refine r_iconst (v := 5) dX4_plainWish_75 (by decide) ?_
      refine r_icmp_ge (tgt := 83) dX4_plainWish_76 (by decide) (fun c_76 => ?_) (fun c_76 => ?_)
      · refine r_aload_n dX4_plainWish_83 rfl ?_
        refine r_iload_n dX4_plainWish_84 rfl ?_
        refine r_callV dX4_plainWish_85 l_X4_64 o_X4_crumbMore v_X4_crumbMore (by assumption) (by decide) rfl rfl (m_X4_crumbMore hG ht H hT he) (by decide) rfl (Nat.le_of_ble_eq_true rfl) (fun r85 h85 hq85 => ?_)
        obtain ⟨rfl, e85⟩ := hq85
        rw [e85]
        clear e85 h85
        refine r_ireturn dX4_plainWish_88 ⟨_, rfl, rfl⟩ ?_
        exact ⟨by rw [if_neg (by have := (nI_le' (a := 5) (by omega) (by omega)).mp c_76; omega)], rfl⟩
      · refine r_iconst (v := 0) dX4_plainWish_79 (by decide) ?_
        refine r_goto (tgt := 88) dX4_plainWish_80 (by decide) ?_
        refine r_ireturn dX4_plainWish_88 ⟨_, rfl, rfl⟩ ?_
        exact ⟨by rw [if_pos (Classical.byContradiction fun y => c_76 (nI_le (a := 5) (by omega) (by omega)))]; rfl, rfl⟩
  · have ep : plainS T e = T.1 5 (4 * e + T.1 7 2 % 4) := by unfold plainS; rw [k0]; rfl
    rw [ep]
    have hd := hT.2.2.1
    have hm : T.1 7 2 % 4 < 4 := Nat.mod_lt _ (by decide)
    refine r_aload_n dX4_plainWish_0 rfl ?_
    refine r_getR (j := t + 1) dX4_plainWish_1 k_X4_9 (by assumption) (by decide) rfl (rf_T (by assumption) (by decide)) ?_
    refine r_iload_n dX4_plainWish_4 rfl ?_
    refine r_iald (e) dX4_plainWish_5 (ks_T (by assumption) (by decide)) rfl (bT1 0 ht (by decide) he5) ?_
    rw [b1, k0]
    · refine r_tsw 120 dX4_plainWish_6 rfl (by decide) rfl ?_
      refine r_aload_n dX4_plainWish_120 rfl ?_
      refine r_getR (j := t + 6) dX4_plainWish_121 k_X4_27 (by assumption) (by decide) rfl (rf_T (by assumption) (by decide)) ?_
      refine r_iload_n dX4_plainWish_124 rfl ?_
      refine r_iconst (v := 4) dX4_plainWish_125 (by decide) ?_
      refine r_imul dX4_plainWish_126 ?_
      refine r_aload_n dX4_plainWish_127 rfl ?_
      refine r_getI dX4_plainWish_128 k_X4_40 (by assumption) (by decide) rfl ?_
      rw [H.1.2.2.1]
      refine r_iconst (v := 4) dX4_plainWish_131 (by decide) ?_
      refine r_irem dX4_plainWish_132 (by decide) ?_
      rw [show (4 : Int32) = nI 4 from rfl, nI_rem (by omega) (by omega) (by omega)]
      refine r_iadd dX4_plainWish_133 ?_
      refine r_iald (4 * e + T.1 7 2 % 4) dX4_plainWish_134 (ks_T (by assumption) (by decide)) (by rw [pk_mul, nI_add, Nat.mul_comm]) (bT2 ht (by omega)) ?_
      rw [b6 _ hm]
      refine r_ireturn dX4_plainWish_135 ⟨_, rfl, rfl⟩ ?_
      exact ⟨rfl, rfl⟩
def seatF (t a i : Nat) : Bool := decide (t + 1 ≤ a) && decide (a ≤ t + 3) || (a == t && i == 7)
set_option maxRecDepth 100000 in
theorem m_X4_seat {G : WT} {l : Launch} (hG : GOK G) {h : Hp} {t k v w : Nat} {T : Tb} (ht : ksh t = 4) (H : DTb h t T) (hE : T.1 7 0 < 5) : Cl G l 1 yX4_seat cX4_seat 5 (some .int) [.ref (gA G t), .int (nI k), .int (nI v), .int (nI w)] h (fun r h' => r = some (.int (nI (T.1 7 0))) ∧ DTb h' t (addEater T k v w) ∧ Fr (tbF t) h h') := by
  refine Cl.of hG (by decide) (Nat.le_of_ble_eq_true rfl) ?_
  show Wp G l 1 RX4 cX4_seat 5 (some .int) 0 [.ref (gA G t), .int (nI k), .int (nI v), .int (nI w), mk0] [] h _
  obtain ⟨E, hEe⟩ : ∃ E, E = T.1 7 0 := ⟨_, rfl⟩
  rw [← hEe] at hE
  have e0 : h.1 t 7 = nI E := by rw [hEe]; exact H.1.1
  refine r_aload_n dX4_seat_0 rfl ?_
  refine r_getI dX4_seat_1 k_X4_33 (by assumption) (by decide) rfl ?_
  rw [e0]
  refine r_istore dX4_seat_4 (by decide) rfl rfl ?_
  dsimp only [List.set]
  refine r_iload dX4_seat_6 rfl ?_
  refine r_iconst (v := 5) dX4_seat_8 (by decide) ?_
  refine r_icmp_lt (tgt := 15) dX4_seat_9 (by decide) (fun c_9 => ?_) (fun c_9 => ?_)
  · refine r_aload_n dX4_seat_15 rfl ?_
    refine r_getR (j := t + 1) dX4_seat_16 k_X4_9 (by assumption) (by decide) rfl (rf_T (by assumption) (by decide)) ?_
    refine r_iload dX4_seat_19 rfl ?_
    refine r_iload_n dX4_seat_21 rfl ?_
    refine r_iast (E) dX4_seat_22 (ks_T (by assumption) (by decide)) rfl (bT1 0 ht (by decide) hE) ?_
    refine r_aload_n dX4_seat_23 rfl ?_
    refine r_getR (j := t + 2) dX4_seat_24 k_X4_15 (by assumption) (by decide) rfl (rf_T (by assumption) (by decide)) ?_
    refine r_iload dX4_seat_27 rfl ?_
    refine r_iload_n dX4_seat_29 rfl ?_
    refine r_iast (E) dX4_seat_30 (ks_T (by assumption) (by decide)) rfl (bT1 1 ht (by decide) hE) ?_
    refine r_aload_n dX4_seat_31 rfl ?_
    refine r_getR (j := t + 3) dX4_seat_32 k_X4_18 (by assumption) (by decide) rfl (rf_T (by assumption) (by decide)) ?_
    refine r_iload dX4_seat_35 rfl ?_
    refine r_iload_n dX4_seat_37 rfl ?_
    refine r_iast (E) dX4_seat_38 (ks_T (by assumption) (by decide)) rfl (bT1 2 ht (by decide) hE) ?_
    refine r_aload_n dX4_seat_39 rfl ?_
    refine r_dup dX4_seat_40 rfl ?_
    refine r_getI dX4_seat_41 k_X4_33 (by assumption) (by decide) rfl ?_
    refine r_iconst (v := 1) dX4_seat_44 (by decide) ?_
    refine r_iadd dX4_seat_45 ?_
    rw [setI_ne (by omega), setI_ne (by omega), setI_ne (by omega), e0, nI_1]
    refine r_putI dX4_seat_46 k_X4_33 (by assumption) (by decide) rfl rfl rfl rfl ?_
    refine r_iload dX4_seat_49 rfl ?_
    refine r_ireturn dX4_seat_51 ⟨_, rfl, rfl⟩ ?_
    refine ⟨by rw [hEe], ?_, (((Fr.set (by simp [tbF])).tr (Fr.set (by simp [tbF]))).tr (Fr.set (by simp [tbF]))).tr (Fr.set (by simp [tbF]))⟩
    obtain ⟨⟨a1, a2, a3, a4, a5, a6⟩, b, c⟩ := H
    have n0 : (addEater T k v w).1 7 0 = E + 1 := by rw [hEe]; rfl
    have o1 : ∀ f, ¬ f = 7 → (setI (setI (setI (setI h (t + 1) E (nI k)) (t + 2) E (nI v)) (t + 3) E (nI w)) t 7 (nI (E + 1))).1 t f = h.1 t f := fun f hf => by rw [setI_nj hf, setI_ne (by omega), setI_ne (by omega), setI_ne (by omega)]
    have o2 : ∀ a, t + 4 ≤ a → (setI (setI (setI (setI h (t + 1) E (nI k)) (t + 2) E (nI v)) (t + 3) E (nI w)) t 7 (nI (E + 1))).1 a = h.1 a := fun a ha => by rw [setI_nx (by omega), setI_nx (by omega), setI_nx (by omega), setI_nx (by omega)]
    have o3 : ∀ a e, t + 1 ≤ a → ¬ e = E → (setI (setI (setI (setI h (t + 1) E (nI k)) (t + 2) E (nI v)) (t + 3) E (nI w)) t 7 (nI (E + 1))).1 a e = h.1 a e := fun a e ha he => by rw [setI_ne (by omega), setI_nj he, setI_nj he, setI_nj he]
    refine ⟨⟨?_, ?_, ?_, ?_, ?_, ?_⟩, fun e he => ⟨fun q => ?_, fun q => ?_⟩, fun j hj h12 => ?_⟩
    · rw [n0, setI_at]
    · rw [o1 _ (by decide)]; exact a2
    · rw [o1 _ (by decide)]; exact a3
    · rw [o1 _ (by decide)]; exact a4
    · rw [o1 _ (by decide)]; exact a5
    · rw [o1 _ (by decide)]; exact a6
    · rw [n0] at q
      by_cases hn : e = E
      · subst hn
        obtain ⟨z1, z2, z3⟩ := (b e he).2 (by omega)
        rw [o2 (t + 4) (by omega), o2 (t + 5) (by omega), o2 (t + 6) (by omega)]
        refine ⟨?_, ?_, ?_, ?_, ?_, fun p hp => ?_⟩
        · rw [setI_ne (by omega), setI_ne (by omega), setI_ne (by omega), setI_at]; simp [addEater, hEe]
        · rw [setI_ne (by omega), setI_ne (by omega), setI_at]; simp [addEater, hEe]
        · rw [setI_ne (by omega), setI_at]; simp [addEater, hEe]
        · rw [z1]; simp [addEater, hEe]; rfl
        · rw [z2]; simp [addEater, hEe]
        · rw [z3 p hp]
          have z9 : (addEater T k v w).1 5 (4 * e + p) = 0 := by simp only [addEater]; rw [if_neg (by decide), if_pos trivial, if_pos (by omega)]
          rw [z9]; rfl
      · obtain ⟨z1, z2, z3, z4, z5, z6⟩ := (b e he).1 (by omega)
        rw [o3 _ _ (by omega) hn, o3 _ _ (by omega) hn, o3 _ _ (by omega) hn, o2 (t + 4) (by omega), o2 (t + 5) (by omega), o2 (t + 6) (by omega)]
        have hn2 : ¬ e = T.1 7 0 := by omega
        refine ⟨?_, ?_, ?_, ?_, ?_, fun p hp => ?_⟩
        · rw [z1]; simp [addEater, hn2]
        · rw [z2]; simp [addEater, hn2]
        · rw [z3]; simp [addEater, hn2]
        · rw [z4]; simp [addEater, hn2]
        · rw [z5]; simp [addEater, hn2]
        · rw [z6 p hp]
          have z9 : (addEater T k v w).1 5 (4 * e + p) = T.1 5 (4 * e + p) := by simp only [addEater]; rw [if_neg (by decide), if_pos trivial, if_neg (by omega)]
          rw [z9]
    · rw [n0] at q
      obtain ⟨z1, z2, z3⟩ := (b e he).2 (by omega)
      rw [o2 (t + 4) (by omega), o2 (t + 5) (by omega), o2 (t + 6) (by omega)]
      exact ⟨z1, z2, z3⟩
    · rw [o2 (t + 7) (by omega), c j hj h12]
      simp [addEater]
  · exact absurd (nI_lt (a := E) (b := 5) hE (by omega)) c_9
theorem glad_lp {G : WT} {l : Launch} (hG : GOK G) {t : Nat} {T : Tb} {h : Hp} (ht : ksh t = 4) (H : DTb h t T) (hT : T.1 7 0 ≤ 5) : ∀ (n j : Nat), j + n = T.1 7 0 → Wp G l 1 RX4 cX4_gladTogether 3 (some .int) 4 [.ref (gA G t), .int (gladTo T j), .int (nI j)] [] h (fun r h' => r = some (.int (gladA T)) ∧ h' = h) := by
  intro n
  induction n with
  | zero =>
    intro j hj
    refine r_iload_n dX4_gladTogether_4 rfl ?_
    refine r_aload_n dX4_gladTogether_5 rfl ?_
    refine r_getI dX4_gladTogether_6 k_X4_33 (by assumption) (by decide) rfl ?_
    rw [H.1.1]
    refine r_icmp_ge (tgt := 27) dX4_gladTogether_9 (by decide) (fun c_9 => ?_) (fun c_9 => ?_)
    · refine r_iload_n dX4_gladTogether_27 rfl ?_
      refine r_ireturn dX4_gladTogether_28 ⟨_, rfl, rfl⟩ ?_
      exact ⟨by rw [show j = T.1 7 0 by omega]; rfl, rfl⟩
    · exact absurd (nI_le (by omega) (by omega)) c_9
  | succ n ih =>
    intro j hj
    have b5 := ((H.2.1 j (by omega)).1 (by omega)).2.2.2.2.1
    refine r_iload_n dX4_gladTogether_4 rfl ?_
    refine r_aload_n dX4_gladTogether_5 rfl ?_
    refine r_getI dX4_gladTogether_6 k_X4_33 (by assumption) (by decide) rfl ?_
    rw [H.1.1]
    refine r_icmp_ge (tgt := 27) dX4_gladTogether_9 (by decide) (fun c_9 => ?_) (fun c_9 => ?_)
    · exact absurd c_9 (nI_ge (by omega) (by omega))
    · refine r_iload_n dX4_gladTogether_12 rfl ?_
      refine r_aload_n dX4_gladTogether_13 rfl ?_
      refine r_getR (j := t + 5) dX4_gladTogether_14 k_X4_24 (by assumption) (by decide) rfl (rf_T (by assumption) (by decide)) ?_
      refine r_iload_n dX4_gladTogether_17 rfl ?_
      refine r_iald (j) dX4_gladTogether_18 (ks_T (by assumption) (by decide)) rfl (bT1 4 ht (by decide) (show j < 5 by omega)) ?_
      rw [b5]
      refine r_iadd dX4_gladTogether_19 ?_
      refine r_istore_n dX4_gladTogether_20 (by decide) rfl rfl ?_
      dsimp only [List.set]
      refine r_iinc dX4_gladTogether_21 rfl (by first | exact nI_inc _ | rfl) (by decide) rfl rfl ?_
      dsimp only [List.set]
      refine r_goto (tgt := 4) dX4_gladTogether_24 (by decide) ?_
      exact ih (j + 1) (by omega)
set_option maxRecDepth 100000 in
theorem m_X4_gladTogether {G : WT} {l : Launch} (hG : GOK G) {h : Hp} {t : Nat} {T : Tb} (ht : ksh t = 4) (H : DTb h t T) (hT : T.1 7 0 ≤ 5) : Cl G l 1 yX4_gladTogether cX4_gladTogether 3 (some .int) [.ref (gA G t)] h (fun r h' => r = some (.int (gladA T)) ∧ h' = h) := by
  refine Cl.of hG (by decide) (Nat.le_of_ble_eq_true rfl) ?_
  show Wp G l 1 RX4 cX4_gladTogether 3 (some .int) 0 [.ref (gA G t), mk0, mk0] [] h _
  refine r_iconst (v := 0) dX4_gladTogether_0 (by decide) ?_
  refine r_istore_n dX4_gladTogether_1 (by decide) rfl rfl ?_
  dsimp only [List.set]
  refine r_iconst (v := 0) dX4_gladTogether_2 (by decide) ?_
  refine r_istore_n dX4_gladTogether_3 (by decide) rfl rfl ?_
  dsimp only [List.set]
  exact glad_lp hG ht H hT (T.1 7 0) 0 (by omega)
theorem like_false {T T' : Tb} {j : Nat} (h : likeTo T T' j = false) : ∀ n, j ≤ n → likeTo T T' n = false := by
  intro n hn
  induction n with
  | zero => rw [show j = 0 by omega] at h; exact h
  | succ n ih =>
    by_cases e : j = n + 1
    · rw [← e]; exact h
    · show (likeTo T T' n && _) = false
      rw [ih (by omega), Bool.false_and]
theorem looks_lp {G : WT} {l : Launch} (hG : GOK G) {t o : Nat} {T T' : Tb} {h : Hp} (ht : ksh t = 4) (ho : ksh o = 4) (H : DTb h t T) (H' : DTb h o T') (hT : T.1 7 0 ≤ 5) (hOK : TbOK T) (hOK' : TbOK T') (hE : T.1 7 0 = T'.1 7 0) : ∀ (n j : Nat) (b : Bool), j + n = T.1 7 0 → Wp G l 1 RX4 cX4_looksLike 4 (some .boolean) 19 [.ref (gA G t), .ref (gA G o), .int (b01 (likeTo T T' j && b)), .int (nI j)] [] h (fun r h' => r = some (.int (b01 (likeTo T T' (T.1 7 0) && b))) ∧ h' = h) := by
  intro n
  induction n with
  | zero =>
    intro j b hj
    have ej : j = T.1 7 0 := by omega
    subst ej
    refine r_iload_n dX4_looksLike_19 rfl ?_
    refine r_aload_n dX4_looksLike_20 rfl ?_
    refine r_getI dX4_looksLike_21 k_X4_33 (by assumption) (by decide) rfl ?_
    rw [H.1.1]
    refine r_icmp_ge (tgt := 58) dX4_looksLike_24 (by decide) (fun c_24 => ?_) (fun c_24 => ?_)
    · refine r_iload_n dX4_looksLike_58 rfl ?_
      refine r_ireturn dX4_looksLike_59 ⟨_, rfl, (b01_nar _)⟩ ?_
      exact ⟨rfl, rfl⟩
    · exact absurd (nI_le (by omega) (by omega)) c_24
  | succ n ih =>
    intro j b hj
    have b4 := ((H.2.1 j (by omega)).1 (by omega)).2.2.2.1
    have b4' := ((H'.2.1 j (by omega)).1 (by omega)).2.2.2.1
    have s1 := (hOK.2.2.2.2.2.2.1 j).2.2.2
    have s2 := (hOK'.2.2.2.2.2.2.1 j).2.2.2
    cases hb : likeTo T T' j && b with
    | false =>
      have e9 : (likeTo T T' (T.1 7 0) && b) = false := by
        cases b with
        | false => rw [Bool.and_false]
        | true =>
          rw [Bool.and_true] at hb ⊢
          exact like_false hb _ (by omega)
      refine r_iload_n dX4_looksLike_19 rfl ?_
      refine r_aload_n dX4_looksLike_20 rfl ?_
      refine r_getI dX4_looksLike_21 k_X4_33 (by assumption) (by decide) rfl ?_
      rw [H.1.1]
      refine r_icmp_ge (tgt := 58) dX4_looksLike_24 (by decide) (fun c_24 => ?_) (fun c_24 => ?_)
      · exact absurd c_24 (nI_ge (by omega) (by omega))
      · refine r_iload_n dX4_looksLike_27 rfl ?_
        refine r_if_eq (tgt := 58) dX4_looksLike_28 (by decide) (fun c_28 => ?_) (fun c_28 => ?_)
        · refine r_iload_n dX4_looksLike_58 rfl ?_
          refine r_ireturn dX4_looksLike_59 ⟨_, rfl, (b01_nar _)⟩ ?_
          exact ⟨by rw [e9], rfl⟩
        · exact absurd rfl c_28
    | true =>
      obtain ⟨q1, q2⟩ := Bool.and_eq_true_iff.mp hb
      subst q2
      have st : likeTo T T' (j + 1) = decide (T.1 3 j = T'.1 3 j) := by show (likeTo T T' j && decide (T.1 3 j = T'.1 3 j)) = _; rw [q1, Bool.true_and]
      refine r_iload_n dX4_looksLike_19 rfl ?_
      refine r_aload_n dX4_looksLike_20 rfl ?_
      refine r_getI dX4_looksLike_21 k_X4_33 (by assumption) (by decide) rfl ?_
      rw [H.1.1]
      refine r_icmp_ge (tgt := 58) dX4_looksLike_24 (by decide) (fun c_24 => ?_) (fun c_24 => ?_)
      · exact absurd c_24 (nI_ge (by omega) (by omega))
      · refine r_iload_n dX4_looksLike_27 rfl ?_
        refine r_if_eq (tgt := 58) dX4_looksLike_28 (by decide) (fun c_28 => ?_) (fun c_28 => ?_)
        · exact absurd c_28 (by decide)
        · refine r_aload_n dX4_looksLike_31 rfl ?_
          refine r_getR (j := t + 4) dX4_looksLike_32 k_X4_21 (by assumption) (by decide) rfl (rf_T (by assumption) (by decide)) ?_
          refine r_iload_n dX4_looksLike_35 rfl ?_
          refine r_iald (j) dX4_looksLike_36 (ks_T (by assumption) (by decide)) rfl (bT1 3 ht (by decide) (show j < 5 by omega)) ?_
          rw [b4]
          refine r_aload_n dX4_looksLike_37 rfl ?_
          refine r_getR (j := o + 4) dX4_looksLike_38 k_X4_21 (by assumption) (by decide) rfl (rf_T (by assumption) (by decide)) ?_
          refine r_iload_n dX4_looksLike_41 rfl ?_
          refine r_iald (j) dX4_looksLike_42 (ks_T (by assumption) (by decide)) rfl (bT1 3 ho (by decide) (show j < 5 by omega)) ?_
          rw [b4']
          refine r_icmp_ne (tgt := 50) dX4_looksLike_43 (by decide) (fun c_43 => ?_) (fun c_43 => ?_)
          · refine r_iconst (v := 0) dX4_looksLike_50 (by decide) ?_
            refine r_istore_n dX4_looksLike_51 (by decide) rfl rfl ?_
            dsimp only [List.set]
            refine r_iinc dX4_looksLike_52 rfl (by first | exact nI_inc _ | rfl) (by decide) rfl rfl ?_
            dsimp only [List.set]
            refine r_goto (tgt := 19) dX4_looksLike_55 (by decide) ?_
            have k9 := ih (j + 1) true (by omega)
            rw [st, decide_eq_false (fun y => c_43 (by rw [y]))] at k9
            exact k9
          · refine r_iconst (v := 1) dX4_looksLike_46 (by decide) ?_
            refine r_goto (tgt := 51) dX4_looksLike_47 (by decide) ?_
            refine r_istore_n dX4_looksLike_51 (by decide) rfl rfl ?_
            dsimp only [List.set]
            refine r_iinc dX4_looksLike_52 rfl (by first | exact nI_inc _ | rfl) (by decide) rfl rfl ?_
            dsimp only [List.set]
            refine r_goto (tgt := 19) dX4_looksLike_55 (by decide) ?_
            have k9 := ih (j + 1) true (by omega)
            rw [st, decide_eq_true ((nI_eq' (by omega) (by omega)).mp c_43)] at k9
            exact k9
set_option maxRecDepth 100000 in
theorem m_X4_looksLike {G : WT} {l : Launch} (hG : GOK G) {h : Hp} {t o : Nat} {T T' : Tb} (ht : ksh t = 4) (ho : ksh o = 4) (H : DTb h t T) (H' : DTb h o T') (hOK : TbOK T) (hOK' : TbOK T') (hE : T.1 7 0 = T'.1 7 0) : Cl G l 1 yX4_looksLike cX4_looksLike 4 (some .boolean) [.ref (gA G t), .ref (gA G o)] h (fun r h' => r = some (.int (b01 (likeS T T'))) ∧ h' = h) := by
  refine Cl.of hG (by decide) (Nat.le_of_ble_eq_true rfl) ?_
  show Wp G l 1 RX4 cX4_looksLike 4 (some .boolean) 0 [.ref (gA G t), .ref (gA G o), mk0, mk0] [] h _
  have e9 : likeS T T' = (likeTo T T' (T.1 7 0) && decide (T.1 7 1 = T'.1 7 1)) := by rw [likeS, hE]
  have h1 := hOK.2.1
  have h2 := hOK'.2.1
  rw [e9]
  have k9 := looks_lp (l := l) hG ht ho H H' hOK.1 hOK hOK' hE (T.1 7 0) 0 (decide (T.1 7 1 = T'.1 7 1)) (by omega)
  rw [show likeTo T T' 0 = true from rfl, Bool.true_and] at k9
  refine r_aload_n dX4_looksLike_0 rfl ?_
  refine r_getI dX4_looksLike_1 k_X4_37 (by assumption) (by decide) rfl ?_
  refine r_aload_n dX4_looksLike_4 rfl ?_
  refine r_getI dX4_looksLike_5 k_X4_37 (by assumption) (by decide) rfl ?_
  rw [H.1.2.1, H'.1.2.1]
  refine r_icmp_ne (tgt := 15) dX4_looksLike_8 (by decide) (fun c_8 => ?_) (fun c_8 => ?_)
  · refine r_iconst (v := 0) dX4_looksLike_15 (by decide) ?_
    refine r_istore_n dX4_looksLike_16 (by decide) rfl rfl ?_
    dsimp only [List.set]
    refine r_iconst (v := 0) dX4_looksLike_17 (by decide) ?_
    refine r_istore_n dX4_looksLike_18 (by decide) rfl rfl ?_
    dsimp only [List.set]
    rw [decide_eq_false (fun y => c_8 (by rw [y]))] at k9 ⊢
    exact k9
  · refine r_iconst (v := 1) dX4_looksLike_11 (by decide) ?_
    refine r_goto (tgt := 16) dX4_looksLike_12 (by decide) ?_
    refine r_istore_n dX4_looksLike_16 (by decide) rfl rfl ?_
    dsimp only [List.set]
    refine r_iconst (v := 0) dX4_looksLike_17 (by decide) ?_
    refine r_istore_n dX4_looksLike_18 (by decide) rfl rfl ?_
    dsimp only [List.set]
    rw [decide_eq_true ((nI_eq' (by omega) (by omega)).mp c_8)] at k9 ⊢
    exact k9
