/-! tapes of the class -/
def DTp (h : Hp) (P : Tp) : Prop := ∀ t, t < 6 → h.1 (122 + 2 * t) 1 = nI (P t).1 - 1 ∧ h.1 (122 + 2 * t) 2 = nI (P t).2.1 ∧ ∀ k, k < 60 → h.2.1 (123 + 2 * t) k = (P t).2.2 k
theorem tp_s {t : Nat} (ht : t < 6) : rfx 34 t = 122 + 2 * t ∧ ksh (122 + 2 * t) = 5 := by
  have key : ∀ t, t < 6 → rfx 34 t = 122 + 2 * t ∧ ksh (122 + 2 * t) = 5 := by decide
  exact key t ht
set_option maxRecDepth 100000 in
theorem m_X5_has {G : WT} {l : Launch} (hG : GOK G) {h : Hp} {tp n : Nat} {x : Int32} (hp : ksh tp = 5) (hn : n ≤ 60) (h0 : h.1 tp 2 = nI n) : Cl G l 1 yX5_has cX5_has 2 (some .boolean) [.ref (gA G tp), .int x] h (fun r h' => r = some (.int (b01 (dec x n).isSome)) ∧ h' = h) := by
  refine Cl.of hG (by decide) (Nat.le_of_ble_eq_true rfl) ?_
  show Wp G l 1 RX5 cX5_has 2 (some .boolean) 0 [.ref (gA G tp), .int x] [] h _
  cases hd : dec x n with
  | none =>
    have q9 := dec_none.mp hd
    refine r_iload_n dX5_has_0 rfl ?_
    refine r_if_lt (tgt := 16) dX5_has_1 (by decide) (fun c_1 => ?_) (fun c_1 => ?_)
    · refine r_iconst (v := 0) dX5_has_16 (by decide) ?_
      refine r_ireturn dX5_has_17 ⟨_, rfl, rfl⟩ ?_
      exact ⟨rfl, rfl⟩
    · refine r_iload_n dX5_has_4 rfl ?_
      refine r_aload_n dX5_has_5 rfl ?_
      refine r_getI dX5_has_6 k_X5_19 (by assumption) (by decide) rfl ?_
      rw [h0]
      refine r_icmp_ge (tgt := 16) dX5_has_9 (by decide) (fun c_9 => ?_) (fun c_9 => ?_)
      · refine r_iconst (v := 0) dX5_has_16 (by decide) ?_
        refine r_ireturn dX5_has_17 ⟨_, rfl, rfl⟩ ?_
        exact ⟨rfl, rfl⟩
      · exfalso
        have z1 : ¬ x.toInt < 0 := fun y => c_1 (toInt_lt0.mpr y)
        have z2 : ¬ (n : Int) ≤ x.toInt := fun y => c_9 (by rw [Int32.le_iff_toInt_le, nI_toInt (by omega)]; exact y)
        omega
        skip
  | some j =>
    obtain ⟨j1, rfl, j3⟩ := dec_some.mp hd
    refine r_iload_n dX5_has_0 rfl ?_
    refine r_if_lt (tgt := 16) dX5_has_1 (by decide) (fun c_1 => ?_) (fun c_1 => ?_)
    · exact absurd c_1 (by rw [toInt_lt0, nI_toInt (by omega)]; omega)
    · refine r_iload_n dX5_has_4 rfl ?_
      refine r_aload_n dX5_has_5 rfl ?_
      refine r_getI dX5_has_6 k_X5_19 (by assumption) (by decide) rfl ?_
      rw [h0]
      refine r_icmp_ge (tgt := 16) dX5_has_9 (by decide) (fun c_9 => ?_) (fun c_9 => ?_)
      · exact absurd c_9 (by rw [Int32.le_iff_toInt_le, nI_toInt (by omega), nI_toInt (by omega)]; omega)
      · refine r_iconst (v := 1) dX5_has_12 (by decide) ?_
        refine r_goto (tgt := 17) dX5_has_13 (by decide) ?_
        refine r_ireturn dX5_has_17 ⟨_, rfl, rfl⟩ ?_
        exact ⟨rfl, rfl⟩
set_option maxRecDepth 100000 in
theorem m_X5_becomesEmpty {G : WT} {l : Launch} (hG : GOK G) {h : Hp} {tp : Nat} {s n : Int32} (hp : ksh tp = 5) : Cl G l 2 yX5_becomesEmpty cX5_becomesEmpty 3 none [.ref (gA G tp), .int s, .int n] h (fun r h' => r = none ∧ h' = rowL (setI (setI h tp 1 s) tp 2 n) (tp + 1) (fun j => if j < lnt (tp + 1) then 0 else (setI (setI h tp 1 s) tp 2 n).2.1 (tp + 1) j)) := by
  refine Cl.of hG (by decide) (Nat.le_of_ble_eq_true rfl) ?_
  show Wp G l 2 RX5 cX5_becomesEmpty 3 none 0 [.ref (gA G tp), .int s, .int n] [] h _
  have hk := ks_P hp
  refine r_aload_n dX5_becomesEmpty_0 rfl ?_
  refine r_iload_n dX5_becomesEmpty_1 rfl ?_
  refine r_putI dX5_becomesEmpty_2 k_X5_15 (by assumption) (by decide) rfl rfl rfl rfl ?_
  refine r_aload_n dX5_becomesEmpty_5 rfl ?_
  refine r_iload_n dX5_becomesEmpty_6 rfl ?_
  refine r_putI dX5_becomesEmpty_7 k_X5_19 (by assumption) (by decide) rfl rfl rfl rfl ?_
  refine r_aload_n dX5_becomesEmpty_10 rfl ?_
  refine r_getR (j := tp + 1) dX5_becomesEmpty_11 k_X5_9 (by assumption) (by decide) rfl (rf_P (by assumption)) ?_
  refine r_lconst (v := 0) dX5_becomesEmpty_14 (by decide) ?_
  refine r_callS dX5_becomesEmpty_15 l_X5_22 o_J7_fill_d0a16 s_J7_fill_d0a16 rfl (m_J7_fill_d0a16 hG (by assumption)) (by decide) rfl (Nat.le_of_ble_eq_true rfl) (fun r15 h15 hq15 => ?_)
  obtain ⟨rfl, e15⟩ := hq15
  rw [e15]
  clear e15 h15
  refine r_return dX5_becomesEmpty_18 rfl ?_
  exact ⟨rfl, rfl⟩
set_option maxRecDepth 100000 in
theorem m_X5_put {G : WT} {l : Launch} (hG : GOK G) {h : Hp} {tp n q i : Nat} {z : Int64} (hp : ksh tp = 5) (hn : n ≤ 60) (h0 : h.1 tp 2 = nI n) (hq : h.1 tp 1 = nI q - 1) (q0 : ¬ q = 0) (q5 : q ≤ 5) (hi : i < n) : Cl G l 2 yX5_put cX5_put 4 none [.ref (gA G tp), .int (nI i), .long z] h (fun r h' => r = none ∧ h' = setL h (tp + 1) i (narS q z)) := by
  refine Cl.of hG (by decide) (Nat.le_of_ble_eq_true rfl) ?_
  show Wp G l 2 RX5 cX5_put 4 none 0 [.ref (gA G tp), .int (nI i), .long z, mk0] [] h _
  have hd : dec (nI i) n = some i := dec_nI hi (by omega)
  have hl : i < lnt (tp + 1) := by rw [ln_P hp]; omega
  have c : q = 1 ∨ q = 2 ∨ q = 3 ∨ q = 4 ∨ q = 5 := by omega
  rcases c with rfl | rfl | rfl | rfl | rfl
  · refine r_aload_n dX5_put_0 rfl ?_
    refine r_iload_n dX5_put_1 rfl ?_
    refine r_callV dX5_put_2 l_X5_28 o_X5_has v_X5_has (by assumption) (by decide) rfl rfl (m_X5_has hG (x := nI i) hp hn h0) (by decide) rfl (Nat.le_of_ble_eq_true rfl) (fun r2 h2 hq2 => ?_)
    obtain ⟨rfl, rfl⟩ := hq2
    rw [hd]
    refine r_if_ne (tgt := 9) dX5_put_5 (by decide) (fun c_5 => ?_) (fun c_5 => ?_)
    · refine r_aload_n dX5_put_9 rfl ?_
      refine r_getI dX5_put_10 k_X5_15 (by assumption) (by decide) rfl ?_
      rw [hq]
      · refine r_tsw 48 dX5_put_13 rfl (by decide) rfl ?_
        refine r_aload_n dX5_put_48 rfl ?_
        refine r_getR (j := tp + 1) dX5_put_49 k_X5_9 (by assumption) (by decide) rfl (rf_P (by assumption)) ?_
        refine r_iload_n dX5_put_52 rfl ?_
        refine r_lload_n dX5_put_53 rfl ?_
        refine r_l2i dX5_put_54 ?_
        refine r_i2b dX5_put_55 ?_
        refine r_i2l dX5_put_56 ?_
        refine r_last (i) dX5_put_57 (ks_P (by assumption)) rfl hl ?_
        refine r_goto (tgt := 113) dX5_put_58 (by decide) ?_
        refine r_return dX5_put_113 rfl ?_
        exact ⟨rfl, rfl⟩
    · exact absurd c_5 some_t
  · refine r_aload_n dX5_put_0 rfl ?_
    refine r_iload_n dX5_put_1 rfl ?_
    refine r_callV dX5_put_2 l_X5_28 o_X5_has v_X5_has (by assumption) (by decide) rfl rfl (m_X5_has hG (x := nI i) hp hn h0) (by decide) rfl (Nat.le_of_ble_eq_true rfl) (fun r2 h2 hq2 => ?_)
    obtain ⟨rfl, rfl⟩ := hq2
    rw [hd]
    refine r_if_ne (tgt := 9) dX5_put_5 (by decide) (fun c_5 => ?_) (fun c_5 => ?_)
    · refine r_aload_n dX5_put_9 rfl ?_
      refine r_getI dX5_put_10 k_X5_15 (by assumption) (by decide) rfl ?_
      rw [hq]
      · refine r_tsw 61 dX5_put_13 rfl (by decide) rfl ?_
        refine r_aload_n dX5_put_61 rfl ?_
        refine r_getR (j := tp + 1) dX5_put_62 k_X5_9 (by assumption) (by decide) rfl (rf_P (by assumption)) ?_
        refine r_iload_n dX5_put_65 rfl ?_
        refine r_lload_n dX5_put_66 rfl ?_
        refine r_l2i dX5_put_67 ?_
        refine r_i2s dX5_put_68 ?_
        refine r_i2l dX5_put_69 ?_
        refine r_last (i) dX5_put_70 (ks_P (by assumption)) rfl hl ?_
        refine r_goto (tgt := 113) dX5_put_71 (by decide) ?_
        refine r_return dX5_put_113 rfl ?_
        exact ⟨rfl, rfl⟩
    · exact absurd c_5 some_t
  · refine r_aload_n dX5_put_0 rfl ?_
    refine r_iload_n dX5_put_1 rfl ?_
    refine r_callV dX5_put_2 l_X5_28 o_X5_has v_X5_has (by assumption) (by decide) rfl rfl (m_X5_has hG (x := nI i) hp hn h0) (by decide) rfl (Nat.le_of_ble_eq_true rfl) (fun r2 h2 hq2 => ?_)
    obtain ⟨rfl, rfl⟩ := hq2
    rw [hd]
    refine r_if_ne (tgt := 9) dX5_put_5 (by decide) (fun c_5 => ?_) (fun c_5 => ?_)
    · refine r_aload_n dX5_put_9 rfl ?_
      refine r_getI dX5_put_10 k_X5_15 (by assumption) (by decide) rfl ?_
      rw [hq]
      · refine r_tsw 74 dX5_put_13 rfl (by decide) rfl ?_
        refine r_aload_n dX5_put_74 rfl ?_
        refine r_getR (j := tp + 1) dX5_put_75 k_X5_9 (by assumption) (by decide) rfl (rf_P (by assumption)) ?_
        refine r_iload_n dX5_put_78 rfl ?_
        refine r_lload_n dX5_put_79 rfl ?_
        refine r_l2i dX5_put_80 ?_
        refine r_i2l dX5_put_81 ?_
        refine r_last (i) dX5_put_82 (ks_P (by assumption)) rfl hl ?_
        refine r_goto (tgt := 113) dX5_put_83 (by decide) ?_
        refine r_return dX5_put_113 rfl ?_
        exact ⟨rfl, rfl⟩
    · exact absurd c_5 some_t
  · refine r_aload_n dX5_put_0 rfl ?_
    refine r_iload_n dX5_put_1 rfl ?_
    refine r_callV dX5_put_2 l_X5_28 o_X5_has v_X5_has (by assumption) (by decide) rfl rfl (m_X5_has hG (x := nI i) hp hn h0) (by decide) rfl (Nat.le_of_ble_eq_true rfl) (fun r2 h2 hq2 => ?_)
    obtain ⟨rfl, rfl⟩ := hq2
    rw [hd]
    refine r_if_ne (tgt := 9) dX5_put_5 (by decide) (fun c_5 => ?_) (fun c_5 => ?_)
    · refine r_aload_n dX5_put_9 rfl ?_
      refine r_getI dX5_put_10 k_X5_15 (by assumption) (by decide) rfl ?_
      rw [hq]
      · refine r_tsw 106 dX5_put_13 rfl (by decide) rfl ?_
        refine r_aload_n dX5_put_106 rfl ?_
        refine r_getR (j := tp + 1) dX5_put_107 k_X5_9 (by assumption) (by decide) rfl (rf_P (by assumption)) ?_
        refine r_iload_n dX5_put_110 rfl ?_
        refine r_lload_n dX5_put_111 rfl ?_
        refine r_last (i) dX5_put_112 (ks_P (by assumption)) rfl hl ?_
        refine r_return dX5_put_113 rfl ?_
        exact ⟨rfl, rfl⟩
    · exact absurd c_5 some_t
  · have e : narS 5 z = if z = 0 then 0 else 1 := rfl
    by_cases y : z = 0
    · rw [e, if_pos y]
      refine r_aload_n dX5_put_0 rfl ?_
      refine r_iload_n dX5_put_1 rfl ?_
      refine r_callV dX5_put_2 l_X5_28 o_X5_has v_X5_has (by assumption) (by decide) rfl rfl (m_X5_has hG (x := nI i) hp hn h0) (by decide) rfl (Nat.le_of_ble_eq_true rfl) (fun r2 h2 hq2 => ?_)
      obtain ⟨rfl, rfl⟩ := hq2
      rw [hd]
      refine r_if_ne (tgt := 9) dX5_put_5 (by decide) (fun c_5 => ?_) (fun c_5 => ?_)
      · refine r_aload_n dX5_put_9 rfl ?_
        refine r_getI dX5_put_10 k_X5_15 (by assumption) (by decide) rfl ?_
        rw [hq]
        · refine r_tsw 86 dX5_put_13 rfl (by decide) rfl ?_
          refine r_aload_n dX5_put_86 rfl ?_
          refine r_getR (j := tp + 1) dX5_put_87 k_X5_9 (by assumption) (by decide) rfl (rf_P (by assumption)) ?_
          refine r_iload_n dX5_put_90 rfl ?_
          refine r_lload_n dX5_put_91 rfl ?_
          refine r_lconst (v := 0) dX5_put_92 (by decide) ?_
          refine r_lcmp dX5_put_93 ?_
          refine r_if_eq (tgt := 101) dX5_put_94 (by decide) (fun c_94 => ?_) (fun c_94 => ?_)
          · refine r_lconst (v := 0) dX5_put_101 (by decide) ?_
            refine r_last (i) dX5_put_102 (ks_P (by assumption)) rfl hl ?_
            refine r_goto (tgt := 113) dX5_put_103 (by decide) ?_
            refine r_return dX5_put_113 rfl ?_
            exact ⟨rfl, rfl⟩
          · exact absurd (lcmp_0.mpr y) c_94
      · exact absurd c_5 some_t
    · rw [e, if_neg y]
      refine r_aload_n dX5_put_0 rfl ?_
      refine r_iload_n dX5_put_1 rfl ?_
      refine r_callV dX5_put_2 l_X5_28 o_X5_has v_X5_has (by assumption) (by decide) rfl rfl (m_X5_has hG (x := nI i) hp hn h0) (by decide) rfl (Nat.le_of_ble_eq_true rfl) (fun r2 h2 hq2 => ?_)
      obtain ⟨rfl, rfl⟩ := hq2
      rw [hd]
      refine r_if_ne (tgt := 9) dX5_put_5 (by decide) (fun c_5 => ?_) (fun c_5 => ?_)
      · refine r_aload_n dX5_put_9 rfl ?_
        refine r_getI dX5_put_10 k_X5_15 (by assumption) (by decide) rfl ?_
        rw [hq]
        · refine r_tsw 86 dX5_put_13 rfl (by decide) rfl ?_
          refine r_aload_n dX5_put_86 rfl ?_
          refine r_getR (j := tp + 1) dX5_put_87 k_X5_9 (by assumption) (by decide) rfl (rf_P (by assumption)) ?_
          refine r_iload_n dX5_put_90 rfl ?_
          refine r_lload_n dX5_put_91 rfl ?_
          refine r_lconst (v := 0) dX5_put_92 (by decide) ?_
          refine r_lcmp dX5_put_93 ?_
          refine r_if_eq (tgt := 101) dX5_put_94 (by decide) (fun c_94 => ?_) (fun c_94 => ?_)
          · exact absurd (lcmp_0.mp c_94) y
          · refine r_lconst (v := 1) dX5_put_97 (by decide) ?_
            refine r_goto (tgt := 102) dX5_put_98 (by decide) ?_
            refine r_last (i) dX5_put_102 (ks_P (by assumption)) rfl hl ?_
            refine r_goto (tgt := 113) dX5_put_103 (by decide) ?_
            refine r_return dX5_put_113 rfl ?_
            exact ⟨rfl, rfl⟩
      · exact absurd c_5 some_t
set_option maxRecDepth 100000 in
theorem m_X6_read {G : WT} {l : Launch} (hG : GOK G) {h : Hp} {P : Tp} {t i : Int32} (H : DTp h P) (hP : TpOK P) : Cl G l 2 yX6_read cX6_read 3 (some .long) [.ref (gA G 0), .int t, .int i] h (fun r h' => r = some (.long (readA P t i)) ∧ h' = h) := by
  refine Cl.of hG (by decide) (Nat.le_of_ble_eq_true rfl) ?_
  show Wp G l 2 RX6 cX6_read 3 (some .long) 0 [.ref (gA G 0), .int t, .int i] [] h _
  cases ht : dec t 6 with
  | none =>
    refine r_iload_n dX6_read_0 rfl ?_
    refine r_iconst (v := 5) dX6_read_1 (by decide) ?_
    rw [show (5 : Int32) = nI 5 from rfl]
    refine r_callS dX6_read_2 l_X6_78 o_X6_within s_X6_within rfl (m_X6_within hG (x := t) (m := 5) (by omega)) (by decide) rfl (Nat.le_of_ble_eq_true rfl) (fun r2 h2 hq2 => ?_)
    obtain ⟨rfl, rfl⟩ := hq2
    rw [ht]
    refine r_if_eq (tgt := 21) dX6_read_5 (by decide) (fun c_5 => ?_) (fun c_5 => ?_)
    · refine r_ldc2 dX6_read_21 n_X6_243 ?_
      refine r_lreturn dX6_read_24 rfl ?_
      exact ⟨by rw [readA, ht], rfl⟩
    · exact absurd none_f c_5
  | some t1 =>
    obtain ⟨ht1, rfl, -⟩ := dec_some.mp ht
    obtain ⟨p1, p2, p3⟩ := hP t1 ht1
    obtain ⟨q1, q2, q3⟩ := H t1 ht1
    obtain ⟨s1, s2⟩ := tp_s ht1
    have s3 : ksh (122 + 2 * t1 + 1) = 11 := ks_P s2
    have s4 : lnt (122 + 2 * t1 + 1) = 60 := ln_P s2
    cases hi : dec i (P t1).2.1 with
    | none =>
      refine r_iload_n dX6_read_0 rfl ?_
      refine r_iconst (v := 5) dX6_read_1 (by decide) ?_
      rw [show (5 : Int32) = nI 5 from rfl]
      refine r_callS dX6_read_2 l_X6_78 o_X6_within s_X6_within rfl (m_X6_within hG (x := nI t1) (m := 5) (by omega)) (by decide) rfl (Nat.le_of_ble_eq_true rfl) (fun r2 h2 hq2 => ?_)
      obtain ⟨rfl, rfl⟩ := hq2
      rw [ht]
      refine r_if_eq (tgt := 21) dX6_read_5 (by decide) (fun c_5 => ?_) (fun c_5 => ?_)
      · exact absurd c_5 some_t
      · refine r_aload_n dX6_read_8 rfl ?_
        refine r_getR (j := 34) dX6_read_9 k_X6_58 rfl (by decide) rfl rfl ?_
        refine r_iload_n dX6_read_12 rfl ?_
        refine r_aald (t1) dX6_read_13 rfl (by decide) rfl (show t1 < 6 by omega) ?_
        rw [s1]
        refine r_iload_n dX6_read_14 rfl ?_
        refine r_callV dX6_read_15 l_X6_272 o_X5_has v_X5_has (by assumption) (by decide) rfl rfl (m_X5_has hG (x := i) s2 p2 q2) (by decide) rfl (Nat.le_of_ble_eq_true rfl) (fun r15 h15 hq15 => ?_)
        obtain ⟨rfl, rfl⟩ := hq15
        rw [hi]
        refine r_if_ne (tgt := 25) dX6_read_18 (by decide) (fun c_18 => ?_) (fun c_18 => ?_)
        · exact absurd none_f c_18
        · refine r_ldc2 dX6_read_21 n_X6_243 ?_
          refine r_lreturn dX6_read_24 rfl ?_
          exact ⟨by rw [readA, ht]; dsimp only; rw [hi], rfl⟩
    | some i1 =>
      obtain ⟨hi1, rfl, -⟩ := dec_some.mp hi
      refine r_iload_n dX6_read_0 rfl ?_
      refine r_iconst (v := 5) dX6_read_1 (by decide) ?_
      rw [show (5 : Int32) = nI 5 from rfl]
      refine r_callS dX6_read_2 l_X6_78 o_X6_within s_X6_within rfl (m_X6_within hG (x := nI t1) (m := 5) (by omega)) (by decide) rfl (Nat.le_of_ble_eq_true rfl) (fun r2 h2 hq2 => ?_)
      obtain ⟨rfl, rfl⟩ := hq2
      rw [ht]
      refine r_if_eq (tgt := 21) dX6_read_5 (by decide) (fun c_5 => ?_) (fun c_5 => ?_)
      · exact absurd c_5 some_t
      · refine r_aload_n dX6_read_8 rfl ?_
        refine r_getR (j := 34) dX6_read_9 k_X6_58 rfl (by decide) rfl rfl ?_
        refine r_iload_n dX6_read_12 rfl ?_
        refine r_aald (t1) dX6_read_13 rfl (by decide) rfl (show t1 < 6 by omega) ?_
        rw [s1]
        refine r_iload_n dX6_read_14 rfl ?_
        refine r_callV dX6_read_15 l_X6_272 o_X5_has v_X5_has (by assumption) (by decide) rfl rfl (m_X5_has hG (x := nI i1) s2 p2 q2) (by decide) rfl (Nat.le_of_ble_eq_true rfl) (fun r15 h15 hq15 => ?_)
        obtain ⟨rfl, rfl⟩ := hq15
        rw [hi]
        refine r_if_ne (tgt := 25) dX6_read_18 (by decide) (fun c_18 => ?_) (fun c_18 => ?_)
        · refine r_aload_n dX6_read_25 rfl ?_
          refine r_getR (j := 34) dX6_read_26 k_X6_58 rfl (by decide) rfl rfl ?_
          refine r_iload_n dX6_read_29 rfl ?_
          refine r_aald (t1) dX6_read_30 rfl (by decide) rfl (show t1 < 6 by omega) ?_
          rw [s1]
          refine r_getR (j := 122 + 2 * t1 + 1) dX6_read_31 k_X6_274 (by assumption) (by decide) rfl (rf_P (by assumption)) ?_
          refine r_iload_n dX6_read_34 rfl ?_
          refine r_lald (i1) dX6_read_35 (ks_P (by assumption)) rfl (show i1 < lnt (122 + 2 * t1 + 1) by omega) ?_
          refine r_lreturn dX6_read_36 rfl ?_
          exact ⟨by rw [readA, ht]; dsimp only; rw [hi, show 122 + 2 * t1 + 1 = 123 + 2 * t1 by omega, q3 i1 (by omega)], rfl⟩
        · exact absurd c_18 some_t
