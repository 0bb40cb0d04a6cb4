/-! tables of the class -/
theorem ts_at {t : Nat} (ht : ksh t = 4) : ∃ k, k ≤ 3 ∧ t = 1 + 8 * k := by
  have key : ∀ t, t < nW → ksh t = 4 → t % 8 = 1 ∧ t ≤ 25 := by decide +kernel
  obtain ⟨a, b⟩ := key t (ksh_lt ht (by decide)) ht
  exact ⟨(t - 1) / 8, by omega, by omega⟩
theorem cpT {t : Nat} (i n : Nat) (ht : ksh t = 4) (hi : i < 7) (hn : n = if i < 5 then 5 else if i = 5 then 20 else 12) : 0 + n ≤ lnt (t + (i + 1)) := by rw [ln_T i ht hi, ← hn]; omega
theorem bT1 {t j : Nat} (i : Nat) (ht : ksh t = 4) (hi : i < 5) (hj : j < 5) : j < lnt (t + (i + 1)) := by rw [ln_T i ht (by omega), if_pos hi]; exact hj
theorem bT2 {t j : Nat} (ht : ksh t = 4) (hj : j < 20) : j < lnt (t + (5 + 1)) := by rw [ln_T 5 ht (by omega)]; exact hj
theorem bT3 {t j : Nat} (ht : ksh t = 4) (hj : j < 12) : j < lnt (t + (6 + 1)) := by rw [ln_T 6 ht (by omega)]; exact hj
/-- one table's cells as another's -/
def SameT (h h' : Hp) (o t : Nat) : Prop := (∀ j, j < 5 → h'.1 (t + 1) j = h.1 (o + 1) j ∧ h'.1 (t + 2) j = h.1 (o + 2) j ∧ h'.1 (t + 3) j = h.1 (o + 3) j ∧ h'.1 (t + 4) j = h.1 (o + 4) j ∧ h'.1 (t + 5) j = h.1 (o + 5) j) ∧ (∀ j, j < 20 → h'.1 (t + 6) j = h.1 (o + 6) j) ∧ (∀ j, j < 12 → h'.1 (t + 7) j = h.1 (o + 7) j) ∧ ∀ f, 7 ≤ f → f ≤ 12 → h'.1 t f = h.1 o f
def tbF (t a _i : Nat) : Bool := decide (t ≤ a) && decide (a ≤ t + 7)
theorem rowI_nx {h : Hp} {k : Nat} {f : Nat → Int32} {x : Nat} (hx : x ≠ k) : (rowI h k f).1 x = h.1 x := funext fun _ => rowI_ne hx
theorem setI_nx {h : Hp} {k i : Nat} {v : Int32} {x : Nat} (hx : x ≠ k) : (setI h k i v).1 x = h.1 x := funext fun _ => setI_ne hx
theorem cpy_at {f g : Nat → Int32} {n j : Nat} (hj : j < n) : va_cpy f g 0 0 n j = f j := by
  rw [pk_cpy_in (by omega) (by omega)]
  congr 1
  omega
theorem cp_step {h g : Hp} {t o i n : Nat} (hh : ∀ a, ¬ (t ≤ a ∧ a ≤ t + 7) → g.1 a = h.1 a) (h1 : ¬ (t ≤ o + i ∧ o + i ≤ t + 7)) (hi : i ≤ 7) : (∀ a, ¬ (t ≤ a ∧ a ≤ t + 7) → (rowI g (t + i) (va_cpy (g.1 (o + i)) (g.1 (t + i)) 0 0 n)).1 a = h.1 a) ∧ (∀ j, j < n → (rowI g (t + i) (va_cpy (g.1 (o + i)) (g.1 (t + i)) 0 0 n)).1 (t + i) j = h.1 (o + i) j) ∧ ∀ a, ¬ a = t + i → (rowI g (t + i) (va_cpy (g.1 (o + i)) (g.1 (t + i)) 0 0 n)).1 a = g.1 a := by
  refine ⟨fun a ha => ?_, fun j hj => ?_, fun a ha => rowI_nx ha⟩
  · rw [rowI_nx (by omega)]; exact hh a ha
  · rw [rowI_at, cpy_at hj, hh _ h1]
theorem pt_step {h g : Hp} {t o f : Nat} (hh : ∀ a, ¬ (t ≤ a ∧ a ≤ t + 7) → g.1 a = h.1 a) (h1 : ¬ (t ≤ o ∧ o ≤ t + 7)) : (∀ a, ¬ (t ≤ a ∧ a ≤ t + 7) → (setI g t f (g.1 o f)).1 a = h.1 a) ∧ (setI g t f (g.1 o f)).1 t f = h.1 o f ∧ (∀ a, ¬ a = t → (setI g t f (g.1 o f)).1 a = g.1 a) ∧ ∀ i, ¬ i = f → (setI g t f (g.1 o f)).1 t i = g.1 t i := by
  refine ⟨fun a ha => ?_, ?_, fun a ha => setI_nx ha, fun i hi => setI_nj hi⟩
  · rw [setI_nx (by omega)]; exact hh a ha
  · rw [setI_at, hh _ h1]
set_option maxRecDepth 100000 in
theorem m_X4_becomes {G : WT} {l : Launch} (hG : GOK G) {h : Hp} {t o : Nat} (ht : ksh t = 4) (ho : ksh o = 4) (hto : ¬ t = o) : Cl G l 2 yX4_becomes cX4_becomes 2 none [.ref (gA G t), .ref (gA G o)] h (fun r h' => r = none ∧ SameT h h' o t ∧ Fr (tbF t) h h') := by
  refine Cl.of hG (by decide) (Nat.le_of_ble_eq_true rfl) ?_
  show Wp G l 2 RX4 cX4_becomes 2 none 0 [.ref (gA G t), .ref (gA G o)] [] h _
  obtain ⟨kt, kt1, kt2⟩ := ts_at ht
  obtain ⟨ko, ko1, ko2⟩ := ts_at ho
  have s0 : ∀ a, ¬ (t ≤ a ∧ a ≤ t + 7) → h.1 a = h.1 a := fun _ _ => rfl
  obtain ⟨g1, hg1⟩ : ∃ g, g = rowI h (t + 1) (va_cpy (h.1 (o + 1)) (h.1 (t + 1)) 0 0 5) := ⟨_, rfl⟩
  obtain ⟨s1, v1, n1⟩ := cp_step (t := t) (o := o) (i := 1) (n := 5) s0 (by omega) (by omega)
  rw [← hg1] at s1 v1 n1
  obtain ⟨g2, hg2⟩ : ∃ g, g = rowI g1 (t + 2) (va_cpy (g1.1 (o + 2)) (g1.1 (t + 2)) 0 0 5) := ⟨_, rfl⟩
  obtain ⟨s2, v2, n2⟩ := cp_step (t := t) (o := o) (i := 2) (n := 5) s1 (by omega) (by omega)
  rw [← hg2] at s2 v2 n2
  obtain ⟨g3, hg3⟩ : ∃ g, g = rowI g2 (t + 3) (va_cpy (g2.1 (o + 3)) (g2.1 (t + 3)) 0 0 5) := ⟨_, rfl⟩
  obtain ⟨s3, v3, n3⟩ := cp_step (t := t) (o := o) (i := 3) (n := 5) s2 (by omega) (by omega)
  rw [← hg3] at s3 v3 n3
  obtain ⟨g4, hg4⟩ : ∃ g, g = rowI g3 (t + 4) (va_cpy (g3.1 (o + 4)) (g3.1 (t + 4)) 0 0 5) := ⟨_, rfl⟩
  obtain ⟨s4, v4, n4⟩ := cp_step (t := t) (o := o) (i := 4) (n := 5) s3 (by omega) (by omega)
  rw [← hg4] at s4 v4 n4
  obtain ⟨g5, hg5⟩ : ∃ g, g = rowI g4 (t + 5) (va_cpy (g4.1 (o + 5)) (g4.1 (t + 5)) 0 0 5) := ⟨_, rfl⟩
  obtain ⟨s5, v5, n5⟩ := cp_step (t := t) (o := o) (i := 5) (n := 5) s4 (by omega) (by omega)
  rw [← hg5] at s5 v5 n5
  obtain ⟨g6, hg6⟩ : ∃ g, g = rowI g5 (t + 6) (va_cpy (g5.1 (o + 6)) (g5.1 (t + 6)) 0 0 20) := ⟨_, rfl⟩
  obtain ⟨s6, v6, n6⟩ := cp_step (t := t) (o := o) (i := 6) (n := 20) s5 (by omega) (by omega)
  rw [← hg6] at s6 v6 n6
  obtain ⟨g7, hg7⟩ : ∃ g, g = rowI g6 (t + 7) (va_cpy (g6.1 (o + 7)) (g6.1 (t + 7)) 0 0 12) := ⟨_, rfl⟩
  obtain ⟨s7, v7, n7⟩ := cp_step (t := t) (o := o) (i := 7) (n := 12) s6 (by omega) (by omega)
  rw [← hg7] at s7 v7 n7
  obtain ⟨g8, hg8⟩ : ∃ g, g = setI g7 t 7 (g7.1 o 7) := ⟨_, rfl⟩
  obtain ⟨s8, v8, n8, m8⟩ := pt_step (t := t) (o := o) (f := 7) s7 (by omega)
  rw [← hg8] at s8 v8 n8 m8
  obtain ⟨g9, hg9⟩ : ∃ g, g = setI g8 t 8 (g8.1 o 8) := ⟨_, rfl⟩
  obtain ⟨s9, v9, n9, m9⟩ := pt_step (t := t) (o := o) (f := 8) s8 (by omega)
  rw [← hg9] at s9 v9 n9 m9
  obtain ⟨g10, hg10⟩ : ∃ g, g = setI g9 t 9 (g9.1 o 9) := ⟨_, rfl⟩
  obtain ⟨s10, v10, n10, m10⟩ := pt_step (t := t) (o := o) (f := 9) s9 (by omega)
  rw [← hg10] at s10 v10 n10 m10
  obtain ⟨g11, hg11⟩ : ∃ g, g = setI g10 t 10 (g10.1 o 10) := ⟨_, rfl⟩
  obtain ⟨s11, v11, n11, m11⟩ := pt_step (t := t) (o := o) (f := 10) s10 (by omega)
  rw [← hg11] at s11 v11 n11 m11
  obtain ⟨g12, hg12⟩ : ∃ g, g = setI g11 t 11 (g11.1 o 11) := ⟨_, rfl⟩
  obtain ⟨s12, v12, n12, m12⟩ := pt_step (t := t) (o := o) (f := 11) s11 (by omega)
  rw [← hg12] at s12 v12 n12 m12
  obtain ⟨g13, hg13⟩ : ∃ g, g = setI g12 t 12 (g12.1 o 12) := ⟨_, rfl⟩
  obtain ⟨s13, v13, n13, m13⟩ := pt_step (t := t) (o := o) (f := 12) s12 (by omega)
  rw [← hg13] at s13 v13 n13 m13
  refine r_aload_n dX4_becomes_0 rfl ?_
  refine r_getR (j := o + 1) dX4_becomes_1 k_X4_9 (by assumption) (by decide) rfl (rf_T (by assumption) (by decide)) ?_
  refine r_iconst (v := 0) dX4_becomes_4 (by decide) ?_
  refine r_aload_n dX4_becomes_5 rfl ?_
  refine r_getR (j := t + 1) dX4_becomes_6 k_X4_9 (by assumption) (by decide) rfl (rf_T (by assumption) (by decide)) ?_
  refine r_iconst (v := 0) dX4_becomes_9 (by decide) ?_
  refine r_iconst (v := 5) dX4_becomes_10 (by decide) ?_
  refine r_acopyI (0) (0) (5) dX4_becomes_11 l_X4_52 (ks_T ho (by decide)) (ks_T ht (by decide)) rfl rfl rfl (cpT 0 5 ho (by decide) rfl) (cpT 0 5 ht (by decide) rfl) (by decide) (by decide) ?_
  rw [← hg1]
  refine r_aload_n dX4_becomes_14 rfl ?_
  refine r_getR (j := o + 2) dX4_becomes_15 k_X4_15 (by assumption) (by decide) rfl (rf_T (by assumption) (by decide)) ?_
  refine r_iconst (v := 0) dX4_becomes_18 (by decide) ?_
  refine r_aload_n dX4_becomes_19 rfl ?_
  refine r_getR (j := t + 2) dX4_becomes_20 k_X4_15 (by assumption) (by decide) rfl (rf_T (by assumption) (by decide)) ?_
  refine r_iconst (v := 0) dX4_becomes_23 (by decide) ?_
  refine r_iconst (v := 5) dX4_becomes_24 (by decide) ?_
  refine r_acopyI (0) (0) (5) dX4_becomes_25 l_X4_52 (ks_T ho (by decide)) (ks_T ht (by decide)) rfl rfl rfl (cpT 1 5 ho (by decide) rfl) (cpT 1 5 ht (by decide) rfl) (by decide) (by decide) ?_
  rw [← hg2]
  refine r_aload_n dX4_becomes_28 rfl ?_
  refine r_getR (j := o + 3) dX4_becomes_29 k_X4_18 (by assumption) (by decide) rfl (rf_T (by assumption) (by decide)) ?_
  refine r_iconst (v := 0) dX4_becomes_32 (by decide) ?_
  refine r_aload_n dX4_becomes_33 rfl ?_
  refine r_getR (j := t + 3) dX4_becomes_34 k_X4_18 (by assumption) (by decide) rfl (rf_T (by assumption) (by decide)) ?_
  refine r_iconst (v := 0) dX4_becomes_37 (by decide) ?_
  refine r_iconst (v := 5) dX4_becomes_38 (by decide) ?_
  refine r_acopyI (0) (0) (5) dX4_becomes_39 l_X4_52 (ks_T ho (by decide)) (ks_T ht (by decide)) rfl rfl rfl (cpT 2 5 ho (by decide) rfl) (cpT 2 5 ht (by decide) rfl) (by decide) (by decide) ?_
  rw [← hg3]
  refine r_aload_n dX4_becomes_42 rfl ?_
  refine r_getR (j := o + 4) dX4_becomes_43 k_X4_21 (by assumption) (by decide) rfl (rf_T (by assumption) (by decide)) ?_
  refine r_iconst (v := 0) dX4_becomes_46 (by decide) ?_
  refine r_aload_n dX4_becomes_47 rfl ?_
  refine r_getR (j := t + 4) dX4_becomes_48 k_X4_21 (by assumption) (by decide) rfl (rf_T (by assumption) (by decide)) ?_
  refine r_iconst (v := 0) dX4_becomes_51 (by decide) ?_
  refine r_iconst (v := 5) dX4_becomes_52 (by decide) ?_
  refine r_acopyI (0) (0) (5) dX4_becomes_53 l_X4_52 (ks_T ho (by decide)) (ks_T ht (by decide)) rfl rfl rfl (cpT 3 5 ho (by decide) rfl) (cpT 3 5 ht (by decide) rfl) (by decide) (by decide) ?_
  rw [← hg4]
  refine r_aload_n dX4_becomes_56 rfl ?_
  refine r_getR (j := o + 5) dX4_becomes_57 k_X4_24 (by assumption) (by decide) rfl (rf_T (by assumption) (by decide)) ?_
  refine r_iconst (v := 0) dX4_becomes_60 (by decide) ?_
  refine r_aload_n dX4_becomes_61 rfl ?_
  refine r_getR (j := t + 5) dX4_becomes_62 k_X4_24 (by assumption) (by decide) rfl (rf_T (by assumption) (by decide)) ?_
  refine r_iconst (v := 0) dX4_becomes_65 (by decide) ?_
  refine r_iconst (v := 5) dX4_becomes_66 (by decide) ?_
  refine r_acopyI (0) (0) (5) dX4_becomes_67 l_X4_52 (ks_T ho (by decide)) (ks_T ht (by decide)) rfl rfl rfl (cpT 4 5 ho (by decide) rfl) (cpT 4 5 ht (by decide) rfl) (by decide) (by decide) ?_
  rw [← hg5]
  refine r_aload_n dX4_becomes_70 rfl ?_
  refine r_getR (j := o + 6) dX4_becomes_71 k_X4_27 (by assumption) (by decide) rfl (rf_T (by assumption) (by decide)) ?_
  refine r_iconst (v := 0) dX4_becomes_74 (by decide) ?_
  refine r_aload_n dX4_becomes_75 rfl ?_
  refine r_getR (j := t + 6) dX4_becomes_76 k_X4_27 (by assumption) (by decide) rfl (rf_T (by assumption) (by decide)) ?_
  refine r_iconst (v := 0) dX4_becomes_79 (by decide) ?_
  refine r_bipush (v := 20) dX4_becomes_80 (by decide) ?_
  refine r_acopyI (0) (0) (20) dX4_becomes_82 l_X4_52 (ks_T ho (by decide)) (ks_T ht (by decide)) rfl rfl rfl (cpT 5 20 ho (by decide) rfl) (cpT 5 20 ht (by decide) rfl) (by decide) (by decide) ?_
  rw [← hg6]
  refine r_aload_n dX4_becomes_85 rfl ?_
  refine r_getR (j := o + 7) dX4_becomes_86 k_X4_30 (by assumption) (by decide) rfl (rf_T (by assumption) (by decide)) ?_
  refine r_iconst (v := 0) dX4_becomes_89 (by decide) ?_
  refine r_aload_n dX4_becomes_90 rfl ?_
  refine r_getR (j := t + 7) dX4_becomes_91 k_X4_30 (by assumption) (by decide) rfl (rf_T (by assumption) (by decide)) ?_
  refine r_iconst (v := 0) dX4_becomes_94 (by decide) ?_
  refine r_bipush (v := 12) dX4_becomes_95 (by decide) ?_
  refine r_acopyI (0) (0) (12) dX4_becomes_97 l_X4_52 (ks_T ho (by decide)) (ks_T ht (by decide)) rfl rfl rfl (cpT 6 12 ho (by decide) rfl) (cpT 6 12 ht (by decide) rfl) (by decide) (by decide) ?_
  rw [← hg7]
  refine r_aload_n dX4_becomes_100 rfl ?_
  refine r_aload_n dX4_becomes_101 rfl ?_
  refine r_getI dX4_becomes_102 k_X4_33 (by assumption) (by decide) rfl ?_
  refine r_putI dX4_becomes_105 k_X4_33 (by assumption) (by decide) rfl rfl rfl rfl ?_
  rw [← hg8]
  refine r_aload_n dX4_becomes_108 rfl ?_
  refine r_aload_n dX4_becomes_109 rfl ?_
  refine r_getI dX4_becomes_110 k_X4_37 (by assumption) (by decide) rfl ?_
  refine r_putI dX4_becomes_113 k_X4_37 (by assumption) (by decide) rfl rfl rfl rfl ?_
  rw [← hg9]
  refine r_aload_n dX4_becomes_116 rfl ?_
  refine r_aload_n dX4_becomes_117 rfl ?_
  refine r_getI dX4_becomes_118 k_X4_40 (by assumption) (by decide) rfl ?_
  refine r_putI dX4_becomes_121 k_X4_40 (by assumption) (by decide) rfl rfl rfl rfl ?_
  rw [← hg10]
  refine r_aload_n dX4_becomes_124 rfl ?_
  refine r_aload_n dX4_becomes_125 rfl ?_
  refine r_getI dX4_becomes_126 k_X4_43 (by assumption) (by decide) rfl ?_
  refine r_putI dX4_becomes_129 k_X4_43 (by assumption) (by decide) rfl rfl rfl rfl ?_
  rw [← hg11]
  refine r_aload_n dX4_becomes_132 rfl ?_
  refine r_aload_n dX4_becomes_133 rfl ?_
  refine r_getI dX4_becomes_134 k_X4_46 (by assumption) (by decide) rfl ?_
  refine r_putI dX4_becomes_137 k_X4_46 (by assumption) (by decide) rfl rfl rfl rfl ?_
  rw [← hg12]
  refine r_aload_n dX4_becomes_140 rfl ?_
  refine r_aload_n dX4_becomes_141 rfl ?_
  refine r_getI dX4_becomes_142 k_X4_49 (by assumption) (by decide) rfl ?_
  refine r_putI dX4_becomes_145 k_X4_49 (by assumption) (by decide) rfl rfl rfl rfl ?_
  rw [← hg13]
  refine r_return dX4_becomes_148 rfl ?_
  refine ⟨rfl, ⟨fun j hj => ⟨?_, ?_, ?_, ?_, ?_⟩, fun j hj => ?_, fun j hj => ?_, fun f f1 f2 => ?_⟩, fun a i e => ?_, ?_⟩
  · rw [n13 _ (by omega), n12 _ (by omega), n11 _ (by omega), n10 _ (by omega), n9 _ (by omega), n8 _ (by omega), n7 _ (by omega), n6 _ (by omega), n5 _ (by omega), n4 _ (by omega), n3 _ (by omega), n2 _ (by omega), v1 j hj]
  · rw [n13 _ (by omega), n12 _ (by omega), n11 _ (by omega), n10 _ (by omega), n9 _ (by omega), n8 _ (by omega), n7 _ (by omega), n6 _ (by omega), n5 _ (by omega), n4 _ (by omega), n3 _ (by omega), v2 j hj]
  · rw [n13 _ (by omega), n12 _ (by omega), n11 _ (by omega), n10 _ (by omega), n9 _ (by omega), n8 _ (by omega), n7 _ (by omega), n6 _ (by omega), n5 _ (by omega), n4 _ (by omega), v3 j hj]
  · rw [n13 _ (by omega), n12 _ (by omega), n11 _ (by omega), n10 _ (by omega), n9 _ (by omega), n8 _ (by omega), n7 _ (by omega), n6 _ (by omega), n5 _ (by omega), v4 j hj]
  · rw [n13 _ (by omega), n12 _ (by omega), n11 _ (by omega), n10 _ (by omega), n9 _ (by omega), n8 _ (by omega), n7 _ (by omega), n6 _ (by omega), v5 j hj]
  · rw [n13 _ (by omega), n12 _ (by omega), n11 _ (by omega), n10 _ (by omega), n9 _ (by omega), n8 _ (by omega), n7 _ (by omega), v6 j hj]
  · rw [n13 _ (by omega), n12 _ (by omega), n11 _ (by omega), n10 _ (by omega), n9 _ (by omega), n8 _ (by omega), v7 j hj]
  · rcases (show f = 7 ∨ f = 8 ∨ f = 9 ∨ f = 10 ∨ f = 11 ∨ f = 12 by omega) with rfl | rfl | rfl | rfl | rfl | rfl
    · rw [m13 _ (by decide), m12 _ (by decide), m11 _ (by decide), m10 _ (by decide), m9 _ (by decide), v8]
    · rw [m13 _ (by decide), m12 _ (by decide), m11 _ (by decide), m10 _ (by decide), v9]
    · rw [m13 _ (by decide), m12 _ (by decide), m11 _ (by decide), v10]
    · rw [m13 _ (by decide), m12 _ (by decide), v11]
    · rw [m13 _ (by decide), v12]
    · rw [v13]
  · simp only [tbF, Bool.and_eq_false_iff, decide_eq_false_iff_not] at e
    rw [s13 a (by omega)]
  · rw [hg13, hg12, hg11, hg10, hg9, hg8, hg7, hg6, hg5, hg4, hg3, hg2, hg1]
    rfl
