/-! undo -/
theorem undo_l1 {G : WT} {l : Launch} {h : Hp} {Q : Option Value → Hp → Prop}
    (k : ∀ g : Hp, g.2 = h.2 → (∀ a x, g.1 a x = if 135 ≤ a ∧ a ≤ 139 ∧ x < 6 then h.1 (a + 25) x else h.1 a x) → ∀ x1 : Value, Wp G l 1 RX7 cX7_undo 2 (some .int) 132 [.ref (gA G 134), x1] [] g Q) :
    ∀ (m i : Nat) (g : Hp), i + m = 6 → g.2 = h.2 → (∀ a x, g.1 a x = if 135 ≤ a ∧ a ≤ 135 + 4 ∧ x < i then h.1 (a + 25) x else h.1 a x) → Wp G l 1 RX7 cX7_undo 2 (some .int) 60 [.ref (gA G 134), .int (nI i)] [] g Q := by
  intro m
  induction m with
  | zero =>
    intro i g hi h2 hg
    obtain rfl : i = 6 := by omega
    refine r_iload_n dX7_undo_60 rfl ?_
    refine r_bipush (v := 6) dX7_undo_61 (by decide) ?_
    refine r_icmp_ge (tgt := 132) dX7_undo_63 (by decide) (fun c_63 => ?_) (fun c_63 => ?_)
    · exact k g h2 hg _
    · exact absurd (Int32.le_refl _) c_63
  | succ m ih =>
    intro i g hi h2 hg
    have old : ∀ a, 160 ≤ a → g.1 a i = h.1 a i := fun a ha => by rw [hg, if_neg (by omega)]
    refine r_iload_n dX7_undo_60 rfl ?_
    refine r_bipush (v := 6) dX7_undo_61 (by decide) ?_
    refine r_icmp_ge (tgt := 132) dX7_undo_63 (by decide) (fun c_63 => ?_) (fun c_63 => ?_)
    · exact absurd c_63 (nI_ge (a := i) (b := 6) (by omega) (by omega))
    · refine r_aload_n dX7_undo_66 rfl ?_
      refine r_getR (j := 135) dX7_undo_67 k_X7_22 rfl (by decide) rfl rfl ?_
      refine r_iload_n dX7_undo_70 rfl ?_
      refine r_aload_n dX7_undo_71 rfl ?_
      refine r_getR (j := 160) dX7_undo_72 k_X7_172 rfl (by decide) rfl rfl ?_
      refine r_iload_n dX7_undo_75 rfl ?_
      refine r_iald (i) dX7_undo_76 rfl rfl (show i < 6 by omega) ?_
      refine r_iast (i) dX7_undo_77 rfl rfl (show i < 6 by omega) ?_
      refine r_aload_n dX7_undo_78 rfl ?_
      refine r_getR (j := 136) dX7_undo_79 k_X7_26 rfl (by decide) rfl rfl ?_
      refine r_iload_n dX7_undo_82 rfl ?_
      refine r_aload_n dX7_undo_83 rfl ?_
      refine r_getR (j := 161) dX7_undo_84 k_X7_175 rfl (by decide) rfl rfl ?_
      refine r_iload_n dX7_undo_87 rfl ?_
      refine r_iald (i) dX7_undo_88 rfl rfl (show i < 6 by omega) ?_
      refine r_iast (i) dX7_undo_89 rfl rfl (show i < 6 by omega) ?_
      refine r_aload_n dX7_undo_90 rfl ?_
      refine r_getR (j := 137) dX7_undo_91 k_X7_29 rfl (by decide) rfl rfl ?_
      refine r_iload_n dX7_undo_94 rfl ?_
      refine r_aload_n dX7_undo_95 rfl ?_
      refine r_getR (j := 162) dX7_undo_96 k_X7_178 rfl (by decide) rfl rfl ?_
      refine r_iload_n dX7_undo_99 rfl ?_
      refine r_iald (i) dX7_undo_100 rfl rfl (show i < 6 by omega) ?_
      refine r_iast (i) dX7_undo_101 rfl rfl (show i < 6 by omega) ?_
      refine r_aload_n dX7_undo_102 rfl ?_
      refine r_getR (j := 138) dX7_undo_103 k_X7_32 rfl (by decide) rfl rfl ?_
      refine r_iload_n dX7_undo_106 rfl ?_
      refine r_aload_n dX7_undo_107 rfl ?_
      refine r_getR (j := 163) dX7_undo_108 k_X7_181 rfl (by decide) rfl rfl ?_
      refine r_iload_n dX7_undo_111 rfl ?_
      refine r_iald (i) dX7_undo_112 rfl rfl (show i < 6 by omega) ?_
      refine r_iast (i) dX7_undo_113 rfl rfl (show i < 6 by omega) ?_
      refine r_aload_n dX7_undo_114 rfl ?_
      refine r_getR (j := 139) dX7_undo_115 k_X7_35 rfl (by decide) rfl rfl ?_
      refine r_iload_n dX7_undo_118 rfl ?_
      refine r_aload_n dX7_undo_119 rfl ?_
      refine r_getR (j := 164) dX7_undo_120 k_X7_184 rfl (by decide) rfl rfl ?_
      refine r_iload_n dX7_undo_123 rfl ?_
      refine r_iald (i) dX7_undo_124 rfl rfl (show i < 6 by omega) ?_
      refine r_iast (i) dX7_undo_125 rfl rfl (show i < 6 by omega) ?_
      refine r_iinc dX7_undo_126 rfl (by first | exact nI_inc _ | rfl) (by decide) rfl rfl ?_
      dsimp only [List.set]
      refine r_goto (tgt := 60) dX7_undo_129 (by decide) ?_
      refine ih (i + 1) _ (by omega) h2 (five (lo := 135) (f := fun a x => h.1 (a + 25) x) hg ?_ ?_ ?_ ?_ ?_)
      · exact old _ (by decide)
      · rw [setI_ne (by decide)]; exact old _ (by decide)
      · rw [setI_ne (by decide), setI_ne (by decide)]; exact old _ (by decide)
      · rw [setI_ne (by decide), setI_ne (by decide), setI_ne (by decide)]; exact old _ (by decide)
      · rw [setI_ne (by decide), setI_ne (by decide), setI_ne (by decide), setI_ne (by decide)]; exact old _ (by decide)
theorem undo_l2 {G : WT} {l : Launch} {h : Hp} {Q : Option Value → Hp → Prop}
    (k : ∀ g : Hp, g.2 = h.2 → (∀ a x, g.1 a x = if a = 140 ∧ x < 24 then h.1 165 x else h.1 a x) → ∀ x1 : Value, Wp G l 1 RX7 cX7_undo 2 (some .int) 158 [.ref (gA G 134), x1] [] g Q) :
    ∀ (m i : Nat) (g : Hp), i + m = 24 → g.2 = h.2 → (∀ a x, g.1 a x = if a = 140 ∧ x < i then h.1 165 x else h.1 a x) → Wp G l 1 RX7 cX7_undo 2 (some .int) 134 [.ref (gA G 134), .int (nI i)] [] g Q := by
  intro m
  induction m with
  | zero =>
    intro i g hi h2 hg
    obtain rfl : i = 24 := by omega
    refine r_iload_n dX7_undo_134 rfl ?_
    refine r_bipush (v := 24) dX7_undo_135 (by decide) ?_
    refine r_icmp_ge (tgt := 158) dX7_undo_137 (by decide) (fun c_137 => ?_) (fun c_137 => ?_)
    · exact k g h2 hg _
    · exact absurd (Int32.le_refl _) c_137
  | succ m ih =>
    intro i g hi h2 hg
    refine r_iload_n dX7_undo_134 rfl ?_
    refine r_bipush (v := 24) dX7_undo_135 (by decide) ?_
    refine r_icmp_ge (tgt := 158) dX7_undo_137 (by decide) (fun c_137 => ?_) (fun c_137 => ?_)
    · exact absurd c_137 (nI_ge (a := i) (b := 24) (by omega) (by omega))
    · refine r_aload_n dX7_undo_140 rfl ?_
      refine r_getR (j := 140) dX7_undo_141 k_X7_38 rfl (by decide) rfl rfl ?_
      refine r_iload_n dX7_undo_144 rfl ?_
      refine r_aload_n dX7_undo_145 rfl ?_
      refine r_getR (j := 165) dX7_undo_146 k_X7_187 rfl (by decide) rfl rfl ?_
      refine r_iload_n dX7_undo_149 rfl ?_
      refine r_iald (i) dX7_undo_150 rfl rfl (show i < 24 by omega) ?_
      refine r_iast (i) dX7_undo_151 rfl rfl (show i < 24 by omega) ?_
      refine r_iinc dX7_undo_152 rfl (by first | exact nI_inc _ | rfl) (by decide) rfl rfl ?_
      dsimp only [List.set]
      refine r_goto (tgt := 134) dX7_undo_155 (by decide) ?_
      exact ih (i + 1) _ (by omega) h2 (one (f := fun x => h.1 165 x) hg (by rw [hg, if_neg (by omega)]))
theorem undo_l3 {G : WT} {l : Launch} {h : Hp} {Q : Option Value → Hp → Prop}
    (k : ∀ g : Hp, g.2 = h.2 → (∀ a x, g.1 a x = if a = 159 ∧ x < 12 then h.1 166 x else h.1 a x) → ∀ x1 : Value, Wp G l 1 RX7 cX7_undo 2 (some .int) 184 [.ref (gA G 134), x1] [] g Q) :
    ∀ (m i : Nat) (g : Hp), i + m = 12 → g.2 = h.2 → (∀ a x, g.1 a x = if a = 159 ∧ x < i then h.1 166 x else h.1 a x) → Wp G l 1 RX7 cX7_undo 2 (some .int) 160 [.ref (gA G 134), .int (nI i)] [] g Q := by
  intro m
  induction m with
  | zero =>
    intro i g hi h2 hg
    obtain rfl : i = 12 := by omega
    refine r_iload_n dX7_undo_160 rfl ?_
    refine r_bipush (v := 12) dX7_undo_161 (by decide) ?_
    refine r_icmp_ge (tgt := 184) dX7_undo_163 (by decide) (fun c_163 => ?_) (fun c_163 => ?_)
    · exact k g h2 hg _
    · exact absurd (Int32.le_refl _) c_163
  | succ m ih =>
    intro i g hi h2 hg
    refine r_iload_n dX7_undo_160 rfl ?_
    refine r_bipush (v := 12) dX7_undo_161 (by decide) ?_
    refine r_icmp_ge (tgt := 184) dX7_undo_163 (by decide) (fun c_163 => ?_) (fun c_163 => ?_)
    · exact absurd c_163 (nI_ge (a := i) (b := 12) (by omega) (by omega))
    · refine r_aload_n dX7_undo_166 rfl ?_
      refine r_getR (j := 159) dX7_undo_167 k_X7_148 rfl (by decide) rfl rfl ?_
      refine r_iload_n dX7_undo_170 rfl ?_
      refine r_aload_n dX7_undo_171 rfl ?_
      refine r_getR (j := 166) dX7_undo_172 k_X7_190 rfl (by decide) rfl rfl ?_
      refine r_iload_n dX7_undo_175 rfl ?_
      refine r_iald (i) dX7_undo_176 rfl rfl (show i < 12 by omega) ?_
      refine r_iast (i) dX7_undo_177 rfl rfl (show i < 12 by omega) ?_
      refine r_iinc dX7_undo_178 rfl (by first | exact nI_inc _ | rfl) (by decide) rfl rfl ?_
      dsimp only [List.set]
      refine r_goto (tgt := 160) dX7_undo_181 (by decide) ?_
      exact ih (i + 1) _ (by omega) h2 (one (f := fun x => h.1 166 x) hg (by rw [hg, if_neg (by omega)]))
def unF (a i : Nat) : Bool := (decide (135 ≤ a) && decide (a ≤ 140)) || a == 159 || (a == 134 && (i == 11 || i == 0 || i == 1 || i == 2 || i == 3 || i == 44))
set_option maxRecDepth 100000 in
theorem m_X7_undo {G : WT} {l : Launch} (hG : GOK G) {h : Hp} {im : Option Tb} (hi : h.1 134 46 = b01 im.isSome) (hT : ∀ T, im = some T → TbOK T ∧ RIm h T) : Cl G l 1 yX7_undo cX7_undo 2 (some .int) [.ref (gA G 134)] h (fun r h' => (im = none → r = some (.int (-3)) ∧ h' = h) ∧ (∀ T, im = some T → r = some (.int (nI (T.1 7 0))) ∧ RTb h' T ∧ RBk h' T ∧ h'.1 134 11 = nI (T.1 7 5) - 1 ∧ Fr unF h h')) := by
  refine Cl.of hG (by decide) (Nat.le_of_ble_eq_true rfl) ?_
  show Wp G l 1 RX7 cX7_undo 2 (some .int) 0 [.ref (gA G 134), mk0] [] h _
  cases him : im with
  | none =>
    rw [him] at hi
    refine r_aload_n dX7_undo_0 rfl ?_
    refine r_getI dX7_undo_1 k_X7_151 rfl (by decide) rfl ?_
    rw [hi]
    refine r_if_ne (tgt := 10) dX7_undo_4 (by decide) (fun c_4 => ?_) (fun c_4 => ?_)
    · exact absurd rfl c_4
    · refine r_bipush (v := -3) dX7_undo_7 (by decide) ?_
      refine r_ireturn dX7_undo_9 ⟨_, rfl, rfl⟩ ?_
      exact ⟨fun _ => ⟨rfl, rfl⟩, fun T q => by cases q⟩
  | some T =>
    rw [him] at hi
    obtain ⟨hok, i1, i2, i3, i4, i5, i6, i7, i8⟩ := hT T him
    have hE := hok.1
    have h12 := hok.2.2.2.2.1
    refine r_aload_n dX7_undo_0 rfl ?_
    refine r_getI dX7_undo_1 k_X7_151 rfl (by decide) rfl ?_
    rw [hi]
    refine r_if_ne (tgt := 10) dX7_undo_4 (by decide) (fun c_4 => ?_) (fun c_4 => ?_)
    · refine r_aload_n dX7_undo_10 rfl ?_
      refine r_aload_n dX7_undo_11 rfl ?_
      refine r_getI dX7_undo_12 k_X7_154 rfl (by decide) rfl ?_
      refine r_putI dX7_undo_15 k_X7_44 rfl (by decide) rfl rfl rfl rfl ?_
      refine r_aload_n dX7_undo_18 rfl ?_
      refine r_aload_n dX7_undo_19 rfl ?_
      refine r_getI dX7_undo_20 k_X7_157 rfl (by decide) rfl ?_
      refine r_putI dX7_undo_23 k_X7_7 rfl (by decide) rfl rfl rfl rfl ?_
      refine r_aload_n dX7_undo_26 rfl ?_
      refine r_aload_n dX7_undo_27 rfl ?_
      refine r_getI dX7_undo_28 k_X7_160 rfl (by decide) rfl ?_
      refine r_putI dX7_undo_31 k_X7_13 rfl (by decide) rfl rfl rfl rfl ?_
      refine r_aload_n dX7_undo_34 rfl ?_
      refine r_aload_n dX7_undo_35 rfl ?_
      refine r_getI dX7_undo_36 k_X7_163 rfl (by decide) rfl ?_
      refine r_putI dX7_undo_39 k_X7_16 rfl (by decide) rfl rfl rfl rfl ?_
      refine r_aload_n dX7_undo_42 rfl ?_
      refine r_aload_n dX7_undo_43 rfl ?_
      refine r_getI dX7_undo_44 k_X7_166 rfl (by decide) rfl ?_
      refine r_putI dX7_undo_47 k_X7_19 rfl (by decide) rfl rfl rfl rfl ?_
      refine r_aload_n dX7_undo_50 rfl ?_
      refine r_aload_n dX7_undo_51 rfl ?_
      refine r_getI dX7_undo_52 k_X7_169 rfl (by decide) rfl ?_
      refine r_putI dX7_undo_55 k_X7_145 rfl (by decide) rfl rfl rfl rfl ?_
      refine r_iconst (v := 0) dX7_undo_58 (by decide) ?_
      refine r_istore_n dX7_undo_59 (by decide) rfl rfl ?_
      dsimp only [List.set]
      refine undo_l1 (fun g1 z1 e1 x1 => ?_) 6 0 _ (by omega) rfl (fun a x => by rw [if_neg (by omega)])
      refine r_iconst (v := 0) dX7_undo_132 (by decide) ?_
      refine r_istore_n dX7_undo_133 (by decide) rfl rfl ?_
      refine undo_l2 (fun g2 z2 e2 x2 => ?_) 24 0 _ (by omega) rfl (fun a x => by rw [if_neg (by omega)])
      refine r_iconst (v := 0) dX7_undo_158 (by decide) ?_
      refine r_istore_n dX7_undo_159 (by decide) rfl rfl ?_
      refine undo_l3 (fun g3 z3 e3 x3 => ?_) 12 0 _ (by omega) rfl (fun a x => by rw [if_neg (by omega)])
      refine r_aload_n dX7_undo_184 rfl ?_
      refine r_getI dX7_undo_185 k_X7_7 rfl (by decide) rfl ?_
      refine r_ireturn dX7_undo_188 ⟨_, rfl, rfl⟩ ?_
      have m134 : ∀ x, g3.1 134 x = (setI (setI (setI (setI (setI (setI h 134 11 (h.1 134 47)) 134 0 (h.1 134 48)) 134 1 (h.1 134 49)) 134 2 (h.1 134 50)) 134 3 (h.1 134 51)) 134 44 (h.1 134 52)).1 134 x := fun x => by
        rw [e3, if_neg (by omega), e2, if_neg (by omega), e1, if_neg (by omega)]
        rfl
      have cp : ∀ a x, 135 ≤ a → a ≤ 139 → x < 6 → g3.1 a x = h.1 (a + 25) x := fun a x q1 q2 q3 => by
        rw [e3, if_neg (by omega), e2, if_neg (by omega), e1, if_pos (by omega), setI_ne (by omega), setI_ne (by omega), setI_ne (by omega), setI_ne (by omega), setI_ne (by omega), setI_ne (by omega)]
      have ct : ∀ x, x < 24 → g3.1 140 x = h.1 165 x := fun x q => by
        rw [e3, if_neg (by omega), e2, if_pos (by omega), e1, if_neg (by omega), setI_ne (by omega), setI_ne (by omega), setI_ne (by omega), setI_ne (by omega), setI_ne (by omega), setI_ne (by omega)]
      have cb : ∀ x, x < 12 → g3.1 159 x = h.1 166 x := fun x q => by
        rw [e3, if_pos (by omega), e2, if_neg (by omega), e1, if_neg (by omega), setI_ne (by omega), setI_ne (by omega), setI_ne (by omega), setI_ne (by omega), setI_ne (by omega), setI_ne (by omega)]
      refine ⟨fun q => (by cases q), fun T1 q1 => ?_⟩
      obtain rfl : T = T1 := Option.some.inj q1
      refine ⟨?_, ⟨?_, ?_, ?_, ?_, fun e he => ?_⟩, ⟨?_, fun k hk => ?_⟩, ?_, ⟨fun a x q => ?_, z3.trans (z2.trans z1)⟩⟩
      · rw [m134]; simp [setI_1, i2]
      · rw [m134]; simp [setI_1, i2]
      · rw [m134]; simp [setI_1, i3]
      · rw [m134]; simp [setI_1, i4]
      · rw [m134]; simp [setI_1, i5]
      · obtain ⟨s1, s2, s3, s4, s5, s6⟩ := i7 e he
        exact ⟨(cp 135 e (by omega) (by omega) (by omega)).trans s1, (cp 136 e (by omega) (by omega) (by omega)).trans s2, (cp 137 e (by omega) (by omega) (by omega)).trans s3, (cp 138 e (by omega) (by omega) (by omega)).trans s4, (cp 139 e (by omega) (by omega) (by omega)).trans s5, fun p hp => (ct _ (by omega)).trans (s6 p hp)⟩
      · rw [m134]; simp [setI_1, i6]
      · exact (cb k (by omega)).trans (i8 k hk)
      · rw [m134]; simp [setI_1, i1]
      · simp only [unF, Bool.or_eq_false_iff, Bool.and_eq_false_iff, beq_eq_false_iff_ne, decide_eq_false_iff_not] at q
        by_cases ha : a = 134
        · subst ha
          rw [m134, setI_nj (by omega), setI_nj (by omega), setI_nj (by omega), setI_nj (by omega), setI_nj (by omega), setI_nj (by omega)]
        · rw [e3, if_neg (by omega), e2, if_neg (by omega), e1, if_neg (by omega), setI_ne (by omega), setI_ne (by omega), setI_ne (by omega), setI_ne (by omega), setI_ne (by omega), setI_ne (by omega)]
    · exact absurd c_4 (b01_n0.mpr rfl)
