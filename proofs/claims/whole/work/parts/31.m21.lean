/-! image, undo -/
theorem five {h g : Hp} {i lo : Nat} {f : Nat → Nat → Int32} (hg : ∀ a x, g.1 a x = if lo ≤ a ∧ a ≤ lo + 4 ∧ x < i then f a x else h.1 a x) {v0 v1 v2 v3 v4 : Int32} (e0 : v0 = f lo i) (e1 : v1 = f (lo + 1) i) (e2 : v2 = f (lo + 2) i) (e3 : v3 = f (lo + 3) i) (e4 : v4 = f (lo + 4) i) :
    ∀ a x, (setI (setI (setI (setI (setI g lo i v0) (lo + 1) i v1) (lo + 2) i v2) (lo + 3) i v3) (lo + 4) i v4).1 a x = if lo ≤ a ∧ a ≤ lo + 4 ∧ x < i + 1 then f a x else h.1 a x := by
  intro a x
  rw [setI_1, setI_1, setI_1, setI_1, setI_1, hg]
  by_cases hx : x = i
  · subst hx
    by_cases a4 : a = lo + 4
    · subst a4; rw [if_pos ⟨rfl, rfl⟩, if_pos (by omega), e4]
    · by_cases a3 : a = lo + 3
      · subst a3; rw [if_neg (by omega), if_pos ⟨rfl, rfl⟩, if_pos (by omega), e3]
      · by_cases a2 : a = lo + 2
        · subst a2; rw [if_neg (by omega), if_neg (by omega), if_pos ⟨rfl, rfl⟩, if_pos (by omega), e2]
        · by_cases a1 : a = lo + 1
          · subst a1; rw [if_neg (by omega), if_neg (by omega), if_neg (by omega), if_pos ⟨rfl, rfl⟩, if_pos (by omega), e1]
          · by_cases a0 : a = lo
            · subst a0; rw [if_neg (by omega), if_neg (by omega), if_neg (by omega), if_neg (by omega), if_pos ⟨rfl, rfl⟩, if_pos (by omega), e0]
            · rw [if_neg (by omega), if_neg (by omega), if_neg (by omega), if_neg (by omega), if_neg (by omega), if_neg (by omega), if_neg (by omega)]
  · rw [if_neg (by omega), if_neg (by omega), if_neg (by omega), if_neg (by omega), if_neg (by omega)]
    by_cases q : lo ≤ a ∧ a ≤ lo + 4 ∧ x < i
    · rw [if_pos q, if_pos (by omega)]
    · rw [if_neg q, if_neg (by omega)]
theorem one {h g : Hp} {i b : Nat} {f : Nat → Int32} (hg : ∀ a x, g.1 a x = if a = b ∧ x < i then f x else h.1 a x) {v : Int32} (e : v = f i) : ∀ a x, (setI g b i v).1 a x = if a = b ∧ x < i + 1 then f x else h.1 a x := by
  intro a x
  rw [setI_1, hg]
  by_cases hx : a = b ∧ x = i
  · rw [if_pos hx, if_pos (by omega), e, hx.2]
  · rw [if_neg hx]
    by_cases q : a = b ∧ x < i
    · rw [if_pos q, if_pos (by omega)]
    · rw [if_neg q, if_neg (by omega)]
theorem image_l1 {G : WT} {l : Launch} {h : Hp} {Q : Option Value → Hp → Prop}
    (k : ∀ g : Hp, g.2 = h.2 → (∀ a x, g.1 a x = if 160 ≤ a ∧ a ≤ 164 ∧ x < 6 then h.1 (a - 25) x else h.1 a x) → ∀ x1 : Value, Wp G l 1 RX7 cX7_image 2 (some .int) 127 [.ref (gA G 134), x1] [] g Q) :
    ∀ (m i : Nat) (g : Hp), i + m = 6 → g.2 = h.2 → (∀ a x, g.1 a x = if 160 ≤ a ∧ a ≤ 160 + 4 ∧ x < i then h.1 (a - 25) x else h.1 a x) → Wp G l 1 RX7 cX7_image 2 (some .int) 55 [.ref (gA G 134), .int (nI i)] [] g Q := by
  intro m
  induction m with
  | zero =>
    intro i g hi h2 hg
    obtain rfl : i = 6 := by omega
    refine r_iload_n dX7_image_55 rfl ?_
    refine r_bipush (v := 6) dX7_image_56 (by decide) ?_
    refine r_icmp_ge (tgt := 127) dX7_image_58 (by decide) (fun c_58 => ?_) (fun c_58 => ?_)
    · exact k g h2 hg _
    · exact absurd (Int32.le_refl _) c_58
  | succ m ih =>
    intro i g hi h2 hg
    have old : ∀ a, a < 160 → g.1 a i = h.1 a i := fun a ha => by rw [hg, if_neg (by omega)]
    refine r_iload_n dX7_image_55 rfl ?_
    refine r_bipush (v := 6) dX7_image_56 (by decide) ?_
    refine r_icmp_ge (tgt := 127) dX7_image_58 (by decide) (fun c_58 => ?_) (fun c_58 => ?_)
    · exact absurd c_58 (nI_ge (a := i) (b := 6) (by omega) (by omega))
    · refine r_aload_n dX7_image_61 rfl ?_
      refine r_getR (j := 160) dX7_image_62 k_X7_172 rfl (by decide) rfl rfl ?_
      refine r_iload_n dX7_image_65 rfl ?_
      refine r_aload_n dX7_image_66 rfl ?_
      refine r_getR (j := 135) dX7_image_67 k_X7_22 rfl (by decide) rfl rfl ?_
      refine r_iload_n dX7_image_70 rfl ?_
      refine r_iald (i) dX7_image_71 rfl rfl (show i < 6 by omega) ?_
      refine r_iast (i) dX7_image_72 rfl rfl (show i < 6 by omega) ?_
      refine r_aload_n dX7_image_73 rfl ?_
      refine r_getR (j := 161) dX7_image_74 k_X7_175 rfl (by decide) rfl rfl ?_
      refine r_iload_n dX7_image_77 rfl ?_
      refine r_aload_n dX7_image_78 rfl ?_
      refine r_getR (j := 136) dX7_image_79 k_X7_26 rfl (by decide) rfl rfl ?_
      refine r_iload_n dX7_image_82 rfl ?_
      refine r_iald (i) dX7_image_83 rfl rfl (show i < 6 by omega) ?_
      refine r_iast (i) dX7_image_84 rfl rfl (show i < 6 by omega) ?_
      refine r_aload_n dX7_image_85 rfl ?_
      refine r_getR (j := 162) dX7_image_86 k_X7_178 rfl (by decide) rfl rfl ?_
      refine r_iload_n dX7_image_89 rfl ?_
      refine r_aload_n dX7_image_90 rfl ?_
      refine r_getR (j := 137) dX7_image_91 k_X7_29 rfl (by decide) rfl rfl ?_
      refine r_iload_n dX7_image_94 rfl ?_
      refine r_iald (i) dX7_image_95 rfl rfl (show i < 6 by omega) ?_
      refine r_iast (i) dX7_image_96 rfl rfl (show i < 6 by omega) ?_
      refine r_aload_n dX7_image_97 rfl ?_
      refine r_getR (j := 163) dX7_image_98 k_X7_181 rfl (by decide) rfl rfl ?_
      refine r_iload_n dX7_image_101 rfl ?_
      refine r_aload_n dX7_image_102 rfl ?_
      refine r_getR (j := 138) dX7_image_103 k_X7_32 rfl (by decide) rfl rfl ?_
      refine r_iload_n dX7_image_106 rfl ?_
      refine r_iald (i) dX7_image_107 rfl rfl (show i < 6 by omega) ?_
      refine r_iast (i) dX7_image_108 rfl rfl (show i < 6 by omega) ?_
      refine r_aload_n dX7_image_109 rfl ?_
      refine r_getR (j := 164) dX7_image_110 k_X7_184 rfl (by decide) rfl rfl ?_
      refine r_iload_n dX7_image_113 rfl ?_
      refine r_aload_n dX7_image_114 rfl ?_
      refine r_getR (j := 139) dX7_image_115 k_X7_35 rfl (by decide) rfl rfl ?_
      refine r_iload_n dX7_image_118 rfl ?_
      refine r_iald (i) dX7_image_119 rfl rfl (show i < 6 by omega) ?_
      refine r_iast (i) dX7_image_120 rfl rfl (show i < 6 by omega) ?_
      refine r_iinc dX7_image_121 rfl (by first | exact nI_inc _ | rfl) (by decide) rfl rfl ?_
      dsimp only [List.set]
      refine r_goto (tgt := 55) dX7_image_124 (by decide) ?_
      refine ih (i + 1) _ (by omega) h2 (five (lo := 160) (f := fun a x => h.1 (a - 25) x) hg ?_ ?_ ?_ ?_ ?_)
      · exact old _ (by decide)
      · rw [setI_ne (by decide)]; exact old _ (by decide)
      · rw [setI_ne (by decide), setI_ne (by decide)]; exact old _ (by decide)
      · rw [setI_ne (by decide), setI_ne (by decide), setI_ne (by decide)]; exact old _ (by decide)
      · rw [setI_ne (by decide), setI_ne (by decide), setI_ne (by decide), setI_ne (by decide)]; exact old _ (by decide)
theorem image_l2 {G : WT} {l : Launch} {h : Hp} {Q : Option Value → Hp → Prop}
    (k : ∀ g : Hp, g.2 = h.2 → (∀ a x, g.1 a x = if a = 165 ∧ x < 24 then h.1 140 x else h.1 a x) → ∀ x1 : Value, Wp G l 1 RX7 cX7_image 2 (some .int) 153 [.ref (gA G 134), x1] [] g Q) :
    ∀ (m i : Nat) (g : Hp), i + m = 24 → g.2 = h.2 → (∀ a x, g.1 a x = if a = 165 ∧ x < i then h.1 140 x else h.1 a x) → Wp G l 1 RX7 cX7_image 2 (some .int) 129 [.ref (gA G 134), .int (nI i)] [] g Q := by
  intro m
  induction m with
  | zero =>
    intro i g hi h2 hg
    obtain rfl : i = 24 := by omega
    refine r_iload_n dX7_image_129 rfl ?_
    refine r_bipush (v := 24) dX7_image_130 (by decide) ?_
    refine r_icmp_ge (tgt := 153) dX7_image_132 (by decide) (fun c_132 => ?_) (fun c_132 => ?_)
    · exact k g h2 hg _
    · exact absurd (Int32.le_refl _) c_132
  | succ m ih =>
    intro i g hi h2 hg
    refine r_iload_n dX7_image_129 rfl ?_
    refine r_bipush (v := 24) dX7_image_130 (by decide) ?_
    refine r_icmp_ge (tgt := 153) dX7_image_132 (by decide) (fun c_132 => ?_) (fun c_132 => ?_)
    · exact absurd c_132 (nI_ge (a := i) (b := 24) (by omega) (by omega))
    · refine r_aload_n dX7_image_135 rfl ?_
      refine r_getR (j := 165) dX7_image_136 k_X7_187 rfl (by decide) rfl rfl ?_
      refine r_iload_n dX7_image_139 rfl ?_
      refine r_aload_n dX7_image_140 rfl ?_
      refine r_getR (j := 140) dX7_image_141 k_X7_38 rfl (by decide) rfl rfl ?_
      refine r_iload_n dX7_image_144 rfl ?_
      refine r_iald (i) dX7_image_145 rfl rfl (show i < 24 by omega) ?_
      refine r_iast (i) dX7_image_146 rfl rfl (show i < 24 by omega) ?_
      refine r_iinc dX7_image_147 rfl (by first | exact nI_inc _ | rfl) (by decide) rfl rfl ?_
      dsimp only [List.set]
      refine r_goto (tgt := 129) dX7_image_150 (by decide) ?_
      exact ih (i + 1) _ (by omega) h2 (one (f := fun x => h.1 140 x) hg (by rw [hg, if_neg (by omega)]))
theorem image_l3 {G : WT} {l : Launch} {h : Hp} {Q : Option Value → Hp → Prop}
    (k : ∀ g : Hp, g.2 = h.2 → (∀ a x, g.1 a x = if a = 166 ∧ x < 12 then h.1 159 x else h.1 a x) → ∀ x1 : Value, Wp G l 1 RX7 cX7_image 2 (some .int) 179 [.ref (gA G 134), x1] [] g Q) :
    ∀ (m i : Nat) (g : Hp), i + m = 12 → g.2 = h.2 → (∀ a x, g.1 a x = if a = 166 ∧ x < i then h.1 159 x else h.1 a x) → Wp G l 1 RX7 cX7_image 2 (some .int) 155 [.ref (gA G 134), .int (nI i)] [] g Q := by
  intro m
  induction m with
  | zero =>
    intro i g hi h2 hg
    obtain rfl : i = 12 := by omega
    refine r_iload_n dX7_image_155 rfl ?_
    refine r_bipush (v := 12) dX7_image_156 (by decide) ?_
    refine r_icmp_ge (tgt := 179) dX7_image_158 (by decide) (fun c_158 => ?_) (fun c_158 => ?_)
    · exact k g h2 hg _
    · exact absurd (Int32.le_refl _) c_158
  | succ m ih =>
    intro i g hi h2 hg
    refine r_iload_n dX7_image_155 rfl ?_
    refine r_bipush (v := 12) dX7_image_156 (by decide) ?_
    refine r_icmp_ge (tgt := 179) dX7_image_158 (by decide) (fun c_158 => ?_) (fun c_158 => ?_)
    · exact absurd c_158 (nI_ge (a := i) (b := 12) (by omega) (by omega))
    · refine r_aload_n dX7_image_161 rfl ?_
      refine r_getR (j := 166) dX7_image_162 k_X7_190 rfl (by decide) rfl rfl ?_
      refine r_iload_n dX7_image_165 rfl ?_
      refine r_aload_n dX7_image_166 rfl ?_
      refine r_getR (j := 159) dX7_image_167 k_X7_148 rfl (by decide) rfl rfl ?_
      refine r_iload_n dX7_image_170 rfl ?_
      refine r_iald (i) dX7_image_171 rfl rfl (show i < 12 by omega) ?_
      refine r_iast (i) dX7_image_172 rfl rfl (show i < 12 by omega) ?_
      refine r_iinc dX7_image_173 rfl (by first | exact nI_inc _ | rfl) (by decide) rfl rfl ?_
      dsimp only [List.set]
      refine r_goto (tgt := 155) dX7_image_176 (by decide) ?_
      exact ih (i + 1) _ (by omega) h2 (one (f := fun x => h.1 159 x) hg (by rw [hg, if_neg (by omega)]))
/-- an image kept of a table -/
def RIm (h : Hp) (T : Tb) : Prop := h.1 134 47 = nI (T.1 7 5) - 1 ∧ h.1 134 48 = nI (T.1 7 0) ∧ h.1 134 49 = nI (T.1 7 1) ∧ h.1 134 50 = nI (T.1 7 2) ∧ h.1 134 51 = nI (T.1 7 3) - 1 ∧ h.1 134 52 = nI (T.1 7 4) ∧ (∀ e, e < T.1 7 0 → h.1 160 e = nI (T.1 0 e) ∧ h.1 161 e = nI (T.1 1 e) ∧ h.1 162 e = nI (T.1 2 e) ∧ h.1 163 e = nI (T.1 3 e) ∧ h.1 164 e = T.2 e ∧ ∀ p, p < 4 → h.1 165 (4 * e + p) = nI (T.1 5 (4 * e + p))) ∧ ∀ k, k < T.1 7 4 → h.1 166 k = nI (T.1 6 k)
def imF (a i : Nat) : Bool := (decide (160 ≤ a) && decide (a ≤ 166)) || (a == 134 && (i == 46 || i == 47 || i == 48 || i == 49 || i == 50 || i == 51 || i == 52))
set_option maxRecDepth 100000 in
theorem m_X7_image {G : WT} {l : Launch} (hG : GOK G) {h : Hp} {T : Tb} (hT : TbOK T) (hR : RTb h T) (hB : RBk h T) (hH : h.1 134 11 = nI (T.1 7 5) - 1) : Cl G l 1 yX7_image cX7_image 2 (some .int) [.ref (gA G 134)] h (fun r h' => r = some (.int (nI (T.1 7 0))) ∧ h'.1 134 46 = 1 ∧ RIm h' T ∧ Fr imF h h') := by
  refine Cl.of hG (by decide) (Nat.le_of_ble_eq_true rfl) ?_
  show Wp G l 1 RX7 cX7_image 2 (some .int) 0 [.ref (gA G 134), mk0] [] h _
  have hE := hT.1
  have h12 := hT.2.2.2.2.1
  refine r_aload_n dX7_image_0 rfl ?_
  refine r_iconst (v := 1) dX7_image_1 (by decide) ?_
  refine r_putI dX7_image_2 k_X7_151 rfl (by decide) rfl rfl rfl rfl ?_
  refine r_aload_n dX7_image_5 rfl ?_
  refine r_aload_n dX7_image_6 rfl ?_
  refine r_getI dX7_image_7 k_X7_44 rfl (by decide) rfl ?_
  refine r_putI dX7_image_10 k_X7_154 rfl (by decide) rfl rfl rfl rfl ?_
  refine r_aload_n dX7_image_13 rfl ?_
  refine r_aload_n dX7_image_14 rfl ?_
  refine r_getI dX7_image_15 k_X7_7 rfl (by decide) rfl ?_
  refine r_putI dX7_image_18 k_X7_157 rfl (by decide) rfl rfl rfl rfl ?_
  refine r_aload_n dX7_image_21 rfl ?_
  refine r_aload_n dX7_image_22 rfl ?_
  refine r_getI dX7_image_23 k_X7_13 rfl (by decide) rfl ?_
  refine r_putI dX7_image_26 k_X7_160 rfl (by decide) rfl rfl rfl rfl ?_
  refine r_aload_n dX7_image_29 rfl ?_
  refine r_aload_n dX7_image_30 rfl ?_
  refine r_getI dX7_image_31 k_X7_16 rfl (by decide) rfl ?_
  refine r_putI dX7_image_34 k_X7_163 rfl (by decide) rfl rfl rfl rfl ?_
  refine r_aload_n dX7_image_37 rfl ?_
  refine r_aload_n dX7_image_38 rfl ?_
  refine r_getI dX7_image_39 k_X7_19 rfl (by decide) rfl ?_
  refine r_putI dX7_image_42 k_X7_166 rfl (by decide) rfl rfl rfl rfl ?_
  refine r_aload_n dX7_image_45 rfl ?_
  refine r_aload_n dX7_image_46 rfl ?_
  refine r_getI dX7_image_47 k_X7_145 rfl (by decide) rfl ?_
  refine r_putI dX7_image_50 k_X7_169 rfl (by decide) rfl rfl rfl rfl ?_
  refine r_iconst (v := 0) dX7_image_53 (by decide) ?_
  refine r_istore_n dX7_image_54 (by decide) rfl rfl ?_
  dsimp only [List.set]
  refine image_l1 (fun g1 z1 e1 x1 => ?_) 6 0 _ (by omega) rfl (fun a x => by rw [if_neg (by omega)])
  refine r_iconst (v := 0) dX7_image_127 (by decide) ?_
  refine r_istore_n dX7_image_128 (by decide) rfl rfl ?_
  refine image_l2 (fun g2 z2 e2 x2 => ?_) 24 0 _ (by omega) rfl (fun a x => by rw [if_neg (by omega)])
  refine r_iconst (v := 0) dX7_image_153 (by decide) ?_
  refine r_istore_n dX7_image_154 (by decide) rfl rfl ?_
  refine image_l3 (fun g3 z3 e3 x3 => ?_) 12 0 _ (by omega) rfl (fun a x => by rw [if_neg (by omega)])
  refine r_aload_n dX7_image_179 rfl ?_
  refine r_getI dX7_image_180 k_X7_7 rfl (by decide) rfl ?_
  refine r_ireturn dX7_image_183 ⟨_, rfl, rfl⟩ ?_
  have m134 : ∀ x, g3.1 134 x = (setI (setI (setI (setI (setI (setI (setI h 134 46 1) 134 47 (h.1 134 11)) 134 48 (h.1 134 0)) 134 49 (h.1 134 1)) 134 50 (h.1 134 2)) 134 51 (h.1 134 3)) 134 52 (h.1 134 44)).1 134 x := fun x => by
    rw [e3, if_neg (by omega), e2, if_neg (by omega), e1, if_neg (by omega)]
    rfl
  have src : ∀ a x, a < 160 → ¬ a = 134 → g3.1 a x = h.1 a x := fun a x ha hb => by
    rw [e3, if_neg (by omega), e2, if_neg (by omega), e1, if_neg (by omega), setI_ne (by omega), setI_ne (by omega), setI_ne (by omega), setI_ne (by omega), setI_ne (by omega), setI_ne (by omega), setI_ne (by omega)]
  have cp : ∀ a x, 160 ≤ a → a ≤ 164 → x < 6 → g3.1 a x = h.1 (a - 25) x := fun a x q1 q2 q3 => by
    rw [e3, if_neg (by omega), e2, if_neg (by omega), e1, if_pos (by omega), setI_ne (by omega), setI_ne (by omega), setI_ne (by omega), setI_ne (by omega), setI_ne (by omega), setI_ne (by omega), setI_ne (by omega)]
  have ct : ∀ x, x < 24 → g3.1 165 x = h.1 140 x := fun x q => by
    rw [e3, if_neg (by omega), e2, if_pos (by omega), e1, if_neg (by omega), setI_ne (by omega), setI_ne (by omega), setI_ne (by omega), setI_ne (by omega), setI_ne (by omega), setI_ne (by omega), setI_ne (by omega)]
  have cb : ∀ x, x < 12 → g3.1 166 x = h.1 159 x := fun x q => by
    rw [e3, if_pos (by omega), e2, if_neg (by omega), e1, if_neg (by omega), setI_ne (by omega), setI_ne (by omega), setI_ne (by omega), setI_ne (by omega), setI_ne (by omega), setI_ne (by omega), setI_ne (by omega)]
  obtain ⟨r1, r2, r3, r4, r5⟩ := hR
  refine ⟨?_, ?_, ⟨?_, ?_, ?_, ?_, ?_, ?_, fun e he => ?_, fun k hk => ?_⟩, ⟨fun a x q => ?_, z3.trans (z2.trans z1)⟩⟩
  · rw [m134]; simp [setI_1, r1]
  · rw [m134]; simp [setI_1]
  · rw [m134]; simp [setI_1, hH]
  · rw [m134]; simp [setI_1, r1]
  · rw [m134]; simp [setI_1, r2]
  · rw [m134]; simp [setI_1, r3]
  · rw [m134]; simp [setI_1, r4]
  · rw [m134]; simp [setI_1, hB.1]
  · obtain ⟨s1, s2, s3, s4, s5, s6⟩ := r5 e he
    exact ⟨(cp 160 e (by omega) (by omega) (by omega)).trans s1, (cp 161 e (by omega) (by omega) (by omega)).trans s2, (cp 162 e (by omega) (by omega) (by omega)).trans s3, (cp 163 e (by omega) (by omega) (by omega)).trans s4, (cp 164 e (by omega) (by omega) (by omega)).trans s5, fun p hp => (ct _ (by omega)).trans (s6 p hp)⟩
  · exact (cb k (by omega)).trans (hB.2 k hk)
  · simp only [imF, Bool.or_eq_false_iff, Bool.and_eq_false_iff, beq_eq_false_iff_ne, decide_eq_false_iff_not] at q
    by_cases ha : a = 134
    · subst ha
      rw [m134, setI_nj (by omega), setI_nj (by omega), setI_nj (by omega), setI_nj (by omega), setI_nj (by omega), setI_nj (by omega), setI_nj (by omega)]
    · rw [e3, if_neg (by omega), e2, if_neg (by omega), e1, if_neg (by omega), setI_ne (by omega), setI_ne (by omega), setI_ne (by omega), setI_ne (by omega), setI_ne (by omega), setI_ne (by omega), setI_ne (by omega)]
