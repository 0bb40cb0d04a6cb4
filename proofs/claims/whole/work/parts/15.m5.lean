/-! what a supper of the reference reads -/
def supDom (a i : Nat) : Prop := (135 ≤ a ∧ a ≤ 140) ∨ (142 ≤ a ∧ a ≤ 147) ∨ (a = 134 ∧ (i ≤ 3 ∨ i = 11 ∨ i = 28 ∨ i = 29))
theorem RTb.fr {h h' : Hp} {T : Tb} {S : Nat → Nat → Bool} (H : RTb h T) (hF : Fr S h h') (hS : ∀ a i, supDom a i → S a i = false) : RTb h' T := by
  obtain ⟨h1, h2, h3, h4, h5⟩ := H
  refine ⟨by rw [hF.1 _ _ (hS _ _ (by simp [supDom]))]; exact h1, by rw [hF.1 _ _ (hS _ _ (by simp [supDom]))]; exact h2, by rw [hF.1 _ _ (hS _ _ (by simp [supDom]))]; exact h3, by rw [hF.1 _ _ (hS _ _ (by simp [supDom]))]; exact h4, fun e he => ?_⟩
  obtain ⟨q1, q2, q3, q4, q5, q6⟩ := h5 e he
  exact ⟨by rw [hF.1 _ _ (hS _ _ (by simp [supDom]))]; exact q1, by rw [hF.1 _ _ (hS _ _ (by simp [supDom]))]; exact q2, by rw [hF.1 _ _ (hS _ _ (by simp [supDom]))]; exact q3, by rw [hF.1 _ _ (hS _ _ (by simp [supDom]))]; exact q4, by rw [hF.1 _ _ (hS _ _ (by simp [supDom]))]; exact q5, fun p hp => by rw [hF.1 _ _ (hS _ _ (by simp [supDom]))]; exact q6 p hp⟩
/-- a supper's ground: table, house, what is supposed -/
def SC (h : Hp) (b : Nat) (V : Hv) (T : Tb) (told : Option Nat) (free : Bool) : Prop := RTb h T ∧ TbOK T ∧ RHs h b V ∧ RLw h told ∧ h.1 134 28 = b01 free
theorem SC.fr {h h' : Hp} {b : Nat} {V : Hv} {T : Tb} {told : Option Nat} {free : Bool} {S : Nat → Nat → Bool} (H : SC h b V T told free) (hF : Fr S h h') (hS : ∀ a i, supDom a i → S a i = false) : SC h' b V T told free := by
  obtain ⟨h1, h2, h3, h4, h5⟩ := H
  refine ⟨h1.fr hF hS, h2, h3.fr hF (fun j => ⟨hS _ _ (by simp [supDom]), hS _ _ (by simp [supDom]), hS _ _ (by simp [supDom]), hS _ _ (by simp [supDom]), hS _ _ (by simp [supDom]), hS _ _ (by simp [supDom])⟩) (hS _ _ (by simp [supDom])), ⟨by rw [hF.1 _ _ (hS _ _ (by simp [supDom]))]; exact h4.1, h4.2⟩, by rw [hF.1 _ _ (hS _ _ (by simp [supDom]))]; exact h5⟩
def supF (a i : Nat) : Bool := a == 150 || a == 152 || a == 153 || (a == 134 && i == 33)
theorem supF_dom (a i : Nat) (hd : supDom a i) : supF a i = false := by
  simp only [supDom] at hd
  simp only [supF, Bool.or_eq_false_iff, Bool.and_eq_false_iff, beq_eq_false_iff_ne]
  omega
def WhOK (h : Hp) (E : Nat) (w : Nat → Nat) : Prop := ∀ e, e < E → h.1 151 e = nI (w e) ∧ w e ≤ 9
theorem WhOK.fr {h h' : Hp} {E : Nat} {w : Nat → Nat} {S : Nat → Nat → Bool} (H : WhOK h E w) (hF : Fr S h h') (hS : ∀ j, S 151 j = false) : WhOK h' E w := fun e he => by
  rw [hF.1 _ _ (hS e)]
  exact H e he
/-- the bread goes round -/
theorem eat_loop {G : WT} {l : Launch} {h : Hp} {b : Nat} {V : Hv} {T : Tb} {told : Option Nat} {free : Bool} {w : Nat → Nat} {Q : Option Value → Hp → Prop} (C : SC h b V T told free) (hw : WhOK h (T.1 7 0) w)
    (k : ∀ g : Hp, Fr supF h g → (∀ j, j < T.1 7 0 → g.1 152 j = nI (ateS (T.1 7 1) w j)) → ∀ x1 x2 : Int32, ∀ x3 : Value, Wp G l 5 RX7 cX7_laySupper 4 none 56 [.ref (gA G 134), .int x1, .int x2, x3] [] g Q) :
    ∀ (m i : Nat) (g : Hp) (x3 : Value), i + m = T.1 7 0 → Fr supF h g → (∀ j, j < i → g.1 152 j = nI (ateS (T.1 7 1) w j)) → Wp G l 5 RX7 cX7_laySupper 4 none 7 [.ref (gA G 134), .int (nI (leftS (T.1 7 1) w i)), .int (nI i), x3] [] g Q := by
  have hE := C.2.1.1
  intro m
  induction m with
  | zero =>
    intro i g x3 hi hF hg
    have eE : g.1 134 0 = nI (T.1 7 0) := (C.fr hF supF_dom).1.1
    refine r_iload_n dX7_laySupper_7 rfl ?_
    refine r_aload_n dX7_laySupper_8 rfl ?_
    refine r_getI dX7_laySupper_9 k_X7_7 rfl (by decide) rfl ?_
    rw [eE]
    refine r_icmp_ge (tgt := 56) dX7_laySupper_12 (by decide) (fun c_12 => ?_) (fun c_12 => ?_)
    · exact k g hF (fun j hj => hg j (by omega)) _ _ _
    · exact absurd (nI_le (by omega) (by omega)) c_12
  | succ m ih =>
    intro i g x3 hi hF hg
    have eE : g.1 134 0 = nI (T.1 7 0) := (C.fr hF supF_dom).1.1
    obtain ⟨w1, w2⟩ := (hw.fr hF (fun _ => rfl)) i (by omega)
    have hl := leftS_le (T.1 7 1) w i
    have hb := C.2.1.2.1
    have n1 : ∀ z : Int32, z = nI (ateS (T.1 7 1) w i) → Wp G l 5 RX7 cX7_laySupper 4 none 7 [.ref (gA G 134), .int (nI (leftS (T.1 7 1) w i) - (setI g 152 i z).1 152 i), .int (nI (i + 1)), x3] [] (setI g 152 i z) Q := by
      intro z hz
      subst hz
      rw [setI_1, if_pos ⟨rfl, rfl⟩, pk_sub (show ateS (T.1 7 1) w i ≤ leftS (T.1 7 1) w i from Nat.min_le_right _ _)]
      exact ih (i + 1) _ x3 (by omega) (hF.tr (Fr.set rfl)) (fun j hj => by
        rw [setI_1]
        by_cases hji : j = i
        · rw [if_pos ⟨rfl, hji⟩, hji]
        · rw [if_neg (fun q => hji q.2)]; exact hg j (by omega))
    refine r_iload_n dX7_laySupper_7 rfl ?_
    refine r_aload_n dX7_laySupper_8 rfl ?_
    refine r_getI dX7_laySupper_9 k_X7_7 rfl (by decide) rfl ?_
    rw [eE]
    refine r_icmp_ge (tgt := 56) dX7_laySupper_12 (by decide) (fun c_12 => ?_) (fun c_12 => ?_)
    · exact absurd c_12 (nI_ge (by omega) (by omega))
    · refine r_aload_n dX7_laySupper_15 rfl ?_
      refine r_getR (j := 152) dX7_laySupper_16 k_X7_106 rfl (by decide) rfl rfl ?_
      refine r_iload_n dX7_laySupper_19 rfl ?_
      refine r_aload_n dX7_laySupper_20 rfl ?_
      refine r_getR (j := 151) dX7_laySupper_21 k_X7_103 rfl (by decide) rfl rfl ?_
      refine r_iload_n dX7_laySupper_24 rfl ?_
      refine r_iald (i) dX7_laySupper_25 rfl rfl (show i < 6 by omega) ?_
      rw [w1]
      refine r_iload_n dX7_laySupper_26 rfl ?_
      refine r_icmp_ge (tgt := 39) dX7_laySupper_27 (by decide) (fun c_27 => ?_) (fun c_27 => ?_)
      · have z : nI (leftS (T.1 7 1) w i) = nI (ateS (T.1 7 1) w i) := by
          rw [ateS, Nat.min_eq_right ((nI_le' (by omega) (by omega)).mp c_27)]
        refine r_iload_n dX7_laySupper_39 rfl ?_
        refine r_iast (i) dX7_laySupper_40 rfl rfl (show i < 6 by omega) ?_
        refine r_iload_n dX7_laySupper_41 rfl ?_
        refine r_aload_n dX7_laySupper_42 rfl ?_
        refine r_getR (j := 152) dX7_laySupper_43 k_X7_106 rfl (by decide) rfl rfl ?_
        refine r_iload_n dX7_laySupper_46 rfl ?_
        refine r_iald (i) dX7_laySupper_47 rfl rfl (show i < 6 by omega) ?_
        refine r_isub dX7_laySupper_48 ?_
        refine r_istore_n dX7_laySupper_49 (by decide) rfl rfl ?_
        dsimp only [List.set]
        refine r_iinc dX7_laySupper_50 rfl (by first | exact nI_inc _ | rfl) (by decide) rfl rfl ?_
        dsimp only [List.set]
        refine r_goto (tgt := 7) dX7_laySupper_53 (by decide) ?_
        exact n1 _ z
      · have z : nI (w i) = nI (ateS (T.1 7 1) w i) := by
          rw [ateS, Nat.min_eq_left (Nat.le_of_lt (Nat.not_le.mp (fun q => c_27 ((nI_le' (by omega) (by omega)).mpr q))))]
        refine r_aload_n dX7_laySupper_30 rfl ?_
        refine r_getR (j := 151) dX7_laySupper_31 k_X7_103 rfl (by decide) rfl rfl ?_
        refine r_iload_n dX7_laySupper_34 rfl ?_
        refine r_iald (i) dX7_laySupper_35 rfl rfl (show i < 6 by omega) ?_
        rw [w1]
        refine r_goto (tgt := 40) dX7_laySupper_36 (by decide) ?_
        refine r_iast (i) dX7_laySupper_40 rfl rfl (show i < 6 by omega) ?_
        refine r_iload_n dX7_laySupper_41 rfl ?_
        refine r_aload_n dX7_laySupper_42 rfl ?_
        refine r_getR (j := 152) dX7_laySupper_43 k_X7_106 rfl (by decide) rfl rfl ?_
        refine r_iload_n dX7_laySupper_46 rfl ?_
        refine r_iald (i) dX7_laySupper_47 rfl rfl (show i < 6 by omega) ?_
        refine r_isub dX7_laySupper_48 ?_
        refine r_istore_n dX7_laySupper_49 (by decide) rfl rfl ?_
        dsimp only [List.set]
        refine r_iinc dX7_laySupper_50 rfl (by first | exact nI_inc _ | rfl) (by decide) rfl rfl ?_
        dsimp only [List.set]
        refine r_goto (tgt := 7) dX7_laySupper_53 (by decide) ?_
        exact n1 _ z
/-- what the slices are worth -/
theorem worth_loop {G : WT} {l : Launch} (hG : GOK G) {h : Hp} {b : Nat} {V : Hv} {T : Tb} {told : Option Nat} {free : Bool} {i n : Nat} {z : Int} {Q : Option Value → Hp → Prop} {x1 : Int32} (hi : i < T.1 7 0) (hn : n ≤ 9)
    (k : ∀ g : Hp, Fr supF h g → SC g b V T told free → (∀ j, ¬ j = i → g.1 153 j = h.1 153 j) → (∀ j, g.1 152 j = h.1 152 j) → g.1 134 33 = h.1 134 33 → g.1 153 i = zI (z + worthTo V T i n) → ∀ x3 : Value, Wp G l 5 RX7 cX7_laySupper 4 none 137 [.ref (gA G 134), .int x1, .int (nI i), x3] [] g Q) :
    ∀ (m a : Nat) (g : Hp), a + m = n → Fr supF h g → SC g b V T told free → (∀ j, ¬ j = i → g.1 153 j = h.1 153 j) → (∀ j, g.1 152 j = h.1 152 j) → g.1 134 33 = h.1 134 33 → g.1 152 i = nI n → g.1 153 i = zI (z + worthTo V T i a) → Wp G l 5 RX7 cX7_laySupper 4 none 106 [.ref (gA G 134), .int x1, .int (nI i), .int (nI (a + 1))] [] g Q := by
  intro m
  induction m with
  | zero =>
    intro a g ha hF C h1 h2 h3 h4 h5
    have hE := C.2.1.1
    refine r_iload_n dX7_laySupper_106 rfl ?_
    refine r_aload_n dX7_laySupper_107 rfl ?_
    refine r_getR (j := 152) dX7_laySupper_108 k_X7_106 rfl (by decide) rfl rfl ?_
    refine r_iload_n dX7_laySupper_111 rfl ?_
    refine r_iald (i) dX7_laySupper_112 rfl rfl (show i < 6 by omega) ?_
    rw [h4]
    refine r_icmp_gt (tgt := 137) dX7_laySupper_113 (by decide) (fun c_113 => ?_) (fun c_113 => ?_)
    · exact k g hF C h1 h2 h3 (by rw [h5, show a = n by omega]) _
    · exact absurd (nI_lt (by omega) (by omega)) c_113
  | succ m ih =>
    intro a g ha hF C h1 h2 h3 h4 h5
    have hE := C.2.1.1
    refine r_iload_n dX7_laySupper_106 rfl ?_
    refine r_aload_n dX7_laySupper_107 rfl ?_
    refine r_getR (j := 152) dX7_laySupper_108 k_X7_106 rfl (by decide) rfl rfl ?_
    refine r_iload_n dX7_laySupper_111 rfl ?_
    refine r_iald (i) dX7_laySupper_112 rfl rfl (show i < 6 by omega) ?_
    rw [h4]
    refine r_icmp_gt (tgt := 137) dX7_laySupper_113 (by decide) (fun c_113 => ?_) (fun c_113 => ?_)
    · exact absurd c_113 (nI_nlt (by omega) (by omega))
    · refine r_aload_n dX7_laySupper_116 rfl ?_
      refine r_getR (j := 153) dX7_laySupper_117 k_X7_109 rfl (by decide) rfl rfl ?_
      refine r_iload_n dX7_laySupper_120 rfl ?_
      refine r_dup2 dX7_laySupper_121 rfl rfl ?_
      refine r_iald (i) dX7_laySupper_122 rfl rfl (show i < 6 by omega) ?_
      rw [h5]
      refine r_aload_n dX7_laySupper_123 rfl ?_
      refine r_iload_n dX7_laySupper_124 rfl ?_
      refine r_iload_n dX7_laySupper_125 rfl ?_
      refine r_callV dX7_laySupper_126 l_X7_312 o_X7_worthOf v_X7_worthOf rfl (by decide) rfl rfl (m_X7_worthOf hG C.2.2.1 (C.1.lt C.2.1 hi (show a + 1 < 1000 by omega))) (by decide) rfl (Nat.le_of_ble_eq_true rfl) (fun r126 h126 hq126 => ?_)
      obtain ⟨rfl, hF2⟩ := hq126
      refine r_iadd dX7_laySupper_129 ?_
      refine r_iast (i) dX7_laySupper_130 rfl rfl (show i < 6 by omega) ?_
      refine r_iinc dX7_laySupper_131 rfl (by first | exact nI_inc _ | rfl) (by decide) rfl rfl ?_
      dsimp only [List.set]
      refine r_goto (tgt := 106) dX7_laySupper_134 (by decide) ?_
      have e5 : zI (z + worthTo V T i a) + nI (worthS V (ltS T i (a + 1))) = zI (z + worthTo V T i (a + 1)) := by
        rw [← zI_n, zI_add]
        congr 1
        show z + (worthTo V T i a : Int) + _ = z + ((worthTo V T i a + worthS V (ltS T i (a + 1)) : Nat) : Int)
        omega
      rw [e5]
      have F3 : Fr supF g (setI h126 153 i (zI (z + worthTo V T i (a + 1)))) := (hF2.wk (fun x j q => by simp only [supF, Bool.or_eq_false_iff] at q; exact q.1.1.1)).tr (Fr.set rfl)
      refine ih (a + 1) _ (by omega) (hF.tr F3) (C.fr F3 supF_dom) (fun j hj => ?_) (fun j => ?_) ?_ ?_ ?_
      · rw [setI_1, if_neg (fun q => hj q.2), hF2.1 _ _ rfl]; exact h1 j hj
      · rw [setI_1, if_neg (fun q => by have := q.1; omega), hF2.1 _ _ rfl]; exact h2 j
      · rw [setI_1, if_neg (fun q => by have := q.1; omega), hF2.1 _ _ rfl]; exact h3
      · rw [setI_1, if_neg (fun q => by have := q.1; omega), hF2.1 _ _ rfl]; exact h4
      · rw [setI_1, if_pos ⟨rfl, rfl⟩]
/-- what each has -/
theorem hasr_loop {G : WT} {l : Launch} (hG : GOK G) {h : Hp} {b : Nat} {V : Hv} {T : Tb} {told : Option Nat} {free : Bool} {w : Nat → Nat} {bk : Nat} {Q : Option Value → Hp → Prop} (h9 : ∀ j, j < T.1 7 0 → w j ≤ 9)
    (k : ∀ g : Hp, Fr supF h g → (∀ j, j < T.1 7 0 → g.1 152 j = nI (ateS (T.1 7 1) w j)) → g.1 134 33 = bkI (T.1 7 0) bk → (∀ j, j < T.1 7 0 → g.1 153 j = zI (hasS V T free (ateS (T.1 7 1) w) bk j)) → Q none g) :
    ∀ (m i : Nat) (g : Hp) (x1 : Int32) (x3 : Value), i + m = T.1 7 0 → Fr supF h g → SC g b V T told free → (∀ j, j < T.1 7 0 → g.1 152 j = nI (ateS (T.1 7 1) w j)) → g.1 134 33 = bkI (T.1 7 0) bk → bk < 1000 → (∀ j, j < i → g.1 153 j = zI (hasS V T free (ateS (T.1 7 1) w) bk j)) → Wp G l 5 RX7 cX7_laySupper 4 none 66 [.ref (gA G 134), .int x1, .int (nI i), x3] [] g Q := by
  intro m
  induction m with
  | zero =>
    intro i g x1 x3 hi hF C h1 h2 hbk h3
    have hE := C.2.1.1
    refine r_iload_n dX7_laySupper_66 rfl ?_
    refine r_aload_n dX7_laySupper_67 rfl ?_
    refine r_getI dX7_laySupper_68 k_X7_7 rfl (by decide) rfl ?_
    rw [C.1.1]
    refine r_icmp_ge (tgt := 143) dX7_laySupper_71 (by decide) (fun c_71 => ?_) (fun c_71 => ?_)
    · refine r_return dX7_laySupper_143 rfl ?_
      exact k g hF h1 h2 (fun j hj => h3 j (by omega))
    · exact absurd (nI_le (by omega) (by omega)) c_71
  | succ m ih =>
    intro i g x1 x3 hi hF C h1 h2 hbk h3
    have hE := C.2.1.1
    have a1 := h1 i (by omega)
    have a2 : ateS (T.1 7 1) w i ≤ 9 := Nat.le_trans (ateS_le _ _ _) (h9 i (by omega))
    have hb2 : bkI (T.1 7 0) bk = nI bk := by rw [bkI, if_neg (by omega)]
    have fin : ∀ (g2 : Hp) (z : Int), Fr supF g g2 → (∀ j, j < i → g2.1 153 j = g.1 153 j) → (∀ j, g2.1 152 j = g.1 152 j) → g2.1 134 33 = g.1 134 33 → g2.1 153 i = zI z → z = -(if i = bk ∧ free = false then (costS V (ltS T i (ateS (T.1 7 1) w i)) : Int) else 0) → ∀ x1, Wp G l 5 RX7 cX7_laySupper 4 none 106 [.ref (gA G 134), .int x1, .int (nI i), .int 1] [] g2 Q := by
      intro g2 z hF2 e1 e2 e3 e4 hz x1
      refine worth_loop hG (h := g2) (z := z) (n := ateS (T.1 7 1) w i) (by omega) a2 (fun g3 q1 q2 q3 q4 q5 q6 y3 => ?_) (ateS (T.1 7 1) w i) 0 g2 (by omega) Fr.rf (C.fr hF2 supF_dom) (fun _ _ => rfl) (fun _ => rfl) rfl (by rw [e2]; exact a1) (by rw [e4]; congr 1; show z = z + ((0 : Nat) : Int); omega)
      refine r_iinc dX7_laySupper_137 rfl (by first | exact nI_inc _ | rfl) (by decide) rfl rfl ?_
      dsimp only [List.set]
      refine r_goto (tgt := 66) dX7_laySupper_140 (by decide) ?_
      refine ih (i + 1) g3 _ _ (by omega) ((hF.tr hF2).tr q1) q2 (fun j hj => by rw [q4, e2]; exact h1 j hj) (by rw [q5, e3]; exact h2) hbk (fun j hj => ?_)
      by_cases hji : j = i
      · rw [hji, q6, hz, hasS]
        congr 1
        omega
      · rw [q3 j hji, e1 j (by omega)]
        exact h3 j (by omega)
    refine r_iload_n dX7_laySupper_66 rfl ?_
    refine r_aload_n dX7_laySupper_67 rfl ?_
    refine r_getI dX7_laySupper_68 k_X7_7 rfl (by decide) rfl ?_
    rw [C.1.1]
    refine r_icmp_ge (tgt := 143) dX7_laySupper_71 (by decide) (fun c_71 => ?_) (fun c_71 => ?_)
    · exact absurd c_71 (nI_ge (by omega) (by omega))
    · refine r_aload_n dX7_laySupper_74 rfl ?_
      refine r_getR (j := 153) dX7_laySupper_75 k_X7_109 rfl (by decide) rfl rfl ?_
      refine r_iload_n dX7_laySupper_78 rfl ?_
      refine r_iload_n dX7_laySupper_79 rfl ?_
      refine r_aload_n dX7_laySupper_80 rfl ?_
      refine r_getI dX7_laySupper_81 k_X7_112 rfl (by decide) rfl ?_
      rw [h2, hb2]
      refine r_icmp_ne (tgt := 102) dX7_laySupper_84 (by decide) (fun c_84 => ?_) (fun c_84 => ?_)
      · have y : ¬ i = bk := fun q => c_84 (by rw [q])
        refine r_iconst (v := 0) dX7_laySupper_102 (by decide) ?_
        refine r_iast (i) dX7_laySupper_103 rfl rfl (show i < 6 by omega) ?_
        refine r_iconst (v := 1) dX7_laySupper_104 (by decide) ?_
        refine r_istore_n dX7_laySupper_105 (by decide) rfl rfl ?_
        dsimp only [List.set]
        refine fin (setI g 153 i 0) 0 (Fr.set rfl) (fun j hj => ?_) (fun j => ?_) ?_ (by rw [setI_1, if_pos ⟨rfl, rfl⟩]; rfl) ?_ _
        · rw [setI_1, if_neg (fun q => by have := q.2; omega)]
        · rw [setI_1, if_neg (fun q => by have := q.1; omega)]
        · rw [setI_1, if_neg (fun q => by have := q.1; omega)]
        · rw [if_neg (fun q => y q.1)]; rfl
      · have y : i = bk := (nI_eq' (by omega) (by omega)).mp c_84
        refine r_aload_n dX7_laySupper_87 rfl ?_
        refine r_iload_n dX7_laySupper_88 rfl ?_
        refine r_aload_n dX7_laySupper_89 rfl ?_
        refine r_getR (j := 152) dX7_laySupper_90 k_X7_106 rfl (by decide) rfl rfl ?_
        refine r_iload_n dX7_laySupper_93 rfl ?_
        refine r_iald (i) dX7_laySupper_94 rfl rfl (show i < 6 by omega) ?_
        rw [a1]
        refine r_callV dX7_laySupper_95 l_X7_309 o_X7_costOf v_X7_costOf rfl (by decide) rfl rfl (m_X7_costOf hG C.2.2.2.2 C.2.2.1 (C.1.lt C.2.1 (show i < T.1 7 0 by omega) (show ateS (T.1 7 1) w i < 1000 by omega))) (by decide) rfl (Nat.le_of_ble_eq_true rfl) (fun r95 h95 hq95 => ?_)
        obtain ⟨rfl, hF2⟩ := hq95
        refine r_ineg dX7_laySupper_98 ?_
        refine r_goto (tgt := 103) dX7_laySupper_99 (by decide) ?_
        refine r_iast (i) dX7_laySupper_103 rfl rfl (show i < 6 by omega) ?_
        refine r_iconst (v := 1) dX7_laySupper_104 (by decide) ?_
        refine r_istore_n dX7_laySupper_105 (by decide) rfl rfl ?_
        dsimp only [List.set]
        have F3 : Fr supF g (setI h95 153 i (zI (-((if free = true then 0 else costS V (ltS T i (ateS (T.1 7 1) w i)) : Nat) : Int)))) := (hF2.wk (fun x j q => by simp only [supF, Bool.or_eq_false_iff] at q; exact q.1.1.1)).tr (Fr.set rfl)
        have ez : -nI (if free = true then 0 else costS V (ltS T i (ateS (T.1 7 1) w i))) = zI (-((if free = true then 0 else costS V (ltS T i (ateS (T.1 7 1) w i)) : Nat) : Int)) := by rw [← zI_n, zI_neg]
        rw [ez]
        refine fin _ _ F3 (fun j hj => ?_) (fun j => ?_) ?_ (by rw [setI_1, if_pos ⟨rfl, rfl⟩]) ?_ _
        · rw [setI_1, if_neg (fun q => by have := q.2; omega), hF2.1 _ _ rfl]
        · rw [setI_1, if_neg (fun q => by have := q.1; omega), hF2.1 _ _ rfl]
        · rw [setI_1, if_neg (fun q => by have := q.1; omega), hF2.1 _ _ rfl]
        · cases free
          · simp [y]
          · simp
def bkE (V : Hv) (told : Option Nat) (T : Tb) (w : Nat → Nat) : Nat := bakeS (lawE V told) (prtS V (ateS (T.1 7 1) w)) (T.1 7 0)
theorem bkE_lt {V : Hv} {told : Option Nat} {T : Tb} {w : Nat → Nat} (hE : T.1 7 0 ≤ 5) : bkE V told T w < 1000 := by
  by_cases h0 : 0 < T.1 7 0
  · have := bakeS_lt (law := lawE V told) (p := prtS V (ateS (T.1 7 1) w)) h0
    show bakeS _ _ _ < _
    omega
  · have e : T.1 7 0 = 0 := by omega
    rw [bkE, e, bakeS]
    split
    · exact Nat.zero_lt_succ _
    · exact Nat.zero_lt_succ _
set_option maxRecDepth 100000 in
theorem m_X7_laySupper {G : WT} {l : Launch} (hG : GOK G) {h : Hp} {b : Nat} {V : Hv} {T : Tb} {told : Option Nat} {free : Bool} {w : Nat → Nat} (C : SC h b V T told free) (hw : WhOK h (T.1 7 0) w) : Cl G l 5 yX7_laySupper cX7_laySupper 4 none [.ref (gA G 134)] h (fun r h' => r = none ∧ Fr supF h h' ∧ (∀ j, j < T.1 7 0 → h'.1 152 j = nI (ateS (T.1 7 1) w j)) ∧ h'.1 134 33 = bkI (T.1 7 0) (bkE V told T w) ∧ ∀ j, j < T.1 7 0 → h'.1 153 j = zI (hasS V T free (ateS (T.1 7 1) w) (bkE V told T w) j)) := by
  refine Cl.of hG (by decide) (Nat.le_of_ble_eq_true rfl) ?_
  show Wp G l 5 RX7 cX7_laySupper 4 none 0 [.ref (gA G 134), mk0, mk0, mk0] [] h _
  have hE := C.2.1.1
  have eS := C.1.2.1
  have k2 : ∀ g : Hp, Fr supF h g → (∀ j, j < T.1 7 0 → g.1 152 j = nI (ateS (T.1 7 1) w j)) → ∀ x1 x2 : Int32, ∀ x3 : Value, Wp G l 5 RX7 cX7_laySupper 4 none 56 [.ref (gA G 134), .int x1, .int x2, x3] [] g (fun r h' => r = none ∧ Fr supF h h' ∧ (∀ j, j < T.1 7 0 → h'.1 152 j = nI (ateS (T.1 7 1) w j)) ∧ h'.1 134 33 = bkI (T.1 7 0) (bkE V told T w) ∧ ∀ j, j < T.1 7 0 → h'.1 153 j = zI (hasS V T free (ateS (T.1 7 1) w) (bkE V told T w) j)) := by
    intro g hF he x1 x2 x3
    have C2 := C.fr hF supF_dom
    refine r_aload_n dX7_laySupper_56 rfl ?_
    refine r_aload_n dX7_laySupper_57 rfl ?_
    refine r_callV dX7_laySupper_58 l_X7_306 o_X7_bakerNow v_X7_bakerNow rfl (by decide) rfl rfl (m_X7_bakerNow hG hE C2.1.1 C2.2.2.1 C2.2.2.2.1 (ate := ateS (T.1 7 1) w) (fun e he2 => ⟨he e he2, Nat.le_trans (ateS_le _ _ _) (hw e he2).2⟩)) (by decide) rfl (Nat.le_of_ble_eq_true rfl) (fun r58 h58 hq58 => ?_)
    obtain ⟨rfl, e58⟩ := hq58
    rw [e58]
    clear e58 h58
    refine r_putI dX7_laySupper_61 k_X7_112 rfl (by decide) rfl rfl rfl rfl ?_
    refine r_iconst (v := 0) dX7_laySupper_64 (by decide) ?_
    refine r_istore_n dX7_laySupper_65 (by decide) rfl rfl ?_
    dsimp only [List.set]
    have F3 : Fr supF g (setI g 134 33 (bkI (T.1 7 0) (bkE V told T w))) := Fr.set rfl
    refine hasr_loop hG (h := h) (w := w) (bk := bkE V told T w) (fun j hj => (hw j hj).2) (fun g2 q1 q2 q3 q4 => ⟨rfl, q1, q2, q3, q4⟩) (T.1 7 0) 0 _ _ _ (by omega) (hF.tr F3) (C2.fr F3 supF_dom) (fun j hj => ?_) ?_ (bkE_lt hE) (fun j hj => absurd hj (by omega))
    · rw [setI_1, if_neg (fun q => by have := q.1; omega)]; exact he j hj
    · rw [setI_1, if_pos ⟨rfl, rfl⟩]; rfl
  refine r_aload_n dX7_laySupper_0 rfl ?_
  refine r_getI dX7_laySupper_1 k_X7_13 rfl (by decide) rfl ?_
  rw [eS]
  refine r_istore_n dX7_laySupper_4 (by decide) rfl rfl ?_
  dsimp only [List.set]
  refine r_iconst (v := 0) dX7_laySupper_5 (by decide) ?_
  refine r_istore_n dX7_laySupper_6 (by decide) rfl rfl ?_
  dsimp only [List.set]
  exact eat_loop C hw k2 (T.1 7 0) 0 h _ (by omega) Fr.rf (fun j hj => absurd hj (by omega))
