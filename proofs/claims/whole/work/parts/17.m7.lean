/-! one supper of the reference -/
def RPc (h : Hp) (E : Nat) (pact : Option (Nat × Nat)) : Prop := match pact with
  | none => h.1 134 35 = -1
  | some (a, b) => h.1 134 35 = nI a ∧ h.1 134 36 = nI b ∧ a < E ∧ b < E ∧ a ≠ b
def goF (a i : Nat) : Bool := wshF a i || a == 138 || a == 139 || a == 155 || (a == 134 && (i == 1 || i == 2 || i == 3))
theorem wshF_go {h h' : Hp} (H : Fr wshF h h') : Fr goF h h' := H.wk (fun x i q => by simp only [goF, Bool.or_eq_false_iff] at q; exact q.1.1.1.1)
theorem supF_go {h h' : Hp} (H : Fr supF h h') : Fr goF h h' := wshF_go (bestF_wsh (supF_best H))
/-- what goSupper leaves alone: all but table and scratch -/
def keepDom (a i : Nat) : Prop := (142 ≤ a ∧ a ≤ 147) ∨ (a = 134 ∧ (i = 0 ∨ i = 11 ∨ i = 28 ∨ i = 29 ∨ i = 35 ∨ i = 36)) ∨ a = 135 ∨ a = 136 ∨ a = 137 ∨ a = 140
theorem goF_dom (a i : Nat) (hd : keepDom a i) : goF a i = false := by
  simp only [keepDom] at hd
  simp only [goF, wshF, bestF, supF, Bool.or_eq_false_iff, Bool.and_eq_false_iff, beq_eq_false_iff_ne]
  omega
theorem left_sum (bin : Nat) (w : Nat → Nat) : ∀ n, leftS bin w n + sumTo (ateS bin w) n = bin := by
  intro n
  induction n with
  | zero => rfl
  | succ n ih =>
    show leftS bin w n - min (w n) (leftS bin w n) + (sumTo (ateS bin w) n + ateS bin w n) = bin
    have : ateS bin w n = min (w n) (leftS bin w n) := rfl
    have h2 := Nat.min_le_right (w n) (leftS bin w n)
    omega
theorem least99 {x : Nat} (hx : x < 1000000) : (if (99 : Int32) < nI x then (99 : Int32) else nI x) = nI (min 99 x) := by
  show (if nI 99 < nI x then nI 99 else nI x) = _
  by_cases h : 99 < x
  · rw [if_pos ((nI_lt' (a := 99) (by omega) (by omega)).mpr h), Nat.min_eq_left (by omega)]
  · rw [if_neg (fun q => h ((nI_lt' (a := 99) (by omega) (by omega)).mp q)), Nat.min_eq_right (by omega)]
theorem wishP_le {V : Hv} {P : Sup} {T : Tb} (hT : TbOK T) (e : Nat) : wishP V P T e ≤ 9 := by
  unfold wishP
  split
  · split
    · split <;> omega
    · split
      · split <;> omega
      · exact wishS_le hT e
  · exact wishS_le hT e
theorem bkE_eq {V : Hv} {told : Option Nat} {free : Bool} {pact : Option (Nat × Nat)} {T : Tb} {w : Nat → Nat} : bkE V told T w = bkS V (supE V told free pact) T w := rfl
theorem supS_ok {V : Hv} {P : Sup} {T : Tb} (hT : TbOK T) (hd : T.1 7 2 + 1 < 100000) : TbOK (supS V P T) := by
  unfold supS
  split
  · exact hT
  · rename_i hE
    obtain ⟨t1, t2, t3, t4, t5, t6, t7, t8, t9⟩ := hT
    have hb := bakeS_lt (law := P.1) (p := prtS V (ateS (T.1 7 1) (wishP V P T))) (E := T.1 7 0) (by omega)
    refine ⟨t1, Nat.min_le_left _ _, hd, by show bkS V P T (wishP V P T) + 1 ≤ T.1 7 0; unfold bkS; omega, t5, t6, fun e => ⟨(t7 e).1, (t7 e).2.1, (t7 e).2.2.1, ?_⟩, t8, t9⟩
    show (if e < T.1 7 0 then ateS (T.1 7 1) (wishP V P T) e else T.1 3 e) ≤ 9
    split
    · exact Nat.le_trans (ateS_le _ _ _) (wishP_le ⟨t1, t2, t3, t4, t5, t6, t7, t8, t9⟩ e)
    · exact (t7 e).2.2.2
/-- the last loop: eaten, glad -/
theorem go_loop {G : WT} {l : Launch} (hG : GOK G) {h : Hp} {E bin loaf day : Nat} {w : Nat → Nat} {hz : Nat → Int} {bb : Nat} {V : Hv} {Q : Option Value → Hp → Prop} (hE : E ≤ 5) (hbin : bin ≤ 99) (hday : day + 1 < 100000) (h0 : h.1 134 0 = nI E) (h1 : h.1 134 1 = nI bin) (h2 : h.1 134 2 = nI day) (hA : ∀ j, j < E → h.1 152 j = nI (ateS bin w j)) (hH : ∀ j, j < E → h.1 153 j = zI (hz j)) (hV : RHs h bb V) (hloaf : loaf = loafS V)
    (k : ∀ g : Hp, (∀ a i, ¬ a = 138 → ¬ a = 139 → ¬ (a = 134 ∧ (i = 1 ∨ i = 2)) → g.1 a i = h.1 a i) → g.2 = h.2 → (∀ j, j < E → g.1 138 j = nI (ateS bin w j) ∧ g.1 139 j = h.1 139 j + zI (hz j)) → g.1 134 1 = nI (min 99 (leftS bin w E + loaf)) → g.1 134 2 = nI (day + 1) → Q none g) :
    ∀ (m i : Nat) (g : Hp), i + m = E → (∀ a i, ¬ a = 138 → ¬ a = 139 → g.1 a i = h.1 a i) → g.2 = h.2 → (∀ j, j < i → g.1 138 j = nI (ateS bin w j) ∧ g.1 139 j = h.1 139 j + zI (hz j)) → (∀ j, i ≤ j → g.1 139 j = h.1 139 j) → Wp G l 9 RX7 cX7_goSupper 3 none 93 [.ref (gA G 134), .int (nI (sumTo (ateS bin w) i)), .int (nI i)] [] g Q := by
  intro m
  induction m with
  | zero =>
    intro i g hi hF hF2 hD hR
    have hF3 : Fr (fun a _ => a == 138 || a == 139) h g := ⟨fun a i q => by simp only [Bool.or_eq_false_iff, beq_eq_false_iff_ne] at q; exact hF a i q.1 q.2, hF2⟩
    have hV2 : RHs g bb V := hV.fr hF3 (fun j => ⟨rfl, rfl, rfl, rfl, rfl, rfl⟩) rfl
    have hl := lastS_le hV2.2.1 2 (d := 8) (by omega)
    have hls := left_sum bin w E
    have hsb : nI bin - nI (sumTo (ateS bin w) E) = nI (leftS bin w E) := by
      rw [pk_sub (by omega)]
      congr 1
      omega
    have hle := leftS_le bin w E
    obtain rfl : i = E := by omega
    refine r_iload_n dX7_goSupper_93 rfl ?_
    refine r_aload_n dX7_goSupper_94 rfl ?_
    refine r_getI dX7_goSupper_95 k_X7_7 rfl (by decide) rfl ?_
    rw [hF _ _ (by decide) (by decide), h0]
    refine r_icmp_ge (tgt := 143) dX7_goSupper_98 (by decide) (fun c_98 => ?_) (fun c_98 => ?_)
    · refine r_aload_n dX7_goSupper_143 rfl ?_
      refine r_aload_n dX7_goSupper_144 rfl ?_
      refine r_bipush (v := 99) dX7_goSupper_145 (by decide) ?_
      refine r_aload_n dX7_goSupper_147 rfl ?_
      refine r_getI dX7_goSupper_148 k_X7_13 rfl (by decide) rfl ?_
      rw [hF _ _ (by decide) (by decide), h1]
      refine r_iload_n dX7_goSupper_151 rfl ?_
      refine r_isub dX7_goSupper_152 ?_
      rw [hsb]
      refine r_aload_n dX7_goSupper_153 rfl ?_
      refine r_iconst (v := 2) dX7_goSupper_154 (by decide) ?_
      refine r_bipush (v := 8) dX7_goSupper_155 (by decide) ?_
      refine r_callV dX7_goSupper_157 l_X7_293 o_X7_lastOf v_X7_lastOf rfl (by decide) rfl rfl (m_X7_lastOf hG (w := 2) (d0 := 8) (by decide) hV2) (by decide) rfl (Nat.le_of_ble_eq_true rfl) (fun r157 h157 hq157 => ?_)
      obtain ⟨rfl, e157⟩ := hq157
      rw [e157]
      clear e157 h157
      refine r_iadd dX7_goSupper_160 ?_
      rw [nI_add]
      refine r_callV dX7_goSupper_161 l_X7_315 o_X7_least v_X7_least rfl (by decide) rfl rfl (m_X7_least hG) (by decide) rfl (Nat.le_of_ble_eq_true rfl) (fun r161 h161 hq161 => ?_)
      obtain ⟨rfl, e161⟩ := hq161
      rw [e161]
      clear e161 h161
      rw [least99 (by omega)]
      refine r_putI dX7_goSupper_164 k_X7_13 rfl (by decide) rfl rfl rfl rfl ?_
      refine r_aload_n dX7_goSupper_167 rfl ?_
      refine r_dup dX7_goSupper_168 rfl ?_
      refine r_getI dX7_goSupper_169 k_X7_16 rfl (by decide) rfl ?_
      rw [setI_1, if_neg (by decide), hF _ _ (by decide) (by decide), h2]
      refine r_iconst (v := 1) dX7_goSupper_172 (by decide) ?_
      refine r_iadd dX7_goSupper_173 ?_
      rw [nI_1]
      refine r_putI dX7_goSupper_174 k_X7_16 rfl (by decide) rfl rfl rfl rfl ?_
      refine r_return dX7_goSupper_177 rfl ?_
      refine k _ (fun a j q1 q2 q3 => ?_) hF2 (fun j hj => ?_) ?_ ?_
      · rw [setI_1, if_neg (fun q => q3 ⟨q.1, Or.inr q.2⟩), setI_1, if_neg (fun q => q3 ⟨q.1, Or.inl q.2⟩)]; exact hF a j q1 q2
      · rw [setI_1, if_neg (fun q => by have := q.1; omega), setI_1, if_neg (fun q => by have := q.1; omega), setI_1, if_neg (fun q => by have := q.1; omega), setI_1, if_neg (fun q => by have := q.1; omega)]; exact hD j hj
      · rw [setI_1, if_neg (by decide), setI_1, if_pos ⟨rfl, rfl⟩, hloaf]; rfl
      · rw [setI_1, if_pos ⟨rfl, rfl⟩]
    · exact absurd (Int32.le_refl _) c_98
  | succ m ih =>
    intro i g hi hF hF2 hD hR
    refine r_iload_n dX7_goSupper_93 rfl ?_
    refine r_aload_n dX7_goSupper_94 rfl ?_
    refine r_getI dX7_goSupper_95 k_X7_7 rfl (by decide) rfl ?_
    rw [hF _ _ (by decide) (by decide), h0]
    refine r_icmp_ge (tgt := 143) dX7_goSupper_98 (by decide) (fun c_98 => ?_) (fun c_98 => ?_)
    · exact absurd c_98 (nI_ge (by omega) (by omega))
    · refine r_aload_n dX7_goSupper_101 rfl ?_
      refine r_getR (j := 138) dX7_goSupper_102 k_X7_32 rfl (by decide) rfl rfl ?_
      refine r_iload_n dX7_goSupper_105 rfl ?_
      refine r_aload_n dX7_goSupper_106 rfl ?_
      refine r_getR (j := 152) dX7_goSupper_107 k_X7_106 rfl (by decide) rfl rfl ?_
      refine r_iload_n dX7_goSupper_110 rfl ?_
      refine r_iald (i) dX7_goSupper_111 rfl rfl (show i < 6 by omega) ?_
      rw [hF _ _ (by decide) (by decide), hA i (by omega)]
      refine r_iast (i) dX7_goSupper_112 rfl rfl (show i < 6 by omega) ?_
      refine r_aload_n dX7_goSupper_113 rfl ?_
      refine r_getR (j := 139) dX7_goSupper_114 k_X7_35 rfl (by decide) rfl rfl ?_
      refine r_iload_n dX7_goSupper_117 rfl ?_
      refine r_dup2 dX7_goSupper_118 rfl rfl ?_
      refine r_iald (i) dX7_goSupper_119 rfl rfl (show i < 6 by omega) ?_
      rw [setI_ne (by decide), hR i (Nat.le_refl _)]
      refine r_aload_n dX7_goSupper_120 rfl ?_
      refine r_getR (j := 153) dX7_goSupper_121 k_X7_109 rfl (by decide) rfl rfl ?_
      refine r_iload_n dX7_goSupper_124 rfl ?_
      refine r_iald (i) dX7_goSupper_125 rfl rfl (show i < 6 by omega) ?_
      rw [setI_ne (by decide), hF _ _ (by decide) (by decide), hH i (by omega)]
      refine r_iadd dX7_goSupper_126 ?_
      refine r_iast (i) dX7_goSupper_127 rfl rfl (show i < 6 by omega) ?_
      refine r_iload_n dX7_goSupper_128 rfl ?_
      refine r_aload_n dX7_goSupper_129 rfl ?_
      refine r_getR (j := 152) dX7_goSupper_130 k_X7_106 rfl (by decide) rfl rfl ?_
      refine r_iload_n dX7_goSupper_133 rfl ?_
      refine r_iald (i) dX7_goSupper_134 rfl rfl (show i < 6 by omega) ?_
      rw [setI_ne (by decide), setI_ne (by decide), hF _ _ (by decide) (by decide), hA i (by omega)]
      refine r_iadd dX7_goSupper_135 ?_
      rw [nI_add]
      refine r_istore_n dX7_goSupper_136 (by decide) rfl rfl ?_
      dsimp only [List.set]
      refine r_iinc dX7_goSupper_137 rfl (by first | exact nI_inc _ | rfl) (by decide) rfl rfl ?_
      dsimp only [List.set]
      refine r_goto (tgt := 93) dX7_goSupper_140 (by decide) ?_
      refine ih (i + 1) _ (by omega) (fun a j q1 q2 => ?_) hF2 (fun j hj => ?_) (fun j hj => ?_)
      · rw [setI_1, if_neg (fun q => q2 q.1), setI_1, if_neg (fun q => q1 q.1)]; exact hF a j q1 q2
      · rw [setI_ne (by decide), setI_1, setI_1]
        by_cases hji : j = i
        · rw [if_pos ⟨rfl, hji⟩, if_pos ⟨rfl, hji⟩, hji]; exact ⟨rfl, rfl⟩
        · rw [if_neg (fun q => hji q.2), if_neg (fun q => hji q.2), setI_ne (by decide)]; exact hD j (by omega)
      · rw [setI_1, if_neg (fun q => by have := q.2; omega), setI_ne (by decide)]; exact hR j (by omega)
theorem SC.RP {h h' : Hp} {E : Nat} {pact : Option (Nat × Nat)} {S : Nat → Nat → Bool} (H : RPc h E pact) (hF : Fr S h h') (h1 : S 134 35 = false) (h2 : S 134 36 = false) : RPc h' E pact := by
  unfold RPc at *
  cases pact with
  | none => dsimp only at *; rw [hF.1 _ _ h1]; exact H
  | some ab =>
    dsimp only at *
    rw [hF.1 _ _ h1, hF.1 _ _ h2]
    exact H
/-- what goSupper leaves -/
def GoPost (h h' : Hp) (V : Hv) (P : Sup) (T : Tb) : Prop := RTb h' (supS V P T) ∧ Fr goF h h' ∧ ∀ i, h'.1 155 i = h.1 155 i + (if 0 < T.1 7 0 ∧ i = bkS V P T (wishP V P T) then 1 else 0)
theorem go_end {G : WT} {l : Launch} (hG : GOK G) {h : Hp} {b : Nat} {V : Hv} {T : Tb} {told : Option Nat} {free : Bool} {pact : Option (Nat × Nat)} (hday : T.1 7 2 + 1 < 100000) (hE0 : 0 < T.1 7 0) {g : Hp} (C : SC h b V T told free) (hF : Fr wshF h g) (hW : WhOK g (T.1 7 0) (wishP V (supE V told free pact) T)) : ∀ x1 x2 : Value, Wp G l 9 RX7 cX7_goSupper 3 none 64 [.ref (gA G 134), x1, x2] [] g (fun r h' => r = none ∧ GoPost h h' V (supE V told free pact) T) := by
  intro x1 x2
  have C2 := C.fr hF wshF_dom
  have hE := C.2.1.1
  obtain ⟨P, hP⟩ : ∃ P, P = supE V told free pact := ⟨_, rfl⟩
  obtain ⟨W, hWd⟩ : ∃ W, W = wishP V P T := ⟨_, rfl⟩
  obtain ⟨bk, hbk⟩ : ∃ bk, bk = bkS V P T W := ⟨_, rfl⟩
  have hbl : bk < T.1 7 0 := by rw [hbk]; exact bakeS_lt hE0
  have ebk : bkI (T.1 7 0) (bkE V told T W) = nI bk := by rw [bkE_eq (free := free) (pact := pact), ← hP, ← hbk, bkI, if_neg (by omega)]
  rw [← hP] at hW ⊢
  rw [← hWd] at hW
  have supW : supS V P T = supC V P T W := by rw [supS, if_neg (by omega), ← hWd]
  refine r_aload_n dX7_goSupper_64 rfl ?_
  refine r_callV dX7_goSupper_65 l_X7_324 o_X7_laySupper v_X7_laySupper rfl (by decide) rfl rfl (m_X7_laySupper hG C2 hW) (by decide) rfl (Nat.le_of_ble_eq_true rfl) (fun r65 h65 hq65 => ?_)
  obtain ⟨rfl, hF3, hA3, hB3, hH3⟩ := hq65
  refine r_aload_n dX7_goSupper_68 rfl ?_
  refine r_aload_n dX7_goSupper_69 rfl ?_
  refine r_getI dX7_goSupper_70 k_X7_112 rfl (by decide) rfl ?_
  rw [hB3, ebk]
  refine r_putI dX7_goSupper_73 k_X7_19 rfl (by decide) rfl rfl rfl rfl ?_
  refine r_aload_n dX7_goSupper_76 rfl ?_
  refine r_getR (j := 155) dX7_goSupper_77 k_X7_124 rfl (by decide) rfl rfl ?_
  refine r_aload_n dX7_goSupper_80 rfl ?_
  refine r_getI dX7_goSupper_81 k_X7_19 rfl (by decide) rfl ?_
  refine r_dup2 dX7_goSupper_84 rfl rfl ?_
  refine r_iald (bk) dX7_goSupper_85 rfl setI_at (show bk < 6 by omega) ?_
  refine r_iconst (v := 1) dX7_goSupper_86 (by decide) ?_
  refine r_iadd dX7_goSupper_87 ?_
  refine r_iast (bk) dX7_goSupper_88 rfl setI_at (show bk < 6 by omega) ?_
  refine r_iconst (v := 0) dX7_goSupper_89 (by decide) ?_
  refine r_istore_n dX7_goSupper_90 (by decide) rfl rfl ?_
  dsimp only [List.set]
  refine r_iconst (v := 0) dX7_goSupper_91 (by decide) ?_
  refine r_istore_n dX7_goSupper_92 (by decide) rfl rfl ?_
  dsimp only [List.set]
  have hFF := (wshF_go hF).tr (supF_go hF3)
  have C3 := C2.fr hF3 supF_dom
  refine go_loop hG (h := setI (setI h65 134 3 (nI bk)) 155 bk (_)) (E := T.1 7 0) (bin := T.1 7 1) (loaf := loafS V) (day := T.1 7 2) (w := W) (hz := hasW V P T W) (V := V) (bb := b) hE C.2.1.2.1 hday ?_ ?_ ?_ ?_ ?_ ?_ rfl ?_ (T.1 7 0) 0 _ (by omega) (fun _ _ _ _ => rfl) rfl (fun j hj => absurd hj (by omega)) (fun _ _ => rfl)
  · rw [setI_ne (by decide), setI_nj (by decide)]; exact C3.1.1
  · rw [setI_ne (by decide), setI_nj (by decide)]; exact C3.1.2.1
  · rw [setI_ne (by decide), setI_nj (by decide)]; exact C3.1.2.2.1
  · intro j hj
    rw [setI_ne (by decide), setI_ne (by decide)]; exact hA3 j hj
  · intro j hj
    rw [setI_ne (by decide), setI_ne (by decide), hH3 j hj, hP]; rfl
  · have F9 : Fr goF h65 (setI (setI h65 134 3 (nI bk)) 155 bk ((setI h65 134 3 (nI bk)).1 155 bk + 1)) := (Fr.set rfl).tr (Fr.set rfl)
    exact C3.2.2.1.fr F9 (fun j => ⟨rfl, rfl, rfl, rfl, rfl, rfl⟩) rfl
  · intro g9 k1 k2 k3 k4 k5
    have base : ∀ a i, keepDom a i → g9.1 a i = h.1 a i := by
      intro a i hk
      have hz := goF_dom a i hk
      simp only [keepDom] at hk
      rw [k1 a i (by omega) (by omega) (by omega), setI_ne (by omega), setI_1, if_neg (by omega)]
      exact hFF.1 a i hz
    refine ⟨rfl, ?_, ⟨fun a i hz => ?_, k2.trans (hFF.2)⟩, fun i => ?_⟩
    · rw [supW]
      obtain ⟨r1, r2, r3, r4, r5⟩ := C.1
      refine ⟨by rw [base _ _ (by simp [keepDom])]; exact r1, k4, k5, ?_, fun e he => ?_⟩
      · rw [k1 _ _ (by decide) (by decide) (by decide), setI_ne (by decide), setI_at]
        rw [hbk]
        exact (nI_pred _).symm
      · have he2 : e < T.1 7 0 := he
        obtain ⟨s1, s2, s3, s4, s5, s6⟩ := r5 e he2
        refine ⟨by rw [base _ _ (by simp [keepDom])]; exact s1, by rw [base _ _ (by simp [keepDom])]; exact s2, by rw [base _ _ (by simp [keepDom])]; exact s3, ?_, ?_, fun p hp => by rw [base _ _ (by simp [keepDom])]; exact s6 p hp⟩
        · show g9.1 138 e = nI (if e < T.1 7 0 then ateS (T.1 7 1) W e else T.1 3 e)
          rw [if_pos he2, (k3 e he2).1]
        · show g9.1 139 e = (if e < T.1 7 0 then T.2 e + zI (hasW V P T W e) else T.2 e)
          rw [if_pos he2, (k3 e he2).2, setI_ne (by decide), setI_ne (by decide), hF3.1 _ _ rfl, hF.1 _ _ rfl, s5]
    · simp only [goF, Bool.or_eq_false_iff, Bool.and_eq_false_iff, beq_eq_false_iff_ne] at hz
      obtain ⟨⟨⟨⟨z1, z2⟩, z3⟩, z4⟩, z5⟩ := hz
      rw [k1 a i z2 z3 (by omega), setI_ne (by omega), setI_1, if_neg (by omega), hF3.1 _ _ ?_, hF.1 _ _ z1]
      simp only [wshF, bestF, Bool.or_eq_false_iff] at z1
      exact z1.1.1
    · rw [k1 _ _ (by decide) (by decide) (by omega), setI_1, setI_ne (by decide), hF3.1 _ _ rfl, hF.1 _ _ rfl, ← hWd, ← hbk]
      by_cases hib : i = bk
      · rw [if_pos ⟨rfl, hib⟩, if_pos ⟨hE0, hib⟩, hib]
      · rw [if_neg (fun q => hib q.2), if_neg (fun q => hib q.2), setI_ne (by decide), hF3.1 _ _ rfl, hF.1 _ _ rfl, Int32.add_zero]
theorem RPc.fr {h h' : Hp} {E : Nat} {pact : Option (Nat × Nat)} {S : Nat → Nat → Bool} (H : RPc h E pact) (hF : Fr S h h') (h1 : S 134 35 = false) (h2 : S 134 36 = false) : RPc h' E pact := SC.RP H hF h1 h2
set_option maxRecDepth 100000 in
theorem m_X7_goSupper {G : WT} {l : Launch} (hG : GOK G) {h : Hp} {b : Nat} {V : Hv} {T : Tb} {told : Option Nat} {free : Bool} {pact : Option (Nat × Nat)} (C : SC h b V T told free) (hP : RPc h (T.1 7 0) pact) (hday : T.1 7 2 + 1 < 100000) : Cl G l 9 yX7_goSupper cX7_goSupper 3 none [.ref (gA G 134)] h (fun r h' => r = none ∧ GoPost h h' V (supE V told free pact) T) := by
  refine Cl.of hG (by decide) (Nat.le_of_ble_eq_true rfl) ?_
  show Wp G l 9 RX7 cX7_goSupper 3 none 0 [.ref (gA G 134), mk0, mk0] [] h _
  have hE := C.2.1.1
  by_cases hE0 : T.1 7 0 = 0
  · refine r_aload_n dX7_goSupper_0 rfl ?_
    refine r_getI dX7_goSupper_1 k_X7_7 rfl (by decide) rfl ?_
    rw [C.1.1]
    refine r_if_ne (tgt := 8) dX7_goSupper_4 (by decide) (fun c_4 => ?_) (fun c_4 => ?_)
    · exact absurd (by rw [hE0]; rfl) c_4
    · refine r_return dX7_goSupper_7 rfl ?_
      refine ⟨rfl, by rw [supS, if_pos hE0]; exact C.1, Fr.rf, fun i => ?_⟩
      rw [if_neg (fun q => by omega), Int32.add_zero]
  · cases pact with
    | none =>
      have hp : h.1 134 35 = -1 := hP
      refine r_aload_n dX7_goSupper_0 rfl ?_
      refine r_getI dX7_goSupper_1 k_X7_7 rfl (by decide) rfl ?_
      rw [C.1.1]
      refine r_if_ne (tgt := 8) dX7_goSupper_4 (by decide) (fun c_4 => ?_) (fun c_4 => ?_)
      · refine r_aload_n dX7_goSupper_8 rfl ?_
        refine r_callV dX7_goSupper_9 l_X7_333 o_X7_layWishes v_X7_layWishes rfl (by decide) rfl rfl (m_X7_layWishes (pact := none) hG C) (by decide) rfl (Nat.le_of_ble_eq_true rfl) (fun r9 h9 hq9 => ?_)
        obtain ⟨rfl, hF9, hW9⟩ := hq9
        refine r_aload_n dX7_goSupper_12 rfl ?_
        refine r_getI dX7_goSupper_13 k_X7_118 rfl (by decide) rfl ?_
        rw [hF9.1 _ _ rfl, hp]
        refine r_if_lt (tgt := 64) dX7_goSupper_16 (by decide) (fun c_16 => ?_) (fun c_16 => ?_)
        · exact go_end (pact := none) hG hday (by omega) C hF9 hW9 _ _
        · exact absurd (by decide) c_16
      · exact absurd ((nI_eq' (b := 0) (by omega) (by omega)).mp c_4) hE0
    | some ab =>
      obtain ⟨pa, pb⟩ := ab
      obtain ⟨hp1, hp2, hp3, hp4, hp5⟩ := hP
      have hd := C.2.1.2.2.1
      refine r_aload_n dX7_goSupper_0 rfl ?_
      refine r_getI dX7_goSupper_1 k_X7_7 rfl (by decide) rfl ?_
      rw [C.1.1]
      refine r_if_ne (tgt := 8) dX7_goSupper_4 (by decide) (fun c_4 => ?_) (fun c_4 => ?_)
      · refine r_aload_n dX7_goSupper_8 rfl ?_
        refine r_callV dX7_goSupper_9 l_X7_333 o_X7_layWishes v_X7_layWishes rfl (by decide) rfl rfl (m_X7_layWishes (pact := some (pa, pb)) hG C) (by decide) rfl (Nat.le_of_ble_eq_true rfl) (fun r9 h9 hq9 => ?_)
        obtain ⟨rfl, hF9, hW9⟩ := hq9
        have fin : ∀ x : Nat, x = (if T.1 7 2 % 2 = 0 then 0 else 9) → ∀ x1 x2 : Value, Wp G l 9 RX7 cX7_goSupper 3 none 64 [.ref (gA G 134), x1, x2] [] (setI (setI h9 151 pa (nI x)) 151 pb (nI (9 - x))) (fun r h' => r = none ∧ GoPost h h' V (supE V told free (some (pa, pb))) T) := by
          intro x hx x1 x2
          refine go_end hG hday (by omega) C (hF9.tr ((Fr.set rfl).tr (Fr.set rfl))) (fun e he => ⟨?_, wishP_le C.2.1 e⟩) x1 x2
          rw [setI_1, setI_1]
          show _ = nI (if e = pa then (if T.1 7 2 % 2 = 0 then 0 else 9) else if e = pb then (if T.1 7 2 % 2 = 0 then 9 else 0) else wishS V (supE V told free (some (pa, pb))) T e)
          by_cases e1 : e = pa
          · rw [if_neg (fun q => by have := q.2; omega), if_pos ⟨rfl, e1⟩, if_pos e1, hx]
          · rw [if_neg e1]
            by_cases e2 : e = pb
            · rw [if_pos ⟨rfl, e2⟩, if_pos e2, hx]
              split <;> rfl
            · rw [if_neg (fun q => e2 q.2), if_neg (fun q => e1 q.2), if_neg e2]
              exact (hW9 e he).1
        refine r_aload_n dX7_goSupper_12 rfl ?_
        refine r_getI dX7_goSupper_13 k_X7_118 rfl (by decide) rfl ?_
        rw [hF9.1 _ _ rfl, hp1]
        refine r_if_lt (tgt := 64) dX7_goSupper_16 (by decide) (fun c_16 => ?_) (fun c_16 => ?_)
        · exact absurd c_16 (nI_pos (by omega))
        · refine r_aload_n dX7_goSupper_19 rfl ?_
          refine r_getR (j := 151) dX7_goSupper_20 k_X7_103 rfl (by decide) rfl rfl ?_
          refine r_aload_n dX7_goSupper_23 rfl ?_
          refine r_getI dX7_goSupper_24 k_X7_118 rfl (by decide) rfl ?_
          rw [hF9.1 _ _ rfl, hp1]
          refine r_aload_n dX7_goSupper_27 rfl ?_
          refine r_getI dX7_goSupper_28 k_X7_16 rfl (by decide) rfl ?_
          rw [hF9.1 _ _ rfl, C.1.2.2.1]
          refine r_iconst (v := 2) dX7_goSupper_31 (by decide) ?_
          refine r_irem dX7_goSupper_32 (by decide) ?_
          rw [show (2 : Int32) = nI 2 from rfl, nI_rem (by omega) (by omega) (by omega)]
          refine r_if_ne (tgt := 40) dX7_goSupper_33 (by decide) (fun c_33 => ?_) (fun c_33 => ?_)
          · have y : ¬ T.1 7 2 % 2 = 0 := fun q => c_33 (by rw [q]; rfl)
            refine r_bipush (v := 9) dX7_goSupper_40 (by decide) ?_
            refine r_iast (pa) dX7_goSupper_42 rfl rfl (show pa < 6 by omega) ?_
            refine r_aload_n dX7_goSupper_43 rfl ?_
            refine r_getR (j := 151) dX7_goSupper_44 k_X7_103 rfl (by decide) rfl rfl ?_
            refine r_aload_n dX7_goSupper_47 rfl ?_
            refine r_getI dX7_goSupper_48 k_X7_121 rfl (by decide) rfl ?_
            rw [setI_ne (by decide), hF9.1 _ _ rfl, hp2]
            refine r_bipush (v := 9) dX7_goSupper_51 (by decide) ?_
            refine r_aload_n dX7_goSupper_53 rfl ?_
            refine r_getR (j := 151) dX7_goSupper_54 k_X7_103 rfl (by decide) rfl rfl ?_
            refine r_aload_n dX7_goSupper_57 rfl ?_
            refine r_getI dX7_goSupper_58 k_X7_118 rfl (by decide) rfl ?_
            rw [setI_ne (by decide), hF9.1 _ _ rfl, hp1]
            refine r_iald (pa) dX7_goSupper_61 rfl rfl (show pa < 6 by omega) ?_
            rw [setI_at]
            refine r_isub dX7_goSupper_62 ?_
            refine r_iast (pb) dX7_goSupper_63 rfl rfl (show pb < 6 by omega) ?_
            exact fin 9 (by rw [if_neg y]) _ _
          · have y : T.1 7 2 % 2 = 0 := (nI_eq' (b := 0) (by omega) (by omega)).mp c_33
            refine r_iconst (v := 0) dX7_goSupper_36 (by decide) ?_
            refine r_goto (tgt := 42) dX7_goSupper_37 (by decide) ?_
            refine r_iast (pa) dX7_goSupper_42 rfl rfl (show pa < 6 by omega) ?_
            refine r_aload_n dX7_goSupper_43 rfl ?_
            refine r_getR (j := 151) dX7_goSupper_44 k_X7_103 rfl (by decide) rfl rfl ?_
            refine r_aload_n dX7_goSupper_47 rfl ?_
            refine r_getI dX7_goSupper_48 k_X7_121 rfl (by decide) rfl ?_
            rw [setI_ne (by decide), hF9.1 _ _ rfl, hp2]
            refine r_bipush (v := 9) dX7_goSupper_51 (by decide) ?_
            refine r_aload_n dX7_goSupper_53 rfl ?_
            refine r_getR (j := 151) dX7_goSupper_54 k_X7_103 rfl (by decide) rfl rfl ?_
            refine r_aload_n dX7_goSupper_57 rfl ?_
            refine r_getI dX7_goSupper_58 k_X7_118 rfl (by decide) rfl ?_
            rw [setI_ne (by decide), hF9.1 _ _ rfl, hp1]
            refine r_iald (pa) dX7_goSupper_61 rfl rfl (show pa < 6 by omega) ?_
            rw [setI_at]
            refine r_isub dX7_goSupper_62 ?_
            refine r_iast (pb) dX7_goSupper_63 rfl rfl (show pb < 6 by omega) ?_
            exact fin 0 (by rw [if_pos y]) _ _
      · exact absurd ((nI_eq' (b := 0) (by omega) (by omega)).mp c_4) hE0
theorem SC.go {h h' : Hp} {b : Nat} {V : Hv} {T T' : Tb} {told : Option Nat} {free : Bool} (C : SC h b V T told free) (hF : Fr goF h h') (hR : RTb h' T') (hT : TbOK T') : SC h' b V T' told free := by
  obtain ⟨h1, h2, h3, h4, h5⟩ := C
  refine ⟨hR, hT, h3.fr hF (fun j => ⟨rfl, rfl, rfl, rfl, rfl, rfl⟩) rfl, ⟨by rw [hF.1 _ _ rfl]; exact h4.1, h4.2⟩, by rw [hF.1 _ _ rfl]; exact h5⟩
/-- n suppers -/
def SupDay (T : Tb) (n : Nat) : Prop := T.1 7 2 + n < 100000
theorem supS_day {V : Hv} {P : Sup} {T : Tb} : (supS V P T).1 7 2 ≤ T.1 7 2 + 1 := by
  unfold supS
  split
  · omega
  · exact Nat.le_refl _
theorem supS_E {V : Hv} {P : Sup} {T : Tb} : (supS V P T).1 7 0 = T.1 7 0 := by
  unfold supS
  split
  · rfl
  · rfl
theorem supN_E {V : Hv} {P : Sup} {T : Tb} : ∀ n, (supN V P T n).1 7 0 = T.1 7 0 := by
  intro n
  induction n with
  | zero => rfl
  | succ n ih => show (supS V P (supN V P T n)).1 7 0 = _; rw [supS_E, ih]
theorem supN_day {V : Hv} {P : Sup} {T : Tb} : ∀ n, (supN V P T n).1 7 2 ≤ T.1 7 2 + n := by
  intro n
  induction n with
  | zero => exact Nat.le_refl _
  | succ n ih =>
    have := supS_day (V := V) (P := P) (T := supN V P T n)
    show (supS V P (supN V P T n)).1 7 2 ≤ _
    omega
theorem supN_ok {V : Hv} {P : Sup} {T : Tb} (hT : TbOK T) : ∀ n, T.1 7 2 + n < 100000 → TbOK (supN V P T n) := by
  intro n
  induction n with
  | zero => intro _; exact hT
  | succ n ih =>
    intro h
    have := supN_day (V := V) (P := P) (T := T) n
    exact supS_ok (ih (by omega)) (by omega)
theorem goOn_loop {G : WT} {l : Launch} (hG : GOK G) {h : Hp} {b : Nat} {V : Hv} {T : Tb} {told : Option Nat} {free : Bool} {pact : Option (Nat × Nat)} {N : Nat} (hN : N ≤ 1000) (hday : T.1 7 2 + N < 100000) (hT : TbOK T) (hP : RPc h (T.1 7 0) pact) : ∀ (m n : Nat) (g : Hp), n + m = N → Fr goF h g → SC g b V (supN V (supE V told free pact) T n) told free → (∀ i, g.1 155 i = h.1 155 i + nI (bakeN V (supE V told free pact) T i n)) → Wp G l 10 RX7 cX7_goOn 3 none 2 [.ref (gA G 134), .int (nI N), .int (nI n)] [] g (fun r h' => r = none ∧ Fr goF h h' ∧ RTb h' (supN V (supE V told free pact) T N) ∧ ∀ i, h'.1 155 i = h.1 155 i + nI (bakeN V (supE V told free pact) T i N)) := by
  intro m
  induction m with
  | zero =>
    intro n g hn hF C hb
    obtain rfl : n = N := by omega
    refine r_iload_n dX7_goOn_2 rfl ?_
    refine r_iload_n dX7_goOn_3 rfl ?_
    refine r_icmp_ge (tgt := 17) dX7_goOn_4 (by decide) (fun c_4 => ?_) (fun c_4 => ?_)
    · refine r_return dX7_goOn_17 rfl ?_
      exact ⟨rfl, hF, C.1, hb⟩
    · exact absurd (Int32.le_refl _) c_4
  | succ m ih =>
    intro n g hn hF C hb
    have hd := supN_day (V := V) (P := supE V told free pact) (T := T) n
    refine r_iload_n dX7_goOn_2 rfl ?_
    refine r_iload_n dX7_goOn_3 rfl ?_
    refine r_icmp_ge (tgt := 17) dX7_goOn_4 (by decide) (fun c_4 => ?_) (fun c_4 => ?_)
    · exact absurd c_4 (nI_ge (by omega) (by omega))
    · refine r_aload_n dX7_goOn_7 rfl ?_
      refine r_callV dX7_goOn_8 l_X7_336 o_X7_goSupper v_X7_goSupper rfl (by decide) rfl rfl (m_X7_goSupper (pact := pact) hG C (by rw [supN_E]; exact hP.fr hF rfl rfl) (by omega)) (by decide) rfl (Nat.le_of_ble_eq_true rfl) (fun r8 h8 hq8 => ?_)
      obtain ⟨rfl, hR8, hF8, hB8⟩ := hq8
      refine r_iinc dX7_goOn_11 rfl (by first | exact nI_inc _ | rfl) (by decide) rfl rfl ?_
      dsimp only [List.set]
      refine r_goto (tgt := 2) dX7_goOn_14 (by decide) ?_
      refine ih (n + 1) h8 (by omega) (hF.tr hF8) (C.go hF8 hR8 (supN_ok hT (n + 1) (by omega))) (fun i => ?_)
      rw [hB8, hb, supN_E, Int32.add_assoc]
      congr 1
      show nI _ + _ = nI (_ + _)
      rw [← nI_add]
      congr 1
      split <;> rfl
