/-! THE FLAT WORLD: one fixed set of cells; what changes in it is three functions: ints, longs, and the few references that change. -/
def tb : List Cond := lw_tbl.filter goodWord
theorem tb_good : tb.all goodWord = true := List.all_eq_true.mpr fun _ h => (List.mem_filter.mp h).2
theorem tb_mem {w : Cond} (i : Nat) (h : lw_tbl[i]? = some w) (hg : goodWord w = true) : w ∈ tb := List.mem_filter.mpr ⟨List.mem_of_getElem? h, hg⟩
theorem tb_all {l : List Cond} (h : l.all (fun w => decide (w ∈ lw_tbl) && goodWord w) = true) : ∀ w ∈ l, w ∈ tb := fun w hw => by
  have h1 := List.all_eq_true.mp h w hw
  simp only [Bool.and_eq_true, decide_eq_true_eq] at h1
  exact List.mem_filter.mpr h1
abbrev Hp : Type := (Nat → Nat → Int32) × (Nat → Nat → Int64) × (Nat → Nat → Nat)
abbrev WT : Type := (Nat → Nat) × va_G × (Nat → ClassId) × Nat × (Nat × Nat) × ((Nat → Nat) × (Nat → Nat)) × (Nat × Nat × (Nat → Int32))
abbrev gA (G : WT) : Nat → Nat := G.1
abbrev gD (G : WT) : va_G := G.2.1
abbrev gC (G : WT) : Nat → ClassId := G.2.2.1
abbrev gB (G : WT) : Nat := G.2.2.2.1
abbrev gTA (G : WT) : Nat := G.2.2.2.2.1.1
abbrev gTB (G : WT) : Nat := G.2.2.2.2.1.2
abbrev gK (G : WT) : Nat → Nat := G.2.2.2.2.2.1.1
abbrev gV (G : WT) : Nat → Nat := G.2.2.2.2.2.1.2
abbrev gX (G : WT) : Nat := G.2.2.2.2.2.2.1
abbrev gL (G : WT) : Nat := G.2.2.2.2.2.2.2.1
abbrev gxs (G : WT) : Nat → Int32 := G.2.2.2.2.2.2.2.2
def setI (h : Hp) (k i : Nat) (v : Int32) : Hp := (fun x j => if x = k ∧ j = i then v else h.1 x j, h.2)
def setL (h : Hp) (k i : Nat) (v : Int64) : Hp := (h.1, fun x j => if x = k ∧ j = i then v else h.2.1 x j, h.2.2)
def setD (h : Hp) (k i : Nat) (v : Nat) : Hp := (h.1, h.2.1, fun x j => if x = k ∧ j = i then v else h.2.2 x j)
def rowI (h : Hp) (k : Nat) (f : Nat → Int32) : Hp := (fun x j => if x = k then f j else h.1 x j, h.2)
def rowL (h : Hp) (k : Nat) (f : Nat → Int64) : Hp := (h.1, fun x j => if x = k then f j else h.2.1 x j, h.2.2)
def rf (h : Hp) (k i : Nat) : Nat := if isD (ksh k) i = true then h.2.2 k i else rfx k i
def fvl (G : WT) (h : Hp) (k i : Nat) : Value := if fsh (ksh k) i = 1 then .ref (gA G (rf h k i)) else .int (h.1 k i)
def cel (G : WT) (h : Hp) (k : Nat) : va_E := if ksh k < 8 then .inr (ksh k, (List.range (nfl (ksh k))).map (fvl G h k)) else .inl (gC G (ksh k - 8), (lnt k, if ksh k = 11 then .inr (.inl (h.2.1 k)) else if 12 ≤ ksh k then .inr (.inr (.inr (.inr (fun j => some (gA G (rfx k j)))))) else .inl (h.1 k)))
def wsO (G : WT) (h : Hp) : va_W := (List.range nW).map (fun k => (gA G k, cel G h k))
def tysO (G : WT) : List (ClassId × FieldType) := [(gC G 0, .int), (gC G 1, .char), (gC G 2, .boolean), (gC G 3, .long), (gC G 4, .object RX1), (gC G 5, .object RX5)]
def AS (G : WT) : Nat → Prop := fun q => gB G ≤ q
def GOK (G : WT) : Prop := (∀ i j : Nat, i < nW → j < nW → gA G i = gA G j → i = j) ∧ ∀ i : Nat, i < nW → gB G ≤ gA G i
theorem wsO_at {G : WT} {h : Hp} {k : Nat} (hk : k < nW) : (wsO G h)[k]? = some (gA G k, cel G h k) := by
  simp [wsO, hk]
theorem wsO_len {G : WT} {h : Hp} : (wsO G h).length = nW := by simp [wsO]
theorem wsO_D {G : WT} {h : Hp} (hG : GOK G) : va_D (AS G) (wsO G h) := by
  have key : ∀ (k : Nat) (q : Nat × va_E), (wsO G h)[k]? = some q → k < nW ∧ q.1 = gA G k := by
    intro k q hq
    have hl := (List.getElem?_eq_some_iff.mp hq).1
    rw [wsO_len] at hl
    rw [wsO_at hl] at hq
    cases hq
    exact ⟨hl, rfl⟩
  refine ⟨fun i j p q hp hq hpq => ?_, fun k q hq => ?_⟩
  · obtain ⟨h1, h2⟩ := key i p hp
    obtain ⟨h3, h4⟩ := key j q hq
    exact hG.1 i j h1 h3 (by rw [← h2, ← h4]; exact hpq)
  · obtain ⟨h1, h2⟩ := key k q hq
    show gB G ≤ q.1
    rw [h2]
    exact hG.2 k h1
theorem wsO_set {G : WT} {h h' : Hp} {k : Nat} {e : va_E} (h1 : ∀ j, j ≠ k → cel G h' j = cel G h j) (h2 : k < nW → cel G h' k = e) : (wsO G h).set k (gA G k, e) = wsO G h' := by
  apply List.ext_getElem?
  intro j
  rw [List.getElem?_set]
  by_cases hj : j < nW
  · rw [wsO_at (h := h) hj, wsO_at (h := h') hj, wsO_len]
    by_cases hkj : k = j
    · subst hkj
      rw [if_pos rfl, if_pos hj, h2 hj]
    · rw [if_neg hkj, h1 j (fun q => hkj q.symm)]
  · rw [List.getElem?_eq_none (by rw [wsO_len]; omega), List.getElem?_eq_none (by rw [wsO_len]; omega)]
    by_cases hkj : k = j
    · rw [if_pos hkj, if_neg (by rw [wsO_len]; omega)]
    · rw [if_neg hkj]
theorem cel_ext {G : WT} {h h' : Hp} {j : Nat} (h1 : h'.1 j = h.1 j) (h2 : h'.2.1 j = h.2.1 j) (h3 : h'.2.2 j = h.2.2 j) : cel G h' j = cel G h j := by
  have e : fvl G h' j = fvl G h j := by
    funext i
    simp only [fvl, rf, h1, h3]
  simp only [cel, e, h1, h2]
theorem cel_setI_ne {G : WT} {h : Hp} {k i : Nat} {v : Int32} {j : Nat} (hj : j ≠ k) : cel G (setI h k i v) j = cel G h j :=
  cel_ext (funext fun x => if_neg (fun q => hj q.1)) rfl rfl
theorem cel_setL_ne {G : WT} {h : Hp} {k i : Nat} {v : Int64} {j : Nat} (hj : j ≠ k) : cel G (setL h k i v) j = cel G h j :=
  cel_ext rfl (funext fun x => if_neg (fun q => hj q.1)) rfl
theorem cel_setD_ne {G : WT} {h : Hp} {k i : Nat} {v : Nat} {j : Nat} (hj : j ≠ k) : cel G (setD h k i v) j = cel G h j :=
  cel_ext rfl rfl (funext fun x => if_neg (fun q => hj q.1))
theorem cel_rowI_ne {G : WT} {h : Hp} {k : Nat} {f : Nat → Int32} {j : Nat} (hj : j ≠ k) : cel G (rowI h k f) j = cel G h j :=
  cel_ext (funext fun x => if_neg hj) rfl rfl
theorem cel_rowL_ne {G : WT} {h : Hp} {k : Nat} {f : Nat → Int64} {j : Nat} (hj : j ≠ k) : cel G (rowL h k f) j = cel G h j :=
  cel_ext rfl (funext fun x => if_neg hj) rfl
theorem cel_obj {G : WT} {h : Hp} {k s : Nat} (hk : ksh k = s) (hs : s < 8) : cel G h k = .inr (s, (List.range (nfl s)).map (fvl G h k)) := by
  subst hk
  simp [cel, hs]
theorem cel_ints {G : WT} {h : Hp} {k s : Nat} (hk : ksh k = s) (hs : s = 8 ∨ s = 9 ∨ s = 10) : cel G h k = .inl (gC G (s - 8), (lnt k, .inl (h.1 k))) := by
  subst hk
  rcases hs with q | q | q <;> simp [cel, q]
theorem cel_longs {G : WT} {h : Hp} {k : Nat} (hk : ksh k = 11) : cel G h k = .inl (gC G 3, (lnt k, .inr (.inl (h.2.1 k)))) := by
  simp [cel, hk]
theorem cel_refs {G : WT} {h : Hp} {k s : Nat} (hk : ksh k = s) (hs : s = 12 ∨ s = 13) : cel G h k = .inl (gC G (s - 8), (lnt k, .inr (.inr (.inr (.inr (fun j => some (gA G (rfx k j)))))))) := by
  subst hk
  rcases hs with q | q <;> simp [cel, q]
theorem rng_get {f : Nat → Value} {n i : Nat} (h : i < n) : ((List.range n).map f)[i]? = some (f i) := by simp [h]
theorem rng_set {f g : Nat → Value} {n i : Nat} {v : Value} (h1 : ∀ j, j ≠ i → g j = f j) (h2 : g i = v) : ((List.range n).map f).set i v = (List.range n).map g := by
  apply List.ext_getElem?
  intro j
  rw [List.getElem?_set]
  by_cases hj : j < n
  · rw [rng_get hj, rng_get hj]
    by_cases hij : i = j
    · subst hij
      simp [hj, h2]
    · rw [if_neg hij, h1 j (fun q => hij q.symm)]
  · rw [List.getElem?_eq_none (by simp; omega), List.getElem?_eq_none (by simp; omega)]
    simp [hj]
    intro e
    omega
/-! the tables of the classes -/
def cR (s : Nat) : String := match s with | 0 => RX0 | 1 => RX1 | 2 => RX2 | 3 => RX3 | 4 => RX4 | 5 => RX5 | 6 => RX6 | _ => RX7
def cT (s : Nat) : u_T := match s with | 0 => TX0 | 1 => TX1 | 2 => TX2 | 3 => TX3 | 4 => TX4 | 5 => TX5 | 6 => TX6 | _ => TX7
def cTy (s : Nat) : Nat → FieldType := match s with | 0 => tyX0 | 1 => tyX1 | 2 => tyX2 | 3 => tyX3 | 4 => tyX4 | 5 => tyX5 | 6 => tyX6 | _ => tyX7
theorem c_at {s : Nat} (hs : s < 8) : vwCl[s]? = some (cR s, cT s, nfl s) := by
  rcases (show s = 0 ∨ s = 1 ∨ s = 2 ∨ s = 3 ∨ s = 4 ∨ s = 5 ∨ s = 6 ∨ s = 7 by omega) with rfl | rfl | rfl | rfl | rfl | rfl | rfl | rfl <;> rfl
theorem c_in {s : Nat} (hs : s < 8) : ∀ w ∈ u_ws (cR s) (cT s) (nfl s), w ∈ tb := by
  rcases (show s = 0 ∨ s = 1 ∨ s = 2 ∨ s = 3 ∨ s = 4 ∨ s = 5 ∨ s = 6 ∨ s = 7 by omega) with rfl | rfl | rfl | rfl | rfl | rfl | rfl | rfl <;> exact tb_all (by decide +kernel)
theorem c_nm {s : Nat} (hs : s < 8) : ∀ a, a < nfl s → ∀ b, b < nfl s → a ≠ b → (cT s a).2.1 ≠ (cT s b).2.1 := by
  rcases (show s = 0 ∨ s = 1 ∨ s = 2 ∨ s = 3 ∨ s = 4 ∨ s = 5 ∨ s = 6 ∨ s = 7 by omega) with rfl | rfl | rfl | rfl | rfl | rfl | rfl | rfl
  · exact nmX0
  · exact nmX1
  · exact nmX2
  · exact nmX3
  · exact nmX4
  · exact nmX5
  · exact nmX6
  · exact nmX7
theorem c_ty {s : Nat} (hs : s < 8) : ∀ k, k < nfl s → parseFieldDescriptor (cT s k).2.2.1 = some (cTy s k) := by
  rcases (show s = 0 ∨ s = 1 ∨ s = 2 ∨ s = 3 ∨ s = 4 ∨ s = 5 ∨ s = 6 ∨ s = 7 by omega) with rfl | rfl | rfl | rfl | rfl | rfl | rfl | rfl
  · exact tyX0_ok
  · exact tyX1_ok
  · exact tyX2_ok
  · exact tyX3_ok
  · exact tyX4_ok
  · exact tyX5_ok
  · exact tyX6_ok
  · exact tyX7_ok
/-! what lies outside: two tables, seven texts, two statics of the JDK's, the script -/
def tabA : List Int32 := [-1, 0, 0, 0, 1, 2, 3]
def tabB : List Int32 := [10, 11, 12, 10, 20, 12, 30, 11, 12, 10, 11, 40, 50, 51, 12, 30, 11, 60, 71, 70, 40]
def lenS : List Nat := [5, 4, 4, 3, 5, 6, 3]
def bytS : List (List Int32) := [[119, 111, 114, 116, 104], [98, 97, 107, 101], [108, 111, 97, 102], [108, 97, 119], [115, 99, 97, 108, 101], [105, 107, 104, 97, 98, 100], [60, 61, 62]]
def idxS : List Nat := [79, 81, 83, 85, 87, 106, 112]
def txS : List String := ["worth", "bake", "loaf", "law", "scale", "ikhabd", "<=>"]
def EX (G : WT) (U : State) (H : Heap) : Prop :=
  (va_Z RX0 "ABOVE" "[I" (.ref (gTA G)) (AS G) U H ∧ va_T .int (gTA G) 7 (fun j => .int (tabA.getD j 0)) (AS G) U H ∧ va_Z RX0 "BODY" "[I" (.ref (gTB G)) (AS G) U H ∧ va_T .int (gTB G) 21 (fun j => .int (tabB.getD j 0)) (AS G) U H) ∧
  (va_Z "java/lang/String" "COMPACT_STRINGS" "Z" (.int 1) (AS G) U H ∧ va_Zq "jdk/internal/util/Preconditions" "SIOOBE_FORMATTER" "Ljava/util/function/BiFunction;" (AS G) U H) ∧
  vk_S 7 lenS bytS (gK G) (gV G) (AS G) U H ∧ (∀ i : Nat, i < 7 → vk_R RX2 (idxS.getD i 0) (txS.getD i "") (gK G i) U) ∧
  va_X (gX G) (gL G) (gxs G) U H ∧ gX G < H.size ∧ ¬ AS G (gX G)
theorem EX.same {G : WT} {u U : State} {H : Heap} (hv : U.vm = u.vm) (h : EX G u H) : EX G U H := by
  have hal : u.vm.Alike U.vm := by rw [hv]; exact Vm.Alike.refl _
  obtain ⟨⟨a1, a2, a3, a4⟩, ⟨b1, b2⟩, c1, c2, d1, d2, d3⟩ := h
  exact ⟨⟨va_Z.moved hal a1, va_T.moved hal a2, va_Z.moved hal a3, va_T.moved hal a4⟩, ⟨va_Z.moved hal b1, va_Zq.moved hal b2⟩, vk_S.moved hal c1, fun i hi => vk_R.same hv (c2 i hi), va_X.moved hal d1, d2, d3⟩
theorem EX.go {G : WT} {s U : State} {H : Heap} {locs : List Loc} (hW : s.WarmedH U.vm) (hS : va_S (AS G) s.heap H locs) (h : EX G s s.heap) : EX G U H := by
  have hal : s.vm.Alike U.vm := hW.alike
  obtain ⟨⟨a1, a2, a3, a4⟩, ⟨b1, b2⟩, c1, c2, d1, d2, d3⟩ := h
  have hq := hS.2.1
  exact ⟨⟨va_Z.kept (va_Z.moved hal a1) hq, va_T.kept (va_T.moved hal a2) hq, va_Z.kept (va_Z.moved hal a3) hq, va_T.kept (va_T.moved hal a4) hq⟩, ⟨va_Z.kept (va_Z.moved hal b1) hq, va_Zq.kept (va_Zq.moved hal b2) hq⟩, vk_S.kept (vk_S.moved hal c1) hq, fun i hi => vk_R.warm hW (c2 i hi), va_X.kept (va_X.moved hal d1) (hq _ d2 d3), Nat.lt_of_lt_of_le d2 hS.1, d3⟩
/-! a flat row of locals beside the machine's -/
def mk0 : Value := .float 0
def okV : Value → Bool | .int _ => true | .long _ => true | .ref _ => true | _ => false
def LR (nL : Nat) (ls : List Value) (lsm : Array Slot) : Prop := lsm.size = nL ∧ lv_wf lsm ∧ ∀ (i : Nat) (v : Value), ls[i]? = some v → okV v = true → lsm[i]? = some (.val v)
def lvOf (ls : List Value) : List (Nat × Value) := (List.range ls.length).filterMap (fun i => match ls[i]? with | some v => if okV v = true then some (i, v) else none | none => none)
theorem lvOf_mem {ls : List Value} {i : Nat} {v : Value} : (i, v) ∈ lvOf ls ↔ (ls[i]? = some v ∧ okV v = true) := by
  unfold lvOf
  rw [List.mem_filterMap]
  constructor
  · rintro ⟨a, ha, h⟩
    cases hx : ls[a]? with
    | none => rw [hx] at h; cases h
    | some w =>
      rw [hx] at h
      dsimp only at h
      by_cases hw : okV w = true
      · rw [if_pos hw] at h
        cases h
        exact ⟨hx, hw⟩
      · rw [if_neg hw] at h; cases h
  · rintro ⟨h, hv⟩
    refine ⟨i, List.mem_range.mpr (List.getElem?_eq_some_iff.mp h).1, ?_⟩
    rw [h]
    dsimp only
    rw [if_pos hv]
theorem LR.has {nL : Nat} {ls : List Value} {lsm : Array Slot} (h : LR nL ls lsm) : lv_has lsm nL (lvOf ls) := ⟨h.1, h.2.1, fun q hq => by
  obtain ⟨i, v⟩ := q
  obtain ⟨h1, h2⟩ := lvOf_mem.mp hq
  exact h.2.2 i v h1 h2⟩
def noL (ls : List Value) : Nat → Bool
  | 0 => true
  | k + 1 => match ls[k]? with | some (.long _) => false | _ => true
theorem LR.st1 {nL : Nat} {ls : List Value} {lsm : Array Slot} {i : Nat} {x : Value} (hno : noL ls i = true) (h : lv_has lsm nL ((i, x) :: (lvOf ls).filter (fun q => !(q.1 == i) && !(q.1 + 1 == i && q.2.category == 2)))) : LR nL (ls.set i x) lsm := by
  refine ⟨h.1, h.2.1, fun j v hj hv => ?_⟩
  rw [List.getElem?_set] at hj
  by_cases hij : i = j
  · subst hij
    rw [if_pos rfl] at hj
    by_cases hl : i < ls.length
    · rw [if_pos hl] at hj
      cases hj
      exact h.2.2 (i, x) List.mem_cons_self
    · rw [if_neg hl] at hj; cases hj
  · rw [if_neg hij] at hj
    refine h.2.2 (j, v) (List.mem_cons_of_mem _ (List.mem_filter.mpr ⟨lvOf_mem.mpr ⟨hj, hv⟩, ?_⟩))
    have h1 : (j == i) = false := by simp; exact fun q => hij q.symm
    simp only [h1, Bool.not_false, Bool.true_and]
    by_cases h2 : j + 1 = i
    · subst h2
      simp only [noL] at hno
      rw [hj] at hno
      cases v <;> simp_all [Value.category, okV]
    · have : (j + 1 == i) = false := by simp; exact h2
      simp [this]
theorem LR.st2 {nL : Nat} {ls : List Value} {lsm : Array Slot} {i : Nat} {x : Value} (hno : noL ls i = true) (h : lv_has lsm nL ((i, x) :: (lvOf ls).filter (fun q => !(q.1 == i) && (!(q.1 == i + 1) && !(q.1 + 1 == i && q.2.category == 2))))) : LR nL ((ls.set i x).set (i + 1) mk0) lsm := by
  refine ⟨h.1, h.2.1, fun j v hj hv => ?_⟩
  rw [List.getElem?_set] at hj
  by_cases hij : i + 1 = j
  · subst hij
    rw [if_pos rfl] at hj
    by_cases hl : i + 1 < (ls.set i x).length
    · rw [if_pos hl] at hj
      cases hj
      cases hv
    · rw [if_neg hl] at hj; cases hj
  · rw [if_neg hij, List.getElem?_set] at hj
    by_cases hij2 : i = j
    · subst hij2
      rw [if_pos rfl] at hj
      by_cases hl : i < ls.length
      · rw [if_pos hl] at hj
        cases hj
        exact h.2.2 (i, x) List.mem_cons_self
      · rw [if_neg hl] at hj; cases hj
    · rw [if_neg hij2] at hj
      refine h.2.2 (j, v) (List.mem_cons_of_mem _ (List.mem_filter.mpr ⟨lvOf_mem.mpr ⟨hj, hv⟩, ?_⟩))
      have h1 : (j == i) = false := by simp; exact fun q => hij2 q.symm
      have h3 : (j == i + 1) = false := by simp; exact fun q => hij q.symm
      simp only [h1, h3, Bool.not_false, Bool.true_and]
      by_cases h2 : j + 1 = i
      · subst h2
        simp only [noL] at hno
        rw [hj] at hno
        cases v <;> simp_all [Value.category, okV]
      · have : (j + 1 == i) = false := by simp; exact h2
        simp [this]
def sprd : List Value → List Value
  | [] => []
  | v :: l => if v.category = 2 then v :: mk0 :: sprd l else v :: sprd l
def entL (nL : Nat) (av : List Value) : List Value := sprd av ++ List.replicate (nL - (sprd av).length) mk0
/-! the words of a pool's entries and of methods -/
def FLK (own : String) (idx s i : Nat) : Prop := Cond.fieldLink own idx (cT s i).1 (cT s i).2.1 (cT s i).2.2.1 ∈ tb
def ACW (own : String) (idx : Nat) : Prop := Cond.methodLink own idx arraycopyName ∈ tb
def GSW (own : String) (idx : Nat) (C n ds : String) : Prop := Cond.fieldLink own idx C n ds ∈ tb
def MO (y : MethodName) (cc : ByteArray) (nL : Nat) (rt : Option FieldType) (n : Nat) : Prop := (Cond.initialized y.cls ∈ tb ∧ Cond.code y cc nL rt ∈ tb) ∧ (y.cls ≠ "java/lang/invoke/MethodHandle" ∧ y.cls ≠ "java/lang/invoke/VarHandle" ∧ (parseMethodDescriptor y.desc).map (fun d => d.parameters.length) = some n) ∧ nL ≤ 21
def MV (y : MethodName) : Prop := Cond.instanceMethod y ∈ tb ∧ Cond.selects y.cls y y ∈ tb
