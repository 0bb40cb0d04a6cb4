theorem entL_mem : ∀ (vs : List Value) (n i : Nat) (v : Value), (sprd vs)[i]? = some v → okV v = true → (n + i, v) ∈ lv_args n vs := by
  intro vs
  induction vs with
  | nil => intro n i v h; simp [sprd] at h
  | cons a vs ih =>
    intro n i v h hv
    by_cases hc : a.category = 2
    · rw [sprd, if_pos hc] at h
      rw [lv_args, if_pos hc]
      match i with
      | 0 => simp at h; subst h; exact List.mem_cons_self
      | 1 => simp at h; subst h; cases hv
      | i + 2 =>
        have h2 : (sprd vs)[i]? = some v := by simpa using h
        have h3 := ih (n + 2) i v h2 hv
        rw [show n + (i + 2) = n + 2 + i by omega]
        exact List.mem_cons_of_mem _ h3
    · rw [sprd, if_neg hc] at h
      rw [lv_args, if_neg hc]
      match i with
      | 0 => simp at h; subst h; exact List.mem_cons_self
      | i + 1 =>
        have h2 : (sprd vs)[i]? = some v := by simpa using h
        have h3 := ih (n + 1) i v h2 hv
        rw [show n + (i + 1) = n + 1 + i by omega]
        exact List.mem_cons_of_mem _ h3
theorem LR.entry {nL : Nat} {av : List Value} {lsm : Array Slot} (h : lv_has lsm nL (lv_args 0 av)) : LR nL (entL nL av) lsm := by
  refine ⟨h.1, h.2.1, fun i v hi hv => ?_⟩
  by_cases hl : i < (sprd av).length
  · unfold entL at hi
    rw [List.getElem?_append_left hl] at hi
    have := entL_mem av 0 i v hi hv
    rw [Nat.zero_add] at this
    exact h.2.2 (i, v) this
  · unfold entL at hi
    rw [List.getElem?_append_right (by omega), List.getElem?_replicate] at hi
    split at hi
    · cases hi; cases hv
    · cases hi
/-- what a return instruction gives back -/
def RetI (cc : ByteArray) (rt : Option FieldType) (pc : Nat) (r : Option Value) : Prop := match r with
  | none => rt = none ∧ decode cc pc = .ok (.return_, 1)
  | some (.int v) => (∃ ty, rt = some ty ∧ narrow ty (.int v) = .int v) ∧ decode cc pc = .ok (.ireturn, 1)
  | some (.long _) => rt = some .long ∧ decode cc pc = .ok (.lreturn, 1)
  | some (.ref _) => (∃ ty, rt = some ty ∧ ((∃ n, ty = .object n) ∨ ∃ t, ty = .array t)) ∧ decode cc pc = .ok (.areturn, 1)
  | _ => False
def MC (G : WT) (d : Nat) (own : String) (cc : ByteArray) (nL : Nat) (rt : Option FieldType) (p : Program) (R : Room) (s : State) (m : MethodId) (args : Array Value) (meth : Method) (c : Code) : Prop :=
  p.tables.exec = Jvm.exec ∧ c.code = cc ∧ meth.sig.returnType = rt ∧ c.maxLocals = nL ∧ s.vm.findClass own = some m.cls ∧ (∀ w ∈ tb, w.before args s = true) ∧ (d ≤ R.frames ∧ 40 * d ≤ R.locals) ∧ va_K (gD G) vwCl (tysO G) s ∧ EX G s s.heap ∧ GOK G
/-- from here the method comes to its end, with an answer and a world of which Q holds -/
def Wp (G : WT) (l : Launch) (d : Nat) (own : String) (cc : ByteArray) (nL : Nat) (rt : Option FieldType) (pc : Nat) (ls st : List Value) (h : Hp) (Q : Option Value → Hp → Prop) : Prop :=
  ∀ (p : Program) (e : Env) (R : Room) (s : State) (m : MethodId) (args : Array Value) (below : List Frame) (meth : Method) (c : Code) (H : Heap) (locs : List Loc) (lsm : Array Slot) (Qm : State → Prop),
    MC G d own cc nL rt p R s m args meth c → va_P (gD G) vwCl (wsO G h) H → va_S (AS G) s.heap H locs → LR nL ls lsm →
    (∀ (r : Option Value) (h' : Hp) (H' : Heap) (locs' : List Loc) (pc' : Nat) (ls' : Array Slot), Q r h' → va_P (gD G) vwCl (wsO G h') H' → va_S (AS G) s.heap H' locs' → RetI cc rt pc' r → W p l e R s m args below meth c H' locs' 0 0 Qm (F0 m pc' ls' r.toList)) →
    W p l e R s m args below meth c H locs 0 0 Qm (F0 m pc lsm st)
def WD (G : WT) (h : Hp) (U : State) : Prop := va_P (gD G) vwCl (wsO G h) U.heap ∧ va_K (gD G) vwCl (tysO G) U ∧ EX G U U.heap
abbrev rmD (d : Nat) : Room := { frames := d, cells := 0, slots := 0, locals := 40 * d }
def ClQ (G : WT) (Q : Option Value → Hp → Prop) : Array Value → State → Outcome → State → Prop := fun _ st o t => (∃ (r : Option Value) (h' : Hp), o = .returned r ∧ Q r h' ∧ WD G h' t) ∧ va_F (AS G) st t
/-- a method's contract in the flat world -/
def Cl (G : WT) (l : Launch) (d : Nat) (y : MethodName) (cc : ByteArray) (nL : Nat) (rt : Option FieldType) (av : List Value) (h : Hp) (Q : Option Value → Hp → Prop) : Prop :=
  Met l y (.code y cc nL rt :: tb) (rmD d) (va_Pc av (WD G h)) (ClQ G Q) 0 0 (AS G)
theorem WD.end {G : WT} {h : Hp} {s t : State} {H : Heap} {locs : List Loc} (hK : va_K (gD G) vwCl (tysO G) s) (hE : EX G s s.heap) (hS : va_S (AS G) s.heap H locs) (hP : va_P (gD G) vwCl (wsO G h) H) (ht : t.heap = H) (hW : s.WarmedH t.vm) : WD G h t := by
  refine ⟨by rw [ht]; exact hP, va_K.moved hW.alike hK, ?_⟩
  rw [ht]
  exact EX.go hW hS hE
theorem Cl.of {G : WT} {l : Launch} {d : Nat} {y : MethodName} {cc : ByteArray} {nL : Nat} {rt : Option FieldType} {av : List Value} {h : Hp} {Q : Option Value → Hp → Prop} (hG : GOK G) (hy : plainName y.cls = true) (hent : (lg_sl av).length ≤ nL) (k : Wp G l d y.cls cc nL rt 0 (entL nL av) [] h Q) : Cl G l d y cc nL rt av h Q := by
  refine Met.ofW (cc := cc) (maxL := nL) (ret := rt) hy rfl ?_
  intro p e s m args below meth c s₁ B hml hv
  obtain ⟨rfl, hP, hK, hE⟩ := hv
  have hx := B.exec
  have hb := B.bytes
  have hr := B.returns
  have hts := atoms_spec (ws := .code y cc nL rt :: tb) B.pre
  have hown := findClass_of_methodNamed B.named
  have hlocks := B.notSynchronized
  have hl := lv_entry av (n := nL) hent
  rw [lg_entry_eq]
  generalize (lg_sl av ++ List.replicate (nL - (lg_sl av).length) Slot.unset).toArray = lsm at hl ⊢
  refine k p e _ s m _ below meth c s.heap [] lsm _ ⟨hx, hb, hr, hml, hown, fun w hw => hts w (List.mem_cons_of_mem _ hw), ⟨Nat.le_refl _, Nat.le_refl _⟩, hK, hE, hG⟩ hP va_S.rf (LR.entry hl) ?_
  intro r h' H' locs' pc' ls' hq hP' hS' hret
  have fin : ∀ t : State, t.heap = H' → s.WarmedH t.vm → ClQ G Q av.toArray s (.returned r) t := fun t ht hW => ⟨⟨r, h', rfl, hq, WD.end hK hE hS' hP' ht hW⟩, hS'.F ht⟩
  have hf : ∀ q ∈ locs', AS G q.base := hS'.2.2
  match r, hret, fin with
  | none, hret, fin =>
    obtain ⟨h1, h2⟩ := hret
    exact W.vret hx hb (hr.trans h1) fin hf h2
  | some (.int v), hret, fin =>
    obtain ⟨⟨ty, h1, h3⟩, h2⟩ := hret
    exact W.zret hx hb (hr.trans h1) h3 fin hf h2
  | some (.long v), hret, fin =>
    obtain ⟨h1, h2⟩ := hret
    exact W.lret hx hb (hr.trans h1) fin hf h2
  | some (.ref v), hret, fin =>
    obtain ⟨⟨ty, h1, h3⟩, h2⟩ := hret
    exact W.aret hx hb (hr.trans h1) h3 (Or.inr ⟨v, rfl⟩) fin hf h2
theorem Wp.mono {G : WT} {l : Launch} {d : Nat} {own : String} {cc : ByteArray} {nL : Nat} {rt : Option FieldType} {pc : Nat} {ls st : List Value} {h : Hp} {Q Q' : Option Value → Hp → Prop} (k : Wp G l d own cc nL rt pc ls st h Q) (hq : ∀ r h', Q r h' → Q' r h') : Wp G l d own cc nL rt pc ls st h Q' :=
  fun p e R s m args below meth c H locs lsm Qm C hP hS hL hf => k p e R s m args below meth c H locs lsm Qm C hP hS hL (fun r h' H' locs' pc' ls' q => hf r h' H' locs' pc' ls' (hq r h' q))
theorem Cl.mono {G : WT} {l : Launch} {d : Nat} {y : MethodName} {cc : ByteArray} {nL : Nat} {rt : Option FieldType} {av : List Value} {h : Hp} {Q Q' : Option Value → Hp → Prop} (k : Cl G l d y cc nL rt av h Q) (hq : ∀ r h', Q r h' → Q' r h') : Cl G l d y cc nL rt av h Q' := by
  unfold Cl at k ⊢
  intro p e ha hc hk s m args below hf hfit hh _
  obtain ⟨n, o, h1, h2, h3, ⟨⟨r, h', e1, e2, e3⟩, e4⟩, e5⟩ := k p e ha hc hk s m args below hf hfit hh trivial
  exact ⟨n, o, h1, h2, h3, ⟨⟨r, h', e1, hq _ _ e2, e3⟩, e4⟩, e5⟩
/-! calls -/
theorem tb_in (ws : List Cond) (h : ∀ w ∈ ws, w ∈ tb) : GoodIn tb ws := fun w hw => ⟨h w hw, good_of_word (List.all_eq_true.mp tb_good w (h w hw))⟩
section FL
variable {G : WT} {l : Launch} {d : Nat} {own : String} {cc : ByteArray} {nL : Nat} {rt : Option FieldType} {pc : Nat} {ls st rest : List Value} {h : Hp} {Q : Option Value → Hp → Prop}
theorem WD.blind {av : List Value} : FrameBlind (va_Pc av (WD G h)) := fun a U g mk q => ⟨q.1, q.2.1, va_K.moved (u := U) (U := U.calling g mk a) (Vm.Alike.refl U.vm) q.2.2.1, EX.same (u := U) (U := U.calling g mk a) rfl q.2.2.2⟩
theorem fl_call {p : Program} {e : Env} {R : Room} {s : State} {m : MethodId} {args : Array Value} {below : List Frame} {meth : Method} {c : Code} {H : Heap} {locs : List Loc} {Qm : State → Prop} {lsm : Array Slot} {st0 : List Value} {a : Array Value} {Q1 : Option Value → Hp → Prop}
    (hr : va_Run p l e R s m args below meth c H locs 0 0 0 0 (F0 m pc lsm st0) rest (ClQ G Q1 a) (AS G)) (hS : va_S (AS G) s.heap H locs)
    (kk : ∀ (r : Option Value) (h' : Hp) (H1 : Heap) (locs1 : List Loc), Q1 r h' → va_P (gD G) vwCl (wsO G h') H1 → va_S (AS G) s.heap H1 locs1 → W p l e R s m args below meth c H1 locs1 0 0 Qm (F0 m (pc + 3) lsm (r.toList ++ rest))) : W p l e R s m args below meth c H locs 0 0 Qm (F0 m pc lsm st0) := by
  intro T hT X
  obtain ⟨v, st₀, t, T', L, h0, X', hL, e1, e2, ⟨⟨r, h', hv, hq, hP1, hK1, hE1⟩, hz, hk⟩, st⟩ := hr T hT X
  cases hv
  rw [h0] at hz hk
  obtain ⟨t2, a1, b1⟩ := kk v h' T'.heap (locs ++ L) hq (by rw [e1]; exact hP1)
    ⟨Nat.le_trans hS.1 (by rw [e1]; exact hz), fun q h1 h2 => by rw [e1, hk q (Nat.lt_of_lt_of_le h1 hS.1) h2]; exact hS.2.1 q h1 h2, fun q hq => by
      rcases List.mem_append.mp hq with h | h
      · exact hS.2.2 q h
      · exact hL q h⟩ T' rfl X'
  exact ⟨t2, st t2 a1, b1⟩
theorem rm_ok {d d' nL' : Nat} {R : Room} (hd : d' + 1 ≤ d) (hR : d ≤ R.frames ∧ 40 * d ≤ R.locals) (hn : nL' ≤ 21) : (rmD d').frames + 1 ≤ R.frames ∧ 8 + (nL' + 11) + (rmD d').locals ≤ R.locals := by
  obtain ⟨h1, h2⟩ := hR
  refine ⟨Nat.le_trans hd h1, ?_⟩
  show 8 + (nL' + 11) + 40 * d' ≤ R.locals
  omega
theorem r_callV {idx n d' k s : Nat} {y : MethodName} {cc' : ByteArray} {nL' : Nat} {rt' : Option FieldType} {As : List Value} {Q1 : Option Value → Hp → Prop}
    (hdg : decode cc pc = .ok (.invokevirtual idx, 3)) (hl : Cond.methodLink own idx y ∈ tb) (hy : MO y cc' nL' rt' n) (hv : MV y) (hks : ksh k = s) (hs : s < 8) (hc : cR s = y.cls) (hn : As.length = n) (hC : Cl G l d' y cc' nL' rt' (.ref (gA G k) :: As) h Q1) (hd : d' + 1 ≤ d) (hst : st = As.reverse ++ .ref (gA G k) :: rest) (hW : (rest.map fun v => v.category).sum ≤ 8)
    (kk : ∀ (r : Option Value) (h' : Hp), Q1 r h' → Wp G l d own cc nL rt (pc + 3) ls (r.toList ++ rest) h' Q) : Wp G l d own cc nL rt pc ls st h Q := by
  subst hst
  intro p e R s0 m args below meth c H locs lsm Qm C hP hS hL hf
  obtain ⟨hx, hb, hr, hml, hown, hts, hR, hK, hE, hG⟩ := id C
  obtain ⟨⟨m1, m2⟩, m3, m4⟩ := hy
  have hkn : k < nW := ksh_lt hks (by omega)
  refine fl_call (va_runV (C := y.cls) (As := As) (rest := rest) ⟨hx, hb, hml, hown, hts⟩ hC (cwV n hts (tb_in _ ?_) rfl rfl rfl ⟨rfl, m3⟩ (rm_ok hd hR m4)) ⟨WD.blind, ?_, fun U hU hW => ⟨rfl, by rw [hU]; exact hP, va_K.moved hW.alike hK, by rw [hU]; exact EX.go hW hS hE⟩⟩ rfl hn hL.1 rfl (lv_room hW) hdg ⟨Nat.zero_le _, Nat.zero_le _⟩) hS (fun r h' H1 locs1 q hP1 hS1 => kk r h' q p e R s0 m args below meth c H1 locs1 lsm Qm C hP1 hS1 hL hf)
  · intro w hw
    unfold wsV at hw
    simp only [List.mem_append, List.mem_cons, List.not_mem_nil, or_false] at hw
    rcases hw with (rfl | rfl | rfl | rfl) | rfl | hw
    · exact hl
    · exact hv.1
    · exact hv.2
    · exact m1
    · exact m2
    · exact hw
  · obtain ⟨cell, g1, g2, g3⟩ := va_recv (q := (cR s, cT s, nfl s)) hK hP (c_at hs) (q0 := k) (by rw [wsO_at hkn, cel_obj hks hs])
    exact ⟨cell, g1, g2, by rw [← hc]; exact g3⟩
theorem r_callS {idx n d' : Nat} {y : MethodName} {cc' : ByteArray} {nL' : Nat} {rt' : Option FieldType} {As : List Value} {Q1 : Option Value → Hp → Prop}
    (hdg : decode cc pc = .ok (.invokestatic idx, 3)) (hl : Cond.methodLink own idx y ∈ tb) (hy : MO y cc' nL' rt' n) (hv : Cond.static y ∈ tb) (hn : As.length = n) (hC : Cl G l d' y cc' nL' rt' As h Q1) (hd : d' + 1 ≤ d) (hst : st = As.reverse ++ rest) (hW : (rest.map fun v => v.category).sum ≤ 8)
    (kk : ∀ (r : Option Value) (h' : Hp), Q1 r h' → Wp G l d own cc nL rt (pc + 3) ls (r.toList ++ rest) h' Q) : Wp G l d own cc nL rt pc ls st h Q := by
  subst hst
  intro p e R s0 m args below meth c H locs lsm Qm C hP hS hL hf
  obtain ⟨hx, hb, hr, hml, hown, hts, hR, hK, hE, hG⟩ := id C
  obtain ⟨⟨m1, m2⟩, m3, m4⟩ := hy
  refine fl_call (va_runS (As := As) (rest := rest) ⟨hx, hb, hml, hown, hts⟩ hC (va_cwS n hts (tb_in _ ?_) rfl rfl rfl m3 (rm_ok hd hR m4)) ⟨WD.blind, fun U hU hW => ⟨rfl, by rw [hU]; exact hP, va_K.moved hW.alike hK, by rw [hU]; exact EX.go hW hS hE⟩⟩ rfl hn hL.1 rfl (lv_room hW) hdg ⟨Nat.zero_le _, Nat.zero_le _⟩) hS (fun r h' H1 locs1 q hP1 hS1 => kk r h' q p e R s0 m args below meth c H1 locs1 lsm Qm C hP1 hS1 hL hf)
  intro w hw
  unfold va_wsS at hw
  simp only [List.mem_append, List.mem_cons, List.not_mem_nil, or_false] at hw
  rcases hw with (rfl | rfl | rfl) | rfl | hw
  · exact hl
  · exact hv
  · exact m1
  · exact m2
  · exact hw
/-! ends -/
theorem r_ireturn {v : Int32} (hdg : decode cc pc = .ok (.ireturn, 1)) (hr : ∃ ty, rt = some ty ∧ narrow ty (.int v) = .int v) (k : Q (some (.int v)) h) : Wp G l d own cc nL rt pc ls [.int v] h Q :=
  fun p e R s m args below meth c H locs lsm Qm C hP hS hL hf => hf (some (.int v)) h H locs pc lsm k hP hS ⟨hr, hdg⟩
theorem r_lreturn {v : Int64} (hdg : decode cc pc = .ok (.lreturn, 1)) (hr : rt = some .long) (k : Q (some (.long v)) h) : Wp G l d own cc nL rt pc ls [.long v] h Q :=
  fun p e R s m args below meth c H locs lsm Qm C hP hS hL hf => hf (some (.long v)) h H locs pc lsm k hP hS ⟨hr, hdg⟩
theorem r_areturn {v : Nat} (hdg : decode cc pc = .ok (.areturn, 1)) (hr : ∃ ty, rt = some ty ∧ ((∃ n, ty = .object n) ∨ ∃ t, ty = .array t)) (k : Q (some (.ref v)) h) : Wp G l d own cc nL rt pc ls [.ref v] h Q :=
  fun p e R s m args below meth c H locs lsm Qm C hP hS hL hf => hf (some (.ref v)) h H locs pc lsm k hP hS ⟨hr, hdg⟩
theorem r_return (hdg : decode cc pc = .ok (.return_, 1)) (hr : rt = none) (k : Q none h) : Wp G l d own cc nL rt pc ls [] h Q :=
  fun p e R s m args below meth c H locs lsm Qm C hP hS hL hf => hf none h H locs pc lsm k hP hS ⟨hr, hdg⟩
end FL
