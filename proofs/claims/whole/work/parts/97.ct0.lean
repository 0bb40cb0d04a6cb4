/-! how things come to be: rows for what makes cells; the world is a list whose head is what is being made -/
theorem vp_mem {D : va_G} {cl : List vw_C} {ws : va_W} {H : Heap} : va_P D cl ws H ↔ ∀ q ∈ ws, va_at D cl q H :=
  ⟨fun h q hq => by obtain ⟨k, hk⟩ := List.getElem?_of_mem hq; exact h k q hk, fun h k q hk => h q (List.mem_of_getElem? hk)⟩
theorem vd_nod {A : Nat → Prop} {ws : va_W} : va_D A ws ↔ (ws.map Prod.fst).Nodup ∧ ∀ q ∈ ws, A q.1 := by
  constructor
  · intro h
    refine ⟨List.pairwise_iff_getElem.mpr (fun i j hi hj hij e => ?_), fun q hq => by obtain ⟨k, hk⟩ := List.getElem?_of_mem hq; exact h.2 k q hk⟩
    rw [List.length_map] at hi hj
    rw [List.getElem_map, List.getElem_map] at e
    have := h.1 i j _ _ (List.getElem?_eq_getElem hi) (List.getElem?_eq_getElem hj) e
    omega
  · intro h
    refine ⟨fun i j p q hp hq e => ?_, fun k q hk => h.2 q (List.mem_of_getElem? hk)⟩
    have hi : i < (ws.map Prod.fst).length := by rw [List.length_map]; exact (List.getElem?_eq_some_iff.mp hp).1
    refine (List.getElem?_inj hi h.1).mp ?_
    rw [List.getElem?_map, List.getElem?_map, hp, hq]
    exact congrArg some e
theorem vp_perm {D : va_G} {cl : List vw_C} {ws ws' : va_W} {H : Heap} (h : va_P D cl ws H) (p : ws.Perm ws') : va_P D cl ws' H := vp_mem.mpr (fun q hq => vp_mem.mp h q (p.mem_iff.mpr hq))
theorem vd_perm {A : Nat → Prop} {ws ws' : va_W} (h : va_D A ws) (p : ws.Perm ws') : va_D A ws' := vd_nod.mpr ⟨(vd_nod.mp h).1.perm (p.map _), fun q hq => (vd_nod.mp h).2 q (p.mem_iff.mpr hq)⟩
theorem pm_ins {pre R w : va_W} : ((pre ++ R) ++ w).Perm (pre ++ (w ++ R)) := by
  rw [List.append_assoc]
  exact List.perm_append_comm.append_left pre
theorem rng_nd (n : Nat) : va_nd (List.range n) = true := by
  have key : ∀ l : List Nat, l.Nodup → va_nd l = true := by
    intro l
    induction l with
    | nil => intro _; rfl
    | cons a l ih =>
      intro h
      rw [List.nodup_cons] at h
      simp only [va_nd, Bool.and_eq_true, decide_eq_true_eq]
      exact ⟨h.1, ih h.2⟩
  exact key _ List.nodup_range
theorem cs_join {A0 : Nat → Prop} {D : va_G} {cl : List vw_C} {ws w1 : va_W} {x : Nat × va_E} {H H1 : Heap} (hP : va_P D cl (ws ++ [x]) H) (hD : va_D A0 (ws ++ [x])) (hk : ∀ q : Nat, q < H.size → ¬ va_A [x] H.size q → H1[q]? = H[q]?) (hF : ∀ q, va_A [x] H.size q → A0 q) (hP1 : va_P D cl w1 H1) (hD1 : va_D (va_A [x] H.size) w1) : va_P D cl (ws ++ w1) H1 ∧ va_D A0 (ws ++ w1) := by
  refine va_join (wc := [x]) (wr := ws) hP hD [ws.length] (List.range ws.length) ?_ ?_ (rng_nd _) ?_ hk hF hP1 hD1
  · simp
  · apply List.ext_getElem?
    intro j
    rw [List.getElem?_map, List.getElem?_map]
    by_cases hj : j < ws.length
    · rw [List.getElem?_range hj, List.getElem?_eq_getElem hj]
      show some ((ws ++ [x])[j]?) = some (some ws[j])
      rw [List.getElem?_append_left hj, List.getElem?_eq_getElem hj]
    · rw [List.getElem?_eq_none (by rw [List.length_range]; omega), List.getElem?_eq_none (by omega)]
      rfl
  · intro i hi
    have := List.mem_range.mp hi
    simp
    omega
abbrev ZP : Type := Program × Launch × Env × Room × State × MethodId × Array Value × List Frame × Method × Code
abbrev ZT : Type := ZP × va_G × List (ClassId × FieldType) × String × ByteArray × Nat × (Nat → Prop) × (State → Prop)
abbrev zp (Z : ZT) := Z.1.1
abbrev zl (Z : ZT) := Z.1.2.1
abbrev ze (Z : ZT) := Z.1.2.2.1
abbrev zR (Z : ZT) := Z.1.2.2.2.1
abbrev zs (Z : ZT) := Z.1.2.2.2.2.1
abbrev zm (Z : ZT) := Z.1.2.2.2.2.2.1
abbrev za (Z : ZT) := Z.1.2.2.2.2.2.2.1
abbrev zb (Z : ZT) := Z.1.2.2.2.2.2.2.2.1
abbrev zme (Z : ZT) := Z.1.2.2.2.2.2.2.2.2.1
abbrev zc (Z : ZT) := Z.1.2.2.2.2.2.2.2.2.2
abbrev zD (Z : ZT) := Z.2.1
abbrev zt (Z : ZT) := Z.2.2.1
abbrev zo (Z : ZT) := Z.2.2.2.1
abbrev zcc (Z : ZT) := Z.2.2.2.2.1
abbrev zn (Z : ZT) := Z.2.2.2.2.2.1
abbrev zA (Z : ZT) := Z.2.2.2.2.2.2.1
abbrev zQ (Z : ZT) := Z.2.2.2.2.2.2.2
def CX (Z : ZT) : Prop := (zp Z).tables.exec = Jvm.exec ∧ (zc Z).code = zcc Z ∧ (zc Z).maxLocals = zn Z ∧ (zs Z).vm.findClass (zo Z) = some (zm Z).cls ∧ (∀ w ∈ tb, w.before (za Z) (zs Z) = true) ∧ va_K (zD Z) vwCl (zt Z) (zs Z) ∧ (∀ q : Nat, (zs Z).heap.size ≤ q → zA Z q)
def Wc (Z : ZT) (nc ns pc : Nat) (lv : List (Nat × Value)) (st : List Value) (ws : va_W) : Prop :=
  ∀ (H : Heap) (locs : List Loc) (lsm : Array Slot), lv_has lsm (zn Z) lv → va_P (zD Z) vwCl ws H → va_D (zA Z) ws → va_S (zA Z) (zs Z).heap H locs → W (zp Z) (zl Z) (ze Z) (zR Z) (zs Z) (zm Z) (za Z) (zb Z) (zme Z) (zc Z) H locs nc ns (zQ Z) (F0 (zm Z) pc lsm st)
section CT
variable {Z : ZT} {nc ns pc : Nat} {lv : List (Nat × Value)} {st : List Value} {ws R pre : va_W}
theorem c_iconst (C : CX Z) {n : Int} {v : Int32} (hdg : decode (zcc Z) pc = .ok (.iconst n, 1)) (hv : Int32.ofInt n = v) (k : Wc Z nc ns (pc + 1) lv (.int v :: st) ws) : Wc Z nc ns pc lv st ws := fun H locs lsm hl hP hD hS => lv_iconst C.1 C.2.1 hdg hv (k H locs lsm hl hP hD hS)
theorem c_bipush (C : CX Z) {n : Int} {v : Int32} (hdg : decode (zcc Z) pc = .ok (.bipush n, 2)) (hv : (Int8.ofInt n).toInt32 = v) (k : Wc Z nc ns (pc + 2) lv (.int v :: st) ws) : Wc Z nc ns pc lv st ws := fun H locs lsm hl hP hD hS => lv_bipush C.1 C.2.1 hdg hv (k H locs lsm hl hP hD hS)
theorem c_sipush (C : CX Z) {n : Int} {v : Int32} (hdg : decode (zcc Z) pc = .ok (.sipush n, 3)) (hv : (Int16.ofInt n).toInt32 = v) (k : Wc Z nc ns (pc + 3) lv (.int v :: st) ws) : Wc Z nc ns pc lv st ws := fun H locs lsm hl hP hD hS => lv_sipush C.1 C.2.1 hdg hv (k H locs lsm hl hP hD hS)
theorem c_aload (C : CX Z) {k4 : Fin 4} {i x : Nat} (p : Nat) (hdg : decode (zcc Z) pc = .ok (.aload_n k4, 1)) (hi : (k4 : Nat) = i) (hat : lv[p]? = some (i, .ref x)) (k : Wc Z nc ns (pc + 1) lv (.ref x :: st) ws) : Wc Z nc ns pc lv st ws := fun H locs lsm hl hP hD hS => lv_aload_n C.1 C.2.1 hdg hi (lv_at hl p hat) (k H locs lsm hl hP hD hS)
theorem c_iload (C : CX Z) {k4 : Fin 4} {i : Nat} {x : Int32} (p : Nat) (hdg : decode (zcc Z) pc = .ok (.iload_n k4, 1)) (hi : (k4 : Nat) = i) (hat : lv[p]? = some (i, .int x)) (k : Wc Z nc ns (pc + 1) lv (.int x :: st) ws) : Wc Z nc ns pc lv st ws := fun H locs lsm hl hP hD hS => lv_iload_n C.1 C.2.1 hdg hi (lv_at hl p hat) (k H locs lsm hl hP hD hS)
theorem c_dup (C : CX Z) {va : Value} (hdg : decode (zcc Z) pc = .ok (.dup, 1)) (hva : va.category = 1) (k : Wc Z nc ns (pc + 1) lv (va :: va :: st) ws) : Wc Z nc ns pc lv (va :: st) ws := fun H locs lsm hl hP hD hS => lv_dup C.1 C.2.1 hdg hva (k H locs lsm hl hP hD hS)
theorem c_objI (C : CX Z) {idx x : Nat} (hdg : decode (zcc Z) pc = .ok (.invokespecial idx, 3)) (hlink : Cond.methodLink (zo Z) idx objectInit ∈ tb) (hin : Cond.instanceMethod objectInit ∈ tb) (hco : Cond.code objectInit ⟨#[0xb1]⟩ 1 none ∈ tb) (hf : 1 ≤ (zR Z).frames) (hlo : 12 ≤ (zR Z).locals) (k : Wc Z nc ns (pc + 3) lv [] ws) : Wc Z nc ns pc lv [.ref x] ws := fun H locs lsm hl hP hD hS =>
  W.objInit C.1 C.2.1 C.2.2.2.1 (C.2.2.2.2.1 _ hlink) (C.2.2.2.2.1 _ hin) (C.2.2.2.2.1 _ hco) rfl (by rw [C.2.2.1]; exact hl.1) rfl hdg hf hlo (W.eq (g2 := F0 (zm Z) (pc + 3) lsm []) rfl (k H locs lsm hl hP hD hS))
theorem c_putN (C : CX Z) {a ci idx : Nat} {fs fs' : List Value} {v : Value} (k : Nat) (hdg : decode (zcc Z) pc = .ok (.putfield idx, 3)) (hl : FLK (zo Z) idx ci k) (hs : ci < 8) (hk : k < nfl ci) (hfin : (cT ci k).2.2.2 = false) (hn : narrow (cTy ci k) v = v) (hfit : fits (cTy ci k) v = true) (hlen : k < fs.length) (hfs : fs.set k v = fs') (kk : Wc Z nc ns (pc + 3) lv st ((a, .inr (ci, fs')) :: R)) : Wc Z nc ns pc lv (v :: .ref a :: st) ((a, .inr (ci, fs)) :: R) := by
  subst hfs
  intro H locs lsm hlv hP hD hS
  exact va_put C.1 C.2.1 C.2.2.2.2.1 (c_in hs) (cTy ci) (c_ty hs) (c_nm hs) C.2.2.2.1 C.2.2.2.2.2.1 hP hD hS 0 rfl (c_at hs) k hk (C.2.2.2.2.1 _ hl) (fun x q => q) hfin (c_ty hs k hk) hn hfit hlen hdg (fun H1 locs1 hP1 hD1 hS1 => kk H1 locs1 lsm hlv hP1 hD1 hS1)
theorem c_putF (C : CX Z) (hin : (zme Z).name = "<init>") {a ci idx : Nat} {fs fs' : List Value} {v : Value} (k : Nat) (hdg : decode (zcc Z) pc = .ok (.putfield idx, 3)) (hl : FLK (zo Z) idx ci k) (hs : ci < 8) (hk : k < nfl ci) (hfin : (cT ci k).2.2.2 = true) (hdecl : (cT ci k).1 = zo Z) (hn : narrow (cTy ci k) v = v) (hfit : fits (cTy ci k) v = true) (hlen : k < fs.length) (hfs : fs.set k v = fs') (kk : Wc Z nc ns (pc + 3) lv st ((a, .inr (ci, fs')) :: R)) : Wc Z nc ns pc lv (v :: .ref a :: st) ((a, .inr (ci, fs)) :: R) := by
  subst hfs
  intro H locs lsm hlv hP hD hS
  exact va_putF C.1 C.2.1 C.2.2.2.2.1 (c_in hs) (cTy ci) (c_ty hs) (c_nm hs) C.2.2.2.1 C.2.2.2.2.2.1 hP hD hS 0 rfl (c_at hs) k hk (C.2.2.2.2.1 _ hl) (fun x q => q) hfin hin hdecl (c_ty hs k hk) hn hfit hlen hdg (fun H1 locs1 hP1 hD1 hS1 => kk H1 locs1 lsm hlv hP1 hD1 hS1)
theorem c_newa (C : CX Z) {N t0 : Nat} {n : Int32} {atype : ArrayType} {ty : FieldType} {cA0 : ClassId} {a0 : vp_A} (hdg : decode (zcc Z) pc = .ok (.newarray atype, 2)) (hw : Cond.arrayClass (newarray.typeOf atype) ∈ tb) (hty : newarray.typeOf atype = ty) (ht : (zt Z)[t0]? = some (cA0, ty)) (hra : ∀ cA : ClassId, va_RA (zs Z) cA ty → (zs Z).vm.findClass ("[" ++ ty.toString) = some cA) (ha : ∀ cA : ClassId, vp_cell cA a0 = arrV cA N (fun _ => defaultValue ty)) (hn : ¬ n < 0) (hN : n.toNatClampNeg = N) (hby : N * componentBytes ty ≤ 536870912) (h1 : nc + 1 ≤ (zR Z).cells) (h2 : ns + N ≤ (zR Z).slots)
    (kk : ∀ q : Nat, Wc Z (nc + 1) (ns + N) (pc + 2) lv (.ref q :: st) (pre ++ ((q, .inl (cA0, a0)) :: R))) : Wc Z nc ns pc lv (.int n :: st) (pre ++ R) := by
  intro H locs lsm hlv hP hD hS
  have hK := C.2.2.2.2.2.1
  refine va_newa C.1 C.2.1 (C.2.2.2.2.1 _ hw) hty hK hP hD hS C.2.2.2.2.2.2 ha hn hN hby h1 h2 hdg (fun q cA H1 hK1 hP1 hD1 hS1 => ?_)
  have e0 := hra _ (hK.2 t0 _ ht).2
  have e1 := hra _ (hK1.2 (zt Z).length (cA, ty) (by rw [List.getElem?_append_right (Nat.le_refl _), Nat.sub_self]; rfl)).2
  have : cA = cA0 := Option.some.inj (e1.symm.trans e0)
  subst this
  exact kk q H1 locs lsm hlv (vp_perm hP1 (pm_ins (w := [_]))) (vd_perm hD1 (pm_ins (w := [_]))) hS1
theorem c_newq (C : CX Z) {N t0 idx : Nat} {n : Int32} {Cn : String} {cA0 : ClassId} (hdg : decode (zcc Z) pc = .ok (.anewarray idx, 3)) (hcl : Cond.classLink (zo Z) idx Cn ∈ tb) (hov : va_AO Cn (zs Z)) (ht : (zt Z)[t0]? = some (cA0, .object Cn)) (hn : ¬ n < 0) (hN : n.toNatClampNeg = N) (hby : N * 4 ≤ 536870912) (h1 : nc + 1 ≤ (zR Z).cells) (h2 : ns + N ≤ (zR Z).slots)
    (kk : ∀ q : Nat, Wc Z (nc + 1) (ns + N) (pc + 3) lv (.ref q :: st) (pre ++ ((q, .inl (cA0, N, .inr (.inr (.inr (.inr (fun _ => none)))))) :: R))) : Wc Z nc ns pc lv (.int n :: st) (pre ++ R) := by
  intro H locs lsm hlv hP hD hS
  have hK := C.2.2.2.2.2.1
  refine va_newq C.1 C.2.1 C.2.2.2.1 (C.2.2.2.2.1 _ hcl) hov hK hP hD hS C.2.2.2.2.2.2 hn hN hby h1 h2 hdg (fun q cA H1 hK1 hP1 hD1 hS1 => ?_)
  obtain ⟨-, -, -, -, -, e0⟩ := (hK.2 t0 _ ht).2
  obtain ⟨-, -, -, -, -, e1⟩ := (hK1.2 (zt Z).length (cA, .object Cn) (by rw [List.getElem?_append_right (Nat.le_refl _), Nat.sub_self]; rfl)).2
  have : cA = cA0 := Option.some.inj (e1.symm.trans e0)
  subst this
  exact kk q H1 locs lsm hlv (vp_perm hP1 (pm_ins (w := [_]))) (vd_perm hD1 (pm_ins (w := [_]))) hS1
theorem c_iast (C : CX Z) {a n j t0 : Nat} {i x : Int32} {f : Nat → Int32} {cA : ClassId} {ws' : va_W} (q0 : Nat) (hdg : decode (zcc Z) pc = .ok (.iastore, 1)) (ht : (zt Z)[t0]? = some (cA, .int)) (hat : ws[q0]? = some (a, .inl (cA, n, .inl f))) (hi : i = nI j) (hj : j < n) (hn : n < 2 ^ 31) (hset : ws.set q0 (a, .inl (cA, n, .inl (upd f j x))) = ws') (kk : Wc Z nc ns (pc + 1) lv st ws') : Wc Z nc ns pc lv (.int x :: .int i :: .ref a :: st) ws := by
  subst hset
  intro H locs lsm hlv hP hD hS
  obtain ⟨e1, e2⟩ := ix_in hi hj hn
  refine va_iast C.1 C.2.1 C.2.2.2.2.2.1 hP hD hS q0 t0 hat ht e1 hdg (fun H1 locs1 hP1 hD1 hS1 => ?_)
  rw [e2] at hP1 hD1
  exact kk H1 locs1 lsm hlv hP1 hD1 hS1
theorem c_astq (C : CX Z) {a n j t0 v ci : Nat} {i : Int32} {f : Nat → Option Nat} {cA : ClassId} {vs : List Value} {ws' : va_W} {Cn : String} (q0 qk : Nat) (hdg : decode (zcc Z) pc = .ok (.aastore, 1)) (hci : ci < 8) (hCn : cR ci = Cn) (ht : (zt Z)[t0]? = some (cA, .object Cn)) (hat : ws[q0]? = some (a, .inl (cA, n, .inr (.inr (.inr (.inr f)))))) (hv : ws[qk]? = some (v, .inr (ci, vs))) (hi : i = nI j) (hj : j < n) (hn : n < 2 ^ 31) (hset : ws.set q0 (a, .inl (cA, n, .inr (.inr (.inr (.inr (va_up f j (some v))))))) = ws') (kk : Wc Z nc ns (pc + 1) lv st ws') : Wc Z nc ns pc lv (.ref v :: .int i :: .ref a :: st) ws := by
  subst hset
  subst hCn
  intro H locs lsm hlv hP hD hS
  obtain ⟨e1, e2⟩ := ix_in hi hj hn
  refine va_astq C.1 C.2.1 C.2.2.2.2.2.1 hP hD hS q0 t0 qk ci hat ht hv (c_at hci) e1 hdg (fun H1 locs1 hP1 hD1 hS1 => ?_)
  rw [e2] at hP1 hD1
  exact kk H1 locs1 lsm hlv hP1 hD1 hS1
theorem c_getR (C : CX Z) {a ci idx : Nat} {fs : List Value} {v : Value} (k : Nat) (hdg : decode (zcc Z) pc = .ok (.getfield idx, 3)) (hl : FLK (zo Z) idx ci k) (hs : ci < 8) (hk : k < nfl ci) (hv : fs[k]? = some v) (kk : Wc Z nc ns (pc + 3) lv (v :: st) ((a, .inr (ci, fs)) :: R)) : Wc Z nc ns pc lv (.ref a :: st) ((a, .inr (ci, fs)) :: R) := by
  intro H locs lsm hlv hP hD hS
  exact va_get C.1 C.2.1 C.2.2.2.2.1 (c_in hs) C.2.2.2.1 C.2.2.2.2.2.1 hP 0 rfl (c_at hs) k hk (C.2.2.2.2.1 _ hl) (fun x q => q) (v := v) hv hdg (kk H locs lsm hlv hP hD hS)
theorem c_istore (C : CX Z) {k4 : Fin 4} {i : Nat} {x : Int32} {lv' : List (Nat × Value)} (hdg : decode (zcc Z) pc = .ok (.istore_n k4, 1)) (hi : (k4 : Nat) = i) (hn : i < zn Z) (hl : (i, Value.int x) :: lv.filter (fun q => !(q.1 == i) && !(q.1 + 1 == i && q.2.category == 2)) = lv') (kk : Wc Z nc ns (pc + 1) lv' st ws) : Wc Z nc ns pc lv (.int x :: st) ws := fun H locs lsm hlv hP hD hS => lv_istore_n C.1 C.2.1 hdg hi hlv hn hl (fun lsm' hlv' => kk H locs lsm' hlv' hP hD hS)
theorem c_iinc (C : CX Z) {i : Nat} {n : Int} {x v : Int32} {lv' : List (Nat × Value)} (p : Nat) (hdg : decode (zcc Z) pc = .ok (.iinc i n, 3)) (hat : lv[p]? = some (i, .int x)) (hv : x + Int32.ofInt n = v) (hn : i < zn Z) (hl : (i, Value.int v) :: lv.filter (fun q => !(q.1 == i) && !(q.1 + 1 == i && q.2.category == 2)) = lv') (kk : Wc Z nc ns (pc + 3) lv' st ws) : Wc Z nc ns pc lv st ws := fun H locs lsm hlv hP hD hS => lv_iinc C.1 C.2.1 hdg hlv hat hv hn hl (fun lsm' hlv' => kk H locs lsm' hlv' hP hD hS)
theorem c_goto (C : CX Z) {off : Int} {tgt : Nat} (hdg : decode (zcc Z) pc = .ok (.goto off, 3)) (ht : (pc : Int) + off = (tgt : Int)) (kk : Wc Z nc ns tgt lv st ws) : Wc Z nc ns pc lv st ws := fun H locs lsm hlv hP hD hS => lv_goto C.1 C.2.1 hdg ht (kk H locs lsm hlv hP hD hS)
theorem c_icmp_ge (C : CX Z) {x y : Int32} {off : Int} {tgt : Nat} (hdg : decode (zcc Z) pc = .ok (.if_icmp .ge off, 3)) (ht : (pc : Int) + off = (tgt : Int)) (kt : x ≥ y → Wc Z nc ns tgt lv st ws) (kf : ¬ x ≥ y → Wc Z nc ns (pc + 3) lv st ws) : Wc Z nc ns pc lv (.int y :: .int x :: st) ws := fun H locs lsm hlv hP hD hS => lv_icmp_ge C.1 C.2.1 hdg ht (fun q => kt q H locs lsm hlv hP hD hS) (fun q => kf q H locs lsm hlv hP hD hS)
end CT
