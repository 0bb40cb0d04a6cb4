/-! a constructor's contract: from the bare object to the object with all that hangs on it -/
abbrev mkZ (p : Program) (l : Launch) (e : Env) (R : Room) (s : State) (m : MethodId) (args : Array Value) (below : List Frame) (meth : Method) (c : Code) (D : va_G) (tys : List (ClassId × FieldType)) (o : String) (cc : ByteArray) (n : Nat) (A : Nat → Prop) (Q : State → Prop) : ZT := ((p, l, e, R, s, m, args, below, meth, c), D, tys, o, cc, n, A, Q)
abbrev rmC (d mc ms : Nat) : Room := { frames := d, cells := mc, slots := ms, locals := 40 * d }
def AOs (U : State) : Prop := va_AO RX1 U ∧ va_AO RX5 U
theorem AOs.moved {u U : State} (hvm : u.vm.Alike U.vm) (h : AOs u) : AOs U := ⟨h.1.moved hvm, h.2.moved hvm⟩
def CtC (l : Launch) (D : va_G) (tys : List (ClassId × FieldType)) (d : Nat) (y : MethodName) (cc : ByteArray) (nL ci : Nat) (fs0 : List Value) (mc ms : Nat) (shape : (Nat → Nat) → va_W) : Prop :=
  ∀ (h0 sz : Nat), Met l y (.code y cc nL none :: tb) (rmC d mc ms) (va_Pc [.ref h0] (fun U => U.heap.size = sz ∧ va_P D vwCl [(h0, .inr (ci, fs0))] U.heap ∧ va_K D vwCl tys U ∧ va_D (fun _ => True) [(h0, .inr (ci, fs0))] ∧ AOs U)) (va_Qv (fun T : Nat → Nat => T 0 = h0) (fun T t => va_P D vwCl (shape T) t.heap ∧ va_D (va_A [(h0, .inr (ci, fs0))] sz) (shape T)) (va_A [(h0, .inr (ci, fs0))] sz)) mc ms (va_A [(h0, .inr (ci, fs0))] sz)
theorem ct_of {l : Launch} {D : va_G} {tys : List (ClassId × FieldType)} {d : Nat} {y : MethodName} {cc : ByteArray} {nL ci : Nat} {fs0 : List Value} {mc ms : Nat} {shape : (Nat → Nat) → va_W} (hy : plainName y.cls = true) (hn : y.name = "<init>") (hent : 1 ≤ nL)
    (body : ∀ (p : Program) (e : Env) (s : State) (m : MethodId) (args : Array Value) (below : List Frame) (meth : Method) (c : Code) (A : Nat → Prop) (Q : State → Prop) (h0 : Nat), CX (mkZ p l e (rmC d mc ms) s m args below meth c D tys y.cls cc nL A Q) → AOs s → meth.name = "<init>" →
      (∀ (pc : Nat) (lv : List (Nat × Value)) (T : Nat → Nat), decode cc pc = .ok (.return_, 1) → T 0 = h0 → Wc (mkZ p l e (rmC d mc ms) s m args below meth c D tys y.cls cc nL A Q) mc ms pc lv [] (shape T)) →
      Wc (mkZ p l e (rmC d mc ms) s m args below meth c D tys y.cls cc nL A Q) 0 0 0 [(0, .ref h0)] [] [(h0, .inr (ci, fs0))]) : CtC l D tys d y cc nL ci fs0 mc ms shape := by
  intro h0 sz
  refine Met.ofW (cc := cc) (maxL := nL) (ret := none) hy rfl ?_
  intro p e s m args below meth c s₁ B hml hv
  obtain ⟨rfl, hsz, hP, hK, hD0, ao⟩ := hv
  have hx := B.exec
  have hb := B.bytes
  have hr := B.returns
  have hts := atoms_spec (ws := .code y cc nL none :: tb) B.pre
  have hown : s.vm.findClass y.cls = some m.cls := findClass_of_methodNamed B.named
  have hlocks := B.notSynchronized
  have hin : meth.name = "<init>" := (name_of_methodNamed B.named B.method).1.trans hn
  subst hsz
  have hD := hD0.self (sz := s.heap.size)
  have hl := lv_entry ([.ref h0]) (n := nL) hent
  rw [lg_entry_eq]
  generalize (lg_sl ([.ref h0]) ++ List.replicate (nL - (lg_sl ([.ref h0])).length) Slot.unset).toArray = lsm at hl ⊢
  refine body p e s m _ below meth c (va_A [(h0, .inr (ci, fs0))] s.heap.size) _ h0 ⟨hx, hb, hml, hown, fun w hw => hts w (List.mem_cons_of_mem _ hw), hK, fun q h => Or.inr h⟩ ao hin ?_ s.heap [] lsm hl hP hD va_S.rf
  intro pc lv T hdg hT H locs lsm2 hlv hP2 hD2 hS2
  exact W.vret hx hb hr (fun t ht hW => ⟨⟨T, rfl, hT, by rw [ht]; exact hP2, hD2⟩, hS2.F ht⟩) hS2.2.2 hdg hlocks
section CN
variable {Z : ZT} {nc ns pc : Nat} {lv : List (Nat × Value)} {st : List Value} {R pre : va_W}
theorem c_newC (C : CX Z) (ao : AOs (zs Z)) {idx idx2 d ci mc ms nL' : Nat} {y : MethodName} {cc' : ByteArray} {fs0 : List Value} {shape : (Nat → Nat) → va_W} (hC : CtC (zl Z) (zD Z) (zt Z) d y cc' nL' ci fs0 mc ms shape) (hd1 : decode (zcc Z) pc = .ok (.new idx, 3)) (hd2 : decode (zcc Z) (pc + 3) = .ok (.dup, 1)) (hd3 : decode (zcc Z) (pc + 4) = .ok (.invokespecial idx2, 3)) (hci : ci < 8) (hcl : Cond.classLink (zo Z) idx (cR ci) ∈ tb) (hinst : Cond.instantiable (cR ci) (nfl ci) ∈ tb) (hy : MO y cc' nL' none 0) (hy1 : y.name = "<init>") (hyc : y.cls = cR ci) (hml : Cond.methodLink (zo Z) idx2 y ∈ tb) (hin : Cond.instanceMethod y ∈ tb) (hfs : ∀ j, j < nfl ci → defaultValue (cTy ci j) = vp_V fs0 j) (hn1 : nc + 1 + mc ≤ (zR Z).cells) (hn2 : ns + nfl ci + ms ≤ (zR Z).slots) (hf : d + 1 ≤ (zR Z).frames ∧ 8 + (nL' + 11) + 40 * d ≤ (zR Z).locals) (hst : (st.map fun v => v.category).sum ≤ 7)
    (kk : ∀ T : Nat → Nat, Wc Z (nc + 1 + mc) (ns + nfl ci + ms) (pc + 7) lv (.ref (T 0) :: st) (pre ++ (shape T ++ R))) : Wc Z nc ns pc lv st (pre ++ R) := by
  intro H locs lsm hlv hP hD hS
  obtain ⟨hx, hb, hm, hown, hts, hK, hA⟩ := id C
  have hini : Cond.initialized (cR ci) ∈ tb := by rw [← hyc]; exact hy.1.1
  refine va_new (ci := ci) (fs := fs0) (C := cR ci) (T := cT ci) (N := nfl ci) hx hb hts (c_in hci) (cTy ci) (c_ty hci) hown (hts _ hcl) (hts _ hinst) (hts _ hini) hK hP hD hS hA (c_at hci) hfs (by omega) (by omega) hd1 (fun q H1 hP1 hD1 hS1 => ?_)
  refine lv_dup hx hb hd2 rfl ?_
  have hPc : va_P (zD Z) vwCl [(q, .inr (ci, fs0))] H1 := vp_mem.mpr (fun x hx1 => vp_mem.mp hP1 x (List.mem_append_right _ hx1))
  have hDc : va_D (fun _ => True) [(q, (.inr (ci, fs0) : va_E))] := vd_nod.mpr ⟨by simp, fun _ _ => trivial⟩
  have hFc : ∀ x, va_A [(q, .inr (ci, fs0))] H1.size x → zA Z x := by
    intro x hx1
    rcases hx1 with ⟨k, e, hk⟩ | h
    · have h1 := List.mem_of_getElem? hk
      exact (vd_nod.mp hD1).2 (x, e) (List.mem_append_right _ h1)
    · exact hA x (Nat.le_trans hS1.1 h)
  have hst8 : (((Value.ref q) :: st).map fun v => v.category).sum ≤ 8 := by
    show 1 + (st.map fun v => v.category).sum ≤ 8
    omega
  refine va_callv (va_runI (As := []) (rest := .ref q :: st) ⟨hx, hb, hm, hown, hts⟩ (hC q H1.size) (cwI 0 hts (tb_in _ ?_) rfl rfl rfl (hts _ hy.1.1) (hts _ hml) (hts _ hin) hy1 hy.2.1 hf) ⟨fun a U g mk z => ⟨z.1, z.2.1, z.2.2.1, va_K.moved (u := U) (U := U.calling g mk a) (Vm.Alike.refl U.vm) z.2.2.2.1, z.2.2.2.2.1, AOs.moved (u := U) (U := U.calling g mk a) (Vm.Alike.refl U.vm) z.2.2.2.2.2⟩, fun U hU hW => ⟨rfl, by rw [hU], by rw [hU]; exact hPc, va_K.moved hW.alike hK, hDc, ao.moved hW.alike⟩⟩ rfl rfl hlv.1 rfl (lv_room hst8) hd3 ⟨hn1, hn2⟩) hS1 (fun x _ h => hFc x h) hFc (fun u t H2 locs2 ht hvm h5 hB hz1 hk1 hS2 => ?_)
  · intro w hw
    rcases List.mem_cons.mp hw with rfl | hw
    · exact hy.1.2
    · exact hw
  · obtain ⟨hP2, hD2⟩ := hB
    rw [ht] at hP2
    obtain ⟨hP3, hD3⟩ := cs_join hP1 hD1 hk1 hFc hP2 hD2
    have k1 := kk u H2 locs2 lsm hlv (vp_perm hP3 pm_ins) (vd_perm hD3 pm_ins) hS2
    rw [h5] at k1
    exact k1
end CN
