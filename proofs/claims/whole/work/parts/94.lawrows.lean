/-! the law stands in a room where something was made: the rows that it needs, over any such room -/
def WpN (nc ns : Nat) (G : WT) (l : Launch) (d : Nat) (own : String) (cc : ByteArray) (nL : Nat) (rt : Option FieldType) (pc : Nat) (ls st : List Value) (h : Hp) (Q : Option Value → Hp → Prop) : Prop :=
  ∀ (p : Program) (e : Env) (R : Room) (s : State) (m : MethodId) (args : Array Value) (below : List Frame) (meth : Method) (c : Code) (H : Heap) (locs : List Loc) (lsm : Array Slot) (Qm : State → Prop),
    MC G d own cc nL rt p R s m args meth c → (nc ≤ R.cells ∧ ns ≤ R.slots) → va_P (gD G) vwCl (wsO G h) H → va_S (AS G) s.heap H locs → LR nL ls lsm →
    (∀ (r : Option Value) (h' : Hp) (H' : Heap) (locs' : List Loc) (pc' : Nat) (ls' : Array Slot), Q r h' → va_P (gD G) vwCl (wsO G h') H' → va_S (AS G) s.heap H' locs' → RetI cc rt pc' r → W p l e R s m args below meth c H' locs' nc ns Qm (F0 m pc' ls' r.toList)) →
    W p l e R s m args below meth c H locs nc ns Qm (F0 m pc lsm st)
section FN
variable {nc ns : Nat} {G : WT} {l : Launch} {d : Nat} {own : String} {cc : ByteArray} {nL : Nat} {rt : Option FieldType} {pc : Nat} {ls st rest : List Value} {h : Hp} {Q : Option Value → Hp → Prop}
theorem fl_callN {p : Program} {e : Env} {R : Room} {s : State} {m : MethodId} {args : Array Value} {below : List Frame} {meth : Method} {c : Code} {H : Heap} {locs : List Loc} {Qm : State → Prop} {lsm : Array Slot} {st0 : List Value} {a : Array Value} {Q1 : Option Value → Hp → Prop}
    (hr : va_Run p l e R s m args below meth c H locs nc ns 0 0 (F0 m pc lsm st0) rest (ClQ G Q1 a) (AS G)) (hS : va_S (AS G) s.heap H locs)
    (kk : ∀ (r : Option Value) (h' : Hp) (H1 : Heap) (locs1 : List Loc), Q1 r h' → va_P (gD G) vwCl (wsO G h') H1 → va_S (AS G) s.heap H1 locs1 → W p l e R s m args below meth c H1 locs1 nc ns Qm (F0 m (pc + 3) lsm (r.toList ++ rest))) : W p l e R s m args below meth c H locs nc ns Qm (F0 m pc lsm st0) := by
  intro T hT X
  obtain ⟨v, st₀, t, T', L, h0, X', hL, e1, e2, ⟨⟨r, h', hv, hq, hP1, hK1, hE1⟩, hz, hk⟩, st⟩ := hr T hT X
  cases hv
  rw [h0] at hz hk
  obtain ⟨t2, a1, b1⟩ := kk v h' T'.heap (locs ++ L) hq (by rw [e1]; exact hP1)
    ⟨Nat.le_trans hS.1 (by rw [e1]; exact hz), fun q h1 h2 => by rw [e1, hk q (Nat.lt_of_lt_of_le h1 hS.1) h2]; exact hS.2.1 q h1 h2, fun q hq => by
      rcases List.mem_append.mp hq with h | h
      · exact hS.2.2 q h
      · exact hL q h⟩ T' rfl X'
  exact ⟨t2, st t2 a1, b1⟩
theorem q_callV {idx n d' k s : Nat} {y : MethodName} {cc' : ByteArray} {nL' : Nat} {rt' : Option FieldType} {As : List Value} {Q1 : Option Value → Hp → Prop}
    (hdg : decode cc pc = .ok (.invokevirtual idx, 3)) (hl : Cond.methodLink own idx y ∈ tb) (hy : MO y cc' nL' rt' n) (hv : MV y) (hks : ksh k = s) (hs : s < 8) (hc : cR s = y.cls) (hn : As.length = n) (hC : Cl G l d' y cc' nL' rt' (.ref (gA G k) :: As) h Q1) (hd : d' + 1 ≤ d) (hst : st = As.reverse ++ .ref (gA G k) :: rest) (hW : (rest.map fun v => v.category).sum ≤ 8)
    (kk : ∀ (r : Option Value) (h' : Hp), Q1 r h' → WpN nc ns G l d own cc nL rt (pc + 3) ls (r.toList ++ rest) h' Q) : WpN nc ns G l d own cc nL rt pc ls st h Q := by
  subst hst
  intro p e R s0 m args below meth c H locs lsm Qm C hN hP hS hL hf
  obtain ⟨hx, hb, hr, hml, hown, hts, hR, hK, hE, hG⟩ := id C
  obtain ⟨⟨m1, m2⟩, m3, m4⟩ := hy
  have hkn : k < nW := ksh_lt hks (by omega)
  refine fl_callN (va_runV (C := y.cls) (As := As) (rest := rest) ⟨hx, hb, hml, hown, hts⟩ hC (cwV n hts (tb_in _ ?_) rfl rfl rfl ⟨rfl, m3⟩ (rm_ok hd hR m4)) ⟨WD.blind, ?_, fun U hU hW => ⟨rfl, by rw [hU]; exact hP, va_K.moved hW.alike hK, by rw [hU]; exact EX.go hW hS hE⟩⟩ rfl hn hL.1 rfl (lv_room hW) hdg hN) hS (fun r h' H1 locs1 q hP1 hS1 => kk r h' q p e R s0 m args below meth c H1 locs1 lsm Qm C hN hP1 hS1 hL hf)
  · intro w hw
    unfold wsV at hw
    simp only [List.mem_append, List.mem_cons, List.not_mem_nil, or_false] at hw
    rcases hw with (rfl | rfl | rfl | rfl) | rfl | hw
    · exact hl
    · exact hv.1
    · exact hv.2
    · exact m1
    · exact m2
    · exact hw
  · obtain ⟨cell, g1, g2, g3⟩ := va_recv (q := (cR s, cT s, nfl s)) hK hP (c_at hs) (q0 := k) (by rw [wsO_at hkn, cel_obj hks hs])
    exact ⟨cell, g1, g2, by rw [← hc]; exact g3⟩
theorem q_iconst {n : Int} {v : Int32} (hdg : decode cc pc = .ok (.iconst n, 1)) (hv : Int32.ofInt n = v) (k : WpN nc ns G l d own cc nL rt (pc + 1) ls (.int v :: rest) h Q) : WpN nc ns G l d own cc nL rt pc ls rest h Q :=
  fun p e R s m args below meth c H locs lsm Qm C hN hP hS hL hf => lv_iconst C.1 C.2.1 hdg hv (k p e R s m args below meth c H locs lsm Qm C hN hP hS hL hf)
theorem q_bipush {n : Int} {v : Int32} (hdg : decode cc pc = .ok (.bipush n, 2)) (hv : (Int8.ofInt n).toInt32 = v) (k : WpN nc ns G l d own cc nL rt (pc + 2) ls (.int v :: rest) h Q) : WpN nc ns G l d own cc nL rt pc ls rest h Q :=
  fun p e R s m args below meth c H locs lsm Qm C hN hP hS hL hf => lv_bipush C.1 C.2.1 hdg hv (k p e R s m args below meth c H locs lsm Qm C hN hP hS hL hf)
theorem q_ldc2 {i : Nat} {v : Int64} (hdg : decode cc pc = .ok (.ldc2_w i, 3)) (hw : Cond.constantLong own i v ∈ tb) (k : WpN nc ns G l d own cc nL rt (pc + 3) ls (.long v :: rest) h Q) : WpN nc ns G l d own cc nL rt pc ls rest h Q :=
  fun p e R s m args below meth c H locs lsm Qm C hN hP hS hL hf => lv_ldc2 C.1 C.2.1 C.2.2.2.2.1 (C.2.2.2.2.2.1 _ hw) hdg (k p e R s m args below meth c H locs lsm Qm C hN hP hS hL hf)
theorem q_iload_n {k4 : Fin 4} {x : Int32} (hdg : decode cc pc = .ok (.iload_n k4, 1)) (hl : ls[(k4 : Nat)]? = some (.int x)) (k : WpN nc ns G l d own cc nL rt (pc + 1) ls (.int x :: rest) h Q) : WpN nc ns G l d own cc nL rt pc ls rest h Q :=
  fun p e R s m args below meth c H locs lsm Qm C hN hP hS hL hf => lv_iload_n C.1 C.2.1 hdg rfl (hL.2.2 _ _ hl rfl) (k p e R s m args below meth c H locs lsm Qm C hN hP hS hL hf)
theorem q_aload_n {k4 : Fin 4} {x : Nat} (hdg : decode cc pc = .ok (.aload_n k4, 1)) (hl : ls[(k4 : Nat)]? = some (.ref x)) (k : WpN nc ns G l d own cc nL rt (pc + 1) ls (.ref x :: rest) h Q) : WpN nc ns G l d own cc nL rt pc ls rest h Q :=
  fun p e R s m args below meth c H locs lsm Qm C hN hP hS hL hf => lv_aload_n C.1 C.2.1 hdg rfl (hL.2.2 _ _ hl rfl) (k p e R s m args below meth c H locs lsm Qm C hN hP hS hL hf)
theorem q_iadd {x y : Int32} (hdg : decode cc pc = .ok (.iadd, 1))  (k : WpN nc ns G l d own cc nL rt (pc + 1) ls (.int (x + y) :: rest) h Q) : WpN nc ns G l d own cc nL rt pc ls (.int y :: .int x :: rest) h Q :=
  fun p e R s m args below meth c H locs lsm Qm C hN hP hS hL hf => lv_iadd C.1 C.2.1 hdg (k p e R s m args below meth c H locs lsm Qm C hN hP hS hL hf)
theorem q_isub {x y : Int32} (hdg : decode cc pc = .ok (.isub, 1))  (k : WpN nc ns G l d own cc nL rt (pc + 1) ls (.int (x - y) :: rest) h Q) : WpN nc ns G l d own cc nL rt pc ls (.int y :: .int x :: rest) h Q :=
  fun p e R s m args below meth c H locs lsm Qm C hN hP hS hL hf => lv_isub C.1 C.2.1 hdg (k p e R s m args below meth c H locs lsm Qm C hN hP hS hL hf)
theorem q_iand {x y : Int32} (hdg : decode cc pc = .ok (.iand, 1))  (k : WpN nc ns G l d own cc nL rt (pc + 1) ls (.int (x &&& y) :: rest) h Q) : WpN nc ns G l d own cc nL rt pc ls (.int y :: .int x :: rest) h Q :=
  fun p e R s m args below meth c H locs lsm Qm C hN hP hS hL hf => lv_iand C.1 C.2.1 hdg (k p e R s m args below meth c H locs lsm Qm C hN hP hS hL hf)
theorem q_iinc {i : Nat} {n : Int} {x v : Int32} {ls' : List Value} (hdg : decode cc pc = .ok (.iinc i n, 3)) (hx : ls[i]? = some (.int x)) (hv : x + Int32.ofInt n = v) (hn : i < nL) (hno : noL ls i = true) (hls : ls.set i (.int v) = ls') (k : WpN nc ns G l d own cc nL rt (pc + 3) ls' rest h Q) : WpN nc ns G l d own cc nL rt pc ls rest h Q := by
  intro p e R s m args below meth c H locs lsm Qm C hN hP hS hL hf
  obtain ⟨q, hq⟩ := List.getElem?_of_mem (lvOf_mem.mpr ⟨hx, rfl⟩)
  exact lv_iinc C.1 C.2.1 hdg hL.has hq hv hn rfl (fun lsm1 hl1 => k p e R s m args below meth c H locs lsm1 Qm C hN hP hS (hls ▸ LR.st1 hno hl1) hf)
theorem q_i2l {x : Int32} (hdg : decode cc pc = .ok (.i2l, 1))  (k : WpN nc ns G l d own cc nL rt (pc + 1) ls (.long (x.toInt64) :: rest) h Q) : WpN nc ns G l d own cc nL rt pc ls (.int x :: rest) h Q :=
  fun p e R s m args below meth c H locs lsm Qm C hN hP hS hL hf => lv_i2l C.1 C.2.1 hdg rfl (k p e R s m args below meth c H locs lsm Qm C hN hP hS hL hf)
theorem q_lshl {x : Int64} {y : Int32} (hdg : decode cc pc = .ok (.lshl, 1))  (k : WpN nc ns G l d own cc nL rt (pc + 1) ls (.long (x <<< (y.toInt64 &&& 63)) :: rest) h Q) : WpN nc ns G l d own cc nL rt pc ls (.int y :: .long x :: rest) h Q :=
  fun p e R s m args below meth c H locs lsm Qm C hN hP hS hL hf => lv_lshl C.1 C.2.1 hdg rfl (k p e R s m args below meth c H locs lsm Qm C hN hP hS hL hf)
theorem q_land {x y : Int64} (hdg : decode cc pc = .ok (.land, 1))  (k : WpN nc ns G l d own cc nL rt (pc + 1) ls (.long (x &&& y) :: rest) h Q) : WpN nc ns G l d own cc nL rt pc ls (.long y :: .long x :: rest) h Q :=
  fun p e R s m args below meth c H locs lsm Qm C hN hP hS hL hf => lv_land C.1 C.2.1 hdg (k p e R s m args below meth c H locs lsm Qm C hN hP hS hL hf)
theorem q_lor {x y : Int64} (hdg : decode cc pc = .ok (.lor, 1))  (k : WpN nc ns G l d own cc nL rt (pc + 1) ls (.long (x ||| y) :: rest) h Q) : WpN nc ns G l d own cc nL rt pc ls (.long y :: .long x :: rest) h Q :=
  fun p e R s m args below meth c H locs lsm Qm C hN hP hS hL hf => lv_lor C.1 C.2.1 hdg (k p e R s m args below meth c H locs lsm Qm C hN hP hS hL hf)
theorem q_lcmp {x y : Int64} (hdg : decode cc pc = .ok (.lcmp, 1))  (k : WpN nc ns G l d own cc nL rt (pc + 1) ls (.int (lg_cmp x y) :: rest) h Q) : WpN nc ns G l d own cc nL rt pc ls (.long y :: .long x :: rest) h Q :=
  fun p e R s m args below meth c H locs lsm Qm C hN hP hS hL hf => W.lcmp C.1 C.2.1 hdg (k p e R s m args below meth c H locs lsm Qm C hN hP hS hL hf)
theorem q_if_eq {x : Int32} {off : Int} {tgt : Nat} (hdg : decode cc pc = .ok (.ifCond .eq off, 3)) (ht : (pc : Int) + off = (tgt : Int)) (kt : x = 0 → WpN nc ns G l d own cc nL rt tgt ls rest h Q) (kf : ¬ x = 0 → WpN nc ns G l d own cc nL rt (pc + 3) ls rest h Q) : WpN nc ns G l d own cc nL rt pc ls (.int x :: rest) h Q :=
  fun p e R s m args below meth c H locs lsm Qm C hN hP hS hL hf => lv_if_eq C.1 C.2.1 hdg ht (fun q => kt q p e R s m args below meth c H locs lsm Qm C hN hP hS hL hf) (fun q => kf q p e R s m args below meth c H locs lsm Qm C hN hP hS hL hf)
theorem q_icmp_eq {x y : Int32} {off : Int} {tgt : Nat} (hdg : decode cc pc = .ok (.if_icmp .eq off, 3)) (ht : (pc : Int) + off = (tgt : Int)) (kt : x = y → WpN nc ns G l d own cc nL rt tgt ls rest h Q) (kf : ¬ x = y → WpN nc ns G l d own cc nL rt (pc + 3) ls rest h Q) : WpN nc ns G l d own cc nL rt pc ls (.int y :: .int x :: rest) h Q :=
  fun p e R s m args below meth c H locs lsm Qm C hN hP hS hL hf => lv_icmp_eq C.1 C.2.1 hdg ht (fun q => kt q p e R s m args below meth c H locs lsm Qm C hN hP hS hL hf) (fun q => kf q p e R s m args below meth c H locs lsm Qm C hN hP hS hL hf)
theorem q_icmp_gt {x y : Int32} {off : Int} {tgt : Nat} (hdg : decode cc pc = .ok (.if_icmp .gt off, 3)) (ht : (pc : Int) + off = (tgt : Int)) (kt : y < x → WpN nc ns G l d own cc nL rt tgt ls rest h Q) (kf : ¬ y < x → WpN nc ns G l d own cc nL rt (pc + 3) ls rest h Q) : WpN nc ns G l d own cc nL rt pc ls (.int y :: .int x :: rest) h Q :=
  fun p e R s m args below meth c H locs lsm Qm C hN hP hS hL hf => lv_icmp_gt C.1 C.2.1 hdg ht (fun q => kt q p e R s m args below meth c H locs lsm Qm C hN hP hS hL hf) (fun q => kf q p e R s m args below meth c H locs lsm Qm C hN hP hS hL hf)
theorem q_goto {off : Int} {tgt : Nat} (hdg : decode cc pc = .ok (.goto off, 3)) (ht : (pc : Int) + off = (tgt : Int)) (k : WpN nc ns G l d own cc nL rt tgt ls rest h Q) : WpN nc ns G l d own cc nL rt pc ls rest h Q :=
  fun p e R s m args below meth c H locs lsm Qm C hN hP hS hL hf => lv_goto C.1 C.2.1 hdg ht (k p e R s m args below meth c H locs lsm Qm C hN hP hS hL hf)
theorem q_tsw {dflt lo hi : Int} {offs : Array Int} {len : Nat} {x : Int32} (tgt : Nat) (hdg : decode cc pc = .ok (.tableswitch dflt lo hi offs, len)) (hlen : (offs.toList.length : Int) = hi - lo + 1) (hpos : 0 ≤ pc + dflt ∧ ∀ o ∈ offs.toList, 0 ≤ pc + o) (ht : tswT dflt lo hi offs.toList pc x.toInt = tgt) (k : WpN nc ns G l d own cc nL rt tgt ls rest h Q) : WpN nc ns G l d own cc nL rt pc ls (.int x :: rest) h Q := by
  intro p e R s0 m args below meth c H locs lsm Qm C hN hP hS hL hf
  subst ht
  by_cases c1 : x.toInt < lo ∨ hi < x.toInt
  · rw [tswT, if_pos c1] at k
    exact lv_tableOut C.1 C.2.1 hdg c1 (by omega) (k p e R s0 m args below meth c H locs lsm Qm C hN hP hS hL hf)
  · rw [tswT, if_neg c1] at k
    have hlt : (x.toInt - lo).toNat < offs.toList.length := by omega
    have eo : offs[(x.toInt - lo).toNat]? = some (offs.toList.getD (x.toInt - lo).toNat 0) := by
      rw [← Array.getElem?_toList, List.getD_eq_getElem?_getD, List.getElem?_eq_getElem hlt]
      rfl
    have h0 : 0 ≤ (pc : Int) + offs.toList.getD (x.toInt - lo).toNat 0 := hpos.2 _ (by rw [List.getD_eq_getElem?_getD, List.getElem?_eq_getElem hlt]; exact List.getElem_mem hlt)
    exact lv_tableIn C.1 C.2.1 hdg (by omega) (by omega) eo (by omega) (k p e R s0 m args below meth c H locs lsm Qm C hN hP hS hL hf)
theorem q_sld {i : Int32} (j : Nat) (hdg : decode cc pc = .ok (.iaload, 1)) (hi : i = nI j) (hj : j < gL G) (hL2 : gL G < 2 ^ 31) (k : WpN nc ns G l d own cc nL rt (pc + 1) ls (.int (gxs G j) :: rest) h Q) : WpN nc ns G l d own cc nL rt pc ls (.int i :: .ref (gX G) :: rest) h Q := by
  intro p e R s0 m args below meth c H locs lsm Qm C hN hP hS hL hf
  obtain ⟨e1, e2⟩ := ix_in hi hj hL2
  obtain ⟨x1, x2, x3⟩ := C.2.2.2.2.2.2.2.2.1.2.2.2.2
  refine va_sld C.1 C.2.1 x1 x2 x3 hS e1 hdg ?_
  rw [e2]
  exact k p e R s0 m args below meth c H locs lsm Qm C hN hP hS hL hf
theorem q_slen (hdg : decode cc pc = .ok (.arraylength, 1)) (k : WpN nc ns G l d own cc nL rt (pc + 1) ls (.int (nI (gL G)) :: rest) h Q) : WpN nc ns G l d own cc nL rt pc ls (.ref (gX G) :: rest) h Q := by
  intro p e R s0 m args below meth c H locs lsm Qm C hN hP hS hL hf
  obtain ⟨x1, x2, x3⟩ := C.2.2.2.2.2.2.2.2.1.2.2.2.2
  exact va_slen C.1 C.2.1 x1 x2 x3 hS hdg (k p e R s0 m args below meth c H locs lsm Qm C hN hP hS hL hf)
theorem q_ireturn {v : Int32} (hdg : decode cc pc = .ok (.ireturn, 1)) (hr : ∃ ty, rt = some ty ∧ narrow ty (.int v) = .int v) (k : Q (some (.int v)) h) : WpN nc ns G l d own cc nL rt pc ls [.int v] h Q :=
  fun p e R s m args below meth c H locs lsm Qm C hN hP hS hL hf => hf (some (.int v)) h H locs pc lsm k hP hS ⟨hr, hdg⟩
end FN
