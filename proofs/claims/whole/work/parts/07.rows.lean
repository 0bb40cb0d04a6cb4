section FR
variable {G : WT} {l : Launch} {d : Nat} {own : String} {cc : ByteArray} {nL : Nat} {rt : Option FieldType} {pc : Nat} {ls rest : List Value} {h : Hp} {Q : Option Value → Hp → Prop}
theorem r_iconst {n : Int} {v : Int32} (hdg : decode cc pc = .ok (.iconst n, 1)) (hv : Int32.ofInt n = v) (k : Wp G l d own cc nL rt (pc + 1) ls (.int v :: rest) h Q) : Wp G l d own cc nL rt pc ls rest h Q :=
  fun p e R s m args below meth c H locs lsm Qm C hP hS hL hf => lv_iconst C.1 C.2.1 hdg hv (k p e R s m args below meth c H locs lsm Qm C hP hS hL hf)
theorem r_bipush {n : Int} {v : Int32} (hdg : decode cc pc = .ok (.bipush n, 2)) (hv : (Int8.ofInt n).toInt32 = v) (k : Wp G l d own cc nL rt (pc + 2) ls (.int v :: rest) h Q) : Wp G l d own cc nL rt pc ls rest h Q :=
  fun p e R s m args below meth c H locs lsm Qm C hP hS hL hf => lv_bipush C.1 C.2.1 hdg hv (k p e R s m args below meth c H locs lsm Qm C hP hS hL hf)
theorem r_sipush {n : Int} {v : Int32} (hdg : decode cc pc = .ok (.sipush n, 3)) (hv : (Int16.ofInt n).toInt32 = v) (k : Wp G l d own cc nL rt (pc + 3) ls (.int v :: rest) h Q) : Wp G l d own cc nL rt pc ls rest h Q :=
  fun p e R s m args below meth c H locs lsm Qm C hP hS hL hf => lv_sipush C.1 C.2.1 hdg hv (k p e R s m args below meth c H locs lsm Qm C hP hS hL hf)
theorem r_lconst {n : Fin 2} {v : Int64} (hdg : decode cc pc = .ok (.lconst n, 1)) (hv : Int64.ofNat (n : Nat) = v) (k : Wp G l d own cc nL rt (pc + 1) ls (.long v :: rest) h Q) : Wp G l d own cc nL rt pc ls rest h Q :=
  fun p e R s m args below meth c H locs lsm Qm C hP hS hL hf => lv_lconst C.1 C.2.1 hdg hv (k p e R s m args below meth c H locs lsm Qm C hP hS hL hf)
theorem r_ldc {i : Nat} {v : Int32} (hdg : decode cc pc = .ok (.ldc i, 2)) (hw : Cond.constant own i v ∈ tb) (k : Wp G l d own cc nL rt (pc + 2) ls (.int v :: rest) h Q) : Wp G l d own cc nL rt pc ls rest h Q :=
  fun p e R s m args below meth c H locs lsm Qm C hP hS hL hf => lv_ldc C.1 C.2.1 C.2.2.2.2.1 (C.2.2.2.2.2.1 _ hw) hdg (k p e R s m args below meth c H locs lsm Qm C hP hS hL hf)
theorem r_ldcw {i : Nat} {v : Int32} (hdg : decode cc pc = .ok (.ldc_w i, 3)) (hw : Cond.constant own i v ∈ tb) (k : Wp G l d own cc nL rt (pc + 3) ls (.int v :: rest) h Q) : Wp G l d own cc nL rt pc ls rest h Q :=
  fun p e R s m args below meth c H locs lsm Qm C hP hS hL hf => lv_ldcw C.1 C.2.1 C.2.2.2.2.1 (C.2.2.2.2.2.1 _ hw) hdg (k p e R s m args below meth c H locs lsm Qm C hP hS hL hf)
theorem r_ldc2 {i : Nat} {v : Int64} (hdg : decode cc pc = .ok (.ldc2_w i, 3)) (hw : Cond.constantLong own i v ∈ tb) (k : Wp G l d own cc nL rt (pc + 3) ls (.long v :: rest) h Q) : Wp G l d own cc nL rt pc ls rest h Q :=
  fun p e R s m args below meth c H locs lsm Qm C hP hS hL hf => lv_ldc2 C.1 C.2.1 C.2.2.2.2.1 (C.2.2.2.2.2.1 _ hw) hdg (k p e R s m args below meth c H locs lsm Qm C hP hS hL hf)
theorem r_iload_n {k4 : Fin 4} {x : Int32} (hdg : decode cc pc = .ok (.iload_n k4, 1)) (hl : ls[(k4 : Nat)]? = some (.int x)) (k : Wp G l d own cc nL rt (pc + 1) ls (.int x :: rest) h Q) : Wp G l d own cc nL rt pc ls rest h Q :=
  fun p e R s m args below meth c H locs lsm Qm C hP hS hL hf => lv_iload_n C.1 C.2.1 hdg rfl (hL.2.2 _ _ hl rfl) (k p e R s m args below meth c H locs lsm Qm C hP hS hL hf)
theorem r_iload {i : Nat} {x : Int32} (hdg : decode cc pc = .ok (.iload i, 2)) (hl : ls[i]? = some (.int x)) (k : Wp G l d own cc nL rt (pc + 2) ls (.int x :: rest) h Q) : Wp G l d own cc nL rt pc ls rest h Q :=
  fun p e R s m args below meth c H locs lsm Qm C hP hS hL hf => lv_iload C.1 C.2.1 hdg (hL.2.2 _ _ hl rfl) (k p e R s m args below meth c H locs lsm Qm C hP hS hL hf)
theorem r_lload_n {k4 : Fin 4} {x : Int64} (hdg : decode cc pc = .ok (.lload_n k4, 1)) (hl : ls[(k4 : Nat)]? = some (.long x)) (k : Wp G l d own cc nL rt (pc + 1) ls (.long x :: rest) h Q) : Wp G l d own cc nL rt pc ls rest h Q :=
  fun p e R s m args below meth c H locs lsm Qm C hP hS hL hf => lv_lload_n C.1 C.2.1 hdg rfl (hL.2.2 _ _ hl rfl) (k p e R s m args below meth c H locs lsm Qm C hP hS hL hf)
theorem r_lload {i : Nat} {x : Int64} (hdg : decode cc pc = .ok (.lload i, 2)) (hl : ls[i]? = some (.long x)) (k : Wp G l d own cc nL rt (pc + 2) ls (.long x :: rest) h Q) : Wp G l d own cc nL rt pc ls rest h Q :=
  fun p e R s m args below meth c H locs lsm Qm C hP hS hL hf => lv_lload C.1 C.2.1 hdg (hL.2.2 _ _ hl rfl) (k p e R s m args below meth c H locs lsm Qm C hP hS hL hf)
theorem r_aload_n {k4 : Fin 4} {x : Nat} (hdg : decode cc pc = .ok (.aload_n k4, 1)) (hl : ls[(k4 : Nat)]? = some (.ref x)) (k : Wp G l d own cc nL rt (pc + 1) ls (.ref x :: rest) h Q) : Wp G l d own cc nL rt pc ls rest h Q :=
  fun p e R s m args below meth c H locs lsm Qm C hP hS hL hf => lv_aload_n C.1 C.2.1 hdg rfl (hL.2.2 _ _ hl rfl) (k p e R s m args below meth c H locs lsm Qm C hP hS hL hf)
theorem r_aload {i : Nat} {x : Nat} (hdg : decode cc pc = .ok (.aload i, 2)) (hl : ls[i]? = some (.ref x)) (k : Wp G l d own cc nL rt (pc + 2) ls (.ref x :: rest) h Q) : Wp G l d own cc nL rt pc ls rest h Q :=
  fun p e R s m args below meth c H locs lsm Qm C hP hS hL hf => lv_aload C.1 C.2.1 hdg (hL.2.2 _ _ hl rfl) (k p e R s m args below meth c H locs lsm Qm C hP hS hL hf)
theorem r_istore_n {k4 : Fin 4} {x : Int32} {ls' : List Value} (hdg : decode cc pc = .ok (.istore_n k4, 1)) (hn : (k4 : Nat) < nL) (hno : noL ls (k4 : Nat) = true) (hls : ls.set (k4 : Nat) (.int x) = ls') (k : Wp G l d own cc nL rt (pc + 1) ls' rest h Q) : Wp G l d own cc nL rt pc ls (.int x :: rest) h Q :=
  fun p e R s m args below meth c H locs lsm Qm C hP hS hL hf => lv_istore_n C.1 C.2.1 hdg rfl hL.has hn rfl (fun lsm1 hl1 => k p e R s m args below meth c H locs lsm1 Qm C hP hS (hls ▸ LR.st1 hno hl1) hf)
theorem r_istore {i : Nat} {x : Int32} {ls' : List Value} (hdg : decode cc pc = .ok (.istore i, 2)) (hn : i < nL) (hno : noL ls i = true) (hls : ls.set i (.int x) = ls') (k : Wp G l d own cc nL rt (pc + 2) ls' rest h Q) : Wp G l d own cc nL rt pc ls (.int x :: rest) h Q :=
  fun p e R s m args below meth c H locs lsm Qm C hP hS hL hf => lv_istore C.1 C.2.1 hdg hL.has hn rfl (fun lsm1 hl1 => k p e R s m args below meth c H locs lsm1 Qm C hP hS (hls ▸ LR.st1 hno hl1) hf)
theorem r_astore_n {k4 : Fin 4} {x : Nat} {ls' : List Value} (hdg : decode cc pc = .ok (.astore_n k4, 1)) (hn : (k4 : Nat) < nL) (hno : noL ls (k4 : Nat) = true) (hls : ls.set (k4 : Nat) (.ref x) = ls') (k : Wp G l d own cc nL rt (pc + 1) ls' rest h Q) : Wp G l d own cc nL rt pc ls (.ref x :: rest) h Q :=
  fun p e R s m args below meth c H locs lsm Qm C hP hS hL hf => lv_astore_n C.1 C.2.1 hdg rfl hL.has hn rfl (fun lsm1 hl1 => k p e R s m args below meth c H locs lsm1 Qm C hP hS (hls ▸ LR.st1 hno hl1) hf)
theorem r_astore {i : Nat} {x : Nat} {ls' : List Value} (hdg : decode cc pc = .ok (.astore i, 2)) (hn : i < nL) (hno : noL ls i = true) (hls : ls.set i (.ref x) = ls') (k : Wp G l d own cc nL rt (pc + 2) ls' rest h Q) : Wp G l d own cc nL rt pc ls (.ref x :: rest) h Q :=
  fun p e R s m args below meth c H locs lsm Qm C hP hS hL hf => lv_astore C.1 C.2.1 hdg hL.has hn rfl (fun lsm1 hl1 => k p e R s m args below meth c H locs lsm1 Qm C hP hS (hls ▸ LR.st1 hno hl1) hf)
theorem r_lstore_n {k4 : Fin 4} {x : Int64} {ls' : List Value} (hdg : decode cc pc = .ok (.lstore_n k4, 1)) (hn : (k4 : Nat) + 1 < nL) (hno : noL ls (k4 : Nat) = true) (hls : (ls.set (k4 : Nat) (.long x)).set ((k4 : Nat) + 1) mk0 = ls') (k : Wp G l d own cc nL rt (pc + 1) ls' rest h Q) : Wp G l d own cc nL rt pc ls (.long x :: rest) h Q :=
  fun p e R s m args below meth c H locs lsm Qm C hP hS hL hf => lv_lstore_n C.1 C.2.1 hdg rfl hL.has hn rfl (fun lsm1 hl1 => k p e R s m args below meth c H locs lsm1 Qm C hP hS (hls ▸ LR.st2 hno hl1) hf)
theorem r_lstore {i : Nat} {x : Int64} {ls' : List Value} (hdg : decode cc pc = .ok (.lstore i, 2)) (hn : i + 1 < nL) (hno : noL ls i = true) (hls : (ls.set i (.long x)).set (i + 1) mk0 = ls') (k : Wp G l d own cc nL rt (pc + 2) ls' rest h Q) : Wp G l d own cc nL rt pc ls (.long x :: rest) h Q :=
  fun p e R s m args below meth c H locs lsm Qm C hP hS hL hf => lv_lstore C.1 C.2.1 hdg hL.has hn rfl (fun lsm1 hl1 => k p e R s m args below meth c H locs lsm1 Qm C hP hS (hls ▸ LR.st2 hno hl1) hf)
theorem r_iinc {i : Nat} {n : Int} {x v : Int32} {ls' : List Value} (hdg : decode cc pc = .ok (.iinc i n, 3)) (hx : ls[i]? = some (.int x)) (hv : x + Int32.ofInt n = v) (hn : i < nL) (hno : noL ls i = true) (hls : ls.set i (.int v) = ls') (k : Wp G l d own cc nL rt (pc + 3) ls' rest h Q) : Wp G l d own cc nL rt pc ls rest h Q := by
  intro p e R s m args below meth c H locs lsm Qm C hP hS hL hf
  obtain ⟨q, hq⟩ := List.getElem?_of_mem (lvOf_mem.mpr ⟨hx, rfl⟩)
  exact lv_iinc C.1 C.2.1 hdg hL.has hq hv hn rfl (fun lsm1 hl1 => k p e R s m args below meth c H locs lsm1 Qm C hP hS (hls ▸ LR.st1 hno hl1) hf)
theorem r_iadd {x y : Int32} (hdg : decode cc pc = .ok (.iadd, 1))  (k : Wp G l d own cc nL rt (pc + 1) ls (.int (x + y) :: rest) h Q) : Wp G l d own cc nL rt pc ls (.int y :: .int x :: rest) h Q :=
  fun p e R s m args below meth c H locs lsm Qm C hP hS hL hf => lv_iadd C.1 C.2.1 hdg (k p e R s m args below meth c H locs lsm Qm C hP hS hL hf)
theorem r_isub {x y : Int32} (hdg : decode cc pc = .ok (.isub, 1))  (k : Wp G l d own cc nL rt (pc + 1) ls (.int (x - y) :: rest) h Q) : Wp G l d own cc nL rt pc ls (.int y :: .int x :: rest) h Q :=
  fun p e R s m args below meth c H locs lsm Qm C hP hS hL hf => lv_isub C.1 C.2.1 hdg (k p e R s m args below meth c H locs lsm Qm C hP hS hL hf)
theorem r_imul {x y : Int32} (hdg : decode cc pc = .ok (.imul, 1))  (k : Wp G l d own cc nL rt (pc + 1) ls (.int (x * y) :: rest) h Q) : Wp G l d own cc nL rt pc ls (.int y :: .int x :: rest) h Q :=
  fun p e R s m args below meth c H locs lsm Qm C hP hS hL hf => lv_imul C.1 C.2.1 hdg (k p e R s m args below meth c H locs lsm Qm C hP hS hL hf)
theorem r_iand {x y : Int32} (hdg : decode cc pc = .ok (.iand, 1))  (k : Wp G l d own cc nL rt (pc + 1) ls (.int (x &&& y) :: rest) h Q) : Wp G l d own cc nL rt pc ls (.int y :: .int x :: rest) h Q :=
  fun p e R s m args below meth c H locs lsm Qm C hP hS hL hf => lv_iand C.1 C.2.1 hdg (k p e R s m args below meth c H locs lsm Qm C hP hS hL hf)
theorem r_ior {x y : Int32} (hdg : decode cc pc = .ok (.ior, 1))  (k : Wp G l d own cc nL rt (pc + 1) ls (.int (x ||| y) :: rest) h Q) : Wp G l d own cc nL rt pc ls (.int y :: .int x :: rest) h Q :=
  fun p e R s m args below meth c H locs lsm Qm C hP hS hL hf => lv_ior C.1 C.2.1 hdg (k p e R s m args below meth c H locs lsm Qm C hP hS hL hf)
theorem r_ixor {x y : Int32} (hdg : decode cc pc = .ok (.ixor, 1))  (k : Wp G l d own cc nL rt (pc + 1) ls (.int (x ^^^ y) :: rest) h Q) : Wp G l d own cc nL rt pc ls (.int y :: .int x :: rest) h Q :=
  fun p e R s m args below meth c H locs lsm Qm C hP hS hL hf => lv_ixor C.1 C.2.1 hdg (k p e R s m args below meth c H locs lsm Qm C hP hS hL hf)
theorem r_ishl {x y : Int32} (hdg : decode cc pc = .ok (.ishl, 1))  (k : Wp G l d own cc nL rt (pc + 1) ls (.int (x <<< (y &&& 31)) :: rest) h Q) : Wp G l d own cc nL rt pc ls (.int y :: .int x :: rest) h Q :=
  fun p e R s m args below meth c H locs lsm Qm C hP hS hL hf => lv_ishl C.1 C.2.1 hdg (k p e R s m args below meth c H locs lsm Qm C hP hS hL hf)
theorem r_ishr {x y : Int32} (hdg : decode cc pc = .ok (.ishr, 1))  (k : Wp G l d own cc nL rt (pc + 1) ls (.int (x >>> (y &&& 31)) :: rest) h Q) : Wp G l d own cc nL rt pc ls (.int y :: .int x :: rest) h Q :=
  fun p e R s m args below meth c H locs lsm Qm C hP hS hL hf => lv_ishr C.1 C.2.1 hdg (k p e R s m args below meth c H locs lsm Qm C hP hS hL hf)
theorem r_idiv {x y : Int32} (hdg : decode cc pc = .ok (.idiv, 1)) (hne : ¬ y = 0) (k : Wp G l d own cc nL rt (pc + 1) ls (.int (x / y) :: rest) h Q) : Wp G l d own cc nL rt pc ls (.int y :: .int x :: rest) h Q :=
  fun p e R s m args below meth c H locs lsm Qm C hP hS hL hf => lv_idiv C.1 C.2.1 hdg hne (k p e R s m args below meth c H locs lsm Qm C hP hS hL hf)
theorem r_irem {x y : Int32} (hdg : decode cc pc = .ok (.irem, 1)) (hne : ¬ y = 0) (k : Wp G l d own cc nL rt (pc + 1) ls (.int (x - x / y * y) :: rest) h Q) : Wp G l d own cc nL rt pc ls (.int y :: .int x :: rest) h Q :=
  fun p e R s m args below meth c H locs lsm Qm C hP hS hL hf => lv_irem C.1 C.2.1 hdg hne (k p e R s m args below meth c H locs lsm Qm C hP hS hL hf)
theorem r_ineg {x : Int32} (hdg : decode cc pc = .ok (.ineg, 1))  (k : Wp G l d own cc nL rt (pc + 1) ls (.int (-x) :: rest) h Q) : Wp G l d own cc nL rt pc ls (.int x :: rest) h Q :=
  fun p e R s m args below meth c H locs lsm Qm C hP hS hL hf => lv_ineg C.1 C.2.1 hdg (k p e R s m args below meth c H locs lsm Qm C hP hS hL hf)
theorem r_ladd {x y : Int64} (hdg : decode cc pc = .ok (.ladd, 1))  (k : Wp G l d own cc nL rt (pc + 1) ls (.long (x + y) :: rest) h Q) : Wp G l d own cc nL rt pc ls (.long y :: .long x :: rest) h Q :=
  fun p e R s m args below meth c H locs lsm Qm C hP hS hL hf => lv_ladd C.1 C.2.1 hdg (k p e R s m args below meth c H locs lsm Qm C hP hS hL hf)
theorem r_lsub {x y : Int64} (hdg : decode cc pc = .ok (.lsub, 1))  (k : Wp G l d own cc nL rt (pc + 1) ls (.long (x - y) :: rest) h Q) : Wp G l d own cc nL rt pc ls (.long y :: .long x :: rest) h Q :=
  fun p e R s m args below meth c H locs lsm Qm C hP hS hL hf => lv_lsub C.1 C.2.1 hdg (k p e R s m args below meth c H locs lsm Qm C hP hS hL hf)
theorem r_lmul {x y : Int64} (hdg : decode cc pc = .ok (.lmul, 1))  (k : Wp G l d own cc nL rt (pc + 1) ls (.long (x * y) :: rest) h Q) : Wp G l d own cc nL rt pc ls (.long y :: .long x :: rest) h Q :=
  fun p e R s m args below meth c H locs lsm Qm C hP hS hL hf => lv_lmul C.1 C.2.1 hdg (k p e R s m args below meth c H locs lsm Qm C hP hS hL hf)
theorem r_land {x y : Int64} (hdg : decode cc pc = .ok (.land, 1))  (k : Wp G l d own cc nL rt (pc + 1) ls (.long (x &&& y) :: rest) h Q) : Wp G l d own cc nL rt pc ls (.long y :: .long x :: rest) h Q :=
  fun p e R s m args below meth c H locs lsm Qm C hP hS hL hf => lv_land C.1 C.2.1 hdg (k p e R s m args below meth c H locs lsm Qm C hP hS hL hf)
theorem r_lor {x y : Int64} (hdg : decode cc pc = .ok (.lor, 1))  (k : Wp G l d own cc nL rt (pc + 1) ls (.long (x ||| y) :: rest) h Q) : Wp G l d own cc nL rt pc ls (.long y :: .long x :: rest) h Q :=
  fun p e R s m args below meth c H locs lsm Qm C hP hS hL hf => lv_lor C.1 C.2.1 hdg (k p e R s m args below meth c H locs lsm Qm C hP hS hL hf)
theorem r_ldiv {x y : Int64} (hdg : decode cc pc = .ok (.ldiv, 1)) (hne : ¬ y = 0) (k : Wp G l d own cc nL rt (pc + 1) ls (.long (x / y) :: rest) h Q) : Wp G l d own cc nL rt pc ls (.long y :: .long x :: rest) h Q :=
  fun p e R s m args below meth c H locs lsm Qm C hP hS hL hf => lv_ldiv C.1 C.2.1 hdg hne (k p e R s m args below meth c H locs lsm Qm C hP hS hL hf)
theorem r_lrem {x y : Int64} (hdg : decode cc pc = .ok (.lrem, 1)) (hne : ¬ y = 0) (k : Wp G l d own cc nL rt (pc + 1) ls (.long (x - x / y * y) :: rest) h Q) : Wp G l d own cc nL rt pc ls (.long y :: .long x :: rest) h Q :=
  fun p e R s m args below meth c H locs lsm Qm C hP hS hL hf => lv_lrem C.1 C.2.1 hdg hne (k p e R s m args below meth c H locs lsm Qm C hP hS hL hf)
theorem r_lneg {x : Int64} (hdg : decode cc pc = .ok (.lneg, 1))  (k : Wp G l d own cc nL rt (pc + 1) ls (.long (-x) :: rest) h Q) : Wp G l d own cc nL rt pc ls (.long x :: rest) h Q :=
  fun p e R s m args below meth c H locs lsm Qm C hP hS hL hf => lv_lneg C.1 C.2.1 hdg (k p e R s m args below meth c H locs lsm Qm C hP hS hL hf)
theorem r_lshl {x : Int64} {y : Int32} (hdg : decode cc pc = .ok (.lshl, 1))  (k : Wp G l d own cc nL rt (pc + 1) ls (.long (x <<< (y.toInt64 &&& 63)) :: rest) h Q) : Wp G l d own cc nL rt pc ls (.int y :: .long x :: rest) h Q :=
  fun p e R s m args below meth c H locs lsm Qm C hP hS hL hf => lv_lshl C.1 C.2.1 hdg rfl (k p e R s m args below meth c H locs lsm Qm C hP hS hL hf)
theorem r_lcmp {x y : Int64} (hdg : decode cc pc = .ok (.lcmp, 1))  (k : Wp G l d own cc nL rt (pc + 1) ls (.int (lg_cmp x y) :: rest) h Q) : Wp G l d own cc nL rt pc ls (.long y :: .long x :: rest) h Q :=
  fun p e R s m args below meth c H locs lsm Qm C hP hS hL hf => W.lcmp C.1 C.2.1 hdg (k p e R s m args below meth c H locs lsm Qm C hP hS hL hf)
theorem r_i2l {x : Int32} (hdg : decode cc pc = .ok (.i2l, 1))  (k : Wp G l d own cc nL rt (pc + 1) ls (.long (x.toInt64) :: rest) h Q) : Wp G l d own cc nL rt pc ls (.int x :: rest) h Q :=
  fun p e R s m args below meth c H locs lsm Qm C hP hS hL hf => lv_i2l C.1 C.2.1 hdg rfl (k p e R s m args below meth c H locs lsm Qm C hP hS hL hf)
theorem r_l2i {x : Int64} (hdg : decode cc pc = .ok (.l2i, 1))  (k : Wp G l d own cc nL rt (pc + 1) ls (.int (x.toInt32) :: rest) h Q) : Wp G l d own cc nL rt pc ls (.long x :: rest) h Q :=
  fun p e R s m args below meth c H locs lsm Qm C hP hS hL hf => lv_l2i C.1 C.2.1 hdg rfl (k p e R s m args below meth c H locs lsm Qm C hP hS hL hf)
theorem r_i2b {x : Int32} (hdg : decode cc pc = .ok (.i2b, 1))  (k : Wp G l d own cc nL rt (pc + 1) ls (.int (x.toInt8.toInt32) :: rest) h Q) : Wp G l d own cc nL rt pc ls (.int x :: rest) h Q :=
  fun p e R s m args below meth c H locs lsm Qm C hP hS hL hf => lv_i2b C.1 C.2.1 hdg rfl (k p e R s m args below meth c H locs lsm Qm C hP hS hL hf)
theorem r_i2s {x : Int32} (hdg : decode cc pc = .ok (.i2s, 1))  (k : Wp G l d own cc nL rt (pc + 1) ls (.int (x.toInt16.toInt32) :: rest) h Q) : Wp G l d own cc nL rt pc ls (.int x :: rest) h Q :=
  fun p e R s m args below meth c H locs lsm Qm C hP hS hL hf => lv_i2s C.1 C.2.1 hdg rfl (k p e R s m args below meth c H locs lsm Qm C hP hS hL hf)
theorem r_i2c {x : Int32} (hdg : decode cc pc = .ok (.i2c, 1))  (k : Wp G l d own cc nL rt (pc + 1) ls (.int ((x.toUInt32 % 65536).toInt32) :: rest) h Q) : Wp G l d own cc nL rt pc ls (.int x :: rest) h Q :=
  fun p e R s m args below meth c H locs lsm Qm C hP hS hL hf => lv_i2c C.1 C.2.1 hdg rfl (k p e R s m args below meth c H locs lsm Qm C hP hS hL hf)
theorem r_dup {v : Value} (hdg : decode cc pc = .ok (.dup, 1)) (hv : v.category = 1) (k : Wp G l d own cc nL rt (pc + 1) ls (v :: v :: rest) h Q) : Wp G l d own cc nL rt pc ls (v :: rest) h Q :=
  fun p e R s m args below meth c H locs lsm Qm C hP hS hL hf => lv_dup C.1 C.2.1 hdg hv (k p e R s m args below meth c H locs lsm Qm C hP hS hL hf)
theorem r_pop {v : Value} (hdg : decode cc pc = .ok (.pop, 1)) (hv : v.category = 1) (k : Wp G l d own cc nL rt (pc + 1) ls rest h Q) : Wp G l d own cc nL rt pc ls (v :: rest) h Q :=
  fun p e R s m args below meth c H locs lsm Qm C hP hS hL hf => lv_pop C.1 C.2.1 hdg hv (k p e R s m args below meth c H locs lsm Qm C hP hS hL hf)
theorem r_dup2 {v w : Value} (hdg : decode cc pc = .ok (.dup2, 1)) (hv : v.category = 1) (hw : w.category = 1) (k : Wp G l d own cc nL rt (pc + 1) ls (v :: w :: v :: w :: rest) h Q) : Wp G l d own cc nL rt pc ls (v :: w :: rest) h Q :=
  fun p e R s m args below meth c H locs lsm Qm C hP hS hL hf => lv_dup2_11 C.1 C.2.1 hdg hv hw (k p e R s m args below meth c H locs lsm Qm C hP hS hL hf)
theorem r_if_eq {x : Int32} {off : Int} {tgt : Nat} (hdg : decode cc pc = .ok (.ifCond .eq off, 3)) (ht : (pc : Int) + off = (tgt : Int)) (kt : x = 0 → Wp G l d own cc nL rt tgt ls rest h Q) (kf : ¬ x = 0 → Wp G l d own cc nL rt (pc + 3) ls rest h Q) : Wp G l d own cc nL rt pc ls (.int x :: rest) h Q :=
  fun p e R s m args below meth c H locs lsm Qm C hP hS hL hf => lv_if_eq C.1 C.2.1 hdg ht (fun q => kt q p e R s m args below meth c H locs lsm Qm C hP hS hL hf) (fun q => kf q p e R s m args below meth c H locs lsm Qm C hP hS hL hf)
theorem r_icmp_eq {x y : Int32} {off : Int} {tgt : Nat} (hdg : decode cc pc = .ok (.if_icmp .eq off, 3)) (ht : (pc : Int) + off = (tgt : Int)) (kt : x = y → Wp G l d own cc nL rt tgt ls rest h Q) (kf : ¬ x = y → Wp G l d own cc nL rt (pc + 3) ls rest h Q) : Wp G l d own cc nL rt pc ls (.int y :: .int x :: rest) h Q :=
  fun p e R s m args below meth c H locs lsm Qm C hP hS hL hf => lv_icmp_eq C.1 C.2.1 hdg ht (fun q => kt q p e R s m args below meth c H locs lsm Qm C hP hS hL hf) (fun q => kf q p e R s m args below meth c H locs lsm Qm C hP hS hL hf)
theorem r_if_ne {x : Int32} {off : Int} {tgt : Nat} (hdg : decode cc pc = .ok (.ifCond .ne off, 3)) (ht : (pc : Int) + off = (tgt : Int)) (kt : ¬ x = 0 → Wp G l d own cc nL rt tgt ls rest h Q) (kf : x = 0 → Wp G l d own cc nL rt (pc + 3) ls rest h Q) : Wp G l d own cc nL rt pc ls (.int x :: rest) h Q :=
  fun p e R s m args below meth c H locs lsm Qm C hP hS hL hf => lv_if_ne C.1 C.2.1 hdg ht (fun q => kt q p e R s m args below meth c H locs lsm Qm C hP hS hL hf) (fun q => kf q p e R s m args below meth c H locs lsm Qm C hP hS hL hf)
theorem r_icmp_ne {x y : Int32} {off : Int} {tgt : Nat} (hdg : decode cc pc = .ok (.if_icmp .ne off, 3)) (ht : (pc : Int) + off = (tgt : Int)) (kt : ¬ x = y → Wp G l d own cc nL rt tgt ls rest h Q) (kf : x = y → Wp G l d own cc nL rt (pc + 3) ls rest h Q) : Wp G l d own cc nL rt pc ls (.int y :: .int x :: rest) h Q :=
  fun p e R s m args below meth c H locs lsm Qm C hP hS hL hf => lv_icmp_ne C.1 C.2.1 hdg ht (fun q => kt q p e R s m args below meth c H locs lsm Qm C hP hS hL hf) (fun q => kf q p e R s m args below meth c H locs lsm Qm C hP hS hL hf)
theorem r_if_lt {x : Int32} {off : Int} {tgt : Nat} (hdg : decode cc pc = .ok (.ifCond .lt off, 3)) (ht : (pc : Int) + off = (tgt : Int)) (kt : x < 0 → Wp G l d own cc nL rt tgt ls rest h Q) (kf : ¬ x < 0 → Wp G l d own cc nL rt (pc + 3) ls rest h Q) : Wp G l d own cc nL rt pc ls (.int x :: rest) h Q :=
  fun p e R s m args below meth c H locs lsm Qm C hP hS hL hf => lv_if_lt C.1 C.2.1 hdg ht (fun q => kt q p e R s m args below meth c H locs lsm Qm C hP hS hL hf) (fun q => kf q p e R s m args below meth c H locs lsm Qm C hP hS hL hf)
theorem r_icmp_lt {x y : Int32} {off : Int} {tgt : Nat} (hdg : decode cc pc = .ok (.if_icmp .lt off, 3)) (ht : (pc : Int) + off = (tgt : Int)) (kt : x < y → Wp G l d own cc nL rt tgt ls rest h Q) (kf : ¬ x < y → Wp G l d own cc nL rt (pc + 3) ls rest h Q) : Wp G l d own cc nL rt pc ls (.int y :: .int x :: rest) h Q :=
  fun p e R s m args below meth c H locs lsm Qm C hP hS hL hf => lv_icmp_lt C.1 C.2.1 hdg ht (fun q => kt q p e R s m args below meth c H locs lsm Qm C hP hS hL hf) (fun q => kf q p e R s m args below meth c H locs lsm Qm C hP hS hL hf)
theorem r_if_ge {x : Int32} {off : Int} {tgt : Nat} (hdg : decode cc pc = .ok (.ifCond .ge off, 3)) (ht : (pc : Int) + off = (tgt : Int)) (kt : 0 ≤ x → Wp G l d own cc nL rt tgt ls rest h Q) (kf : ¬ 0 ≤ x → Wp G l d own cc nL rt (pc + 3) ls rest h Q) : Wp G l d own cc nL rt pc ls (.int x :: rest) h Q :=
  fun p e R s m args below meth c H locs lsm Qm C hP hS hL hf => lv_if_ge C.1 C.2.1 hdg ht (fun q => kt q p e R s m args below meth c H locs lsm Qm C hP hS hL hf) (fun q => kf q p e R s m args below meth c H locs lsm Qm C hP hS hL hf)
theorem r_icmp_ge {x y : Int32} {off : Int} {tgt : Nat} (hdg : decode cc pc = .ok (.if_icmp .ge off, 3)) (ht : (pc : Int) + off = (tgt : Int)) (kt : y ≤ x → Wp G l d own cc nL rt tgt ls rest h Q) (kf : ¬ y ≤ x → Wp G l d own cc nL rt (pc + 3) ls rest h Q) : Wp G l d own cc nL rt pc ls (.int y :: .int x :: rest) h Q :=
  fun p e R s m args below meth c H locs lsm Qm C hP hS hL hf => lv_icmp_ge C.1 C.2.1 hdg ht (fun q => kt q p e R s m args below meth c H locs lsm Qm C hP hS hL hf) (fun q => kf q p e R s m args below meth c H locs lsm Qm C hP hS hL hf)
theorem r_if_gt {x : Int32} {off : Int} {tgt : Nat} (hdg : decode cc pc = .ok (.ifCond .gt off, 3)) (ht : (pc : Int) + off = (tgt : Int)) (kt : 0 < x → Wp G l d own cc nL rt tgt ls rest h Q) (kf : ¬ 0 < x → Wp G l d own cc nL rt (pc + 3) ls rest h Q) : Wp G l d own cc nL rt pc ls (.int x :: rest) h Q :=
  fun p e R s m args below meth c H locs lsm Qm C hP hS hL hf => lv_if_gt C.1 C.2.1 hdg ht (fun q => kt q p e R s m args below meth c H locs lsm Qm C hP hS hL hf) (fun q => kf q p e R s m args below meth c H locs lsm Qm C hP hS hL hf)
theorem r_icmp_gt {x y : Int32} {off : Int} {tgt : Nat} (hdg : decode cc pc = .ok (.if_icmp .gt off, 3)) (ht : (pc : Int) + off = (tgt : Int)) (kt : y < x → Wp G l d own cc nL rt tgt ls rest h Q) (kf : ¬ y < x → Wp G l d own cc nL rt (pc + 3) ls rest h Q) : Wp G l d own cc nL rt pc ls (.int y :: .int x :: rest) h Q :=
  fun p e R s m args below meth c H locs lsm Qm C hP hS hL hf => lv_icmp_gt C.1 C.2.1 hdg ht (fun q => kt q p e R s m args below meth c H locs lsm Qm C hP hS hL hf) (fun q => kf q p e R s m args below meth c H locs lsm Qm C hP hS hL hf)
theorem r_if_le {x : Int32} {off : Int} {tgt : Nat} (hdg : decode cc pc = .ok (.ifCond .le off, 3)) (ht : (pc : Int) + off = (tgt : Int)) (kt : x ≤ 0 → Wp G l d own cc nL rt tgt ls rest h Q) (kf : ¬ x ≤ 0 → Wp G l d own cc nL rt (pc + 3) ls rest h Q) : Wp G l d own cc nL rt pc ls (.int x :: rest) h Q :=
  fun p e R s m args below meth c H locs lsm Qm C hP hS hL hf => lv_if_le C.1 C.2.1 hdg ht (fun q => kt q p e R s m args below meth c H locs lsm Qm C hP hS hL hf) (fun q => kf q p e R s m args below meth c H locs lsm Qm C hP hS hL hf)
theorem r_icmp_le {x y : Int32} {off : Int} {tgt : Nat} (hdg : decode cc pc = .ok (.if_icmp .le off, 3)) (ht : (pc : Int) + off = (tgt : Int)) (kt : x ≤ y → Wp G l d own cc nL rt tgt ls rest h Q) (kf : ¬ x ≤ y → Wp G l d own cc nL rt (pc + 3) ls rest h Q) : Wp G l d own cc nL rt pc ls (.int y :: .int x :: rest) h Q :=
  fun p e R s m args below meth c H locs lsm Qm C hP hS hL hf => lv_icmp_le C.1 C.2.1 hdg ht (fun q => kt q p e R s m args below meth c H locs lsm Qm C hP hS hL hf) (fun q => kf q p e R s m args below meth c H locs lsm Qm C hP hS hL hf)
theorem r_goto {off : Int} {tgt : Nat} (hdg : decode cc pc = .ok (.goto off, 3)) (ht : (pc : Int) + off = (tgt : Int)) (k : Wp G l d own cc nL rt tgt ls rest h Q) : Wp G l d own cc nL rt pc ls rest h Q :=
  fun p e R s m args below meth c H locs lsm Qm C hP hS hL hf => lv_goto C.1 C.2.1 hdg ht (k p e R s m args below meth c H locs lsm Qm C hP hS hL hf)
def tswT (dflt lo hi : Int) (offs : List Int) (pc : Nat) (x : Int) : Nat := if x < lo ∨ hi < x then (pc + dflt).toNat else (pc + offs.getD (x - lo).toNat 0).toNat
theorem r_tsw {dflt lo hi : Int} {offs : Array Int} {len : Nat} {x : Int32} (tgt : Nat) (hdg : decode cc pc = .ok (.tableswitch dflt lo hi offs, len)) (hlen : (offs.toList.length : Int) = hi - lo + 1) (hpos : 0 ≤ pc + dflt ∧ ∀ o ∈ offs.toList, 0 ≤ pc + o) (ht : tswT dflt lo hi offs.toList pc x.toInt = tgt) (k : Wp G l d own cc nL rt tgt ls rest h Q) : Wp G l d own cc nL rt pc ls (.int x :: rest) h Q := by
  intro p e R s0 m args below meth c H locs lsm Qm C hP hS hL hf
  subst ht
  by_cases c1 : x.toInt < lo ∨ hi < x.toInt
  · rw [tswT, if_pos c1] at k
    exact lv_tableOut C.1 C.2.1 hdg c1 (by omega) (k p e R s0 m args below meth c H locs lsm Qm C hP hS hL hf)
  · rw [tswT, if_neg c1] at k
    have hlt : (x.toInt - lo).toNat < offs.toList.length := by omega
    have eo : offs[(x.toInt - lo).toNat]? = some (offs.toList.getD (x.toInt - lo).toNat 0) := by
      rw [← Array.getElem?_toList, List.getD_eq_getElem?_getD, List.getElem?_eq_getElem hlt]
      rfl
    have h0 : 0 ≤ (pc : Int) + offs.toList.getD (x.toInt - lo).toNat 0 := hpos.2 _ (by rw [List.getD_eq_getElem?_getD, List.getElem?_eq_getElem hlt]; exact List.getElem_mem hlt)
    exact lv_tableIn C.1 C.2.1 hdg (by omega) (by omega) eo (by omega) (k p e R s0 m args below meth c H locs lsm Qm C hP hS hL hf)
theorem r_lsw {dflt : Int} {ps : Array (Int × Int)} {len : Nat} {x : Int32} {off : Int} (tgt : Nat) (hdg : decode cc pc = .ok (.lookupswitch dflt ps, len)) (hp : (ps.toList.zip (ps.toList.drop 1)).all (fun (a, next) => a.1 < next.1) = true) (ho : Op.lookupswitch.offset ps.toList dflt x.toInt = off) (ht : (pc : Int) + off = (tgt : Int)) (k : Wp G l d own cc nL rt tgt ls rest h Q) : Wp G l d own cc nL rt pc ls (.int x :: rest) h Q :=
  fun p e R s0 m args below meth c H locs lsm Qm C hP hS hL hf => lv_lookup C.1 C.2.1 hdg hp ho ht (k p e R s0 m args below meth c H locs lsm Qm C hP hS hL hf)
/-! fields -/
theorem r_getI {idx a s i : Nat} (hdg : decode cc pc = .ok (.getfield idx, 3)) (hl : FLK own idx s i) (hk : ksh a = s) (hs : s < 8) (hi : fsh s i = 0) (k : Wp G l d own cc nL rt (pc + 3) ls (.int (h.1 a i) :: rest) h Q) : Wp G l d own cc nL rt pc ls (.ref (gA G a) :: rest) h Q := by
  intro p e R s0 m args below meth c H locs lsm Qm C hP hS hL hf
  obtain ⟨hx, hb, hr, hml, hown, hts, hR, hK, hE, hG⟩ := id C
  have hil : i < nfl s := fsh_lt (by omega) hi hs
  refine va_get hx hb hts (c_in hs) hown hK hP a (by rw [wsO_at (ksh_lt hk (by omega)), cel_obj hk hs]) (c_at hs) i hil (hts _ hl) (fun x q => q) (v := .int (h.1 a i)) ?_ hdg (k p e R s0 m args below meth c H locs lsm Qm C hP hS hL hf)
  rw [rng_get hil]
  simp [fvl, hk, hi]
theorem r_getR {idx a s i j : Nat} (hdg : decode cc pc = .ok (.getfield idx, 3)) (hl : FLK own idx s i) (hk : ksh a = s) (hs : s < 8) (hi : fsh s i = 1) (hj : rf h a i = j) (k : Wp G l d own cc nL rt (pc + 3) ls (.ref (gA G j) :: rest) h Q) : Wp G l d own cc nL rt pc ls (.ref (gA G a) :: rest) h Q := by
  intro p e R s0 m args below meth c H locs lsm Qm C hP hS hL hf
  obtain ⟨hx, hb, hr, hml, hown, hts, hR, hK, hE, hG⟩ := id C
  have hil : i < nfl s := fsh_lt (by omega) hi hs
  refine va_get hx hb hts (c_in hs) hown hK hP a (by rw [wsO_at (ksh_lt hk (by omega)), cel_obj hk hs]) (c_at hs) i hil (hts _ hl) (fun x q => q) (v := .ref (gA G j)) ?_ hdg (k p e R s0 m args below meth c H locs lsm Qm C hP hS hL hf)
  rw [rng_get hil]
  simp [fvl, hk, hi, hj]
theorem cel_setI_obj {a s i : Nat} {v : Int32} (hk : ksh a = s) (hs : s < 8) (hi : fsh s i = 0) : cel G (setI h a i v) a = .inr (s, ((List.range (nfl s)).map (fvl G h a)).set i (.int v)) := by
  rw [cel_obj hk hs, rng_set (g := fvl G (setI h a i v) a)]
  · intro j hj
    simp [fvl, setI, rf, hj]
  · simp [fvl, setI, hk, hi]
theorem cel_setD_obj {a s i v : Nat} (hk : ksh a = s) (hs : s < 8) (hi : fsh s i = 1) (hd : isD s i = true) : cel G (setD h a i v) a = .inr (s, ((List.range (nfl s)).map (fvl G h a)).set i (.ref (gA G v))) := by
  rw [cel_obj hk hs, rng_set (g := fvl G (setD h a i v) a)]
  · intro j hj
    simp [fvl, setD, rf, hj]
  · simp [fvl, setD, rf, hk, hi, hd]
theorem r_putI {idx a s i : Nat} {v : Int32} (hdg : decode cc pc = .ok (.putfield idx, 3)) (hl : FLK own idx s i) (hk : ksh a = s) (hs : s < 8) (hi : fsh s i = 0) (hfin : (cT s i).2.2.2 = false) (hn : narrow (cTy s i) (.int v) = .int v) (hfit : fits (cTy s i) (.int v) = true) (k : Wp G l d own cc nL rt (pc + 3) ls rest (setI h a i v) Q) : Wp G l d own cc nL rt pc ls (.int v :: .ref (gA G a) :: rest) h Q := by
  intro p e R s0 m args below meth c H locs lsm Qm C hP hS hL hf
  obtain ⟨hx, hb, hr, hml, hown, hts, hR, hK, hE, hG⟩ := id C
  have hil : i < nfl s := fsh_lt (by omega) hi hs
  refine va_put hx hb hts (c_in hs) (cTy s) (c_ty hs) (c_nm hs) hown hK hP (wsO_D hG) hS a (by rw [wsO_at (ksh_lt hk (by omega)), cel_obj hk hs]) (c_at hs) i hil (hts _ hl) (fun x q => q) hfin (c_ty hs i hil) hn hfit (by simp; exact hil) hdg (fun H1 locs1 hP1 hD1 hS1 => ?_)
  rw [wsO_set (h' := setI h a i v) (fun j hj => cel_setI_ne hj) (fun _ => cel_setI_obj hk hs hi)] at hP1
  exact k p e R s0 m args below meth c H1 locs1 lsm Qm C hP1 hS1 hL hf
theorem r_putD {idx a s i v : Nat} (hdg : decode cc pc = .ok (.putfield idx, 3)) (hl : FLK own idx s i) (hk : ksh a = s) (hs : s < 8) (hi : fsh s i = 1) (hd : isD s i = true) (hfin : (cT s i).2.2.2 = false) (hfit : fits (cTy s i) (.ref (gA G v)) = true) (hn : narrow (cTy s i) (.ref (gA G v)) = .ref (gA G v)) (k : Wp G l d own cc nL rt (pc + 3) ls rest (setD h a i v) Q) : Wp G l d own cc nL rt pc ls (.ref (gA G v) :: .ref (gA G a) :: rest) h Q := by
  intro p e R s0 m args below meth c H locs lsm Qm C hP hS hL hf
  obtain ⟨hx, hb, hr, hml, hown, hts, hR, hK, hE, hG⟩ := id C
  have hil : i < nfl s := fsh_lt (by omega) hi hs
  refine va_put hx hb hts (c_in hs) (cTy s) (c_ty hs) (c_nm hs) hown hK hP (wsO_D hG) hS a (by rw [wsO_at (ksh_lt hk (by omega)), cel_obj hk hs]) (c_at hs) i hil (hts _ hl) (fun x q => q) hfin (c_ty hs i hil) hn hfit (by simp; exact hil) hdg (fun H1 locs1 hP1 hD1 hS1 => ?_)
  rw [wsO_set (h' := setD h a i v) (fun j hj => cel_setD_ne hj) (fun _ => cel_setD_obj hk hs hi hd)] at hP1
  exact k p e R s0 m args below meth c H1 locs1 lsm Qm C hP1 hS1 hL hf
/-! arrays -/
theorem ix_in {n N : Nat} {i : Int32} (hi : i = nI n) (hn : n < N) (hN : N < 2 ^ 31) : vp_in i N ∧ i.toNatClampNeg = n := by
  subst hi
  exact ⟨vp_in_nI hn hN, nI_clamp (by omega)⟩
theorem ln_small (k : Nat) : lnt k < 2 ^ 31 := by
  rcases Nat.lt_or_ge k nW with q | q
  · have key : ∀ k, k < nW → lnt k < 1000 := by decide +kernel
    have := key k q
    omega
  · unfold lnt
    rw [List.getD_eq_getElem?_getD, List.getElem?_eq_none (show lnT.length ≤ k from q)]
    decide
theorem r_iald {a : Nat} {i : Int32} (j : Nat) (hdg : decode cc pc = .ok (.iaload, 1)) (hk : ksh a = 8) (hi : i = nI j) (hj : j < lnt a) (k : Wp G l d own cc nL rt (pc + 1) ls (.int (h.1 a j) :: rest) h Q) : Wp G l d own cc nL rt pc ls (.int i :: .ref (gA G a) :: rest) h Q := by
  intro p e R s0 m args below meth c H locs lsm Qm C hP hS hL hf
  obtain ⟨hx, hb, hr, hml, hown, hts, hR, hK, hE, hG⟩ := id C
  obtain ⟨e1, e2⟩ := ix_in hi hj (ln_small a)
  refine va_iald hx hb hK hP a 0 (by rw [wsO_at (ksh_lt hk (by omega)), cel_ints hk (by omega)]) rfl e1 hdg ?_
  rw [e2]
  exact k p e R s0 m args below meth c H locs lsm Qm C hP hS hL hf
theorem r_cald {a : Nat} {i : Int32} (j : Nat) (hdg : decode cc pc = .ok (.caload, 1)) (hk : ksh a = 9) (hi : i = nI j) (hj : j < lnt a) (k : Wp G l d own cc nL rt (pc + 1) ls (.int (h.1 a j) :: rest) h Q) : Wp G l d own cc nL rt pc ls (.int i :: .ref (gA G a) :: rest) h Q := by
  intro p e R s0 m args below meth c H locs lsm Qm C hP hS hL hf
  obtain ⟨hx, hb, hr, hml, hown, hts, hR, hK, hE, hG⟩ := id C
  obtain ⟨e1, e2⟩ := ix_in hi hj (ln_small a)
  refine va_cald hx hb hK hP a 1 (by rw [wsO_at (ksh_lt hk (by omega)), cel_ints hk (by omega)]) rfl e1 hdg ?_
  rw [e2]
  exact k p e R s0 m args below meth c H locs lsm Qm C hP hS hL hf
theorem r_zald {a : Nat} {i : Int32} (j : Nat) (hdg : decode cc pc = .ok (.baload, 1)) (hk : ksh a = 10) (hi : i = nI j) (hj : j < lnt a) (k : Wp G l d own cc nL rt (pc + 1) ls (.int (h.1 a j) :: rest) h Q) : Wp G l d own cc nL rt pc ls (.int i :: .ref (gA G a) :: rest) h Q := by
  intro p e R s0 m args below meth c H locs lsm Qm C hP hS hL hf
  obtain ⟨hx, hb, hr, hml, hown, hts, hR, hK, hE, hG⟩ := id C
  obtain ⟨e1, e2⟩ := ix_in hi hj (ln_small a)
  refine va_zald hx hb hK hP a 2 (by rw [wsO_at (ksh_lt hk (by omega)), cel_ints hk (by omega)]) rfl e1 hdg ?_
  rw [e2]
  exact k p e R s0 m args below meth c H locs lsm Qm C hP hS hL hf
theorem r_lald {a : Nat} {i : Int32} (j : Nat) (hdg : decode cc pc = .ok (.laload, 1)) (hk : ksh a = 11) (hi : i = nI j) (hj : j < lnt a) (k : Wp G l d own cc nL rt (pc + 1) ls (.long (h.2.1 a j) :: rest) h Q) : Wp G l d own cc nL rt pc ls (.int i :: .ref (gA G a) :: rest) h Q := by
  intro p e R s0 m args below meth c H locs lsm Qm C hP hS hL hf
  obtain ⟨hx, hb, hr, hml, hown, hts, hR, hK, hE, hG⟩ := id C
  obtain ⟨e1, e2⟩ := ix_in hi hj (ln_small a)
  refine va_lald hx hb hK hP a 3 (by rw [wsO_at (ksh_lt hk (by omega)), cel_longs hk]) rfl e1 hdg ?_
  rw [e2]
  exact k p e R s0 m args below meth c H locs lsm Qm C hP hS hL hf
theorem r_aald {a s : Nat} {i : Int32} (j : Nat) (hdg : decode cc pc = .ok (.aaload, 1)) (hk : ksh a = s) (hs : s = 12 ∨ s = 13) (hi : i = nI j) (hj : j < lnt a) (k : Wp G l d own cc nL rt (pc + 1) ls (.ref (gA G (rfx a j)) :: rest) h Q) : Wp G l d own cc nL rt pc ls (.int i :: .ref (gA G a) :: rest) h Q := by
  intro p e R s0 m args below meth c H locs lsm Qm C hP hS hL hf
  obtain ⟨hx, hb, hr, hml, hown, hts, hR, hK, hE, hG⟩ := id C
  obtain ⟨e1, e2⟩ := ix_in hi hj (ln_small a)
  rcases hs with rfl | rfl
  · refine va_aldq (C := RX1) hx hb hK hP a 4 (by rw [wsO_at (ksh_lt hk (by omega)), cel_refs hk (by omega)]) rfl e1 hdg ?_
    rw [e2]
    exact k p e R s0 m args below meth c H locs lsm Qm C hP hS hL hf
  · refine va_aldq (C := RX5) hx hb hK hP a 5 (by rw [wsO_at (ksh_lt hk (by omega)), cel_refs hk (by omega)]) rfl e1 hdg ?_
    rw [e2]
    exact k p e R s0 m args below meth c H locs lsm Qm C hP hS hL hf
theorem cel_setI_arr {a s j : Nat} {v : Int32} (hk : ksh a = s) (hs : s = 8 ∨ s = 9 ∨ s = 10) : cel G (setI h a j v) a = .inl (gC G (s - 8), (lnt a, .inl (upd (h.1 a) j v))) := by
  rw [cel_ints hk hs]
  congr 4
  funext x
  by_cases hx : x = j <;> simp [setI, upd, hx]
theorem cel_setL_arr {a j : Nat} {v : Int64} (hk : ksh a = 11) : cel G (setL h a j v) a = .inl (gC G 3, (lnt a, .inr (.inl (vp_updL (h.2.1 a) j v)))) := by
  rw [cel_longs hk]
  congr 5
  funext x
  by_cases hx : x = j <;> simp [setL, vp_updL, hx]
theorem cel_rowI_arr {a s : Nat} {f : Nat → Int32} (hk : ksh a = s) (hs : s = 8 ∨ s = 9 ∨ s = 10) : cel G (rowI h a f) a = .inl (gC G (s - 8), (lnt a, .inl f)) := by
  rw [cel_ints hk hs]
  congr 4
  funext x
  simp [rowI]
theorem cel_rowL_arr {a : Nat} {f : Nat → Int64} (hk : ksh a = 11) : cel G (rowL h a f) a = .inl (gC G 3, (lnt a, .inr (.inl f))) := by
  rw [cel_longs hk]
  congr 5
  funext x
  simp [rowL]
theorem r_iast {a : Nat} {i x : Int32} (j : Nat) (hdg : decode cc pc = .ok (.iastore, 1)) (hk : ksh a = 8) (hi : i = nI j) (hj : j < lnt a) (k : Wp G l d own cc nL rt (pc + 1) ls rest (setI h a j x) Q) : Wp G l d own cc nL rt pc ls (.int x :: .int i :: .ref (gA G a) :: rest) h Q := by
  intro p e R s0 m args below meth c H locs lsm Qm C hP hS hL hf
  obtain ⟨hx, hb, hr, hml, hown, hts, hR, hK, hE, hG⟩ := id C
  obtain ⟨e1, e2⟩ := ix_in hi hj (ln_small a)
  refine va_iast hx hb hK hP (wsO_D hG) hS a 0 (by rw [wsO_at (ksh_lt hk (by omega)), cel_ints hk (by omega)]) rfl e1 hdg (fun H1 locs1 hP1 hD1 hS1 => ?_)
  rw [e2, wsO_set (h' := setI h a j x) (fun j hj => cel_setI_ne hj) (fun _ => cel_setI_arr hk (by omega))] at hP1
  exact k p e R s0 m args below meth c H1 locs1 lsm Qm C hP1 hS1 hL hf
theorem r_cast {a : Nat} {i x : Int32} (j : Nat) (hdg : decode cc pc = .ok (.castore, 1)) (hk : ksh a = 9) (hi : i = nI j) (hj : j < lnt a) (k : Wp G l d own cc nL rt (pc + 1) ls rest (setI h a j (vp_nar .char x)) Q) : Wp G l d own cc nL rt pc ls (.int x :: .int i :: .ref (gA G a) :: rest) h Q := by
  intro p e R s0 m args below meth c H locs lsm Qm C hP hS hL hf
  obtain ⟨hx, hb, hr, hml, hown, hts, hR, hK, hE, hG⟩ := id C
  obtain ⟨e1, e2⟩ := ix_in hi hj (ln_small a)
  refine va_cast hx hb hK hP (wsO_D hG) hS a 1 (by rw [wsO_at (ksh_lt hk (by omega)), cel_ints hk (by omega)]) rfl e1 hdg (fun H1 locs1 hP1 hD1 hS1 => ?_)
  rw [e2, wsO_set (h' := setI h a j (vp_nar .char x)) (fun j hj => cel_setI_ne hj) (fun _ => cel_setI_arr hk (by omega))] at hP1
  exact k p e R s0 m args below meth c H1 locs1 lsm Qm C hP1 hS1 hL hf
theorem r_zast {a : Nat} {i x : Int32} (j : Nat) (hdg : decode cc pc = .ok (.bastore, 1)) (hk : ksh a = 10) (hi : i = nI j) (hj : j < lnt a) (k : Wp G l d own cc nL rt (pc + 1) ls rest (setI h a j (vp_nar .boolean x)) Q) : Wp G l d own cc nL rt pc ls (.int x :: .int i :: .ref (gA G a) :: rest) h Q := by
  intro p e R s0 m args below meth c H locs lsm Qm C hP hS hL hf
  obtain ⟨hx, hb, hr, hml, hown, hts, hR, hK, hE, hG⟩ := id C
  obtain ⟨e1, e2⟩ := ix_in hi hj (ln_small a)
  refine va_zast hx hb hK hP (wsO_D hG) hS a 2 (by rw [wsO_at (ksh_lt hk (by omega)), cel_ints hk (by omega)]) rfl e1 hdg (fun H1 locs1 hP1 hD1 hS1 => ?_)
  rw [e2, wsO_set (h' := setI h a j (vp_nar .boolean x)) (fun j hj => cel_setI_ne hj) (fun _ => cel_setI_arr hk (by omega))] at hP1
  exact k p e R s0 m args below meth c H1 locs1 lsm Qm C hP1 hS1 hL hf
theorem r_last {a : Nat} {i : Int32} {x : Int64} (j : Nat) (hdg : decode cc pc = .ok (.lastore, 1)) (hk : ksh a = 11) (hi : i = nI j) (hj : j < lnt a) (k : Wp G l d own cc nL rt (pc + 1) ls rest (setL h a j x) Q) : Wp G l d own cc nL rt pc ls (.long x :: .int i :: .ref (gA G a) :: rest) h Q := by
  intro p e R s0 m args below meth c H locs lsm Qm C hP hS hL hf
  obtain ⟨hx, hb, hr, hml, hown, hts, hR, hK, hE, hG⟩ := id C
  obtain ⟨e1, e2⟩ := ix_in hi hj (ln_small a)
  refine va_last hx hb hK hP (wsO_D hG) hS a 3 (by rw [wsO_at (ksh_lt hk (by omega)), cel_longs hk]) rfl e1 hdg (fun H1 locs1 hP1 hD1 hS1 => ?_)
  rw [e2, wsO_set (h' := setL h a j x) (fun j hj => cel_setL_ne hj) (fun _ => cel_setL_arr hk)] at hP1
  exact k p e R s0 m args below meth c H1 locs1 lsm Qm C hP1 hS1 hL hf
theorem r_alen {a s : Nat} (hdg : decode cc pc = .ok (.arraylength, 1)) (hk : ksh a = s) (hs : s = 8 ∨ s = 9 ∨ s = 10 ∨ s = 11) (k : Wp G l d own cc nL rt (pc + 1) ls (.int (nI (lnt a)) :: rest) h Q) : Wp G l d own cc nL rt pc ls (.ref (gA G a) :: rest) h Q := by
  intro p e R s0 m args below meth c H locs lsm Qm C hP hS hL hf
  obtain ⟨hx, hb, hr, hml, hown, hts, hR, hK, hE, hG⟩ := id C
  rcases (show s = 8 ∨ s = 9 ∨ s = 10 ∨ s = 11 by omega) with rfl | rfl | rfl | rfl
  · exact va_alen (x := (lnt a, .inl (h.1 a))) hx hb hK hP a 0 (by rw [wsO_at (ksh_lt hk (by omega)), cel_ints hk (by omega)]) rfl rfl hdg (k p e R s0 m args below meth c H locs lsm Qm C hP hS hL hf)
  · exact va_alen (x := (lnt a, .inl (h.1 a))) hx hb hK hP a 1 (by rw [wsO_at (ksh_lt hk (by omega)), cel_ints hk (by omega)]) rfl rfl hdg (k p e R s0 m args below meth c H locs lsm Qm C hP hS hL hf)
  · exact va_alen (x := (lnt a, .inl (h.1 a))) hx hb hK hP a 2 (by rw [wsO_at (ksh_lt hk (by omega)), cel_ints hk (by omega)]) rfl rfl hdg (k p e R s0 m args below meth c H locs lsm Qm C hP hS hL hf)
  · exact va_alen (x := (lnt a, .inr (.inl (h.2.1 a)))) hx hb hK hP a 3 (by rw [wsO_at (ksh_lt hk (by omega)), cel_longs hk]) rfl rfl hdg (k p e R s0 m args below meth c H locs lsm Qm C hP hS hL hf)
/-! System.arraycopy -/
theorem ac_words : Cond.native arraycopyName ∈ tb ∧ Cond.static arraycopyName ∈ tb ∧ Cond.initialized "java/lang/System" ∈ tb := by decide +kernel
theorem r_acopyI {idx a0 a1 : Nat} {sp dp n : Int32} (js jd jn : Nat) (hdg : decode cc pc = .ok (.invokestatic idx, 3)) (hl : ACW own idx) (h0 : ksh a0 = 8) (h1 : ksh a1 = 8) (es : sp = nI js) (ed : dp = nI jd) (en : n = nI jn) (hs : js + jn ≤ lnt a0) (hd : jd + jn ≤ lnt a1) (hdd : 2 ≤ d) (hW : (rest.map fun v => v.category).sum ≤ 8)
    (k : Wp G l d own cc nL rt (pc + 3) ls rest (rowI h a1 (va_cpy (h.1 a0) (h.1 a1) js jd jn)) Q) : Wp G l d own cc nL rt pc ls (.int n :: .int dp :: .ref (gA G a1) :: .int sp :: .ref (gA G a0) :: rest) h Q := by
  intro p e R s0 m args below meth c H locs lsm Qm C hP hS hL hf
  obtain ⟨hx, hb, hr, hml, hown, hts, hR, hK, hE, hG⟩ := id C
  have b0 := ln_small a0
  have b1 := ln_small a1
  subst es; subst ed; subst en
  have c1 : (nI js).toNatClampNeg = js := nI_clamp (by omega)
  have c2 : (nI jd).toNatClampNeg = jd := nI_clamp (by omega)
  have c3 : (nI jn).toNatClampNeg = jn := nI_clamp (by omega)
  refine va_copyi hx hb (hml.trans hL.1.symm) hown (hts _ hl) (hts _ ac_words.1) (hts _ ac_words.2.1) (hts _ ac_words.2.2) hK hP (wsO_D hG) hS a0 a1 0 0 (by rw [wsO_at (ksh_lt h0 (by omega)), cel_ints h0 (by omega)]) (by rw [wsO_at (ksh_lt h1 (by omega)), cel_ints h1 (by omega)]) rfl rfl rfl (nI_pos (by omega)) (nI_pos (by omega)) (nI_pos (by omega)) (by rw [c1, c3]; exact hs) (by rw [c2, c3]; exact hd) (fun _ _ => rfl) (by omega) (Nat.le_trans (Nat.add_le_add_right hW _) (Nat.le_trans (show 8 + (nativeFrameWords "java/lang/System" "arraycopy" 5 + 11) ≤ 80 by decide +kernel) (by omega))) hdg (fun H1 locs1 hP1 hD1 hS1 => ?_)
  rw [c1, c2, c3, wsO_set (h' := rowI h a1 (va_cpy (h.1 a0) (h.1 a1) js jd jn)) (fun j hj => cel_rowI_ne hj) (fun _ => cel_rowI_arr h1 (by omega))] at hP1
  exact k p e R s0 m args below meth c H1 locs1 lsm Qm C hP1 hS1 hL hf
theorem r_acopyL {idx a0 a1 : Nat} {sp dp n : Int32} (js jd jn : Nat) (hdg : decode cc pc = .ok (.invokestatic idx, 3)) (hl : ACW own idx) (h0 : ksh a0 = 11) (h1 : ksh a1 = 11) (es : sp = nI js) (ed : dp = nI jd) (en : n = nI jn) (hs : js + jn ≤ lnt a0) (hd : jd + jn ≤ lnt a1) (hdd : 2 ≤ d) (hW : (rest.map fun v => v.category).sum ≤ 8)
    (k : Wp G l d own cc nL rt (pc + 3) ls rest (rowL h a1 (va_cpy (h.2.1 a0) (h.2.1 a1) js jd jn)) Q) : Wp G l d own cc nL rt pc ls (.int n :: .int dp :: .ref (gA G a1) :: .int sp :: .ref (gA G a0) :: rest) h Q := by
  intro p e R s0 m args below meth c H locs lsm Qm C hP hS hL hf
  obtain ⟨hx, hb, hr, hml, hown, hts, hR, hK, hE, hG⟩ := id C
  have b0 := ln_small a0
  have b1 := ln_small a1
  subst es; subst ed; subst en
  have c1 : (nI js).toNatClampNeg = js := nI_clamp (by omega)
  have c2 : (nI jd).toNatClampNeg = jd := nI_clamp (by omega)
  have c3 : (nI jn).toNatClampNeg = jn := nI_clamp (by omega)
  refine va_copyl hx hb (hml.trans hL.1.symm) hown (hts _ hl) (hts _ ac_words.1) (hts _ ac_words.2.1) (hts _ ac_words.2.2) hK hP (wsO_D hG) hS a0 a1 3 3 (by rw [wsO_at (ksh_lt h0 (by omega)), cel_longs h0]) (by rw [wsO_at (ksh_lt h1 (by omega)), cel_longs h1]) rfl rfl rfl (nI_pos (by omega)) (nI_pos (by omega)) (nI_pos (by omega)) (by rw [c1, c3]; exact hs) (by rw [c2, c3]; exact hd) (fun _ _ => rfl) (by omega) (Nat.le_trans (Nat.add_le_add_right hW _) (Nat.le_trans (show 8 + (nativeFrameWords "java/lang/System" "arraycopy" 5 + 11) ≤ 80 by decide +kernel) (by omega))) hdg (fun H1 locs1 hP1 hD1 hS1 => ?_)
  rw [c1, c2, c3, wsO_set (h' := rowL h a1 (va_cpy (h.2.1 a0) (h.2.1 a1) js jd jn)) (fun j hj => cel_rowL_ne hj) (fun _ => cel_rowL_arr h1)] at hP1
  exact k p e R s0 m args below meth c H1 locs1 lsm Qm C hP1 hS1 hL hf
/-! what lies outside -/
theorem r_getA {idx : Nat} (hdg : decode cc pc = .ok (.getstatic idx, 3)) (hl : GSW own idx RX0 "ABOVE" "[I") (k : Wp G l d own cc nL rt (pc + 3) ls (.ref (gTA G) :: rest) h Q) : Wp G l d own cc nL rt pc ls rest h Q :=
  fun p e R s0 m args below meth c H locs lsm Qm C hP hS hL hf => va_gets C.1 C.2.1 C.2.2.2.2.2.2.2.2.1.1.1 hS C.2.2.2.2.1 (C.2.2.2.2.2.1 _ hl) (fun x q => q) hdg (k p e R s0 m args below meth c H locs lsm Qm C hP hS hL hf)
theorem r_getB {idx : Nat} (hdg : decode cc pc = .ok (.getstatic idx, 3)) (hl : GSW own idx RX0 "BODY" "[I") (k : Wp G l d own cc nL rt (pc + 3) ls (.ref (gTB G) :: rest) h Q) : Wp G l d own cc nL rt pc ls rest h Q :=
  fun p e R s0 m args below meth c H locs lsm Qm C hP hS hL hf => va_gets C.1 C.2.1 C.2.2.2.2.2.2.2.2.1.1.2.2.1 hS C.2.2.2.2.1 (C.2.2.2.2.2.1 _ hl) (fun x q => q) hdg (k p e R s0 m args below meth c H locs lsm Qm C hP hS hL hf)
theorem r_getCS {idx : Nat} (hdg : decode cc pc = .ok (.getstatic idx, 3)) (hl : GSW own idx "java/lang/String" "COMPACT_STRINGS" "Z") (k : Wp G l d own cc nL rt (pc + 3) ls (.int 1 :: rest) h Q) : Wp G l d own cc nL rt pc ls rest h Q :=
  fun p e R s0 m args below meth c H locs lsm Qm C hP hS hL hf => va_gets C.1 C.2.1 C.2.2.2.2.2.2.2.2.1.2.1.1 hS C.2.2.2.2.1 (C.2.2.2.2.2.1 _ hl) (fun x q => q) hdg (k p e R s0 m args below meth c H locs lsm Qm C hP hS hL hf)
theorem r_getSI {idx : Nat} (hdg : decode cc pc = .ok (.getstatic idx, 3)) (hl : GSW own idx "jdk/internal/util/Preconditions" "SIOOBE_FORMATTER" "Ljava/util/function/BiFunction;") (k : ∀ v : Value, (v = .null ∨ ∃ t, v = .ref t) → Wp G l d own cc nL rt (pc + 3) ls (v :: rest) h Q) : Wp G l d own cc nL rt pc ls rest h Q := by
  intro p e R s0 m args below meth c H locs lsm Qm C hP hS hL hf
  rcases C.2.2.2.2.2.2.2.2.1.2.1.2 with z | ⟨t, z⟩
  · exact va_gets C.1 C.2.1 z hS C.2.2.2.2.1 (C.2.2.2.2.2.1 _ hl) (fun x q => q) hdg (k _ (Or.inl rfl) p e R s0 m args below meth c H locs lsm Qm C hP hS hL hf)
  · exact va_gets C.1 C.2.1 z hS C.2.2.2.2.1 (C.2.2.2.2.2.1 _ hl) (fun x q => q) hdg (k _ (Or.inr ⟨t, rfl⟩) p e R s0 m args below meth c H locs lsm Qm C hP hS hL hf)
theorem r_aldA {i : Int32} (j : Nat) (hdg : decode cc pc = .ok (.iaload, 1)) (hi : i = nI j) (hj : j < 7) (k : Wp G l d own cc nL rt (pc + 1) ls (.int (tabA.getD j 0) :: rest) h Q) : Wp G l d own cc nL rt pc ls (.int i :: .ref (gTA G) :: rest) h Q := by
  intro p e R s0 m args below meth c H locs lsm Qm C hP hS hL hf
  obtain ⟨e1, e2⟩ := ix_in hi hj (by decide)
  exact va_ti C.1 C.2.1 C.2.2.2.2.2.2.2.2.1.1.2.1 hS e1 (by rw [e2]) hdg (k p e R s0 m args below meth c H locs lsm Qm C hP hS hL hf)
theorem r_aldB {i : Int32} (j : Nat) (hdg : decode cc pc = .ok (.iaload, 1)) (hi : i = nI j) (hj : j < 21) (k : Wp G l d own cc nL rt (pc + 1) ls (.int (tabB.getD j 0) :: rest) h Q) : Wp G l d own cc nL rt pc ls (.int i :: .ref (gTB G) :: rest) h Q := by
  intro p e R s0 m args below meth c H locs lsm Qm C hP hS hL hf
  obtain ⟨e1, e2⟩ := ix_in hi hj (by decide)
  exact va_ti C.1 C.2.1 C.2.2.2.2.2.2.2.2.1.1.2.2.2 hS e1 (by rw [e2]) hdg (k p e R s0 m args below meth c H locs lsm Qm C hP hS hL hf)
theorem r_alenA (hdg : decode cc pc = .ok (.arraylength, 1)) (k : Wp G l d own cc nL rt (pc + 1) ls (.int 7 :: rest) h Q) : Wp G l d own cc nL rt pc ls (.ref (gTA G) :: rest) h Q :=
  fun p e R s0 m args below meth c H locs lsm Qm C hP hS hL hf => va_tlen C.1 C.2.1 C.2.2.2.2.2.2.2.2.1.1.2.1 hS rfl hdg (k p e R s0 m args below meth c H locs lsm Qm C hP hS hL hf)
theorem r_sld {i : Int32} (j : Nat) (hdg : decode cc pc = .ok (.iaload, 1)) (hi : i = nI j) (hj : j < gL G) (hL2 : gL G < 2 ^ 31) (k : Wp G l d own cc nL rt (pc + 1) ls (.int (gxs G j) :: rest) h Q) : Wp G l d own cc nL rt pc ls (.int i :: .ref (gX G) :: rest) h Q := by
  intro p e R s0 m args below meth c H locs lsm Qm C hP hS hL hf
  obtain ⟨e1, e2⟩ := ix_in hi hj hL2
  obtain ⟨x1, x2, x3⟩ := C.2.2.2.2.2.2.2.2.1.2.2.2.2
  refine va_sld C.1 C.2.1 x1 x2 x3 hS e1 hdg ?_
  rw [e2]
  exact k p e R s0 m args below meth c H locs lsm Qm C hP hS hL hf
theorem r_slen (hdg : decode cc pc = .ok (.arraylength, 1)) (k : Wp G l d own cc nL rt (pc + 1) ls (.int (nI (gL G)) :: rest) h Q) : Wp G l d own cc nL rt pc ls (.ref (gX G) :: rest) h Q := by
  intro p e R s0 m args below meth c H locs lsm Qm C hP hS hL hf
  obtain ⟨x1, x2, x3⟩ := C.2.2.2.2.2.2.2.2.1.2.2.2.2
  exact va_slen C.1 C.2.1 x1 x2 x3 hS hdg (k p e R s0 m args below meth c H locs lsm Qm C hP hS hL hf)
/-! texts -/
theorem r_ldcS {idx : Nat} (i : Nat) (hdg : decode cc pc = .ok (.ldc idx, 2)) (ho : own = RX2) (hi : i < 7) (hx : idxS.getD i 0 = idx) (k : Wp G l d own cc nL rt (pc + 2) ls (.ref (gK G i) :: rest) h Q) : Wp G l d own cc nL rt pc ls rest h Q := by
  intro p e R s0 m args below meth c H locs lsm Qm C hP hS hL hf
  subst ho
  subst hx
  exact va_ldcS C.1 C.2.1 C.2.2.2.2.1 (C.2.2.2.2.2.2.2.2.1.2.2.2.1 i hi) hdg (k p e R s0 m args below meth c H locs lsm Qm C hP hS hL hf)
theorem r_getSV {idx i : Nat} (hdg : decode cc pc = .ok (.getfield idx, 3)) (hl : GSW own idx "java/lang/String" "value" "[B") (hi : i < 7) (k : Wp G l d own cc nL rt (pc + 3) ls (.ref (gV G i) :: rest) h Q) : Wp G l d own cc nL rt pc ls (.ref (gK G i) :: rest) h Q :=
  fun p e R s0 m args below meth c H locs lsm Qm C hP hS hL hf => vk_getf C.1 C.2.1 (C.2.2.2.2.2.2.2.2.1.2.2.1.1 i hi).2.2.1 hS C.2.2.2.2.1 (C.2.2.2.2.2.1 _ hl) (fun x q => q) hdg (k p e R s0 m args below meth c H locs lsm Qm C hP hS hL hf)
theorem r_getSC {idx i : Nat} (hdg : decode cc pc = .ok (.getfield idx, 3)) (hl : GSW own idx "java/lang/String" "coder" "B") (hi : i < 7) (k : Wp G l d own cc nL rt (pc + 3) ls (.int 0 :: rest) h Q) : Wp G l d own cc nL rt pc ls (.ref (gK G i) :: rest) h Q :=
  fun p e R s0 m args below meth c H locs lsm Qm C hP hS hL hf => vk_getf C.1 C.2.1 (C.2.2.2.2.2.2.2.2.1.2.2.1.1 i hi).2.1 hS C.2.2.2.2.1 (C.2.2.2.2.2.1 _ hl) (fun x q => q) hdg (k p e R s0 m args below meth c H locs lsm Qm C hP hS hL hf)
theorem r_aldS {x : Int32} (i j : Nat) (hdg : decode cc pc = .ok (.baload, 1)) (hi : i < 7) (hx : x = nI j) (hj : j < lenS.getD i 0) (k : Wp G l d own cc nL rt (pc + 1) ls (.int ((bytS.getD i []).getD j 0) :: rest) h Q) : Wp G l d own cc nL rt pc ls (.int x :: .ref (gV G i) :: rest) h Q := by
  intro p e R s0 m args below meth c H locs lsm Qm C hP hS hL hf
  have hb : lenS.getD i 0 < 2 ^ 31 := by
    have key : ∀ i, i < 7 → lenS.getD i 0 < 100 := by decide
    have := key i hi
    omega
  obtain ⟨e1, e2⟩ := ix_in hx hj hb
  exact va_tb C.1 C.2.1 (C.2.2.2.2.2.2.2.2.1.2.2.1.1 i hi).2.2.2 hS e1 (by rw [e2]) hdg (k p e R s0 m args below meth c H locs lsm Qm C hP hS hL hf)
theorem r_alenS {i : Nat} (hdg : decode cc pc = .ok (.arraylength, 1)) (hi : i < 7) (k : Wp G l d own cc nL rt (pc + 1) ls (.int (nI (lenS.getD i 0)) :: rest) h Q) : Wp G l d own cc nL rt pc ls (.ref (gV G i) :: rest) h Q :=
  fun p e R s0 m args below meth c H locs lsm Qm C hP hS hL hf => va_tlen C.1 C.2.1 (C.2.2.2.2.2.2.2.2.1.2.2.1.1 i hi).2.2.2 hS rfl hdg (k p e R s0 m args below meth c H locs lsm Qm C hP hS hL hf)
theorem r_callT {idx n d' i : Nat} {y : MethodName} {cc' : ByteArray} {nL' : Nat} {rt' : Option FieldType} {As st : List Value} {Q1 : Option Value → Hp → Prop}
    (hdg : decode cc pc = .ok (.invokevirtual idx, 3)) (hl : Cond.methodLink own idx y ∈ tb) (hy : MO y cc' nL' rt' n) (hv : MV y) (hi : i < 7) (hc : "java/lang/String" = y.cls) (hn : As.length = n) (hC : Cl G l d' y cc' nL' rt' (.ref (gK G i) :: As) h Q1) (hd : d' + 1 ≤ d) (hst : st = As.reverse ++ .ref (gK G i) :: rest) (hW : (rest.map fun v => v.category).sum ≤ 8)
    (kk : ∀ (r : Option Value) (h' : Hp), Q1 r h' → Wp G l d own cc nL rt (pc + 3) ls (r.toList ++ rest) h' Q) : Wp G l d own cc nL rt pc ls st h Q := by
  subst hst
  intro p e R s0 m args below meth c H locs lsm Qm C hP hS hL hf
  obtain ⟨hx, hb, hr, hml, hown, hts, hR, hK, hE, hG⟩ := id C
  obtain ⟨⟨m1, m2⟩, m3, m4⟩ := hy
  refine fl_call (va_runV (C := y.cls) (As := As) (rest := rest) ⟨hx, hb, hml, hown, hts⟩ hC (cwV n hts (tb_in _ ?_) rfl rfl rfl ⟨rfl, m3⟩ (rm_ok hd hR m4)) ⟨WD.blind, ?_, fun U hU hW => ⟨rfl, by rw [hU]; exact hP, va_K.moved hW.alike hK, by rw [hU]; exact EX.go hW hS hE⟩⟩ rfl hn hL.1 rfl (lv_room hW) hdg ⟨Nat.zero_le _, Nat.zero_le _⟩) hS (fun r h' H1 locs1 q hP1 hS1 => kk r h' q p e R s0 m args below meth c H1 locs1 lsm Qm C hP1 hS1 hL hf)
  · intro w hw
    unfold wsV at hw
    simp only [List.mem_append, List.mem_cons, List.not_mem_nil, or_false] at hw
    rcases hw with (rfl | rfl | rfl | rfl) | rfl | hw
    · exact hl
    · exact hv.1
    · exact hv.2
    · exact m1
    · exact m2
    · exact hw
  · rw [← hc]
    exact vk_recv hE.2.2.1 hi hS
theorem r_min {idx n1 n2 : Nat} {x y : Int32} (hdg : decode cc pc = .ok (.invokestatic idx, 3)) (hl : Cond.methodLink own idx yJ9_min_7cf53 ∈ tb) (ho : MO yJ9_min_7cf53 cJ9_min_7cf53 n1 (some .int) n2) (hn1 : n1 = 2) (hs : Cond.static yJ9_min_7cf53 ∈ tb) (hd : 1 ≤ d) (hW : (rest.map fun v => v.category).sum ≤ 8) (k : Wp G l d own cc nL rt (pc + 3) ls (.int (if y < x then y else x) :: rest) h Q) : Wp G l d own cc nL rt pc ls (.int y :: .int x :: rest) h Q := by
  intro p e R s0 m args below meth c H locs lsm Qm C hP hS hL hf
  obtain ⟨hx, hb, hr, hml, hown, hts, hR, hK, hE, hG⟩ := id C
  subst hn1
  exact va_mmin hx hb (hml.trans hL.1.symm) hown (hts _ hl) (hts _ hs) (hts _ ho.1.1) (hts _ ho.1.2) (by omega) (by omega) (Nat.zero_le _) (Nat.zero_le _) hdg (k p e R s0 m args below meth c H locs lsm Qm C hP hS hL hf)
theorem r_max {idx n1 n2 : Nat} {x y : Int32} (hdg : decode cc pc = .ok (.invokestatic idx, 3)) (hl : Cond.methodLink own idx yJ9_max_7cf53 ∈ tb) (ho : MO yJ9_max_7cf53 cJ9_max_7cf53 n1 (some .int) n2) (hn1 : n1 = 2) (hs : Cond.static yJ9_max_7cf53 ∈ tb) (hd : 1 ≤ d) (hW : (rest.map fun v => v.category).sum ≤ 8) (k : Wp G l d own cc nL rt (pc + 3) ls (.int (if x < y then y else x) :: rest) h Q) : Wp G l d own cc nL rt pc ls (.int y :: .int x :: rest) h Q := by
  intro p e R s0 m args below meth c H locs lsm Qm C hP hS hL hf
  obtain ⟨hx, hb, hr, hml, hown, hts, hR, hK, hE, hG⟩ := id C
  subst hn1
  exact va_mmax hx hb (hml.trans hL.1.symm) hown (hts _ hl) (hts _ hs) (hts _ ho.1.1) (hts _ ho.1.2) (by omega) (by omega) (Nat.zero_le _) (Nat.zero_le _) hdg (k p e R s0 m args below meth c H locs lsm Qm C hP hS hL hf)
theorem r_maxL {idx n1 n2 : Nat} {x y : Int64} (hdg : decode cc pc = .ok (.invokestatic idx, 3)) (hl : Cond.methodLink own idx yJ9_max_f86c9 ∈ tb) (ho : MO yJ9_max_f86c9 cJ9_max_f86c9 n1 (some .long) n2) (hn1 : n1 = 4) (hs : Cond.static yJ9_max_f86c9 ∈ tb) (hd : 1 ≤ d) (hW : (rest.map fun v => v.category).sum ≤ 8) (k : Wp G l d own cc nL rt (pc + 3) ls (.long (if y < x then x else y) :: rest) h Q) : Wp G l d own cc nL rt pc ls (.long y :: .long x :: rest) h Q := by
  intro p e R s0 m args below meth c H locs lsm Qm C hP hS hL hf
  obtain ⟨hx, hb, hr, hml, hown, hts, hR, hK, hE, hG⟩ := id C
  subst hn1
  exact va_mmax_long hx hb (hml.trans hL.1.symm) hown (hts _ hl) (hts _ hs) (hts _ ho.1.1) (hts _ ho.1.2) (by omega) (by omega) (Nat.zero_le _) (Nat.zero_le _) hdg (k p e R s0 m args below meth c H locs lsm Qm C hP hS hL hf)
theorem r_absL {idx n1 n2 : Nat} {x : Int64} (hdg : decode cc pc = .ok (.invokestatic idx, 3)) (hl : Cond.methodLink own idx yJ9_abs_067f4 ∈ tb) (ho : MO yJ9_abs_067f4 cJ9_abs_067f4 n1 (some .long) n2) (hn1 : n1 = 2) (hs : Cond.static yJ9_abs_067f4 ∈ tb) (hd : 1 ≤ d) (hW : (rest.map fun v => v.category).sum ≤ 8) (k : Wp G l d own cc nL rt (pc + 3) ls (.long (if 0 < x then x else -x) :: rest) h Q) : Wp G l d own cc nL rt pc ls (.long x :: rest) h Q := by
  intro p e R s0 m args below meth c H locs lsm Qm C hP hS hL hf
  obtain ⟨hx, hb, hr, hml, hown, hts, hR, hK, hE, hG⟩ := id C
  subst hn1
  exact va_mabs_long hx hb (hml.trans hL.1.symm) hown (hts _ hl) (hts _ hs) (hts _ ho.1.1) (hts _ ho.1.2) (by omega) (by omega) (Nat.zero_le _) (Nat.zero_le _) hdg (k p e R s0 m args below meth c H locs lsm Qm C hP hS hL hf)
end FR
