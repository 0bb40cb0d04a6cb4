/-! the law from its entry -/
set_option maxRecDepth 30000 in
theorem ws_0 : Cond.stringRef RX2 79 "worth" ∈ lw_tbl := List.mem_append_right _ (List.mem_append_right _ (List.mem_append_left _ (List.mem_of_getElem? (i := 212) rfl)))
set_option maxRecDepth 30000 in
theorem ws_1 : Cond.stringRef RX2 81 "bake" ∈ lw_tbl := List.mem_append_right _ (List.mem_append_right _ (List.mem_append_left _ (List.mem_of_getElem? (i := 213) rfl)))
set_option maxRecDepth 30000 in
theorem ws_2 : Cond.stringRef RX2 83 "loaf" ∈ lw_tbl := List.mem_append_right _ (List.mem_append_right _ (List.mem_append_left _ (List.mem_of_getElem? (i := 214) rfl)))
set_option maxRecDepth 30000 in
theorem ws_3 : Cond.stringRef RX2 85 "law" ∈ lw_tbl := List.mem_append_right _ (List.mem_append_right _ (List.mem_append_left _ (List.mem_of_getElem? (i := 215) rfl)))
set_option maxRecDepth 30000 in
theorem ws_4 : Cond.stringRef RX2 87 "scale" ∈ lw_tbl := List.mem_append_right _ (List.mem_append_right _ (List.mem_append_left _ (List.mem_of_getElem? (i := 216) rfl)))
set_option maxRecDepth 30000 in
theorem ws_5 : Cond.stringRef RX2 106 "ikhabd" ∈ lw_tbl := List.mem_append_right _ (List.mem_append_right _ (List.mem_append_right _ (List.mem_append_left _ (List.mem_of_getElem? (i := 58) rfl))))
set_option maxRecDepth 30000 in
theorem ws_6 : Cond.stringRef RX2 112 "<=>" ∈ lw_tbl := List.mem_append_right _ (List.mem_append_right _ (List.mem_append_right _ (List.mem_append_left _ (List.mem_of_getElem? (i := 114) rfl))))
set_option maxRecDepth 30000 in
theorem wz_A : Cond.laysStatic RX0 "ABOVE" "[I" ∈ lw_tbl := List.mem_append_right _ (List.mem_append_right _ (List.mem_append_right _ (List.mem_append_right _ (List.mem_append_left _ (List.mem_of_getElem? (i := 82) rfl)))))
set_option maxRecDepth 30000 in
theorem wz_B : Cond.laysStatic RX0 "BODY" "[I" ∈ lw_tbl := List.mem_append_right _ (List.mem_append_right _ (List.mem_append_right _ (List.mem_append_right _ (List.mem_append_left _ (List.mem_of_getElem? (i := 72) rfl)))))
set_option maxRecDepth 30000 in
theorem wz_C : Cond.laysStatic "java/lang/String" "COMPACT_STRINGS" "Z" ∈ lw_tbl := List.mem_append_right _ (List.mem_append_right _ (List.mem_append_left _ (List.mem_of_getElem? (i := 230) rfl)))
set_option maxRecDepth 30000 in
theorem wz_S : Cond.laysStatic "jdk/internal/util/Preconditions" "SIOOBE_FORMATTER" "Ljava/util/function/BiFunction;" ∈ lw_tbl := List.mem_append_right _ (List.mem_append_right _ (List.mem_append_right _ (List.mem_append_left _ (List.mem_of_getElem? (i := 6) rfl))))
set_option maxRecDepth 30000 in
theorem wy_A : Cond.initialized RX0 ∈ lw_tbl := List.mem_append_right _ (List.mem_append_left _ (List.mem_of_getElem? (i := 6) rfl))
set_option maxRecDepth 30000 in
theorem wy_S : Cond.initialized "java/lang/String" ∈ lw_tbl := List.mem_append_right _ (List.mem_append_left _ (List.mem_of_getElem? (i := 11) rfl))
set_option maxRecDepth 30000 in
theorem wy_P : Cond.initialized "jdk/internal/util/Preconditions" ∈ lw_tbl := List.mem_append_right _ (List.mem_append_left _ (List.mem_of_getElem? (i := 13) rfl))
set_option maxRecDepth 30000 in
theorem wx_1 : Cond.arrayOver (.object RX1) ∈ lw_tbl := List.mem_append_right _ (List.mem_append_left _ (List.mem_of_getElem? (i := 142) rfl))
set_option maxRecDepth 30000 in
theorem wx_5 : Cond.arrayOver (.object RX5) ∈ lw_tbl := List.mem_append_right _ (List.mem_append_right _ (List.mem_append_left _ (List.mem_of_getElem? (i := 18) rfl)))
abbrev fl1 : List Jvm.Cond := flatC (Jvm.Cond.and given_1 narrow_1)
def tmS (i : Nat) : Term := .string RX2 (idxS.getD i 0)
theorem f_Ar : Cond.isRef (.static "jdk/internal/util/Preconditions" "SIOOBE_FORMATTER" "Ljava/util/function/BiFunction;") ∈ fl1 := by decide +kernel
theorem f_C : Cond.eq (.static "java/lang/String" "COMPACT_STRINGS" "Z") (.int 1) ∈ fl1 := by decide +kernel
theorem f_B0 : Cond.arrayOf (.static RX0 "BODY" "[I") .int ∈ fl1 ∧ Cond.eq (.length (.static RX0 "BODY" "[I")) (.int (Int32.ofNat 21)) ∈ fl1 := by decide +kernel
theorem f_A0 : Cond.arrayOf (.static RX0 "ABOVE" "[I") .int ∈ fl1 ∧ Cond.eq (.length (.static RX0 "ABOVE" "[I")) (.int (Int32.ofNat 7)) ∈ fl1 := by decide +kernel
theorem f_B : ∀ j, j < 21 → Cond.eq (.elem (.static RX0 "BODY" "[I") (.int (Int32.ofNat j))) (.int (tabB.getD j 0)) ∈ fl1 := by decide +kernel
theorem f_A : ∀ j, j < 7 → Cond.eq (.elem (.static RX0 "ABOVE" "[I") (.int (Int32.ofNat j))) (.int (tabA.getD j 0)) ∈ fl1 := by decide +kernel
theorem f_s1 : ∀ i, i < 7 → Cond.exactly (tmS i) "java/lang/String" ∈ fl1 := by decide +kernel
theorem f_s2 : ∀ i, i < 7 → Cond.eq (.field (tmS i) "java/lang/String" "coder" "B") (.int 0) ∈ fl1 := by decide +kernel
theorem f_s3 : ∀ i, i < 7 → Cond.arrayOf (.field (tmS i) "java/lang/String" "value" "[B") .byte ∈ fl1 := by decide +kernel
theorem f_s4 : ∀ i, i < 7 → Cond.eq (.length (.field (tmS i) "java/lang/String" "value" "[B")) (.int (Int32.ofNat (lenS.getD i 0))) ∈ fl1 := by decide +kernel
theorem f_s5 : ∀ i, i < 7 → ∀ j, j < lenS.getD i 0 → Cond.eq (.elem (.field (tmS i) "java/lang/String" "value" "[B") (.int (Int32.ofNat j))) (.int ((bytS.getD i []).getD j 0)) ∈ fl1 := by decide +kernel
theorem f_s6 : ∀ i, i < 7 → ∀ j, j < 7 → i ≠ j → Cond.not (Cond.eq (tmS i) (tmS j)) ∈ fl1 ∨ Cond.not (Cond.eq (tmS j) (tmS i)) ∈ fl1 := by decide +kernel
theorem f_s0 : ∀ i, i < 7 → lenS.getD i 0 < 2 ^ 31 := by decide +kernel
theorem entry_EX {p : Program} {s : State} {m : MethodId} {meth : Method} {c : Code} {b L : Nat} {xs : Nat → Int32} (C0 : lw_At p s m meth c b L xs) : ∃ (tA tB : Nat) (K V : Nat → Nat), ∀ (T6 T7 : Nat → Nat) (D : va_G) (g : Nat → ClassId), EX (mkG T6 T7 D g s.heap.size tA tB K V b L xs) s s.heap := by
  obtain ⟨-, -, -, -, -, hts, hX, hb, -, hgv⟩ := C0
  have hs := flat_of_before _ hgv
  have hA : ∀ a : Nat, a < s.heap.size → ¬ (fun q : Nat => s.heap.size ≤ q) a := fun a h1 h2 => absurd h1 (Nat.not_lt.mpr h2)
  obtain ⟨tA, a1, a2⟩ := va_Tof (f := fun j => .int (tabA.getD j 0)) (N := 7) (by decide) (hs _ f_A0.1) (va_eqt (hs _ f_A0.2)) (fun j hj => va_eqt (hs _ (f_A j hj))) hA
  obtain ⟨tB, b1, b2⟩ := va_Tof (f := fun j => .int (tabB.getD j 0)) (N := 21) (by decide) (hs _ f_B0.1) (va_eqt (hs _ f_B0.2)) (fun j hj => va_eqt (hs _ (f_B j hj))) hA
  obtain ⟨K, V, k1, k2⟩ := vk_Sof (N := 7) (tm := tmS) (len := lenS) (byt := bytS) f_s0 (fun i hi => hs _ (f_s1 i hi)) (fun i hi => hs _ (f_s2 i hi)) (fun i hi => hs _ (f_s3 i hi)) (fun i hi => hs _ (f_s4 i hi)) (fun i hi j hj => hs _ (f_s5 i hi j hj)) (fun i j hi hj hij => (f_s6 i hi j hj hij).elim (fun z => Or.inl (hs _ z)) (fun z => Or.inr (hs _ z))) hA
  have hstr : ∀ i, i < 7 → Cond.stringRef RX2 (idxS.getD i 0) (txS.getD i "") ∈ lw_tbl := by
    intro i hi
    rcases (show i = 0 ∨ i = 1 ∨ i = 2 ∨ i = 3 ∨ i = 4 ∨ i = 5 ∨ i = 6 by omega) with rfl | rfl | rfl | rfl | rfl | rfl | rfl
    · exact ws_0
    · exact ws_1
    · exact ws_2
    · exact ws_3
    · exact ws_4
    · exact ws_5
    · exact ws_6
  exact ⟨tA, tB, K, V, fun T6 T7 D g => ⟨⟨va_Zref (hts _ wz_A) (hts _ wy_A) a1 hA, a2, va_Zref (hts _ wz_B) (hts _ wy_A) b1 hA, b2⟩, ⟨va_Zof (hts _ wz_C) (hts _ wy_S) (va_eqi (hs _ f_C)) hA, va_Zqof (hts _ wz_S) (hts _ wy_P) (hs _ f_Ar) hA⟩, k1, fun i hi => vk_R.of (hts _ (hstr i hi)) (k2 i hi), hX, hb, fun z => absurd hb (Nat.not_lt.mpr z)⟩⟩
/-- the classes' numbers, and the arrays' -/
theorem entry_K {s : State} {args : Array Value} (hts : ∀ w ∈ lw_tbl, w.before args s = true) : ∃ (D : va_G) (g : Nat → ClassId), va_K D vwCl [(g 0, .int), (g 1, .char), (g 2, .boolean), (g 3, .long), (g 4, .object RX1), (g 5, .object RX5)] s := by
  have htb : ∀ w ∈ tb, w.before args s = true := fun w hw => hts w (List.mem_filter.mp hw).1
  obtain ⟨c0, i0, k0⟩ := u_known htb (c_in (s := 0) (by decide)) (htb _ wi_0)
  obtain ⟨c1, i1, k1⟩ := u_known htb (c_in (s := 1) (by decide)) (htb _ wi_1)
  obtain ⟨c2, i2, k2⟩ := u_known htb (c_in (s := 2) (by decide)) (htb _ wi_2)
  obtain ⟨c3, i3, k3⟩ := u_known htb (c_in (s := 3) (by decide)) (htb _ wi_3)
  obtain ⟨c4, i4, k4⟩ := u_known htb (c_in (s := 4) (by decide)) (htb _ wi_4)
  obtain ⟨c5, i5, k5⟩ := u_known htb (c_in (s := 5) (by decide)) (htb _ wi_5)
  obtain ⟨c6, i6, k6⟩ := u_known htb (c_in (s := 6) (by decide)) (htb _ wi_6)
  obtain ⟨c7, i7, k7⟩ := u_known htb (c_in (s := 7) (by decide)) (htb _ wi_7)
  obtain ⟨g0, x0, y0, p0, q0, r0⟩ := Cond.arrayClass_spec (htb _ wa_int)
  obtain ⟨g1, x1, y1, p1, q1, r1⟩ := Cond.arrayClass_spec (htb _ wa_char)
  obtain ⟨g2, x2, y2, p2, q2, r2⟩ := Cond.arrayClass_spec (htb _ wa_boolean)
  obtain ⟨g3, x3, y3, p3, q3, r3⟩ := Cond.arrayClass_spec (htb _ wa_long)
  obtain ⟨y4, g4, x4, o4, -, q4, r4, p4⟩ := Cond.arrayOver_spec (hts _ wx_1)
  obtain ⟨y5, g5, x5, o5, -, q5, r5, p5⟩ := Cond.arrayOver_spec (hts _ wx_5)
  refine ⟨(fun c => match c with | 0 => c0 | 1 => c1 | 2 => c2 | 3 => c3 | 4 => c4 | 5 => c5 | 6 => c6 | _ => c7, fun c => match c with | 0 => i0 | 1 => i1 | 2 => i2 | 3 => i3 | 4 => i4 | 5 => i5 | 6 => i6 | _ => i7), (fun k => match k with | 0 => g0 | 1 => g1 | 2 => g2 | 3 => g3 | 4 => g4 | _ => g5), ?_, ?_⟩
  · intro k q hq
    match k, hq with
    | 0, hq => cases hq; exact k0
    | 1, hq => cases hq; exact k1
    | 2, hq => cases hq; exact k2
    | 3, hq => cases hq; exact k3
    | 4, hq => cases hq; exact k4
    | 5, hq => cases hq; exact k5
    | 6, hq => cases hq; exact k6
    | 7, hq => cases hq; exact k7
    | k + 8, hq => cases hq
  · intro k q hq
    match k, hq with
    | 0, hq => cases hq; exact ⟨fun n z => ⟨fun _ h => (by cases h), x0, q0, y0, r0⟩, p0⟩
    | 1, hq => cases hq; exact ⟨fun n z => ⟨fun _ h => (by cases h), x1, q1, y1, r1⟩, p1⟩
    | 2, hq => cases hq; exact ⟨fun n z => ⟨fun _ h => (by cases h), x2, q2, y2, r2⟩, p2⟩
    | 3, hq => cases hq; exact ⟨fun n z => ⟨fun _ h => (by cases h), x3, q3, y3, r3⟩, p3⟩
    | 4, hq => cases hq; exact ⟨fun n z => ⟨fun _ h => (by cases h), x4, q4, y4, r4⟩, x4, y4, q4, r4, o4, p4⟩
    | 5, hq => cases hq; exact ⟨fun n z => ⟨fun _ h => (by cases h), x5, q5, y5, r5⟩, x5, y5, q5, r5, o5, p5⟩
    | k + 6, hq => cases hq
