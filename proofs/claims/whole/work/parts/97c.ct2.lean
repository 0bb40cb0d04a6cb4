/-! the words that the constructors need of the tables; the shapes of what they make -/
set_option maxRecDepth 30000 in
theorem w_oi : Cond.instanceMethod objectInit ∈ tb := tm_1 23 rfl rfl
set_option maxRecDepth 30000 in
theorem w_oc : Cond.code objectInit ⟨#[0xb1]⟩ 1 none ∈ tb := tm_1 24 rfl rfl
set_option maxRecDepth 30000 in
theorem wa_int : Cond.arrayClass .int ∈ tb := tm_1 92 rfl rfl
set_option maxRecDepth 30000 in
theorem wa_char : Cond.arrayClass .char ∈ tb := tm_1 232 rfl rfl
set_option maxRecDepth 30000 in
theorem wa_boolean : Cond.arrayClass .boolean ∈ tb := tm_5 97 rfl rfl
set_option maxRecDepth 30000 in
theorem wa_long : Cond.arrayClass .long ∈ tb := tm_2 37 rfl rfl
set_option maxRecDepth 30000 in
theorem wi_0 : Cond.instantiable (cR 0) (nfl 0) ∈ tb := tm_1 234 rfl rfl
set_option maxRecDepth 30000 in
theorem wn_0 : Cond.instanceMethod yX0_init ∈ tb := tm_1 236 rfl rfl
set_option maxRecDepth 30000 in
theorem wo_0 : Cond.methodLink RX0 3 objectInit ∈ tb := tm_1 238 rfl rfl
set_option maxRecDepth 30000 in
theorem wi_1 : Cond.instantiable (cR 1) (nfl 1) ∈ tb := tm_1 94 rfl rfl
set_option maxRecDepth 30000 in
theorem wn_1 : Cond.instanceMethod yX1_init ∈ tb := tm_1 96 rfl rfl
set_option maxRecDepth 30000 in
theorem wo_1 : Cond.methodLink RX1 3 objectInit ∈ tb := tm_1 98 rfl rfl
set_option maxRecDepth 30000 in
theorem wi_2 : Cond.instantiable (cR 2) (nfl 2) ∈ tb := tm_1 208 rfl rfl
set_option maxRecDepth 30000 in
theorem wn_2 : Cond.instanceMethod yX2_init ∈ tb := tm_1 210 rfl rfl
set_option maxRecDepth 30000 in
theorem wo_2 : Cond.methodLink RX2 3 objectInit ∈ tb := tm_1 212 rfl rfl
set_option maxRecDepth 30000 in
theorem wi_3 : Cond.instantiable (cR 3) (nfl 3) ∈ tb := tm_1 144 rfl rfl
set_option maxRecDepth 30000 in
theorem wn_3 : Cond.instanceMethod yX3_init ∈ tb := tm_1 146 rfl rfl
set_option maxRecDepth 30000 in
theorem wo_3 : Cond.methodLink RX3 3 objectInit ∈ tb := tm_1 148 rfl rfl
set_option maxRecDepth 30000 in
theorem wi_4 : Cond.instantiable (cR 4) (nfl 4) ∈ tb := tm_1 26 rfl rfl
set_option maxRecDepth 30000 in
theorem wn_4 : Cond.instanceMethod yX4_init ∈ tb := tm_1 28 rfl rfl
set_option maxRecDepth 30000 in
theorem wo_4 : Cond.methodLink RX4 3 objectInit ∈ tb := tm_1 30 rfl rfl
set_option maxRecDepth 30000 in
theorem wi_5 : Cond.instantiable (cR 5) (nfl 5) ∈ tb := tm_2 19 rfl rfl
set_option maxRecDepth 30000 in
theorem wn_5 : Cond.instanceMethod yX5_init ∈ tb := tm_2 21 rfl rfl
set_option maxRecDepth 30000 in
theorem wo_5 : Cond.methodLink RX5 3 objectInit ∈ tb := tm_2 23 rfl rfl
set_option maxRecDepth 30000 in
theorem wi_6 : Cond.instantiable (cR 6) (nfl 6) ∈ tb := tm_1 18 rfl rfl
set_option maxRecDepth 30000 in
theorem wn_6 : Cond.instanceMethod yX6_init ∈ tb := tm_1 20 rfl rfl
set_option maxRecDepth 30000 in
theorem wo_6 : Cond.methodLink RX6 3 objectInit ∈ tb := tm_1 22 rfl rfl
set_option maxRecDepth 30000 in
theorem wi_7 : Cond.instantiable (cR 7) (nfl 7) ∈ tb := tm_4 133 rfl rfl
set_option maxRecDepth 30000 in
theorem wn_7 : Cond.instanceMethod yX7_init ∈ tb := tm_4 135 rfl rfl
set_option maxRecDepth 30000 in
theorem wo_7 : Cond.methodLink RX7 1 objectInit ∈ tb := tm_4 137 rfl rfl
set_option maxRecDepth 30000 in
theorem wc_L_7 : Cond.classLink RL 7 (cR 6) ∈ tb := tm_1 17 rfl rfl
set_option maxRecDepth 30000 in
theorem wc_X6_9 : Cond.classLink RX6 9 (cR 4) ∈ tb := tm_1 25 rfl rfl
set_option maxRecDepth 30000 in
theorem wc_X6_24 : Cond.classLink RX6 24 (cR 1) ∈ tb := tm_1 93 rfl rfl
set_option maxRecDepth 30000 in
theorem wc_X6_35 : Cond.classLink RX6 35 (cR 3) ∈ tb := tm_1 143 rfl rfl
set_option maxRecDepth 30000 in
theorem wc_X3_36 : Cond.classLink RX3 36 (cR 4) ∈ tb := tm_1 149 rfl rfl
set_option maxRecDepth 30000 in
theorem wc_X3_43 : Cond.classLink RX3 43 (cR 1) ∈ tb := tm_1 151 rfl rfl
set_option maxRecDepth 30000 in
theorem wc_X6_42 : Cond.classLink RX6 42 (cR 2) ∈ tb := tm_1 207 rfl rfl
set_option maxRecDepth 30000 in
theorem wc_X2_25 : Cond.classLink RX2 25 (cR 1) ∈ tb := tm_1 213 rfl rfl
set_option maxRecDepth 30000 in
theorem wc_X6_49 : Cond.classLink RX6 49 (cR 0) ∈ tb := tm_1 233 rfl rfl
set_option maxRecDepth 30000 in
theorem wc_X6_56 : Cond.classLink RX6 56 (cR 5) ∈ tb := tm_2 17 rfl rfl
set_option maxRecDepth 30000 in
theorem wc_L_10 : Cond.classLink RL 10 (cR 7) ∈ tb := tm_4 132 rfl rfl
section CR
variable {Z : ZT} {nc ns pc : Nat} {lv : List (Nat × Value)} {st : List Value} {R : va_W} {x y z : Nat × va_E}
theorem c_newa1 (C : CX Z) {N t0 : Nat} {n : Int32} {atype : ArrayType} {ty : FieldType} {cA0 : ClassId} {a0 : vp_A} (hdg : decode (zcc Z) pc = .ok (.newarray atype, 2)) (hw : Cond.arrayClass (newarray.typeOf atype) ∈ tb) (hty : newarray.typeOf atype = ty) (ht : (zt Z)[t0]? = some (cA0, ty)) (hra : ∀ cA : ClassId, va_RA (zs Z) cA ty → (zs Z).vm.findClass ("[" ++ ty.toString) = some cA) (ha : ∀ cA : ClassId, vp_cell cA a0 = arrV cA N (fun _ => defaultValue ty)) (hn : ¬ n < 0) (hN : n.toNatClampNeg = N) (hby : N * componentBytes ty ≤ 536870912) (h1 : nc + 1 ≤ (zR Z).cells) (h2 : ns + N ≤ (zR Z).slots) (kk : ∀ q : Nat, Wc Z (nc + 1) (ns + N) (pc + 2) lv (.ref q :: st) (x :: (q, .inl (cA0, a0)) :: R)) : Wc Z nc ns pc lv (.int n :: st) (x :: R) := c_newa (pre := [x]) C hdg hw hty ht hra ha hn hN hby h1 h2 kk
theorem c_newC1 (C : CX Z) (ao : AOs (zs Z)) {idx idx2 d ci mc ms nL' : Nat} {y9 : MethodName} {cc' : ByteArray} {fs0 : List Value} {shape : (Nat → Nat) → va_W} (hC : CtC (zl Z) (zD Z) (zt Z) d y9 cc' nL' ci fs0 mc ms shape) (hd1 : decode (zcc Z) pc = .ok (.new idx, 3)) (hd2 : decode (zcc Z) (pc + 3) = .ok (.dup, 1)) (hd3 : decode (zcc Z) (pc + 4) = .ok (.invokespecial idx2, 3)) (hci : ci < 8) (hcl : Cond.classLink (zo Z) idx (cR ci) ∈ tb) (hinst : Cond.instantiable (cR ci) (nfl ci) ∈ tb) (hy : MO y9 cc' nL' none 0) (hy1 : y9.name = "<init>") (hyc : y9.cls = cR ci) (hml : Cond.methodLink (zo Z) idx2 y9 ∈ tb) (hin : Cond.instanceMethod y9 ∈ tb) (hfs : ∀ j, j < nfl ci → defaultValue (cTy ci j) = vp_V fs0 j) (hn1 : nc + 1 + mc ≤ (zR Z).cells) (hn2 : ns + nfl ci + ms ≤ (zR Z).slots) (hf : d + 1 ≤ (zR Z).frames ∧ 8 + (nL' + 11) + 40 * d ≤ (zR Z).locals) (hst : (st.map fun v => v.category).sum ≤ 7) (kk : ∀ T : Nat → Nat, Wc Z (nc + 1 + mc) (ns + nfl ci + ms) (pc + 7) lv (.ref (T 0) :: st) (x :: (shape T ++ R))) : Wc Z nc ns pc lv st (x :: R) := c_newC (pre := [x]) C ao hC hd1 hd2 hd3 hci hcl hinst hy hy1 hyc hml hin hfs hn1 hn2 hf hst kk
theorem c_newa2 (C : CX Z) {N t0 : Nat} {n : Int32} {atype : ArrayType} {ty : FieldType} {cA0 : ClassId} {a0 : vp_A} (hdg : decode (zcc Z) pc = .ok (.newarray atype, 2)) (hw : Cond.arrayClass (newarray.typeOf atype) ∈ tb) (hty : newarray.typeOf atype = ty) (ht : (zt Z)[t0]? = some (cA0, ty)) (hra : ∀ cA : ClassId, va_RA (zs Z) cA ty → (zs Z).vm.findClass ("[" ++ ty.toString) = some cA) (ha : ∀ cA : ClassId, vp_cell cA a0 = arrV cA N (fun _ => defaultValue ty)) (hn : ¬ n < 0) (hN : n.toNatClampNeg = N) (hby : N * componentBytes ty ≤ 536870912) (h1 : nc + 1 ≤ (zR Z).cells) (h2 : ns + N ≤ (zR Z).slots) (kk : ∀ q : Nat, Wc Z (nc + 1) (ns + N) (pc + 2) lv (.ref q :: st) (x :: y :: (q, .inl (cA0, a0)) :: R)) : Wc Z nc ns pc lv (.int n :: st) (x :: y :: R) := c_newa (pre := [x, y]) C hdg hw hty ht hra ha hn hN hby h1 h2 kk
theorem c_newC2 (C : CX Z) (ao : AOs (zs Z)) {idx idx2 d ci mc ms nL' : Nat} {y9 : MethodName} {cc' : ByteArray} {fs0 : List Value} {shape : (Nat → Nat) → va_W} (hC : CtC (zl Z) (zD Z) (zt Z) d y9 cc' nL' ci fs0 mc ms shape) (hd1 : decode (zcc Z) pc = .ok (.new idx, 3)) (hd2 : decode (zcc Z) (pc + 3) = .ok (.dup, 1)) (hd3 : decode (zcc Z) (pc + 4) = .ok (.invokespecial idx2, 3)) (hci : ci < 8) (hcl : Cond.classLink (zo Z) idx (cR ci) ∈ tb) (hinst : Cond.instantiable (cR ci) (nfl ci) ∈ tb) (hy : MO y9 cc' nL' none 0) (hy1 : y9.name = "<init>") (hyc : y9.cls = cR ci) (hml : Cond.methodLink (zo Z) idx2 y9 ∈ tb) (hin : Cond.instanceMethod y9 ∈ tb) (hfs : ∀ j, j < nfl ci → defaultValue (cTy ci j) = vp_V fs0 j) (hn1 : nc + 1 + mc ≤ (zR Z).cells) (hn2 : ns + nfl ci + ms ≤ (zR Z).slots) (hf : d + 1 ≤ (zR Z).frames ∧ 8 + (nL' + 11) + 40 * d ≤ (zR Z).locals) (hst : (st.map fun v => v.category).sum ≤ 7) (kk : ∀ T : Nat → Nat, Wc Z (nc + 1 + mc) (ns + nfl ci + ms) (pc + 7) lv (.ref (T 0) :: st) (x :: y :: (shape T ++ R))) : Wc Z nc ns pc lv st (x :: y :: R) := c_newC (pre := [x, y]) C ao hC hd1 hd2 hd3 hci hcl hinst hy hy1 hyc hml hin hfs hn1 hn2 hf hst kk
theorem c_newa3 (C : CX Z) {N t0 : Nat} {n : Int32} {atype : ArrayType} {ty : FieldType} {cA0 : ClassId} {a0 : vp_A} (hdg : decode (zcc Z) pc = .ok (.newarray atype, 2)) (hw : Cond.arrayClass (newarray.typeOf atype) ∈ tb) (hty : newarray.typeOf atype = ty) (ht : (zt Z)[t0]? = some (cA0, ty)) (hra : ∀ cA : ClassId, va_RA (zs Z) cA ty → (zs Z).vm.findClass ("[" ++ ty.toString) = some cA) (ha : ∀ cA : ClassId, vp_cell cA a0 = arrV cA N (fun _ => defaultValue ty)) (hn : ¬ n < 0) (hN : n.toNatClampNeg = N) (hby : N * componentBytes ty ≤ 536870912) (h1 : nc + 1 ≤ (zR Z).cells) (h2 : ns + N ≤ (zR Z).slots) (kk : ∀ q : Nat, Wc Z (nc + 1) (ns + N) (pc + 2) lv (.ref q :: st) (x :: y :: z :: (q, .inl (cA0, a0)) :: R)) : Wc Z nc ns pc lv (.int n :: st) (x :: y :: z :: R) := c_newa (pre := [x, y, z]) C hdg hw hty ht hra ha hn hN hby h1 h2 kk
theorem c_newC3 (C : CX Z) (ao : AOs (zs Z)) {idx idx2 d ci mc ms nL' : Nat} {y9 : MethodName} {cc' : ByteArray} {fs0 : List Value} {shape : (Nat → Nat) → va_W} (hC : CtC (zl Z) (zD Z) (zt Z) d y9 cc' nL' ci fs0 mc ms shape) (hd1 : decode (zcc Z) pc = .ok (.new idx, 3)) (hd2 : decode (zcc Z) (pc + 3) = .ok (.dup, 1)) (hd3 : decode (zcc Z) (pc + 4) = .ok (.invokespecial idx2, 3)) (hci : ci < 8) (hcl : Cond.classLink (zo Z) idx (cR ci) ∈ tb) (hinst : Cond.instantiable (cR ci) (nfl ci) ∈ tb) (hy : MO y9 cc' nL' none 0) (hy1 : y9.name = "<init>") (hyc : y9.cls = cR ci) (hml : Cond.methodLink (zo Z) idx2 y9 ∈ tb) (hin : Cond.instanceMethod y9 ∈ tb) (hfs : ∀ j, j < nfl ci → defaultValue (cTy ci j) = vp_V fs0 j) (hn1 : nc + 1 + mc ≤ (zR Z).cells) (hn2 : ns + nfl ci + ms ≤ (zR Z).slots) (hf : d + 1 ≤ (zR Z).frames ∧ 8 + (nL' + 11) + 40 * d ≤ (zR Z).locals) (hst : (st.map fun v => v.category).sum ≤ 7) (kk : ∀ T : Nat → Nat, Wc Z (nc + 1 + mc) (ns + nfl ci + ms) (pc + 7) lv (.ref (T 0) :: st) (x :: y :: z :: (shape T ++ R))) : Wc Z nc ns pc lv st (x :: y :: z :: R) := c_newC (pre := [x, y, z]) C ao hC hd1 hd2 hd3 hci hcl hinst hy hy1 hyc hml hin hfs hn1 hn2 hf hst kk
theorem c_newq1 (C : CX Z) {N t0 idx : Nat} {n : Int32} {Cn : String} {cA0 : ClassId} (hdg : decode (zcc Z) pc = .ok (.anewarray idx, 3)) (hcl : Cond.classLink (zo Z) idx Cn ∈ tb) (hov : va_AO Cn (zs Z)) (ht : (zt Z)[t0]? = some (cA0, .object Cn)) (hn : ¬ n < 0) (hN : n.toNatClampNeg = N) (hby : N * 4 ≤ 536870912) (h1 : nc + 1 ≤ (zR Z).cells) (h2 : ns + N ≤ (zR Z).slots) (kk : ∀ q : Nat, Wc Z (nc + 1) (ns + N) (pc + 3) lv (.ref q :: st) (x :: (q, .inl (cA0, N, .inr (.inr (.inr (.inr (fun _ => none)))))) :: R)) : Wc Z nc ns pc lv (.int n :: st) (x :: R) := c_newq (pre := [x]) C hdg hcl hov ht hn hN hby h1 h2 kk
theorem c_iast1 (C : CX Z) {a n j t0 : Nat} {i v : Int32} {f : Nat → Int32} {cA : ClassId} (hdg : decode (zcc Z) pc = .ok (.iastore, 1)) (ht : (zt Z)[t0]? = some (cA, .int)) (hi : i = nI j) (hj : j < n) (hn : n < 2 ^ 31) (kk : Wc Z nc ns (pc + 1) lv st (x :: (a, .inl (cA, n, .inl (upd f j v))) :: R)) : Wc Z nc ns pc lv (.int v :: .int i :: .ref a :: st) (x :: (a, .inl (cA, n, .inl f)) :: R) := c_iast C 1 hdg ht rfl hi hj hn rfl kk
theorem c_astq2 (C : CX Z) {a n j t0 v ci : Nat} {i : Int32} {f : Nat → Option Nat} {cA : ClassId} {vs : List Value} {Cn : String} (hdg : decode (zcc Z) pc = .ok (.aastore, 1)) (hci : ci < 8) (hCn : cR ci = Cn) (ht : (zt Z)[t0]? = some (cA, .object Cn)) (hv : R[0]? = some (v, .inr (ci, vs))) (hi : i = nI j) (hj : j < n) (hn : n < 2 ^ 31) (kk : Wc Z nc ns (pc + 1) lv st (x :: y :: (a, .inl (cA, n, .inr (.inr (.inr (.inr (va_up f j (some v))))))) :: R)) : Wc Z nc ns pc lv (.ref v :: .int i :: .ref a :: st) (x :: y :: (a, .inl (cA, n, .inr (.inr (.inr (.inr f))))) :: R) := c_astq C 2 3 hdg hci hCn ht rfl hv hi hj hn rfl kk
theorem c_astq1 (C : CX Z) {a n j t0 v ci : Nat} {i : Int32} {f : Nat → Option Nat} {cA : ClassId} {vs : List Value} {Cn : String} (hdg : decode (zcc Z) pc = .ok (.aastore, 1)) (hci : ci < 8) (hCn : cR ci = Cn) (ht : (zt Z)[t0]? = some (cA, .object Cn)) (hv : R[0]? = some (v, .inr (ci, vs))) (hi : i = nI j) (hj : j < n) (hn : n < 2 ^ 31) (kk : Wc Z nc ns (pc + 1) lv st (x :: (a, .inl (cA, n, .inr (.inr (.inr (.inr (va_up f j (some v))))))) :: y :: R)) : Wc Z nc ns pc lv (.ref v :: .int i :: .ref a :: st) (x :: (a, .inl (cA, n, .inr (.inr (.inr (.inr f))))) :: y :: R) := c_astq C 1 3 hdg hci hCn ht rfl hv hi hj hn rfl kk
end CR
/-- what a house comes with -/
def shX1 (g : Nat → ClassId) (T : Nat → Nat) : va_W := (T 0, .inr (1, [.ref (T 1), .ref (T 2), .ref (T 3), .ref (T 4), .ref (T 5), .ref (T 6), .ref (T 7), .int 0, .int 0, .int 8, .int 0, .int 1])) :: (T 7, .inl (g 0, (100, .inl (fun _ => 0)))) :: (T 6, .inl (g 0, (100, .inl (fun _ => 0)))) :: (T 5, .inl (g 0, (100, .inl (fun _ => 0)))) :: (T 4, .inl (g 0, (100, .inl (fun _ => 0)))) :: (T 3, .inl (g 0, (10, .inl (fun _ => 0)))) :: (T 2, .inl (g 0, (10, .inl (fun _ => 0)))) :: (T 1, .inl (g 0, (10, .inl (fun _ => 0)))) :: []
theorem df_1 : ∀ j, j < nfl 1 → defaultValue (cTy 1 j) = vp_V [.null, .null, .null, .null, .null, .null, .null, .int 0, .int 0, .int 0, .int 0, .int 0] j := by
  intro j hj
  have hj : j < 12 := hj
  rcases (show j = 0 ∨ j = 1 ∨ j = 2 ∨ j = 3 ∨ j = 4 ∨ j = 5 ∨ j = 6 ∨ j = 7 ∨ j = 8 ∨ j = 9 ∨ j = 10 ∨ j = 11 by omega) with rfl | rfl | rfl | rfl | rfl | rfl | rfl | rfl | rfl | rfl | rfl | rfl <;> rfl
set_option maxRecDepth 100000 in
set_option maxHeartbeats 8000000 in
theorem ct_X1 {G : WT} {l : Launch} (hG : GOK G) : CtC l (gD G) (tysO G) 1 yX1_init cX1_init 1 1 [.null, .null, .null, .null, .null, .null, .null, .int 0, .int 0, .int 0, .int 0, .int 0] 7 430 (shX1 (gC G)) := by
  refine ct_of (by decide) rfl (Nat.le_of_ble_eq_true rfl) ?_
  intro p e s m args below meth c A Q h0 C ao hin fin
  refine c_aload C 0 dX1_init_0 rfl rfl ?_
  refine c_objI C dX1_init_1 wo_1 w_oi w_oc (Nat.le_of_ble_eq_true rfl) (Nat.le_of_ble_eq_true rfl) ?_
  refine c_aload C 0 dX1_init_4 rfl rfl ?_
  refine c_bipush C dX1_init_5 rfl ?_
  refine c_newa1 (N := 10) (t0 := 0) (ty := .int) (a0 := (10, .inl (fun _ => 0))) C dX1_init_7 wa_int rfl rfl (fun _ z => z) (fun _ => rfl) (by decide) rfl (Nat.le_of_ble_eq_true rfl) (Nat.le_of_ble_eq_true rfl) (Nat.le_of_ble_eq_true rfl) (fun q7 => ?_)
  refine c_putF (ci := 1) (fs' := [.ref q7, .null, .null, .null, .null, .null, .null, .int 0, .int 0, .int 0, .int 0, .int 0]) C hin 0 dX1_init_9 k_X1_9 (by decide) (by decide) rfl rfl rfl rfl (Nat.le_of_ble_eq_true rfl) rfl ?_
  refine c_aload C 0 dX1_init_12 rfl rfl ?_
  refine c_bipush C dX1_init_13 rfl ?_
  refine c_newa1 (N := 10) (t0 := 0) (ty := .int) (a0 := (10, .inl (fun _ => 0))) C dX1_init_15 wa_int rfl rfl (fun _ z => z) (fun _ => rfl) (by decide) rfl (Nat.le_of_ble_eq_true rfl) (Nat.le_of_ble_eq_true rfl) (Nat.le_of_ble_eq_true rfl) (fun q15 => ?_)
  refine c_putF (ci := 1) (fs' := [.ref q7, .ref q15, .null, .null, .null, .null, .null, .int 0, .int 0, .int 0, .int 0, .int 0]) C hin 1 dX1_init_17 k_X1_15 (by decide) (by decide) rfl rfl rfl rfl (Nat.le_of_ble_eq_true rfl) rfl ?_
  refine c_aload C 0 dX1_init_20 rfl rfl ?_
  refine c_bipush C dX1_init_21 rfl ?_
  refine c_newa1 (N := 10) (t0 := 0) (ty := .int) (a0 := (10, .inl (fun _ => 0))) C dX1_init_23 wa_int rfl rfl (fun _ z => z) (fun _ => rfl) (by decide) rfl (Nat.le_of_ble_eq_true rfl) (Nat.le_of_ble_eq_true rfl) (Nat.le_of_ble_eq_true rfl) (fun q23 => ?_)
  refine c_putF (ci := 1) (fs' := [.ref q7, .ref q15, .ref q23, .null, .null, .null, .null, .int 0, .int 0, .int 0, .int 0, .int 0]) C hin 2 dX1_init_25 k_X1_18 (by decide) (by decide) rfl rfl rfl rfl (Nat.le_of_ble_eq_true rfl) rfl ?_
  refine c_aload C 0 dX1_init_28 rfl rfl ?_
  refine c_bipush C dX1_init_29 rfl ?_
  refine c_newa1 (N := 100) (t0 := 0) (ty := .int) (a0 := (100, .inl (fun _ => 0))) C dX1_init_31 wa_int rfl rfl (fun _ z => z) (fun _ => rfl) (by decide) rfl (Nat.le_of_ble_eq_true rfl) (Nat.le_of_ble_eq_true rfl) (Nat.le_of_ble_eq_true rfl) (fun q31 => ?_)
  refine c_putF (ci := 1) (fs' := [.ref q7, .ref q15, .ref q23, .ref q31, .null, .null, .null, .int 0, .int 0, .int 0, .int 0, .int 0]) C hin 3 dX1_init_33 k_X1_21 (by decide) (by decide) rfl rfl rfl rfl (Nat.le_of_ble_eq_true rfl) rfl ?_
  refine c_aload C 0 dX1_init_36 rfl rfl ?_
  refine c_bipush C dX1_init_37 rfl ?_
  refine c_newa1 (N := 100) (t0 := 0) (ty := .int) (a0 := (100, .inl (fun _ => 0))) C dX1_init_39 wa_int rfl rfl (fun _ z => z) (fun _ => rfl) (by decide) rfl (Nat.le_of_ble_eq_true rfl) (Nat.le_of_ble_eq_true rfl) (Nat.le_of_ble_eq_true rfl) (fun q39 => ?_)
  refine c_putF (ci := 1) (fs' := [.ref q7, .ref q15, .ref q23, .ref q31, .ref q39, .null, .null, .int 0, .int 0, .int 0, .int 0, .int 0]) C hin 4 dX1_init_41 k_X1_24 (by decide) (by decide) rfl rfl rfl rfl (Nat.le_of_ble_eq_true rfl) rfl ?_
  refine c_aload C 0 dX1_init_44 rfl rfl ?_
  refine c_bipush C dX1_init_45 rfl ?_
  refine c_newa1 (N := 100) (t0 := 0) (ty := .int) (a0 := (100, .inl (fun _ => 0))) C dX1_init_47 wa_int rfl rfl (fun _ z => z) (fun _ => rfl) (by decide) rfl (Nat.le_of_ble_eq_true rfl) (Nat.le_of_ble_eq_true rfl) (Nat.le_of_ble_eq_true rfl) (fun q47 => ?_)
  refine c_putF (ci := 1) (fs' := [.ref q7, .ref q15, .ref q23, .ref q31, .ref q39, .ref q47, .null, .int 0, .int 0, .int 0, .int 0, .int 0]) C hin 5 dX1_init_49 k_X1_27 (by decide) (by decide) rfl rfl rfl rfl (Nat.le_of_ble_eq_true rfl) rfl ?_
  refine c_aload C 0 dX1_init_52 rfl rfl ?_
  refine c_bipush C dX1_init_53 rfl ?_
  refine c_newa1 (N := 100) (t0 := 0) (ty := .int) (a0 := (100, .inl (fun _ => 0))) C dX1_init_55 wa_int rfl rfl (fun _ z => z) (fun _ => rfl) (by decide) rfl (Nat.le_of_ble_eq_true rfl) (Nat.le_of_ble_eq_true rfl) (Nat.le_of_ble_eq_true rfl) (fun q55 => ?_)
  refine c_putF (ci := 1) (fs' := [.ref q7, .ref q15, .ref q23, .ref q31, .ref q39, .ref q47, .ref q55, .int 0, .int 0, .int 0, .int 0, .int 0]) C hin 6 dX1_init_57 k_X1_30 (by decide) (by decide) rfl rfl rfl rfl (Nat.le_of_ble_eq_true rfl) rfl ?_
  refine c_aload C 0 dX1_init_60 rfl rfl ?_
  refine c_iconst C dX1_init_61 rfl ?_
  refine c_putN (ci := 1) (fs' := [.ref q7, .ref q15, .ref q23, .ref q31, .ref q39, .ref q47, .ref q55, .int 0, .int 0, .int 0, .int 0, .int 0]) C 7 dX1_init_62 k_X1_33 (by decide) (by decide) rfl rfl rfl (Nat.le_of_ble_eq_true rfl) rfl ?_
  refine c_aload C 0 dX1_init_65 rfl rfl ?_
  refine c_iconst C dX1_init_66 rfl ?_
  refine c_putN (ci := 1) (fs' := [.ref q7, .ref q15, .ref q23, .ref q31, .ref q39, .ref q47, .ref q55, .int 0, .int 0, .int 0, .int 0, .int 0]) C 8 dX1_init_67 k_X1_37 (by decide) (by decide) rfl rfl rfl (Nat.le_of_ble_eq_true rfl) rfl ?_
  refine c_aload C 0 dX1_init_70 rfl rfl ?_
  refine c_bipush C dX1_init_71 rfl ?_
  refine c_putN (ci := 1) (fs' := [.ref q7, .ref q15, .ref q23, .ref q31, .ref q39, .ref q47, .ref q55, .int 0, .int 0, .int 8, .int 0, .int 0]) C 9 dX1_init_73 k_X1_40 (by decide) (by decide) rfl rfl rfl (Nat.le_of_ble_eq_true rfl) rfl ?_
  refine c_aload C 0 dX1_init_76 rfl rfl ?_
  refine c_iconst C dX1_init_77 rfl ?_
  refine c_putN (ci := 1) (fs' := [.ref q7, .ref q15, .ref q23, .ref q31, .ref q39, .ref q47, .ref q55, .int 0, .int 0, .int 8, .int 0, .int 0]) C 10 dX1_init_78 k_X1_43 (by decide) (by decide) rfl rfl rfl (Nat.le_of_ble_eq_true rfl) rfl ?_
  refine c_aload C 0 dX1_init_81 rfl rfl ?_
  refine c_iconst C dX1_init_82 rfl ?_
  refine c_putN (ci := 1) (fs' := [.ref q7, .ref q15, .ref q23, .ref q31, .ref q39, .ref q47, .ref q55, .int 0, .int 0, .int 8, .int 0, .int 1]) C 11 dX1_init_83 k_X1_46 (by decide) (by decide) rfl rfl rfl (Nat.le_of_ble_eq_true rfl) rfl ?_
  exact fin 86 _ (fun j => if j ≤ 0 then h0 else if j ≤ 1 then q7 else if j ≤ 2 then q15 else if j ≤ 3 then q23 else if j ≤ 4 then q31 else if j ≤ 5 then q39 else if j ≤ 6 then q47 else q55) dX1_init_86 rfl
/-- what a table comes with -/
def shX4 (g : Nat → ClassId) (T : Nat → Nat) : va_W := (T 0, .inr (4, [.ref (T 1), .ref (T 2), .ref (T 3), .ref (T 4), .ref (T 5), .ref (T 6), .ref (T 7), .int 0, .int 20, .int 0, .int (-5), .int 0, .int (-1)])) :: (T 7, .inl (g 0, (12, .inl (fun _ => 0)))) :: (T 6, .inl (g 0, (20, .inl (fun _ => 0)))) :: (T 5, .inl (g 0, (5, .inl (fun _ => 0)))) :: (T 4, .inl (g 0, (5, .inl (fun _ => 0)))) :: (T 3, .inl (g 0, (5, .inl (fun _ => 0)))) :: (T 2, .inl (g 0, (5, .inl (fun _ => 0)))) :: (T 1, .inl (g 0, (5, .inl (fun _ => 0)))) :: []
theorem df_4 : ∀ j, j < nfl 4 → defaultValue (cTy 4 j) = vp_V [.null, .null, .null, .null, .null, .null, .null, .int 0, .int 0, .int 0, .int 0, .int 0, .int 0] j := by
  intro j hj
  have hj : j < 13 := hj
  rcases (show j = 0 ∨ j = 1 ∨ j = 2 ∨ j = 3 ∨ j = 4 ∨ j = 5 ∨ j = 6 ∨ j = 7 ∨ j = 8 ∨ j = 9 ∨ j = 10 ∨ j = 11 ∨ j = 12 by omega) with rfl | rfl | rfl | rfl | rfl | rfl | rfl | rfl | rfl | rfl | rfl | rfl | rfl <;> rfl
set_option maxRecDepth 100000 in
set_option maxHeartbeats 8000000 in
theorem ct_X4 {G : WT} {l : Launch} (hG : GOK G) : CtC l (gD G) (tysO G) 1 yX4_init cX4_init 1 4 [.null, .null, .null, .null, .null, .null, .null, .int 0, .int 0, .int 0, .int 0, .int 0, .int 0] 7 57 (shX4 (gC G)) := by
  refine ct_of (by decide) rfl (Nat.le_of_ble_eq_true rfl) ?_
  intro p e s m args below meth c A Q h0 C ao hin fin
  refine c_aload C 0 dX4_init_0 rfl rfl ?_
  refine c_objI C dX4_init_1 wo_4 w_oi w_oc (Nat.le_of_ble_eq_true rfl) (Nat.le_of_ble_eq_true rfl) ?_
  refine c_aload C 0 dX4_init_4 rfl rfl ?_
  refine c_iconst C dX4_init_5 rfl ?_
  refine c_newa1 (N := 5) (t0 := 0) (ty := .int) (a0 := (5, .inl (fun _ => 0))) C dX4_init_6 wa_int rfl rfl (fun _ z => z) (fun _ => rfl) (by decide) rfl (Nat.le_of_ble_eq_true rfl) (Nat.le_of_ble_eq_true rfl) (Nat.le_of_ble_eq_true rfl) (fun q6 => ?_)
  refine c_putF (ci := 4) (fs' := [.ref q6, .null, .null, .null, .null, .null, .null, .int 0, .int 0, .int 0, .int 0, .int 0, .int 0]) C hin 0 dX4_init_8 k_X4_9 (by decide) (by decide) rfl rfl rfl rfl (Nat.le_of_ble_eq_true rfl) rfl ?_
  refine c_aload C 0 dX4_init_11 rfl rfl ?_
  refine c_iconst C dX4_init_12 rfl ?_
  refine c_newa1 (N := 5) (t0 := 0) (ty := .int) (a0 := (5, .inl (fun _ => 0))) C dX4_init_13 wa_int rfl rfl (fun _ z => z) (fun _ => rfl) (by decide) rfl (Nat.le_of_ble_eq_true rfl) (Nat.le_of_ble_eq_true rfl) (Nat.le_of_ble_eq_true rfl) (fun q13 => ?_)
  refine c_putF (ci := 4) (fs' := [.ref q6, .ref q13, .null, .null, .null, .null, .null, .int 0, .int 0, .int 0, .int 0, .int 0, .int 0]) C hin 1 dX4_init_15 k_X4_15 (by decide) (by decide) rfl rfl rfl rfl (Nat.le_of_ble_eq_true rfl) rfl ?_
  refine c_aload C 0 dX4_init_18 rfl rfl ?_
  refine c_iconst C dX4_init_19 rfl ?_
  refine c_newa1 (N := 5) (t0 := 0) (ty := .int) (a0 := (5, .inl (fun _ => 0))) C dX4_init_20 wa_int rfl rfl (fun _ z => z) (fun _ => rfl) (by decide) rfl (Nat.le_of_ble_eq_true rfl) (Nat.le_of_ble_eq_true rfl) (Nat.le_of_ble_eq_true rfl) (fun q20 => ?_)
  refine c_putF (ci := 4) (fs' := [.ref q6, .ref q13, .ref q20, .null, .null, .null, .null, .int 0, .int 0, .int 0, .int 0, .int 0, .int 0]) C hin 2 dX4_init_22 k_X4_18 (by decide) (by decide) rfl rfl rfl rfl (Nat.le_of_ble_eq_true rfl) rfl ?_
  refine c_aload C 0 dX4_init_25 rfl rfl ?_
  refine c_iconst C dX4_init_26 rfl ?_
  refine c_newa1 (N := 5) (t0 := 0) (ty := .int) (a0 := (5, .inl (fun _ => 0))) C dX4_init_27 wa_int rfl rfl (fun _ z => z) (fun _ => rfl) (by decide) rfl (Nat.le_of_ble_eq_true rfl) (Nat.le_of_ble_eq_true rfl) (Nat.le_of_ble_eq_true rfl) (fun q27 => ?_)
  refine c_putF (ci := 4) (fs' := [.ref q6, .ref q13, .ref q20, .ref q27, .null, .null, .null, .int 0, .int 0, .int 0, .int 0, .int 0, .int 0]) C hin 3 dX4_init_29 k_X4_21 (by decide) (by decide) rfl rfl rfl rfl (Nat.le_of_ble_eq_true rfl) rfl ?_
  refine c_aload C 0 dX4_init_32 rfl rfl ?_
  refine c_iconst C dX4_init_33 rfl ?_
  refine c_newa1 (N := 5) (t0 := 0) (ty := .int) (a0 := (5, .inl (fun _ => 0))) C dX4_init_34 wa_int rfl rfl (fun _ z => z) (fun _ => rfl) (by decide) rfl (Nat.le_of_ble_eq_true rfl) (Nat.le_of_ble_eq_true rfl) (Nat.le_of_ble_eq_true rfl) (fun q34 => ?_)
  refine c_putF (ci := 4) (fs' := [.ref q6, .ref q13, .ref q20, .ref q27, .ref q34, .null, .null, .int 0, .int 0, .int 0, .int 0, .int 0, .int 0]) C hin 4 dX4_init_36 k_X4_24 (by decide) (by decide) rfl rfl rfl rfl (Nat.le_of_ble_eq_true rfl) rfl ?_
  refine c_aload C 0 dX4_init_39 rfl rfl ?_
  refine c_bipush C dX4_init_40 rfl ?_
  refine c_newa1 (N := 20) (t0 := 0) (ty := .int) (a0 := (20, .inl (fun _ => 0))) C dX4_init_42 wa_int rfl rfl (fun _ z => z) (fun _ => rfl) (by decide) rfl (Nat.le_of_ble_eq_true rfl) (Nat.le_of_ble_eq_true rfl) (Nat.le_of_ble_eq_true rfl) (fun q42 => ?_)
  refine c_putF (ci := 4) (fs' := [.ref q6, .ref q13, .ref q20, .ref q27, .ref q34, .ref q42, .null, .int 0, .int 0, .int 0, .int 0, .int 0, .int 0]) C hin 5 dX4_init_44 k_X4_27 (by decide) (by decide) rfl rfl rfl rfl (Nat.le_of_ble_eq_true rfl) rfl ?_
  refine c_aload C 0 dX4_init_47 rfl rfl ?_
  refine c_bipush C dX4_init_48 rfl ?_
  refine c_newa1 (N := 12) (t0 := 0) (ty := .int) (a0 := (12, .inl (fun _ => 0))) C dX4_init_50 wa_int rfl rfl (fun _ z => z) (fun _ => rfl) (by decide) rfl (Nat.le_of_ble_eq_true rfl) (Nat.le_of_ble_eq_true rfl) (Nat.le_of_ble_eq_true rfl) (fun q50 => ?_)
  refine c_putF (ci := 4) (fs' := [.ref q6, .ref q13, .ref q20, .ref q27, .ref q34, .ref q42, .ref q50, .int 0, .int 0, .int 0, .int 0, .int 0, .int 0]) C hin 6 dX4_init_52 k_X4_30 (by decide) (by decide) rfl rfl rfl rfl (Nat.le_of_ble_eq_true rfl) rfl ?_
  refine c_aload C 0 dX4_init_55 rfl rfl ?_
  refine c_iconst C dX4_init_56 rfl ?_
  refine c_putN (ci := 4) (fs' := [.ref q6, .ref q13, .ref q20, .ref q27, .ref q34, .ref q42, .ref q50, .int 0, .int 0, .int 0, .int 0, .int 0, .int 0]) C 7 dX4_init_57 k_X4_33 (by decide) (by decide) rfl rfl rfl (Nat.le_of_ble_eq_true rfl) rfl ?_
  refine c_aload C 0 dX4_init_60 rfl rfl ?_
  refine c_bipush C dX4_init_61 rfl ?_
  refine c_putN (ci := 4) (fs' := [.ref q6, .ref q13, .ref q20, .ref q27, .ref q34, .ref q42, .ref q50, .int 0, .int 20, .int 0, .int 0, .int 0, .int 0]) C 8 dX4_init_63 k_X4_37 (by decide) (by decide) rfl rfl rfl (Nat.le_of_ble_eq_true rfl) rfl ?_
  refine c_aload C 0 dX4_init_66 rfl rfl ?_
  refine c_iconst C dX4_init_67 rfl ?_
  refine c_putN (ci := 4) (fs' := [.ref q6, .ref q13, .ref q20, .ref q27, .ref q34, .ref q42, .ref q50, .int 0, .int 20, .int 0, .int 0, .int 0, .int 0]) C 9 dX4_init_68 k_X4_40 (by decide) (by decide) rfl rfl rfl (Nat.le_of_ble_eq_true rfl) rfl ?_
  refine c_aload C 0 dX4_init_71 rfl rfl ?_
  refine c_bipush C dX4_init_72 rfl ?_
  refine c_putN (ci := 4) (fs' := [.ref q6, .ref q13, .ref q20, .ref q27, .ref q34, .ref q42, .ref q50, .int 0, .int 20, .int 0, .int (-5), .int 0, .int 0]) C 10 dX4_init_74 k_X4_43 (by decide) (by decide) rfl rfl rfl (Nat.le_of_ble_eq_true rfl) rfl ?_
  refine c_aload C 0 dX4_init_77 rfl rfl ?_
  refine c_iconst C dX4_init_78 rfl ?_
  refine c_putN (ci := 4) (fs' := [.ref q6, .ref q13, .ref q20, .ref q27, .ref q34, .ref q42, .ref q50, .int 0, .int 20, .int 0, .int (-5), .int 0, .int 0]) C 11 dX4_init_79 k_X4_46 (by decide) (by decide) rfl rfl rfl (Nat.le_of_ble_eq_true rfl) rfl ?_
  refine c_aload C 0 dX4_init_82 rfl rfl ?_
  refine c_iconst C dX4_init_83 rfl ?_
  refine c_putN (ci := 4) (fs' := [.ref q6, .ref q13, .ref q20, .ref q27, .ref q34, .ref q42, .ref q50, .int 0, .int 20, .int 0, .int (-5), .int 0, .int (-1)]) C 12 dX4_init_84 k_X4_49 (by decide) (by decide) rfl rfl rfl (Nat.le_of_ble_eq_true rfl) rfl ?_
  exact fin 87 _ (fun j => if j ≤ 0 then h0 else if j ≤ 1 then q6 else if j ≤ 2 then q13 else if j ≤ 3 then q20 else if j ≤ 4 then q27 else if j ≤ 5 then q34 else if j ≤ 6 then q42 else q50) dX4_init_87 rfl
/-- what a tape comes with -/
def shX5 (g : Nat → ClassId) (T : Nat → Nat) : va_W := (T 0, .inr (5, [.ref (T 1), .int (-1), .int 0])) :: (T 1, .inl (g 3, (60, .inr (.inl (fun _ => 0))))) :: []
theorem df_5 : ∀ j, j < nfl 5 → defaultValue (cTy 5 j) = vp_V [.null, .int 0, .int 0] j := by
  intro j hj
  have hj : j < 3 := hj
  rcases (show j = 0 ∨ j = 1 ∨ j = 2 by omega) with rfl | rfl | rfl <;> rfl
set_option maxRecDepth 100000 in
set_option maxHeartbeats 8000000 in
theorem ct_X5 {G : WT} {l : Launch} (hG : GOK G) : CtC l (gD G) (tysO G) 1 yX5_init cX5_init 1 5 [.null, .int 0, .int 0] 1 60 (shX5 (gC G)) := by
  refine ct_of (by decide) rfl (Nat.le_of_ble_eq_true rfl) ?_
  intro p e s m args below meth c A Q h0 C ao hin fin
  refine c_aload C 0 dX5_init_0 rfl rfl ?_
  refine c_objI C dX5_init_1 wo_5 w_oi w_oc (Nat.le_of_ble_eq_true rfl) (Nat.le_of_ble_eq_true rfl) ?_
  refine c_aload C 0 dX5_init_4 rfl rfl ?_
  refine c_bipush C dX5_init_5 rfl ?_
  refine c_newa1 (N := 60) (t0 := 3) (ty := .long) (a0 := (60, .inr (.inl (fun _ => 0)))) C dX5_init_7 wa_long rfl rfl (fun _ z => z) (fun _ => rfl) (by decide) rfl (Nat.le_of_ble_eq_true rfl) (Nat.le_of_ble_eq_true rfl) (Nat.le_of_ble_eq_true rfl) (fun q7 => ?_)
  refine c_putF (ci := 5) (fs' := [.ref q7, .int 0, .int 0]) C hin 0 dX5_init_9 k_X5_9 (by decide) (by decide) rfl rfl rfl rfl (Nat.le_of_ble_eq_true rfl) rfl ?_
  refine c_aload C 0 dX5_init_12 rfl rfl ?_
  refine c_iconst C dX5_init_13 rfl ?_
  refine c_putN (ci := 5) (fs' := [.ref q7, .int (-1), .int 0]) C 1 dX5_init_14 k_X5_15 (by decide) (by decide) rfl rfl rfl (Nat.le_of_ble_eq_true rfl) rfl ?_
  refine c_aload C 0 dX5_init_17 rfl rfl ?_
  refine c_iconst C dX5_init_18 rfl ?_
  refine c_putN (ci := 5) (fs' := [.ref q7, .int (-1), .int 0]) C 2 dX5_init_19 k_X5_19 (by decide) (by decide) rfl rfl rfl (Nat.le_of_ble_eq_true rfl) rfl ?_
  exact fin 22 _ (fun j => if j ≤ 0 then h0 else q7) dX5_init_22 rfl
/-- what a acts comes with -/
def shX0 (g : Nat → ClassId) (T : Nat → Nat) : va_W := (T 0, .inr (0, [.ref (T 1), .int 0, .int 0, .int 0, .int 0])) :: (T 1, .inl (g 0, (20, .inl (fun _ => 0)))) :: []
theorem df_0 : ∀ j, j < nfl 0 → defaultValue (cTy 0 j) = vp_V [.null, .int 0, .int 0, .int 0, .int 0] j := by
  intro j hj
  have hj : j < 5 := hj
  rcases (show j = 0 ∨ j = 1 ∨ j = 2 ∨ j = 3 ∨ j = 4 by omega) with rfl | rfl | rfl | rfl | rfl <;> rfl
set_option maxRecDepth 100000 in
set_option maxHeartbeats 8000000 in
theorem ct_X0 {G : WT} {l : Launch} (hG : GOK G) : CtC l (gD G) (tysO G) 1 yX0_init cX0_init 1 0 [.null, .int 0, .int 0, .int 0, .int 0] 1 20 (shX0 (gC G)) := by
  refine ct_of (by decide) rfl (Nat.le_of_ble_eq_true rfl) ?_
  intro p e s m args below meth c A Q h0 C ao hin fin
  refine c_aload C 0 dX0_init_0 rfl rfl ?_
  refine c_objI C dX0_init_1 wo_0 w_oi w_oc (Nat.le_of_ble_eq_true rfl) (Nat.le_of_ble_eq_true rfl) ?_
  refine c_aload C 0 dX0_init_4 rfl rfl ?_
  refine c_bipush C dX0_init_5 rfl ?_
  refine c_newa1 (N := 20) (t0 := 0) (ty := .int) (a0 := (20, .inl (fun _ => 0))) C dX0_init_7 wa_int rfl rfl (fun _ z => z) (fun _ => rfl) (by decide) rfl (Nat.le_of_ble_eq_true rfl) (Nat.le_of_ble_eq_true rfl) (Nat.le_of_ble_eq_true rfl) (fun q7 => ?_)
  refine c_putF (ci := 0) (fs' := [.ref q7, .int 0, .int 0, .int 0, .int 0]) C hin 0 dX0_init_9 k_X0_9 (by decide) (by decide) rfl rfl rfl rfl (Nat.le_of_ble_eq_true rfl) rfl ?_
  refine c_aload C 0 dX0_init_12 rfl rfl ?_
  refine c_iconst C dX0_init_13 rfl ?_
  refine c_putN (ci := 0) (fs' := [.ref q7, .int 0, .int 0, .int 0, .int 0]) C 1 dX0_init_14 k_X0_15 (by decide) (by decide) rfl rfl rfl (Nat.le_of_ble_eq_true rfl) rfl ?_
  refine c_aload C 0 dX0_init_17 rfl rfl ?_
  refine c_iconst C dX0_init_18 rfl ?_
  refine c_putN (ci := 0) (fs' := [.ref q7, .int 0, .int 0, .int 0, .int 0]) C 2 dX0_init_19 k_X0_19 (by decide) (by decide) rfl rfl rfl (Nat.le_of_ble_eq_true rfl) rfl ?_
  refine c_aload C 0 dX0_init_22 rfl rfl ?_
  refine c_iconst C dX0_init_23 rfl ?_
  refine c_putN (ci := 0) (fs' := [.ref q7, .int 0, .int 0, .int 0, .int 0]) C 3 dX0_init_24 k_X0_22 (by decide) (by decide) rfl rfl rfl (Nat.le_of_ble_eq_true rfl) rfl ?_
  refine c_aload C 0 dX0_init_27 rfl rfl ?_
  refine c_iconst C dX0_init_28 rfl ?_
  refine c_putN (ci := 0) (fs' := [.ref q7, .int 0, .int 0, .int 0, .int 0]) C 4 dX0_init_29 k_X0_25 (by decide) (by decide) rfl rfl rfl (Nat.le_of_ble_eq_true rfl) rfl ?_
  exact fin 32 _ (fun j => if j ≤ 0 then h0 else q7) dX0_init_32 rfl
