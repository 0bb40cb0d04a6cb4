/-! small facts about the flat world -/
def bI (p : Prop) (hp : Decidable p) : Int32 := if p then 1 else 0
theorem setI_1 (h : Hp) (k i : Nat) (v : Int32) (x j : Nat) : (setI h k i v).1 x j = if x = k ∧ j = i then v else h.1 x j := rfl
theorem setI_2 (h : Hp) (k i : Nat) (v : Int32) : (setI h k i v).2 = h.2 := rfl
theorem setL_1 (h : Hp) (k i : Nat) (v : Int64) : (setL h k i v).1 = h.1 := rfl
theorem setL_2 (h : Hp) (k i : Nat) (v : Int64) (x j : Nat) : (setL h k i v).2.1 x j = if x = k ∧ j = i then v else h.2.1 x j := rfl
theorem setL_3 (h : Hp) (k i : Nat) (v : Int64) : (setL h k i v).2.2 = h.2.2 := rfl
theorem setD_1 (h : Hp) (k i v : Nat) : (setD h k i v).1 = h.1 := rfl
theorem setD_2 (h : Hp) (k i v : Nat) : (setD h k i v).2.1 = h.2.1 := rfl
theorem setD_3 (h : Hp) (k i v x j : Nat) : (setD h k i v).2.2 x j = if x = k ∧ j = i then v else h.2.2 x j := rfl
theorem rowI_1 (h : Hp) (k : Nat) (f : Nat → Int32) (x j : Nat) : (rowI h k f).1 x j = if x = k then f j else h.1 x j := rfl
theorem rowI_2 (h : Hp) (k : Nat) (f : Nat → Int32) : (rowI h k f).2 = h.2 := rfl
theorem rowL_1 (h : Hp) (k : Nat) (f : Nat → Int64) : (rowL h k f).1 = h.1 := rfl
theorem rowL_2 (h : Hp) (k : Nat) (f : Nat → Int64) (x j : Nat) : (rowL h k f).2.1 x j = if x = k then f j else h.2.1 x j := rfl
theorem rowL_3 (h : Hp) (k : Nat) (f : Nat → Int64) : (rowL h k f).2.2 = h.2.2 := rfl
theorem nWk : nW = 172 := rfl
theorem tab_T : ∀ a, a < nW → ksh a = 4 → ∀ i, i < 7 → rfx a i = a + (i + 1) ∧ ksh (a + (i + 1)) = 8 ∧ lnt (a + (i + 1)) = (if i < 5 then 5 else if i = 5 then 20 else 12) := by decide +kernel
theorem tab_H : ∀ a, a < nW → ksh a = 1 → ∀ i, i < 7 → rfx a i = a + (i + 1) ∧ ksh (a + (i + 1)) = 8 ∧ lnt (a + (i + 1)) = (if i < 3 then 10 else 100) := by decide +kernel
theorem tab_P : ∀ a, a < nW → ksh a = 5 → rfx a 0 = a + 1 ∧ ksh (a + 1) = 11 ∧ lnt (a + 1) = 60 := by decide +kernel
theorem rf_T {h : Hp} {a i : Nat} (hk : ksh a = 4) (hi : i < 7) : rf h a i = a + (i + 1) := by
  have e : isD (ksh a) i = false := by rw [hk]; rfl
  rw [rf, e]
  exact (tab_T a (ksh_lt hk (by decide)) hk i hi).1
theorem rf_H {h : Hp} {a i : Nat} (hk : ksh a = 1) (hi : i < 7) : rf h a i = a + (i + 1) := by
  have e : isD (ksh a) i = false := by rw [hk]; rfl
  rw [rf, e]
  exact (tab_H a (ksh_lt hk (by decide)) hk i hi).1
theorem rf_P {h : Hp} {a : Nat} (hk : ksh a = 5) : rf h a 0 = a + 1 := by
  have e : isD (ksh a) 0 = false := by rw [hk]; rfl
  rw [rf, e]
  exact (tab_P a (ksh_lt hk (by decide)) hk).1
theorem ks_T {a i : Nat} (hk : ksh a = 4) (hi : i < 7) : ksh (a + (i + 1)) = 8 := (tab_T a (ksh_lt hk (by decide)) hk i hi).2.1
theorem ks_H {a i : Nat} (hk : ksh a = 1) (hi : i < 7) : ksh (a + (i + 1)) = 8 := (tab_H a (ksh_lt hk (by decide)) hk i hi).2.1
theorem ks_P {a : Nat} (hk : ksh a = 5) : ksh (a + 1) = 11 := (tab_P a (ksh_lt hk (by decide)) hk).2.1
theorem ln_T {a : Nat} (i : Nat) (hk : ksh a = 4) (hi : i < 7) : lnt (a + (i + 1)) = (if i < 5 then 5 else if i = 5 then 20 else 12) := (tab_T a (ksh_lt hk (by decide)) hk i hi).2.2
theorem ln_H {a : Nat} (i : Nat) (hk : ksh a = 1) (hi : i < 7) : lnt (a + (i + 1)) = (if i < 3 then 10 else 100) := (tab_H a (ksh_lt hk (by decide)) hk i hi).2.2
theorem ln_P {a : Nat} (hk : ksh a = 5) : lnt (a + 1) = 60 := (tab_P a (ksh_lt hk (by decide)) hk).2.2
/-- what may have changed: the cells of S alone -/
def Fr (S : Nat → Nat → Bool) (h h' : Hp) : Prop := (∀ a i : Nat, S a i = false → h'.1 a i = h.1 a i) ∧ h'.2 = h.2
theorem Fr.rf {S : Nat → Nat → Bool} {h : Hp} : Fr S h h := ⟨fun _ _ _ => rfl, rfl⟩
theorem Fr.tr {S : Nat → Nat → Bool} {h h1 h2 : Hp} (a : Fr S h h1) (b : Fr S h1 h2) : Fr S h h2 := ⟨fun x i q => (b.1 x i q).trans (a.1 x i q), b.2.trans a.2⟩
theorem Fr.wk {S S' : Nat → Nat → Bool} {h h' : Hp} (a : Fr S h h') (hs : ∀ x i, S' x i = false → S x i = false) : Fr S' h h' := ⟨fun x i q => a.1 x i (hs x i q), a.2⟩
theorem Fr.set {S : Nat → Nat → Bool} {h : Hp} {k i : Nat} {v : Int32} (hs : S k i = true) : Fr S h (setI h k i v) := by
  refine ⟨fun x j q => ?_, rfl⟩
  rw [setI_1, if_neg]
  rintro ⟨rfl, rfl⟩
  rw [hs] at q
  cases q
theorem Fr.row {S : Nat → Nat → Bool} {h : Hp} {k : Nat} {f : Nat → Int32} (hs : ∀ j, S k j = false → f j = h.1 k j) : Fr S h (rowI h k f) := by
  refine ⟨fun x j q => ?_, rfl⟩
  rw [rowI_1]
  split
  · rename_i e
    subst e
    exact hs j q
  · rfl
theorem i_lit {n : Nat} (h : n < 2 ^ 31) {x : Int32} (hx : x.toInt = n) : x = nI n := Int32.toInt_inj.mp (hx.trans (nI_toInt h).symm)
theorem nI_clampx {x : Int32} (h : 0 ≤ x.toInt) : x = nI x.toNatClampNeg := by
  apply Int32.toInt_inj.mp
  have h1 : x.toInt < 2 ^ 31 := Int32.toInt_lt x
  have h2 : ((x.toNatClampNeg : Nat) : Int) = x.toInt := by
    show ((x.toInt.toNat : Nat) : Int) = x.toInt
    omega
  rw [nI_toInt (by omega), h2]
theorem nar_b0 : narrow .boolean (.int 0) = .int 0 := rfl
theorem nar_b1 : narrow .boolean (.int 1) = .int 1 := rfl
theorem hp_ext {a b : Hp} (h1 : ∀ x j, a.1 x j = b.1 x j) (h2 : a.2 = b.2) : a = b := Prod.ext (funext fun x => funext fun j => h1 x j) h2
theorem hp_extL {a b : Hp} (h1 : a.1 = b.1) (h2 : ∀ x j, a.2.1 x j = b.2.1 x j) (h3 : a.2.2 = b.2.2) : a = b := Prod.ext h1 (Prod.ext (funext fun x => funext fun j => h2 x j) h3)
theorem setI_row {h : Hp} {a k : Nat} {f : Nat → Int32} {v : Int32} : setI (rowI h a f) a k v = rowI h a (fun j => if j = k then v else f j) := by
  refine hp_ext (fun x j => ?_) rfl
  rw [setI_1, rowI_1, rowI_1]
  by_cases hx : x = a <;> by_cases hj : j = k <;> simp [hx, hj]
theorem setL_row {h : Hp} {a k : Nat} {f : Nat → Int64} {v : Int64} : setL (rowL h a f) a k v = rowL h a (fun j => if j = k then v else f j) := by
  refine hp_extL rfl (fun x j => ?_) rfl
  rw [setL_2, rowL_2, rowL_2]
  by_cases hx : x = a <;> by_cases hj : j = k <;> simp [hx, hj]
theorem rowI_self {h : Hp} {a : Nat} : rowI h a (h.1 a) = h := by
  refine hp_ext (fun x j => ?_) rfl
  rw [rowI_1]
  split
  · rename_i e; rw [e]
  · rfl
theorem rowL_self {h : Hp} {a : Nat} : rowL h a (h.2.1 a) = h := by
  refine hp_extL rfl (fun x j => ?_) rfl
  rw [rowL_2]
  split
  · rename_i e; rw [e]
  · rfl
theorem rowI_row {h : Hp} {a : Nat} {f g : Nat → Int32} : rowI (rowI h a f) a g = rowI h a g := by
  refine hp_ext (fun x j => ?_) rfl
  rw [rowI_1, rowI_1, rowI_1]
  split <;> rfl
theorem nI_inc (k : Nat) : nI k + Int32.ofInt 1 = nI (k + 1) := (nI_succ k).symm
theorem lenS_lt (i : Nat) (hi : i < 7) : lenS.getD i 0 < 100 := by
  have key : ∀ i, i < 7 → lenS.getD i 0 < 100 := by decide
  exact key i hi
theorem setI_ne {h : Hp} {k i : Nat} {v : Int32} {x j : Nat} (hx : x ≠ k) : (setI h k i v).1 x j = h.1 x j := if_neg (fun q => hx q.1)
theorem setI_nj {h : Hp} {k i : Nat} {v : Int32} {x j : Nat} (hj : j ≠ i) : (setI h k i v).1 x j = h.1 x j := if_neg (fun q => hj q.2)
theorem setI_at {h : Hp} {k i : Nat} {v : Int32} : (setI h k i v).1 k i = v := if_pos ⟨rfl, rfl⟩
theorem rowI_ne {h : Hp} {k : Nat} {f : Nat → Int32} {x j : Nat} (hx : x ≠ k) : (rowI h k f).1 x j = h.1 x j := if_neg hx
theorem rowI_at {h : Hp} {k : Nat} {f : Nat → Int32} {j : Nat} : (rowI h k f).1 k j = f j := if_pos rfl
