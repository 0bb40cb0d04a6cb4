/-! THE DEVELOPERS' CLASS. bits -/
theorem bi_and (a b : Nat) : nI a &&& nI b = nI (a &&& b) := by
  apply Int32.toBitVec_inj.1
  show BitVec.ofNat 32 a &&& BitVec.ofNat 32 b = BitVec.ofNat 32 (a &&& b)
  apply BitVec.eq_of_getLsbD_eq
  intro i hi
  simp [hi]
theorem bi_or (a b : Nat) : nI a ||| nI b = nI (a ||| b) := by
  apply Int32.toBitVec_inj.1
  show BitVec.ofNat 32 a ||| BitVec.ofNat 32 b = BitVec.ofNat 32 (a ||| b)
  apply BitVec.eq_of_getLsbD_eq
  intro i hi
  simp [hi]
theorem bi_xor (a b : Nat) : nI a ^^^ nI b = nI (a ^^^ b) := by
  apply Int32.toBitVec_inj.1
  show BitVec.ofNat 32 a ^^^ BitVec.ofNat 32 b = BitVec.ofNat 32 (a ^^^ b)
  apply BitVec.eq_of_getLsbD_eq
  intro i hi
  simp [hi]
theorem bi_m2 : ∀ i, i < 32 → ((-2 : Int32).toBitVec).getLsbD i = decide (0 < i) := by decide +kernel
theorem bi_m1 : ∀ i, i < 32 → ((-1 : Int32).toBitVec).getLsbD i = true := by decide +kernel
theorem bi_or1 (n : Nat) : nI (2 * n + 1) ||| (-2) = -1 := by
  apply Int32.toBitVec_inj.1
  apply BitVec.eq_of_getLsbD_eq
  intro i hi
  rw [Int32.toBitVec_or, BitVec.getLsbD_or, bi_m2 i hi, bi_m1 i hi]
  show ((BitVec.ofNat 32 (2 * n + 1)).getLsbD i || decide (0 < i)) = true
  by_cases h0 : 0 < i
  · simp [h0]
  · have e : i = 0 := by omega
    subst e
    rw [BitVec.getLsbD_ofNat, Nat.testBit_zero, show (2 * n + 1) % 2 = 1 by omega]
    rfl
theorem bi_or0 (n : Nat) : nI (2 * n) ||| (-2) = -2 := by
  apply Int32.toBitVec_inj.1
  apply BitVec.eq_of_getLsbD_eq
  intro i hi
  rw [Int32.toBitVec_or, BitVec.getLsbD_or, bi_m2 i hi]
  show ((BitVec.ofNat 32 (2 * n)).getLsbD i || decide (0 < i)) = decide (0 < i)
  by_cases h0 : 0 < i
  · simp [h0]
  · have e : i = 0 := by omega
    subst e
    rw [BitVec.getLsbD_ofNat, Nat.testBit_zero, show (2 * n) % 2 = 0 by omega]
    rfl
theorem bi_and1 (x : Int32) : x &&& (-1) = x := by
  apply Int32.toBitVec_inj.1
  apply BitVec.eq_of_getLsbD_eq
  intro i hi
  rw [Int32.toBitVec_and, BitVec.getLsbD_and, bi_m1 i hi, Bool.and_true]
theorem bi_and2 (n a : Nat) (ha : a < 2) : nI (2 * n + a) &&& (-2) = nI (2 * n) := by
  apply Int32.toBitVec_inj.1
  apply BitVec.eq_of_getLsbD_eq
  intro i hi
  rw [Int32.toBitVec_and, BitVec.getLsbD_and, bi_m2 i hi]
  show ((BitVec.ofNat 32 (2 * n + a)).getLsbD i && decide (0 < i)) = (BitVec.ofNat 32 (2 * n)).getLsbD i
  rw [BitVec.getLsbD_ofNat, BitVec.getLsbD_ofNat]
  cases i with
  | zero => rw [Nat.testBit_zero, Nat.testBit_zero, show (2 * n) % 2 = 0 by omega]; simp
  | succ i => rw [Nat.testBit_succ, Nat.testBit_succ, show (2 * n + a) / 2 = n by omega, show 2 * n / 2 = n by omega]; simp
theorem na_or1 (x : Nat) : x ||| 1 = 2 * (x / 2) + 1 := by
  have h1 : (x ||| 1) / 2 = x / 2 := by rw [Nat.or_div_two]; simp
  have h2 : (x ||| 1) % 2 = 1 := Nat.or_mod_two_eq_one.mpr (Or.inr rfl)
  omega
theorem na_xor1 (x : Nat) : x ^^^ 1 = 2 * (x / 2) + (1 - x % 2) := by
  have h1 : (x ^^^ 1) / 2 = x / 2 := by rw [Nat.xor_div_two]; simp
  have h2 : ((x ^^^ 1) % 2 = 1) ↔ ¬ (x % 2 = 1 ↔ 1 % 2 = 1) := Nat.xor_mod_two_eq_one
  by_cases h3 : x % 2 = 1
  · have : ¬ (x ^^^ 1) % 2 = 1 := fun q => h2.mp q (by simp [h3])
    omega
  · have : (x ^^^ 1) % 2 = 1 := h2.mpr (fun q => h3 (q.mpr rfl))
    omega
/-- the answers not joined yet, the latest lowest -/
def bS (b : Bool) : Nat := if b = true then 1 else 0
def nS : List Bool → Nat
  | [] => 0
  | b :: s => 2 * nS s + bS b
theorem bS_lt (b : Bool) : bS b < 2 := by cases b <;> decide
theorem bS_I (b : Bool) : b01 b = nI (bS b) := by cases b <;> rfl
theorem nS_lt : ∀ s : List Bool, nS s < 2 ^ s.length := by
  intro s
  induction s with
  | nil => decide
  | cons b s ih =>
    have := bS_lt b
    show 2 * nS s + bS b < 2 ^ (s.length + 1)
    rw [Nat.pow_succ]
    omega
theorem nS_sm {s : List Bool} (h : s.length ≤ 20) : nS s < 1048577 := by
  have h1 := nS_lt s
  have h2 : 2 ^ s.length ≤ 2 ^ 20 := Nat.pow_le_pow_right (by decide) h
  omega
theorem st_not (b : Bool) (s : List Bool) : nI (nS (b :: s)) ^^^ 1 = nI (nS ((!b) :: s)) := by
  rw [show (1 : Int32) = nI 1 from rfl, bi_xor, na_xor1]
  congr 1
  show 2 * ((2 * nS s + bS b) / 2) + (1 - (2 * nS s + bS b) % 2) = 2 * nS s + bS (!b)
  have := bS_lt b
  have e : bS (!b) = 1 - bS b := by cases b <;> rfl
  omega
theorem st_half {s : List Bool} (b : Bool) (h : s.length ≤ 20) : nI (nS (b :: s)) >>> ((1 : Int32) &&& 31) = nI (nS s) := by
  have h1 := nS_sm h
  have h2 := bS_lt b
  rw [pk_shrN (n := nS (b :: s)) (by show 2 * nS s + bS b < 2 ^ 31; omega) _ 1 (by decide)]
  congr 1
  show (2 * nS s + bS b) / 2 ^ 1 = nS s
  omega
theorem st_and {s : List Bool} (a b : Bool) (h : s.length ≤ 18) : (nI (nS (b :: a :: s)) >>> ((1 : Int32) &&& 31)) &&& (nI (nS (b :: a :: s)) ||| (-2)) = nI (nS ((a && b) :: s)) := by
  rw [st_half b (by show s.length + 1 ≤ 20; omega)]
  cases b with
  | true =>
    rw [show nS (true :: a :: s) = 2 * nS (a :: s) + 1 from rfl, bi_or1, bi_and1, Bool.and_true]
  | false =>
    rw [show nS (false :: a :: s) = 2 * nS (a :: s) from rfl, bi_or0, show nS (a :: s) = 2 * nS s + bS a from rfl, bi_and2 _ _ (bS_lt a), Bool.and_false]
    rfl
theorem st_or {s : List Bool} (a b : Bool) (h : s.length ≤ 18) : (nI (nS (b :: a :: s)) >>> ((1 : Int32) &&& 31)) ||| (nI (nS (b :: a :: s)) &&& 1) = nI (nS ((a || b) :: s)) := by
  have h1 := nS_sm (s := s) (by omega)
  have h2 := bS_lt a
  have h3 := bS_lt b
  rw [st_half b (by show s.length + 1 ≤ 20; omega), pk_andN (n := nS (b :: a :: s)) (by show 2 * (2 * nS s + bS a) + bS b < 2 ^ 32; omega) 1 (by decide), bi_or]
  have e : nS (b :: a :: s) % 2 ^ 1 = bS b := by show (2 * (2 * nS s + bS a) + bS b) % 2 ^ 1 = bS b; omega
  rw [e]
  congr 1
  cases b with
  | true =>
    show nS (a :: s) ||| 1 = _
    rw [na_or1, Bool.or_true]
    show 2 * ((2 * nS s + bS a) / 2) + 1 = 2 * nS s + 1
    omega
  | false =>
    show nS (a :: s) ||| 0 = _
    rw [Nat.or_zero, Bool.or_false]
theorem st_push {s : List Bool} (b : Bool) (h : s.length ≤ 20) : (nI (nS s) <<< ((1 : Int32) &&& 31)) ||| b01 b = nI (nS (b :: s)) := by
  have h1 := nS_sm h
  rw [pk_shlN (n := nS s) _ 1 (by decide) (by omega), bS_I, bi_or]
  congr 1
  show nS s * 2 ^ 1 ||| bS b = 2 * nS s + bS b
  cases b with
  | true =>
    show nS s * 2 ^ 1 ||| 1 = 2 * nS s + 1
    rw [na_or1]
    omega
  | false =>
    show nS s * 2 ^ 1 ||| 0 = 2 * nS s + 0
    rw [Nat.or_zero]
    omega
theorem st_one (b : Bool) : nI (nS [b]) &&& 1 = b01 b := by cases b <;> rfl
/-! a house -/
theorem bH1 {q j : Nat} (i : Nat) (hq : ksh q = 1) (hi : i < 3) (hj : j < 10) : j < lnt (q + (i + 1)) := by rw [ln_H i hq (by omega), if_pos hi]; exact hj
theorem bH2 {q j : Nat} (i : Nat) (hq : ksh q = 1) (hi : i < 7) (h3 : 3 ≤ i) (hj : j < 100) : j < lnt (q + (i + 1)) := by rw [ln_H i hq hi, if_neg (by omega)]; exact hj
def leastS (t : Nat) : Int32 := if t / 100 % 10 = 0 then 0 else if t / 100 % 10 = 1 then nI (t % 100) else nI (t % 100) + 1
def mostS (t : Nat) : Int32 := if t / 100 % 10 = 0 then nI (t % 100) - 1 else if t / 100 % 10 = 1 then nI (t % 100) else 99
/-- a code in the developers' rows -/
def DCd (h : Hp) (q i : Nat) (t : Int) : Prop := if t = -33 then h.1 (q + 4) i = 1 else if t = -38 then h.1 (q + 4) i = 2 else if t = -124 then h.1 (q + 4) i = 3 else 0 ≤ t ∧ h.1 (q + 4) i = 0 ∧ h.1 (q + 5) i = nI (t.toNat / 1000) ∧ h.1 (q + 6) i = leastS t.toNat ∧ h.1 (q + 7) i = mostS t.toNat
def DCs (h : Hp) (q i : Nat) (l : List Int) : Prop := ∀ j t, l[j]? = some t → DCd h q (i + j) t
def enS (V : Hv) : Nat → Nat := sumTo (fun c => (V.2.2.2 c).length)
def DHs (h : Hp) (q : Nat) (V : Hv) : Prop := h.1 q 7 = nI V.1 ∧ HvOK V ∧ enS V V.1 ≤ 100 ∧ (∀ c, c < V.1 → h.1 (q + 1) c = nI (V.2.1 c) ∧ h.1 (q + 2) c = nI (V.2.2.1 c) ∧ h.1 (q + 3) c = nI (enS V (c + 1)) ∧ DCs h q (enS V c) (V.2.2.2 c) ∧ (V.2.1 c ≤ 1 → dpL 0 (V.2.2.2 c) = some 1)) ∧ h.1 q 9 = nI (loafS V) ∧ h.1 q 10 = nI (lawS V) ∧ h.1 q 11 = nI (scaleS V)
theorem enS_mono (V : Hv) {a : Nat} : ∀ b, a ≤ b → enS V a ≤ enS V b := by
  intro b hb
  induction b with
  | zero => rw [show a = 0 by omega]; exact Nat.le_refl _
  | succ b ih =>
    by_cases h : a = b + 1
    · rw [h]; exact Nat.le_refl _
    · have := ih (by omega)
      show _ ≤ enS V b + (V.2.2.2 b).length
      omega
theorem dpS_lt {d e : Nat} {t : Int} (h : dpS d t = some e) (hd : d ≤ 20) : e ≤ 20 := by
  unfold dpS at h
  split at h
  · split at h <;> cases h
    exact hd
  · split at h
    · split at h <;> cases h
      omega
    · split at h
      · cases h
        omega
      · cases h
theorem dpS_bin {d e : Nat} {t : Int} (h : dpS d t = some e) (ht : t < 0) (h33 : ¬ t = -33) : 2 ≤ d ∧ (t = -38 ∨ t = -124) := by
  unfold dpS at h
  rw [if_neg h33, if_pos ht] at h
  split at h
  · rename_i q9
    exact q9
  · cases h
theorem tst_cmp {t v : Nat} (ht : t / 100 % 10 < 3) (hv : v < 100) (lt : Nat → Nat) (hl : lt (t / 1000) = v) : tstS t lt = decide (leastS t ≤ nI v ∧ nI v ≤ mostS t) := by
  have hn : t % 100 < 100 := Nat.mod_lt _ (by decide)
  unfold tstS leastS mostS
  rw [hl]
  by_cases h0 : t / 100 % 10 = 0
  · rw [if_pos h0, if_pos h0, if_pos h0]
    apply decide_eq_decide.mpr
    have h1 : (0 : Int32) ≤ nI v := nI_pos' (by omega)
    constructor
    · intro q9
      refine ⟨h1, ?_⟩
      rw [show (1 : Int32) = nI 1 from rfl, pk_sub (by omega)]
      exact nI_le (by omega) (by omega)
    · rintro ⟨-, q9⟩
      by_cases hz : t % 100 = 0
      · exfalso
        rw [hz] at q9
        have := Int32.le_iff_toInt_le.mp q9
        rw [nI_toInt (by omega), show (nI 0 - 1 : Int32).toInt = -1 from rfl] at this
        omega
      · rw [show (1 : Int32) = nI 1 from rfl, pk_sub (by omega)] at q9
        have := (nI_le' (by omega) (by omega)).mp q9
        omega
  · by_cases h1 : t / 100 % 10 = 1
    · rw [if_neg h0, if_pos h1, if_neg h0, if_pos h1, if_neg h0, if_pos h1]
      apply decide_eq_decide.mpr
      rw [nI_le' (by omega) (by omega), nI_le' (by omega) (by omega)]
      omega
    · rw [if_neg h0, if_neg h1, if_neg h0, if_neg h1, if_neg h0, if_neg h1]
      apply decide_eq_decide.mpr
      rw [nI_1, nI_le' (by omega) (by omega)]
      constructor
      · intro q9
        refine ⟨by omega, ?_⟩
        rw [show (99 : Int32) = nI 99 from rfl]
        exact nI_le (by omega) (by omega)
      · intro q9
        omega
