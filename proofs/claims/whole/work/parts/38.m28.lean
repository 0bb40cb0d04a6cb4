/-! reading a text: what both readers compute -/
def nx (X : Tx) (a : Nat) : Nat := if a < X.1 then X.2 a else 200
def nxI (X : Tx) (a : Nat) : Int32 := if a < X.1 then nI (X.2 a) else -1
theorem nx_lt {X : Tx} (hX : TxOK X) (a : Nat) : nx X a ≤ 200 := by
  unfold nx
  split
  · rename_i h
    have := hX.2 a h
    omega
  · exact Nat.le_refl _
theorem nxI_eq {X : Tx} (hX : TxOK X) {a c : Nat} (hc : c < 128) : nxI X a = nI c ↔ nx X a = c := by
  unfold nx nxI
  split
  · rename_i h
    have := hX.2 a h
    exact nI_eq' (by omega) (by omega)
  · constructor
    · intro q
      have := congrArg Int32.toInt q
      rw [nI_toInt (by omega), show ((-1 : Int32)).toInt = -1 from rfl] at this
      omega
    · intro q; omega
theorem nx_in {X : Tx} {a c : Nat} (h : nx X a = c) (hc : c < 128) : a < X.1 ∧ X.2 a = c := by
  unfold nx at h
  split at h
  · rename_i q; exact ⟨q, h⟩
  · omega
theorem nx_in2 {X : Tx} {a : Nat} (h : nx X a < 128) : a < X.1 := (nx_in rfl h).1
def digS (c : Nat) : Bool := decide (48 ≤ c ∧ c ≤ 57)
def numS (X : Tx) (a : Nat) : Option (Nat × Nat) := if digS (nx X a) = true then (if digS (nx X (a + 1)) = true then some (a + 2, 10 * (nx X a - 48) + (nx X (a + 1) - 48)) else some (a + 1, nx X a - 48)) else none
def plcS (c : Nat) : Option Nat := match c with
  | 105 => some 0
  | 107 => some 1
  | 104 => some 2
  | 97 => some 3
  | 98 => some 4
  | 100 => some 5
  | _ => none
/-- a test from a on: its code if it is one, and where reading stops -/
def tX (X : Tx) (a : Nat) : Option Int × Nat := match plcS (nx X a) with
  | none => (none, a)
  | some f => if 60 ≤ nx X (a + 1) ∧ nx X (a + 1) ≤ 62 then
      (match numS X (a + 2) with
        | none => (none, a + 2)
        | some (b, v) => (some ((1000 * f + 100 * (nx X (a + 1) - 60) + v : Nat) : Int), b))
    else (none, a + 1)
def whS : List Nat → List Int → List Nat × List Int
  | 33 :: K, acc => whS K (acc ++ [-33])
  | K, acc => (K, acc)
def stS (s : Nat) : List Nat → List Int → List Nat × List Int
  | c :: K, acc => if c = 38 ∨ (c = 124 ∧ s ≠ 38) then stS s K (acc ++ [-(c : Int)]) else (c :: K, acc)
  | [], acc => ([], acc)
def opn : List Nat → Nat
  | c :: K => opn K + (if c = 33 ∨ c = 40 then 1 else 0)
  | [] => 0
abbrev Ps : Type := Nat × Bool × List Nat × List Int
abbrev Po : Type := Option (List Int) × Nat
def stp (X : Tx) (s : Ps) : Po ⊕ Ps :=
  if s.2.1 = true then
    (if nx X s.1 = 33 ∨ nx X s.1 = 40 then (if opn s.2.2.1 = 4 then .inl (none, s.1) else .inr (s.1 + 1, true, nx X s.1 :: s.2.2.1, s.2.2.2))
    else match tX X s.1 with
      | (none, a) => .inl (none, a)
      | (some t, a) => .inr (a, false, whS s.2.2.1 (s.2.2.2 ++ [t])))
  else if nx X s.1 = 38 ∨ nx X s.1 = 124 then .inr (s.1 + 1, true, nx X s.1 :: (stS (nx X s.1) s.2.2.1 s.2.2.2).1, (stS (nx X s.1) s.2.2.1 s.2.2.2).2)
  else match (stS 124 s.2.2.1 s.2.2.2).1 with
    | [] => .inl (some (stS 124 s.2.2.1 s.2.2.2).2, s.1)
    | _ :: K => if nx X s.1 = 41 then .inr (s.1 + 1, false, whS K (stS 124 s.2.2.1 s.2.2.2).2) else .inl (none, s.1)
def runE (X : Tx) : Nat → Ps → Po
  | 0, _ => (none, 0)
  | n + 1, s => match stp X s with
    | .inl o => o
    | .inr s => runE X n s
theorem num_at {X : Tx} {a b v : Nat} (h : numS X a = some (b, v)) : a < b ∧ b ≤ X.1 ∧ v ≤ 99 ∧ b ≤ a + 2 := by
  unfold numS at h
  split at h
  · rename_i q1
    have q1 := of_decide_eq_true q1
    have z1 := nx_in2 (X := X) (a := a) (by omega)
    split at h
    · rename_i q2
      have q2 := of_decide_eq_true q2
      have z2 := nx_in2 (X := X) (a := a + 1) (by omega)
      cases h
      omega
    · cases h
      omega
  · cases h
theorem plc_lt {c f : Nat} (h : plcS c = some f) : c < 128 ∧ f ≤ 5 := by
  unfold plcS at h
  split at h <;> first | (cases h; omega) | cases h
theorem tX_at {X : Tx} {a b : Nat} {t : Int} (h : tX X a = (some t, b)) : a + 3 ≤ b ∧ b ≤ X.1 ∧ 0 ≤ t ∧ t < 5300 ∧ t.toNat / 100 % 10 < 3 := by
  unfold tX at h
  cases hf : plcS (nx X a) with
  | none => rw [hf] at h; cases h
  | some f =>
    rw [hf] at h
    have hf5 := (plc_lt hf).2
    dsimp only at h
    split at h
    · rename_i q
      cases hn : numS X (a + 2) with
      | none => rw [hn] at h; cases h
      | some bv =>
        obtain ⟨b1, v⟩ := bv
        rw [hn] at h
        obtain ⟨z1, z2, z3, -⟩ := num_at hn
        cases h
        refine ⟨by omega, z2, by omega, by omega, ?_⟩
        show (1000 * f + 100 * (nx X (a + 1) - 60) + v) / 100 % 10 < 3
        omega
    · cases h
/-- one step reads on, within the text -/
theorem stp_at {X : Tx} {s u : Ps} (h : stp X s = .inr u) : s.1 < u.1 ∧ u.1 ≤ X.1 := by
  unfold stp at h
  split at h
  · split at h
    · rename_i q
      split at h
      · cases h
      · cases h
        have := nx_in2 (X := X) (a := s.1) (by omega)
        exact ⟨Nat.lt_succ_self _, this⟩
    · split at h
      · cases h
      · rename_i t a q
        cases h
        have := tX_at q
        show s.1 < a ∧ a ≤ X.1
        omega
  · split at h
    · rename_i q
      cases h
      have := nx_in2 (X := X) (a := s.1) (by omega)
      exact ⟨Nat.lt_succ_self _, this⟩
    · split at h
      · cases h
      · split at h
        · rename_i q
          cases h
          have := nx_in2 (X := X) (a := s.1) (by omega)
          exact ⟨Nat.lt_succ_self _, this⟩
        · cases h
theorem runE_fuel {X : Tx} : ∀ (n m : Nat) (s : Ps), X.1 + 1 ≤ n + s.1 → X.1 + 1 ≤ m + s.1 → 0 < n → 0 < m → runE X n s = runE X m s := by
  intro n
  induction n with
  | zero => intro m s _ _ h; omega
  | succ n ih =>
    intro m s h1 h2 _ h4
    obtain ⟨m, rfl⟩ : ∃ k, m = k + 1 := ⟨m - 1, by omega⟩
    show (match stp X s with | .inl o => o | .inr s => runE X n s) = (match stp X s with | .inl o => o | .inr s => runE X m s)
    cases hs : stp X s with
    | inl o => rfl
    | inr u =>
      have := stp_at hs
      exact ih m u (by omega) (by omega) (by omega) (by omega)
def evE (X : Tx) (s : Ps) : Po := runE X (X.1 + 2) s
theorem evE_inl {X : Tx} {s : Ps} {o : Po} (h : stp X s = .inl o) : evE X s = o := by
  show (match stp X s with | .inl o => o | .inr s => runE X (X.1 + 1) s) = o
  rw [h]
theorem evE_inr {X : Tx} {s u : Ps} (h : stp X s = .inr u) : evE X s = evE X u := by
  show (match stp X s with | .inl o => o | .inr s => runE X (X.1 + 1) s) = _
  rw [h]
  exact runE_fuel _ _ _ (by omega) (by omega) (by omega) (by omega)
theorem evE_same {X : Tx} {s u : Ps} (h : stp X s = stp X u) : evE X s = evE X u := by
  show (match stp X s with | .inl o => o | .inr s => runE X (X.1 + 1) s) = (match stp X u with | .inl o => o | .inr s => runE X (X.1 + 1) s)
  rw [h]
