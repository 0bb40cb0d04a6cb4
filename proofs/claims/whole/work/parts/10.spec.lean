/-! THE MATHEMATICS of bread: what both sides compute. Numbers that are small stand as Nat, what one has as Int, gladness as Int32. -/
def zI (z : Int) : Int32 := Int32.ofInt z
theorem zI_n (n : Nat) : zI (n : Int) = nI n := rfl
theorem zI_toInt {z : Int} (h1 : -2147483648 ≤ z) (h2 : z < 2147483648) : (zI z).toInt = z := Int32.toInt_ofInt_of_le (by simpa using h1) (by simpa using h2)
theorem zI_add (a b : Int) : zI a + zI b = zI (a + b) := (Int32.ofInt_add a b).symm
theorem zI_neg (a : Int) : - zI a = zI (-a) := (Int32.ofInt_neg a).symm
theorem zI_sub (a b : Int) : zI a - zI b = zI (a - b) := by rw [Int32.sub_eq_add_neg, zI_neg, zI_add, Int.sub_eq_add_neg]
theorem zI_lt {a b : Int} (h1 : -1000000000 ≤ a) (h2 : a < 1000000000) (h3 : -1000000000 ≤ b) (h4 : b < 1000000000) : zI a < zI b ↔ a < b := by
  rw [Int32.lt_iff_toInt_lt, zI_toInt (by omega) (by omega), zI_toInt (by omega) (by omega)]
theorem zI_le {a b : Int} (h1 : -1000000000 ≤ a) (h2 : a < 1000000000) (h3 : -1000000000 ≤ b) (h4 : b < 1000000000) : zI a ≤ zI b ↔ a ≤ b := by
  rw [Int32.le_iff_toInt_le, zI_toInt (by omega) (by omega), zI_toInt (by omega) (by omega)]
theorem zI_eq {a b : Int} (h1 : -1000000000 ≤ a) (h2 : a < 1000000000) (h3 : -1000000000 ≤ b) (h4 : b < 1000000000) : zI a = zI b ↔ a = b := by
  constructor
  · intro h
    have := congrArg Int32.toInt h
    rwa [zI_toInt (by omega) (by omega), zI_toInt (by omega) (by omega)] at this
  · rintro rfl; rfl
def b01 (b : Bool) : Int32 := match b with | true => 1 | false => 0
theorem b01_0 {b : Bool} : b01 b = 0 ↔ b = false := by cases b <;> decide
theorem b01_n0 {b : Bool} : ¬ b01 b = 0 ↔ b = true := by cases b <;> decide
theorem b01_nar (b : Bool) : narrow .boolean (.int (b01 b)) = .int (b01 b) := by cases b <;> rfl
theorem b01_vp (b : Bool) : vp_nar .boolean (b01 b) = b01 b := by cases b <;> rfl
/-- an Int32 compared with small numbers -/
theorem nI_lt' {a b : Nat} (ha : a < 2147483648) (hb : b < 2147483648) : nI a < nI b ↔ a < b := nI_ltI (by omega) (by omega)
theorem nI_le' {a b : Nat} (ha : a < 2147483648) (hb : b < 2147483648) : nI a ≤ nI b ↔ a ≤ b := nI_leI (by omega) (by omega)
theorem nI_eq' {a b : Nat} (ha : a < 2147483648) (hb : b < 2147483648) : nI a = nI b ↔ a = b := nI_eq (by omega) (by omega)
theorem nI_div {a d : Nat} (ha : a < 2147483648) (h0 : 0 < d) (hd : d < 2147483648) : nI a / nI d = nI (a / d) := pk_div (by omega) h0 (by omega)
theorem nI_rem {a d : Nat} (ha : a < 2147483648) (h0 : 0 < d) (hd : d < 2147483648) : nI a - nI a / nI d * nI d = nI (a % d) := pk_rem (by omega) h0 (by omega)
/-! houses: how many clauses; of each: what it is, its number, the signs of its tests (operands ahead of what joins them) -/
abbrev Hv : Type := Nat × (Nat → Nat) × (Nat → Nat) × (Nat → List Int)
def tstS (t : Nat) (lt : Nat → Nat) : Bool := if t / 100 % 10 = 0 then decide (lt (t / 1000) < t % 100) else if t / 100 % 10 = 1 then decide (lt (t / 1000) = t % 100) else decide (t % 100 < lt (t / 1000))
def evS (lt : Nat → Nat) (st : List Bool) (t : Int) : List Bool :=
  if t = -33 then (match st with | b :: s => (!b) :: s | [] => [])
  else if t < 0 then (match st with | b :: a :: s => (if t = -38 then a && b else a || b) :: s | _ => [])
  else tstS t.toNat lt :: st
def evL (lt : Nat → Nat) : List Bool → List Int → List Bool
  | st, [] => st
  | st, t :: l => evL lt (evS lt st t) l
def dpS (d : Nat) (t : Int) : Option Nat :=
  if t = -33 then (if 1 ≤ d then some d else none)
  else if t < 0 then (if 2 ≤ d ∧ (t = -38 ∨ t = -124) then some (d - 1) else none)
  else if d < 20 ∧ t < 5300 ∧ t.toNat / 100 % 10 < 3 then some (d + 1) else none
def dpL : Nat → List Int → Option Nat
  | d, [] => some d
  | d, t :: l => match dpS d t with | some e => dpL e l | none => none
def holdsS (code : List Int) (lt : Nat → Nat) : Bool := (evL lt [] code).headD false
theorem evS_len {lt : Nat → Nat} {st : List Bool} {t : Int} {e : Nat} (h : dpS st.length t = some e) : (evS lt st t).length = e := by
  unfold dpS at h
  unfold evS
  by_cases h1 : t = -33
  · rw [if_pos h1] at h ⊢
    cases st with
    | nil => simp at h
    | cons b s => simp at h; simp [← h]
  · rw [if_neg h1] at h ⊢
    by_cases h2 : t < 0
    · rw [if_pos h2] at h ⊢
      match st with
      | [] => simp at h
      | [b] => simp at h
      | b :: a :: s => 
        split at h
        · cases h; simp
        · cases h
    · rw [if_neg h2] at h ⊢
      split at h
      · cases h; simp
      · cases h
def sumTo (f : Nat → Nat) : Nat → Nat
  | 0 => 0
  | n + 1 => sumTo f n + f n
def anyTo (p : Nat → Bool) : Nat → Bool
  | 0 => false
  | n + 1 => anyTo p n || p n
def lastTo (p : Nat → Bool) (v : Nat → Nat) (d : Nat) : Nat → Nat
  | 0 => d
  | n + 1 => if p n = true then v n else lastTo p v d n
def isS (V : Hv) (w c : Nat) : Bool := decide (V.2.1 c = w)
def sumS (V : Hv) (w : Nat) (lt : Nat → Nat) : Nat := sumTo (fun c => if isS V w c && holdsS (V.2.2.2 c) lt then V.2.2.1 c else 0) V.1
def anyS (V : Hv) (w : Nat) : Bool := anyTo (isS V w) V.1
def lastS (V : Hv) (w d : Nat) : Nat := lastTo (isS V w) V.2.2.1 d V.1
def worthS (V : Hv) (lt : Nat → Nat) : Nat := if anyS V 0 = true then sumS V 0 lt else 1
def costS (V : Hv) (lt : Nat → Nat) : Nat := if anyS V 1 = true then sumS V 1 lt else 5
def loafS (V : Hv) : Nat := lastS V 2 8
def lawS (V : Hv) : Nat := lastS V 3 0 % 3
def scaleS (V : Hv) : Nat := if lastS V 4 1 = 0 then 1 else lastS V 4 1
/-- a house as it may be -/
def HvOK (V : Hv) : Prop := V.1 ≤ 10 ∧ ∀ c, c < V.1 → V.2.1 c ≤ 4 ∧ V.2.2.1 c ≤ 99
theorem sumTo_le {f : Nat → Nat} {b : Nat} : ∀ n, (∀ c, c < n → f c ≤ b) → sumTo f n ≤ n * b := by
  intro n
  induction n with
  | zero => intro _; simp [sumTo]
  | succ n ih =>
    intro h
    have h1 := ih (fun c hc => h c (by omega))
    have h2 := h n (by omega)
    show sumTo f n + f n ≤ (n + 1) * b
    rw [Nat.succ_mul]
    omega
theorem lastTo_le {p : Nat → Bool} {v : Nat → Nat} {d b : Nat} (hd : d ≤ b) : ∀ n, (∀ c, c < n → v c ≤ b) → lastTo p v d n ≤ b := by
  intro n
  induction n with
  | zero => intro _; exact hd
  | succ n ih =>
    intro h
    show (if p n = true then v n else lastTo p v d n) ≤ b
    split
    · exact h n (by omega)
    · exact ih (fun c hc => h c (by omega))
theorem sumS_le {V : Hv} (hV : HvOK V) (w : Nat) (lt : Nat → Nat) : sumS V w lt ≤ 990 := by
  have := sumTo_le (f := fun c => if isS V w c && holdsS (V.2.2.2 c) lt then V.2.2.1 c else 0) (b := 99) V.1 (fun c hc => by
    show (if isS V w c && holdsS (V.2.2.2 c) lt then V.2.2.1 c else 0) ≤ 99
    split
    · exact (hV.2 c hc).2
    · omega)
  have h2 := hV.1
  show sumTo _ V.1 ≤ 990
  omega
theorem worthS_le {V : Hv} (hV : HvOK V) (lt : Nat → Nat) : worthS V lt ≤ 990 := by
  unfold worthS
  split
  · exact sumS_le hV _ _
  · omega
theorem costS_le {V : Hv} (hV : HvOK V) (lt : Nat → Nat) : costS V lt ≤ 990 := by
  unfold costS
  split
  · exact sumS_le hV _ _
  · omega
theorem lastS_le {V : Hv} (hV : HvOK V) (w : Nat) {d : Nat} (hd : d ≤ 99) : lastS V w d ≤ 99 := lastTo_le hd V.1 (fun c hc => (hV.2 c hc).2)
theorem lawS_lt (V : Hv) : lawS V < 3 := Nat.mod_lt _ (by omega)
theorem scaleS_pos (V : Hv) : 0 < scaleS V := by
  unfold scaleS
  split <;> omega
theorem scaleS_le {V : Hv} (hV : HvOK V) : scaleS V ≤ 99 := by
  have := lastS_le hV 4 (d := 1) (by omega)
  unfold scaleS
  split <;> omega
/-! tables: rows 0 kind, 1 v, 2 hunger, 3 eaten, 5 told (4 a piece), 6 book; row 7: 0 eaters, 1 bin, 2 day, 3 baker and 1, 4 pages, 5 the house and 1; and gladness -/
abbrev Tb : Type := (Nat → Nat → Nat) × (Nat → Int32)
def ltS (T : Tb) (e a : Nat) : Nat → Nat := fun f => match f with | 0 => e | 1 => T.1 0 e | 2 => T.1 2 e | 3 => a | 4 => T.1 7 1 / 10 | _ => T.1 7 2 % 7
/-- a table as it may be -/
def TbOK (T : Tb) : Prop := T.1 7 0 ≤ 5 ∧ T.1 7 1 ≤ 99 ∧ T.1 7 2 < 100000 ∧ T.1 7 3 ≤ T.1 7 0 ∧ T.1 7 4 ≤ 12 ∧ T.1 7 5 ≤ 6 ∧ (∀ e, T.1 0 e ≤ 6 ∧ T.1 1 e ≤ 9 ∧ T.1 2 e ≤ 9 ∧ T.1 3 e ≤ 9) ∧ (∀ k, T.1 5 k ≤ 9) ∧ ∀ b, T.1 6 b ≤ 99
/-! one supper -/
def leftS (bin : Nat) (wish : Nat → Nat) : Nat → Nat
  | 0 => bin
  | e + 1 => leftS bin wish e - min (wish e) (leftS bin wish e)
def ateS (bin : Nat) (wish : Nat → Nat) (e : Nat) : Nat := min (wish e) (leftS bin wish e)
theorem leftS_le (bin : Nat) (wish : Nat → Nat) : ∀ e, leftS bin wish e ≤ bin := by
  intro e
  induction e with
  | zero => exact Nat.le_refl _
  | succ e ih => show leftS bin wish e - _ ≤ bin; omega
theorem ateS_le (bin : Nat) (wish : Nat → Nat) (e : Nat) : ateS bin wish e ≤ wish e := Nat.min_le_left _ _
theorem leftS_congr {bin : Nat} {w w' : Nat → Nat} : ∀ n, (∀ e, e < n → w e = w' e) → leftS bin w n = leftS bin w' n := by
  intro n
  induction n with
  | zero => intro _; rfl
  | succ n ih =>
    intro h
    show leftS bin w n - min (w n) (leftS bin w n) = leftS bin w' n - min (w' n) (leftS bin w' n)
    rw [ih (fun e he => h e (by omega)), h n (by omega)]
theorem ateS_congr {bin : Nat} {w w' : Nat → Nat} {n : Nat} (h : ∀ e, e ≤ n → w e = w' e) : ateS bin w n = ateS bin w' n := by
  unfold ateS
  rw [leftS_congr n (fun e he => h e (by omega)), h n (Nat.le_refl _)]
/-- who bakes, by law 0 or 1, among the first n + 1 -/
def argS (law : Nat) (p : Nat → Nat) : Nat → Nat
  | 0 => 0
  | n + 1 => if (if law = 0 then p (n + 1) < p (argS law p n) else p (argS law p n) < p (n + 1)) then n + 1 else argS law p n
def aheadS (p : Nat → Nat) (o e : Nat) : Bool := decide (p o < p e ∨ (p o = p e ∧ o < e))
def cntTo (q : Nat → Bool) : Nat → Nat
  | 0 => 0
  | n + 1 => cntTo q n + (if q n = true then 1 else 0)
def placeS (p : Nat → Nat) (E e : Nat) : Nat := cntTo (fun o => aheadS p o e) E
/-- the first below n of whom q holds, or n -/
def firstTo (q : Nat → Bool) : Nat → Nat
  | 0 => 0
  | n + 1 => if firstTo q n < n then firstTo q n else if q n = true then n else n + 1
def midS (p : Nat → Nat) (E : Nat) : Nat := firstTo (fun e => decide (placeS p E e = E / 2)) E
def bakeS (law : Nat) (p : Nat → Nat) (E : Nat) : Nat := if law = 2 then midS p E else argS law p (E - 1)
def worthTo (V : Hv) (T : Tb) (e : Nat) (n : Nat) : Nat := sumTo (fun a => worthS V (ltS T e (a + 1))) n
def hasS (V : Hv) (T : Tb) (free : Bool) (ate : Nat → Nat) (bk e : Nat) : Int := (worthTo V T e (ate e) : Int) - (if e = bk ∧ free = false then (costS V (ltS T e (ate e)) : Int) else 0)
/-- what is supposed: the law, no cost, a pact -/
abbrev Sup : Type := Nat × Bool × Option (Nat × Nat)
def prtS (V : Hv) (ate : Nat → Nat) (e : Nat) : Nat := ate e / scaleS V
def bkS (V : Hv) (P : Sup) (T : Tb) (wish : Nat → Nat) : Nat := bakeS P.1 (prtS V (ateS (T.1 7 1) wish)) (T.1 7 0)
def hasW (V : Hv) (P : Sup) (T : Tb) (wish : Nat → Nat) (e : Nat) : Int := hasS V T P.2.1 (ateS (T.1 7 1) wish) (bkS V P T wish) e
def crumbS (T : Tb) (e : Nat) : Nat := min 9 (T.1 3 (if e = 0 then T.1 7 0 - 1 else e - 1) + 1)
def plainS (T : Tb) (e : Nat) : Nat := match T.1 0 e with
  | 1 => min 9 (T.1 2 e + T.1 1 e)
  | 2 => crumbS T e
  | 3 => if T.1 7 2 % T.1 7 0 = e then 0 else T.1 2 e
  | 4 => min 9 (T.1 2 e + T.1 1 e)
  | 5 => if T.1 1 e < 5 then 0 else crumbS T e
  | 6 => T.1 5 (4 * e + T.1 7 2 % 4)
  | _ => T.1 2 e
/-- the first of 0 .. n by which f is most -/
def bestTo (f : Nat → Int) : Nat → Nat
  | 0 => 0
  | n + 1 => if f (bestTo f n) < f (n + 1) then n + 1 else bestTo f n
def tryS (T : Tb) (e a : Nat) : Nat → Nat := fun o => if o = e then a else plainS T o
def bestS (V : Hv) (P : Sup) (T : Tb) (e : Nat) : Nat := bestTo (fun a => hasW V P T (tryS T e a) e) 9
def wishS (V : Hv) (P : Sup) (T : Tb) (e : Nat) : Nat := if T.1 0 e = 4 then bestS V P T e else plainS T e
def wishP (V : Hv) (P : Sup) (T : Tb) (e : Nat) : Nat := match P.2.2 with
  | some (a, b) => if e = a then (if T.1 7 2 % 2 = 0 then 0 else 9) else if e = b then (if T.1 7 2 % 2 = 0 then 9 else 0) else wishS V P T e
  | none => wishS V P T e
def supC (V : Hv) (P : Sup) (T : Tb) (W : Nat → Nat) : Tb :=
  (fun r i => if r = 3 then (if i < T.1 7 0 then ateS (T.1 7 1) W i else T.1 3 i) else if r = 7 then (if i = 1 then min 99 (leftS (T.1 7 1) W (T.1 7 0) + loafS V) else if i = 2 then T.1 7 2 + 1 else if i = 3 then bkS V P T W + 1 else T.1 7 i) else T.1 r i,
   fun i => if i < T.1 7 0 then T.2 i + zI (hasW V P T W i) else T.2 i)
def supS (V : Hv) (P : Sup) (T : Tb) : Tb := if T.1 7 0 = 0 then T else supC V P T (wishP V P T)
def supN (V : Hv) (P : Sup) (T : Tb) : Nat → Tb
  | 0 => T
  | n + 1 => supS V P (supN V P T n)
