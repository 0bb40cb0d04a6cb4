/-! answers, as both sides give them -/
/-- a number below n, read off an int -/
def dec (x : Int32) (n : Nat) : Option Nat := if 0 ≤ x.toInt ∧ x.toInt < (n : Int) then some x.toInt.toNat else none
theorem dec_some {x : Int32} {n j : Nat} : dec x n = some j ↔ j < n ∧ x = nI j ∧ j < 2147483648 := by
  have hx := Int32.toInt_lt x
  unfold dec
  constructor
  · intro h
    split at h
    · cases h
      rename_i q
      refine ⟨by omega, ?_, by omega⟩
      apply Int32.toInt_inj.mp
      rw [nI_toInt (by omega)]
      omega
    · cases h
  · rintro ⟨h1, rfl, h3⟩
    rw [nI_toInt (by omega), if_pos (by omega)]
    congr 1
theorem dec_nI {j n : Nat} (h : j < n) (h2 : j < 2147483648) : dec (nI j) n = some j := dec_some.mpr ⟨h, rfl, h2⟩
theorem dec_none {x : Int32} {n : Nat} : dec x n = none ↔ ¬ (0 ≤ x.toInt ∧ x.toInt < (n : Int)) := by
  unfold dec
  constructor
  · intro h q
    rw [if_pos q] at h
    cases h
  · intro h
    rw [if_neg h]
/-- in(x, a, b) with small numbers, and dec -/
theorem sub_toInt {x : Int32} {a : Nat} (ha : a < 1000000) (hx : 0 ≤ x.toInt) : (x - nI a).toInt = x.toInt - a := by
  have h1 := Int32.toInt_lt x
  rw [Int32.toInt_sub, nI_toInt (by omega)]
  apply Int.bmod_eq_of_le <;> omega
theorem dec_sub {x : Int32} {a E j : Nat} (ha : a < 1000000) (hE : E < 1000000) : dec (x - nI a) E = some j ↔ j < E ∧ x = nI (a + j) := by
  constructor
  · intro h
    obtain ⟨h1, h2, h3⟩ := dec_some.mp h
    refine ⟨h1, ?_⟩
    have := congrArg (· + nI a) h2
    simp only [Int32.sub_add_cancel] at this
    rw [this, nI_add]
    congr 1
    omega
  · rintro ⟨h1, rfl⟩
    rw [pk_sub (by omega), Nat.add_sub_cancel_left]
    exact dec_nI h1 (by omega)
/-- how often one bakes in n suppers -/
def bakeN (V : Hv) (P : Sup) (T : Tb) (i : Nat) : Nat → Nat
  | 0 => 0
  | n + 1 => bakeN V P T i n + (if 0 < T.1 7 0 ∧ i = bkS V P (supN V P T n) (wishP V P (supN V P T n)) then 1 else 0)
def bkA (b : Nat) : Int32 := if b = 0 then -5 else nI (b - 1)
def farN : Int32 := -1000001
def farB : Int32 := -1000002
def P0 (V : Hv) : Sup := (lawS V, false, none)
def likeTo (T T' : Tb) : Nat → Bool
  | 0 => true
  | n + 1 => likeTo T T' n && decide (T.1 3 n = T'.1 3 n)
def likeS (T T' : Tb) : Bool := likeTo T T' (T'.1 7 0) && decide (T.1 7 1 = T'.1 7 1)
def supperA (T : Tb) (T' : Tb) : Int32 := if T.1 7 2 = 9999 then -3 else bkA (T'.1 7 3)
def runA (V : Hv) (T : Tb) (n what : Int32) : Int32 :=
  if dec what 2 = none ∧ dec (what - nI 10) (T.1 7 0) = none ∧ dec (what - nI 20) (T.1 7 0) = none then farN else
  match dec n 61 with
  | none => farB
  | some k => if what = 0 then nI ((supN V (P0 V) T k).1 7 1) else if what = 1 then bkA ((supN V (P0 V) T k).1 7 3) else
    match dec (what - nI 10) (T.1 7 0) with
    | some i => (supN V (P0 V) T k).2 i
    | none => match dec (what - nI 20) (T.1 7 0) with
      | some i => nI (bakeN V (P0 V) T i k)
      | none => 0
def roundF (V : Hv) (T : Tb) : Nat := firstTo (fun k => likeS (supN V (P0 V) T (k + 1)) T) 60
def roundA (V : Hv) (T : Tb) : Int32 := if roundF V T < 60 then nI (roundF V T + 1) else -5
def setBin (T : Tb) (s : Nat) : Tb := (fun r i => if r = 7 ∧ i = 1 then s else T.1 r i, T.2)
def fullTo (V : Hv) (T : Tb) : Nat → Bool
  | 0 => true
  | n + 1 => fullTo V T n && decide (ateS (T.1 7 1) (wishS V (P0 V) T) n = wishS V (P0 V) T n)
def fullS (V : Hv) (T : Tb) : Bool := fullTo V T (T.1 7 0)
def enoughTo (V : Hv) (T : Tb) : Nat → Bool
  | 0 => true
  | n + 1 => enoughTo V T n && fullS V (supN V (P0 V) T n)
def thinF (V : Hv) (T : Tb) (n : Nat) : Nat := firstTo (fun s => enoughTo V (setBin T s) n) 100
def thinA (V : Hv) (T : Tb) (n : Int32) : Int32 := match dec n 9 with | none => -2 | some k => if thinF V T k < 100 then nI (thinF V T k) else -5
def rowW (E code i : Nat) : Nat := code / 4 ^ (E - 1 - i) % 4
def upW (w : Nat → Nat) (i a : Nat) : Nat → Nat := fun o => if o = i then a else w o
def noGain (V : Hv) (T : Tb) (w : Nat → Nat) (i : Nat) : Nat → Bool
  | 0 => true
  | a + 1 => noGain V T w i a && decide (¬ hasW V (P0 V) T w i < hasW V (P0 V) T (upW w i a) i)
def stillTo (V : Hv) (T : Tb) (w : Nat → Nat) : Nat → Bool
  | 0 => true
  | i + 1 => stillTo V T w i && noGain V T w i 4
def stillS (V : Hv) (T : Tb) (code : Nat) : Bool := stillTo V T (rowW (T.1 7 0) code) (T.1 7 0)
def stillA (V : Hv) (T : Tb) (what : Int32) : Int32 :=
  if ¬ what = 0 ∧ dec (what - nI 10) (T.1 7 0) = none then farN else if 4 < T.1 7 0 then -9 else
  if what = 0 then nI (cntTo (stillS V T) (4 ^ T.1 7 0)) else
  if firstTo (stillS V T) (4 ^ T.1 7 0) < 4 ^ T.1 7 0 then (match dec (what - nI 10) (T.1 7 0) with | some i => nI (rowW (T.1 7 0) (firstTo (stillS V T) (4 ^ T.1 7 0)) i) | none => 0) else -5
def allTo (V : Hv) (T : Tb) (w : Nat → Nat) : Nat → Int
  | 0 => 0
  | i + 1 => allTo V T w i + hasW V (P0 V) T w i
def allH (V : Hv) (T : Tb) (code : Nat) : Int := allTo V T (rowW (T.1 7 0) code) (T.1 7 0)
def allF (V : Hv) (T : Tb) : Nat := bestTo (allH V T) (4 ^ T.1 7 0 - 1)
def allBestA (V : Hv) (T : Tb) (what : Int32) : Int32 :=
  if ¬ what = 0 ∧ dec (what - nI 10) (T.1 7 0) = none then farN else if 4 < T.1 7 0 then -9 else
  if what = 0 then zI (allH V T (allF V T)) else (match dec (what - nI 10) (T.1 7 0) with | some i => nI (rowW (T.1 7 0) (allF V T) i) | none => 0)
def gladTo (T : Tb) : Nat → Int32
  | 0 => 0
  | i + 1 => gladTo T i + T.2 i
def gladA (T : Tb) : Int32 := gladTo T (T.1 7 0)
def bestI (f : Nat → Int32) : Nat → Nat
  | 0 => 0
  | n + 1 => if f (bestI f n) < f (n + 1) then n + 1 else bestI f n
def lawsA (V : Hv) (T : Tb) (n : Int32) : Int32 := match dec n 61 with | none => -2 | some k => nI (bestI (fun w => gladA (supN V (w, false, none) T k)) 2)
def cookA (V : Hv) (T : Tb) (e n : Int32) : Int32 := match dec e (T.1 7 0) with | none => farN | some i => match dec n 61 with | none => farB | some k => (supN V (lawS V, true, none) T k).2 i - (supN V (P0 V) T k).2 i
def pactA (V : Hv) (T : Tb) (a b n : Int32) : Int32 := match dec a (T.1 7 0), dec b (T.1 7 0) with
  | some i, some j => if i = j then farB else match dec n 61 with | none => farB | some k => ((supN V (lawS V, false, some (min i j, max i j)) T k).2 i + (supN V (lawS V, false, some (min i j, max i j)) T k).2 j) - ((supN V (P0 V) T k).2 i + (supN V (P0 V) T k).2 j)
  | _, _ => farN
def addEater (T : Tb) (k v h : Nat) : Tb := (fun r i => if r = 7 then (if i = 0 then T.1 7 0 + 1 else T.1 7 i) else if r = 5 then (if T.1 7 0 * 4 ≤ i ∧ i < T.1 7 0 * 4 + 4 then 0 else T.1 5 i) else if i = T.1 7 0 then (if r = 0 then k else if r = 1 then v else if r = 2 then h else if r = 3 then 0 else T.1 r i) else T.1 r i, fun i => if i = T.1 7 0 then 0 else T.2 i)
def guestA (V : Hv) (T : Tb) (h : Int32) : Int32 := match dec h 10 with | none => -2 | some k => if T.1 7 0 = 5 then -3 else nI (bkS V (P0 V) (addEater T 0 0 k) (wishS V (P0 V) (addEater T 0 0 k)))
def likeBk (V : Hv) (T : Tb) (i : Nat) : Bool := decide (prtS V (ateS (T.1 7 1) (wishS V (P0 V) T)) i = prtS V (ateS (T.1 7 1) (wishS V (P0 V) T)) (bkS V (P0 V) T (wishS V (P0 V) T)))
def oddsA (V : Hv) (T : Tb) (e p : Int32) : Int64 := match dec e (T.1 7 0), dec p 2 with
  | some i, some part => if likeBk V T i = true then (if part = 0 then 1 else lN (cntTo (likeBk V T) (T.1 7 0))) else lN part
  | _, _ => -9223372036854775808
/-- a fraction in lowest terms: above and below by the greatest common divisor -/
def fracA (above : Int64) (below : Nat) (part : Nat) : Int64 := (if part = 0 then above else lN below) / lN (Nat.gcd above.toInt.natAbs below)
def meanA (V : Hv) (T : Tb) (n p : Int32) : Int64 := match dec n 61, dec p 2 with
  | some k, some part => if k = 0 ∨ T.1 7 0 = 0 then -9223372036854775808 else fracA (gladA (supN V (P0 V) T k) - gladA T).toInt64 (k * T.1 7 0) part
  | _, _ => -9223372036854775808
def lookF (V : Hv) (T : Tb) : Nat := firstTo (fun k => decide (¬ (supN V (P0 V) T (k + 1)).1 7 1 = T.1 6 k)) (T.1 7 4)
def lookedA (V : Hv) (T : Tb) : Int32 := if lookF V T < T.1 7 4 then nI (lookF V T) else -5
