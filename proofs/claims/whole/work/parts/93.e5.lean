/-! both sides at once -/
def RW (h : Hp) (T : Tb) (im : Option Tb) (n : Nat) (hs : Nat → List Cz) (X : Tx) (tr : List Nat) (P : Tp) : Prop := StOK T im n hs X tr P ∧ RD h T im n hs X tr P ∧ RM h T im n hs X tr P
def Good (h : Hp) : Prop := ∃ (T : Tb) (im : Option Tb) (n : Nat) (hs : Nat → List Cz) (X : Tx) (tr : List Nat) (P : Tp), RW h T im n hs X tr P
def SmB (T T' : Tb) : Prop := T'.1 7 5 = T.1 7 5 ∧ T'.1 7 4 = T.1 7 4 ∧ ∀ k, k < T.1 7 4 → T'.1 6 k = T.1 6 k
theorem SmB.rf {T : Tb} : SmB T T := ⟨rfl, rfl, fun _ _ => rfl⟩
theorem SmB.set {T : Tb} {q x v : Nat} (h : q < 6 ∨ (q = 7 ∧ x < 4)) : SmB T (setT T q x v) := ⟨if_neg (by omega), if_neg (by omega), fun k _ => if_neg (by omega)⟩
theorem SmB.add {T : Tb} {k v w : Nat} : SmB T (addEater T k v w) := ⟨by simp [addEater], by simp [addEater], fun j _ => by simp [addEater]⟩
theorem SmB.eater {T : Tb} {k n w : Int32} : SmB T (eaterS T k n w).2 := by
  unfold eaterS
  split
  · exact SmB.rf
  · split
    · split
      · exact SmB.rf
      · exact SmB.add
    · exact SmB.rf
theorem SmB.hunger {T : Tb} {i n : Int32} : SmB T (hungerS T i n).2 := by
  unfold hungerS
  split
  · exact SmB.rf
  · split
    · exact SmB.rf
    · exact SmB.set (Or.inl (by omega))
theorem SmB.row {T : Tb} {i p n : Int32} : SmB T (rowS T i p n).2 := by
  unfold rowS
  split
  · split
    · exact SmB.rf
    · split
      · exact SmB.set (Or.inl (by omega))
      · exact SmB.rf
  · exact SmB.rf
theorem SmB.bin {T : Tb} {n : Int32} : SmB T (binS T n).2 := by
  unfold binS
  split
  · exact SmB.rf
  · exact SmB.set (Or.inr ⟨rfl, by omega⟩)
theorem SmB.sup {V : Hv} {P : Sup} {T : Tb} : SmB T (supS V P T) := by
  unfold supS
  split
  · exact SmB.rf
  · exact ⟨rfl, rfl, fun _ _ => rfl⟩
theorem SmB.supper {V : Hv} {P : Sup} {T : Tb} : SmB T (if T.1 7 2 = 9999 then T else supS V P T) := by
  split
  · exact SmB.rf
  · exact SmB.sup
section PR
variable {h h1 h2 : Hp} {T T' : Tb} {im : Option Tb} {n : Nat} {hs : Nat → List Cz} {X X' : Tx} {tr tr' : List Nat} {P P' : Tp}
theorem RM.fx (H : RM h T im n hs X tr P) (F : Fx mnF h h1) : RM h1 T im n hs X tr P := H.out (fun a i ha => F.1 a i (by
  simp only [mnF, asF, Bool.or_eq_false_iff, Bool.and_eq_false_iff, beq_eq_false_iff_ne, ne_eq, decide_eq_false_iff_not]
  omega)) (fun i => by rw [F.2.1])
theorem RD.scF (H : RD h T im n hs X tr P) (hn : n ≤ 6) (F : Fr scrF h h1) : RD h1 T im n hs X tr P := H.out hn (fun a i ha => F.1 a i (by
  simp only [scrF, Bool.or_eq_false_iff, Bool.and_eq_false_iff, beq_eq_false_iff_ne, ne_eq, decide_eq_false_iff_not]
  omega)) (fun a i _ => by rw [F.2]) (by rw [F.2])
theorem mnD (W : RW h T im n hs X tr P) (D : DIc h1 n (hcell (T.1 7 5)) (VS hs T) T') (F : Fx mnF h h1) (e : SmB T T') : RD h1 T' im n hs X tr P ∧ RM h1 T im n hs X tr P := ⟨W.2.1.scr F D e.1, W.2.2.fx F⟩
theorem mnM (W : RW h T im n hs X tr P) (M : RD h1 T' im n hs X tr P ∧ RM h1 T im n hs X tr P) (C : RIc h2 (baS T) (VS hs T) T') (F : Fr scrF h1 h2) (e : SmB T T') : Good h2 :=
  ⟨T', im, n, hs, X, tr, P, ⟨⟨M.1.1.2.1, M.1.1.2.2.1, M.1.1.2.2.2.1.2.2.1, W.1.1.2.2.2⟩, W.1.2⟩, M.1.scF W.1.1.2.2.2 F, M.2.scr F C e.1 e.2⟩
theorem asD (W : RW h T im n hs X tr P) (D : DIc h1 n (hcell (T.1 7 5)) (VS hs T) T) (F : Fx asF h h1) : RD h1 T im n hs X tr P ∧ RM h1 T im n hs X tr P := mnD W D (as_mn F) SmB.rf
theorem asM (W : RW h T im n hs X tr P) (M : RD h1 T im n hs X tr P ∧ RM h1 T im n hs X tr P) (C : RIc h2 (baS T) (VS hs T) T) (F : Fr scrF h1 h2) : Good h2 := mnM W M C F SmB.rf
theorem RW.good (W : RW h T im n hs X tr P) : Good h := ⟨T, im, n, hs, X, tr, P, W⟩
theorem fdD (W : RW h T im n hs X tr P) (D : DTx h1 X') (F : Fr rdF h h1) : RD h1 T im n hs X' tr P ∧ RM h1 T im n hs X tr P := ⟨W.2.1.fd F D, W.2.2.out (fun a i ha => F.1 a i (by
  simp only [rdF, Bool.or_eq_false_iff, Bool.and_eq_false_iff, beq_eq_false_iff_ne, ne_eq]
  omega)) (fun i => by rw [F.2])⟩
theorem fdM (W : RW h T im n hs X tr P) (M : RD h1 T im n hs X' tr P ∧ RM h1 T im n hs X tr P) (C : RTx h2 X') (ok : TxOK X') (F : Fr fdF h1 h2) : Good h2 :=
  ⟨T, im, n, hs, X', tr, P, ⟨W.1.1, W.1.2.1, ok, W.1.2.2.2⟩, M.1.out W.1.1.2.2.2 (fun a i ha => F.1 a i (by
  simp only [fdF, Bool.or_eq_false_iff, Bool.and_eq_false_iff, beq_eq_false_iff_ne, ne_eq]
  omega)) (fun a i _ => by rw [F.2]) (by rw [F.2]), M.2.fd F C⟩
theorem acD (W : RW h T im n hs X tr P) (D : DAc h1 tr') (F : Fr dvF h h1) : RD h1 T im n hs X tr' P ∧ RM h1 T im n hs X tr P := ⟨W.2.1.act F D, W.2.2.out (fun a i ha => F.1 a i (by
  simp only [dvF, Bool.or_eq_false_iff, Bool.and_eq_false_iff, beq_eq_false_iff_ne, ne_eq]
  omega)) (fun i => by rw [F.2])⟩
theorem acM (W : RW h T im n hs X tr P) (M : RD h1 T im n hs X tr' P ∧ RM h1 T im n hs X tr P) (C : RAc h2 tr') (ok : tr'.length ≤ 100) (F : Fr acF h1 h2) : Good h2 :=
  ⟨T, im, n, hs, X, tr', P, ⟨W.1.1, W.1.2.1, W.1.2.2.1, ok, W.1.2.2.2.2⟩, M.1.out W.1.1.2.2.2 (fun a i ha => F.1 a i (by
  simp only [acF, Bool.or_eq_false_iff, Bool.and_eq_false_iff, beq_eq_false_iff_ne, ne_eq]
  omega)) (fun a i _ => by rw [F.2]) (by rw [F.2]), M.2.act F C⟩
theorem tpD (W : RW h T im n hs X tr P) (D : DTp h1 P') (F : FrT h h1) : RD h1 T im n hs X tr P' ∧ RM h1 T im n hs X tr P := ⟨W.2.1.tp F D, W.2.2.out (fun a i ha => F.1 a i (by omega)) (fun i => F.2.1 _ i (by decide))⟩
theorem tpM (W : RW h T im n hs X tr P) (M : RD h1 T im n hs X tr P' ∧ RM h1 T im n hs X tr P) (C : RTp h2 P') (ok : TpOK P') (F : FrL h1 h2) : Good h2 :=
  ⟨T, im, n, hs, X, tr, P', ⟨W.1.1, W.1.2.1, W.1.2.2.1, W.1.2.2.2.1, ok, W.1.2.2.2.2.2⟩, M.1.out W.1.1.2.2.2 (fun a i ha => F.1 a i (by omega) (by omega)) (fun a i ha => F.2.1 a i (by omega) (by omega)) F.2.2, M.2.tp F C⟩
theorem imD (W : RW h T im n hs X tr P) (D : DTb h1 9 T) (D2 : h1.1 0 12 = 1) (F : Fr (fun a i => tbF 9 a i || (a == 0 && i == 12)) h h1) : RD h1 T (some T) n hs X tr P ∧ RM h1 T im n hs X tr P := ⟨W.2.1.im F D D2, W.2.2.out (fun a i ha => F.1 a i (by
  simp only [tbF, Bool.or_eq_false_iff, Bool.and_eq_false_iff, beq_eq_false_iff_ne, ne_eq, decide_eq_false_iff_not]
  omega)) (fun i => by rw [F.2])⟩
theorem imM (W : RW h T im n hs X tr P) (M : RD h1 T (some T) n hs X tr P ∧ RM h1 T im n hs X tr P) (C : RIm h2 T) (C2 : h2.1 134 46 = 1) (F : Fr imF h1 h2) : Good h2 :=
  ⟨T, some T, n, hs, X, tr, P, ⟨W.1.1, fun U hU => by cases hU; exact ⟨W.1.1.1, W.1.1.2.1, W.1.1.2.2.1⟩, W.1.2.2⟩, M.1.out W.1.1.2.2.2 (fun a i ha => F.1 a i (by
  simp only [imF, Bool.or_eq_false_iff, Bool.and_eq_false_iff, beq_eq_false_iff_ne, ne_eq, decide_eq_false_iff_not]
  omega)) (fun a i _ => by rw [F.2]) (by rw [F.2]), M.2.im F C C2⟩
theorem unD {U : Tb} (W : RW h T im n hs X tr P) (hU : im = some U) (D : DTb h1 1 U) (F : Fr noF h h1) : RD h1 U im n hs X tr P ∧ RM h1 T im n hs X tr P := by
  obtain ⟨u1, u2, u3⟩ := W.1.2.1 U hU
  exact ⟨W.2.1.un F D u1 u2 u3, W.2.2.out (fun a i ha => F.1 a i (by
    simp only [noF, Bool.and_eq_false_iff, decide_eq_false_iff_not]
    omega)) (fun i => by rw [F.2])⟩
theorem unM {U : Tb} (W : RW h T im n hs X tr P) (hU : im = some U) (M : RD h1 U im n hs X tr P ∧ RM h1 T im n hs X tr P) (C1 : RTb h2 U) (C2 : RBk h2 U) (C3 : h2.1 134 11 = nI (U.1 7 5) - 1) (F : Fr unF h1 h2) : Good h2 := by
  obtain ⟨u1, u2, u3⟩ := W.1.2.1 U hU
  exact ⟨U, im, n, hs, X, tr, P, ⟨⟨u1, u2, u3, W.1.1.2.2.2⟩, W.1.2⟩, M.1.out W.1.1.2.2.2 (fun a i ha => F.1 a i (by
    simp only [unF, Bool.or_eq_false_iff, Bool.and_eq_false_iff, beq_eq_false_iff_ne, ne_eq, decide_eq_false_iff_not]
    omega)) (fun a i _ => by rw [F.2]) (by rw [F.2]), M.2.un F C1 C2 C3 u1 u2 u3 W.1.1.2.2.2 W.1.2.2.2.2.2⟩
theorem bokE {x : Int32} : ∀ k j, ¬ k = 6 → ¬ (k = 7 ∧ j = 4) → (bookS T x).2.1 k j = T.1 k j := by
  intro k j h6 h7
  unfold bookS
  split
  · exact if_neg (by omega)
  · split
    · rfl
    · split
      · rfl
      · show (setT (setT T 6 (T.1 7 4) _) 7 4 (T.1 7 4 + 1)).1 k j = _
        rw [show (setT (setT T 6 (T.1 7 4) _) 7 4 (T.1 7 4 + 1)).1 k j = (setT T 6 (T.1 7 4) _).1 k j from if_neg (by omega)]
        exact if_neg (by omega)
theorem bk2 {x : Int32} : (bookS T x).2.2 = T.2 := by
  unfold bookS
  split
  · rfl
  · split
    · rfl
    · split <;> rfl
theorem bkD {x : Int32} (W : RW h T im n hs X tr P) (D : DIc h1 n (hcell (T.1 7 5)) (VS hs T) (bookS T x).2) (F : Fx mnF h h1) : RD h1 (bookS T x).2 im n hs X tr P ∧ RM h1 T im n hs X tr P := ⟨W.2.1.scr F D (bokE _ _ (by omega) (by omega)), W.2.2.fx F⟩
theorem bkM {x : Int32} (W : RW h T im n hs X tr P) (M : RD h1 (bookS T x).2 im n hs X tr P ∧ RM h1 T im n hs X tr P) (C : RBk h2 (bookS T x).2) (ok : TbOK (bookS T x).2) (F : Fr bkF h1 h2) : Good h2 :=
  ⟨(bookS T x).2, im, n, hs, X, tr, P, ⟨⟨ok, by rw [bokE _ _ (by omega) (by omega)]; exact W.1.1.2.1, by rw [bokE _ _ (by omega) (by omega)]; exact W.1.1.2.2.1, W.1.1.2.2.2⟩, W.1.2⟩, M.1.out W.1.1.2.2.2 (fun a i ha => F.1 a i (by
  simp only [bkF, Bool.or_eq_false_iff, Bool.and_eq_false_iff, beq_eq_false_iff_ne, ne_eq]
  omega)) (fun a i _ => by rw [F.2]) (by rw [F.2]), M.2.bk F C ok bokE bk2⟩
theorem RM.hoDo (H : RM h T im n hs X tr P) (hn : n < 6) (F : hoD n h h1) : RM h1 T im n hs X tr P := H.out (fun a i ha => F.at hn (by omega) (by omega) (by omega) (by omega)) (fun i => by rw [F.2.1])
theorem RD.hoMo {k : Nat} (H : RD h T im n hs X tr P) (hn : n ≤ 6) (F : Fr (hoF k) h h1) : RD h1 T im n hs X tr P := H.out hn (fun a i ha => F.1 a i (by
  simp only [hoF, gtF, Bool.or_eq_false_iff, Bool.and_eq_false_iff, beq_eq_false_iff_ne, ne_eq, decide_eq_false_iff_not]
  omega)) (fun a i _ => by rw [F.2]) (by rw [F.2])
end PR
