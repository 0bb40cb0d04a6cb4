/-! the whole state, as the class holds it -/
def rgD (a i : Nat) : Nat := if a = 0 then (if i = 12 then 3 else if i = 11 then 4 else 0) else if a ≤ 8 then 1 else if a ≤ 16 then 3 else if a ≤ 24 then 0 else if a ≤ 32 then 9 else if a ≤ 36 then 0 else if a = 37 then (if 13 ≤ i then 8 else 0) else if a ≤ 42 then 0 else if a = 43 then 8 else if a ≤ 45 then 0 else if a = 46 then (if i = 1 then 5 else 0) else if a = 47 then 5 else if a ≤ 49 then 6 else if a ≤ 121 then 4 else if a ≤ 133 then 7 else 0
def AgD (k : Nat) (h h' : Hp) : Prop := ∀ a i, rgD a i = k → h'.1 a i = h.1 a i
theorem rgD_1 {a i : Nat} (h1 : 1 ≤ a) (h2 : a ≤ 8) : rgD a i = 1 := by rw [rgD, if_neg (by omega), if_pos (by omega)]
theorem rgD_3 {a i : Nat} (h1 : 9 ≤ a) (h2 : a ≤ 16) : rgD a i = 3 := by rw [rgD, if_neg (by omega), if_neg (by omega), if_pos (by omega)]
theorem rgD_4 {a i : Nat} (h1 : 50 ≤ a) (h2 : a ≤ 121) : rgD a i = 4 := by rw [rgD, if_neg (by omega), if_neg (by omega), if_neg (by omega), if_neg (by omega), if_neg (by omega), if_neg (by omega), if_neg (by omega), if_neg (by omega), if_neg (by omega), if_neg (by omega), if_neg (by omega), if_neg (by omega), if_neg (by omega), if_pos (by omega)]
theorem rgD_7 {a i : Nat} (h1 : 122 ≤ a) (h2 : a ≤ 133) : rgD a i = 7 := by rw [rgD, if_neg (by omega), if_neg (by omega), if_neg (by omega), if_neg (by omega), if_neg (by omega), if_neg (by omega), if_neg (by omega), if_neg (by omega), if_neg (by omega), if_neg (by omega), if_neg (by omega), if_neg (by omega), if_neg (by omega), if_neg (by omega), if_pos (by omega)]
theorem rgD_out {a i k : Nat} (q : rgD a i = k) : k = 0 ∨ (k = 1 ∧ 1 ≤ a ∧ a ≤ 8) ∨ (k = 3 ∧ ((9 ≤ a ∧ a ≤ 16) ∨ (a = 0 ∧ i = 12))) ∨ (k = 4 ∧ ((50 ≤ a ∧ a ≤ 121) ∨ (a = 0 ∧ i = 11))) ∨ (k = 5 ∧ (a = 47 ∨ (a = 46 ∧ i = 1))) ∨ (k = 6 ∧ (a = 48 ∨ a = 49)) ∨ (k = 7 ∧ 122 ≤ a ∧ a ≤ 133) ∨ (k = 8 ∧ (a = 43 ∨ (a = 37 ∧ 13 ≤ i))) ∨ (k = 9 ∧ 25 ≤ a ∧ a ≤ 32) := by
  rw [rgD] at q
  by_cases e0 : a = 0
  · rw [if_pos e0] at q
    by_cases d0 : i = 12
    · rw [if_pos d0] at q
      subst q; exact Or.inr (Or.inr (Or.inl (⟨rfl, by omega⟩)))
    · rw [if_neg d0] at q
      by_cases d1 : i = 11
      · rw [if_pos d1] at q
        subst q; exact Or.inr (Or.inr (Or.inr (Or.inl (⟨rfl, by omega⟩))))
      · rw [if_neg d1] at q
        subst q; exact Or.inl (rfl)
  · rw [if_neg e0] at q
    by_cases e1 : a ≤ 8
    · rw [if_pos e1] at q
      subst q; exact Or.inr (Or.inl (⟨rfl, by omega⟩))
    · rw [if_neg e1] at q
      by_cases e2 : a ≤ 16
      · rw [if_pos e2] at q
        subst q; exact Or.inr (Or.inr (Or.inl (⟨rfl, by omega⟩)))
      · rw [if_neg e2] at q
        by_cases e3 : a ≤ 24
        · rw [if_pos e3] at q
          subst q; exact Or.inl (rfl)
        · rw [if_neg e3] at q
          by_cases e4 : a ≤ 32
          · rw [if_pos e4] at q
            subst q; exact Or.inr (Or.inr (Or.inr (Or.inr (Or.inr (Or.inr (Or.inr (Or.inr (⟨rfl, by omega⟩))))))))
          · rw [if_neg e4] at q
            by_cases e5 : a ≤ 36
            · rw [if_pos e5] at q
              subst q; exact Or.inl (rfl)
            · rw [if_neg e5] at q
              by_cases e6 : a = 37
              · rw [if_pos e6] at q
                by_cases d0 : 13 ≤ i
                · rw [if_pos d0] at q
                  subst q; exact Or.inr (Or.inr (Or.inr (Or.inr (Or.inr (Or.inr (Or.inr (Or.inl (⟨rfl, by omega⟩))))))))
                · rw [if_neg d0] at q
                  subst q; exact Or.inl (rfl)
              · rw [if_neg e6] at q
                by_cases e7 : a ≤ 42
                · rw [if_pos e7] at q
                  subst q; exact Or.inl (rfl)
                · rw [if_neg e7] at q
                  by_cases e8 : a = 43
                  · rw [if_pos e8] at q
                    subst q; exact Or.inr (Or.inr (Or.inr (Or.inr (Or.inr (Or.inr (Or.inr (Or.inl (⟨rfl, by omega⟩))))))))
                  · rw [if_neg e8] at q
                    by_cases e9 : a ≤ 45
                    · rw [if_pos e9] at q
                      subst q; exact Or.inl (rfl)
                    · rw [if_neg e9] at q
                      by_cases e10 : a = 46
                      · rw [if_pos e10] at q
                        by_cases d0 : i = 1
                        · rw [if_pos d0] at q
                          subst q; exact Or.inr (Or.inr (Or.inr (Or.inr (Or.inl (⟨rfl, by omega⟩)))))
                        · rw [if_neg d0] at q
                          subst q; exact Or.inl (rfl)
                      · rw [if_neg e10] at q
                        by_cases e11 : a = 47
                        · rw [if_pos e11] at q
                          subst q; exact Or.inr (Or.inr (Or.inr (Or.inr (Or.inl (⟨rfl, by omega⟩)))))
                        · rw [if_neg e11] at q
                          by_cases e12 : a ≤ 49
                          · rw [if_pos e12] at q
                            subst q; exact Or.inr (Or.inr (Or.inr (Or.inr (Or.inr (Or.inl (⟨rfl, by omega⟩))))))
                          · rw [if_neg e12] at q
                            by_cases e13 : a ≤ 121
                            · rw [if_pos e13] at q
                              subst q; exact Or.inr (Or.inr (Or.inr (Or.inl (⟨rfl, by omega⟩))))
                            · rw [if_neg e13] at q
                              by_cases e14 : a ≤ 133
                              · rw [if_pos e14] at q
                                subst q; exact Or.inr (Or.inr (Or.inr (Or.inr (Or.inr (Or.inr (Or.inl (⟨rfl, by omega⟩)))))))
                              · rw [if_neg e14] at q
                                subst q; exact Or.inl (rfl)
theorem DTb.ag {h h' : Hp} {T : Tb} (H : DTb h 1 T) (A : AgD 1 h h') : DTb h' 1 T := H.fr (fun a h1 h2 => funext fun i => A a i (rgD_1 (by omega) (by omega)))
theorem DTb.ag9 {h h' : Hp} {T : Tb} (H : DTb h 9 T) (A : AgD 3 h h') : DTb h' 9 T := H.fr (fun a h1 h2 => funext fun i => A a i (rgD_3 (by omega) (by omega)))
theorem DHs.ag {h h' : Hp} {q : Nat} {V : Hv} (H : DHs h q V) (A : AgD 4 h h') (h1 : 50 ≤ q) (h2 : q + 7 ≤ 121) : DHs h' q V := H.eq (fun a y1 y2 => funext fun i => A a i (rgD_4 (by omega) (by omega)))
theorem DTx.ag {h h' : Hp} {X : Tx} (H : DTx h X) (A : AgD 5 h h') : DTx h' X := ⟨by rw [A _ _ rfl]; exact H.1, fun j hj => by rw [A _ _ rfl]; exact H.2 j hj⟩
theorem DAc.ag {h h' : Hp} {tr : List Nat} (H : DAc h tr) (A : AgD 6 h h') : DAc h' tr := ⟨by rw [A _ _ rfl]; exact H.1, fun j b hj hb => by rw [A _ _ rfl]; exact H.2 j b hj hb⟩
theorem DTp.ag {h h' : Hp} {P : Tp} (H : DTp h P) (A : AgD 7 h h') (B : ∀ a i, 122 ≤ a → a ≤ 133 → h'.2.1 a i = h.2.1 a i) : DTp h' P := fun t ht => by
  obtain ⟨a1, a2, a3⟩ := H t ht
  exact ⟨by rw [A _ _ (rgD_7 (by omega) (by omega))]; exact a1, by rw [A _ _ (rgD_7 (by omega) (by omega))]; exact a2, fun k hk => by rw [B _ _ (by omega) (by omega)]; exact a3 k hk⟩
theorem EvT.ag {h h' : Hp} (H : EvT h) (A : AgD 9 h h') (B : h'.2.2 37 8 = h.2.2 37 8) : EvT h' := ⟨by rw [B]; exact H.1, by rw [A _ _ rfl]; exact H.2⟩
theorem hcell_in {k : Nat} (hk : k ≤ 6) : 50 ≤ hcell k ∧ hcell k + 7 ≤ 121 := by
  rw [hcell]
  split <;> omega
theorem DIc.ag {h h' : Hp} {n q : Nat} {V : Hv} {T : Tb} (C : DIc h n q V T) (A : AgD 1 h h') (B : AgD 4 h h') (E : AgD 8 h h') : DIc h' n q V T := by
  obtain ⟨c1, c2, c3, ⟨c4, c5, c6, c7⟩, c8, ⟨d1, d2, d3⟩, ⟨e1, e2⟩, c11⟩ := C
  have := hcell_in (k := T.1 7 5) (by omega)
  exact ⟨c1.ag A, c2, c3, ⟨by rw [B _ _ rfl]; exact c4, c5, c6, c7⟩, c8.ag B (by omega) (by omega), ⟨by rw [E _ _ rfl]; exact d1, d2, by rw [E _ _ rfl]; exact d3⟩, ⟨by rw [E _ _ rfl]; exact e1, by rw [E _ _ rfl]; exact e2⟩, fun e he => by rw [E _ _ rfl]; exact c11 e he⟩
def RD (h : Hp) (T : Tb) (im : Option Tb) (n : Nat) (hs : Nat → List Cz) (X : Tx) (tr : List Nat) (P : Tp) : Prop :=
  DIc h n (hcell (T.1 7 5)) (VS hs T) T ∧ (h.1 0 12 = b01 im.isSome ∧ ∀ U, im = some U → DTb h 9 U) ∧ ((∀ f, f < n → DHs h (50 + 8 * f) (hvOf (hs f))) ∧ DHs h 98 (hvOf [])) ∧ DTx h X ∧ DAc h tr ∧ DTp h P ∧ EvT h
/-- what the reference does leaves it -/
theorem RD.out {h h' : Hp} {T : Tb} {im : Option Tb} {n : Nat} {hs : Nat → List Cz} {X : Tx} {tr : List Nat} {P : Tp} (H : RD h T im n hs X tr P) (hn : n ≤ 6) (A : ∀ a i, a < 134 → h'.1 a i = h.1 a i) (B : ∀ a i, a < 134 → h'.2.1 a i = h.2.1 a i) (C : h'.2.2 = h.2.2) : RD h' T im n hs X tr P := by
  have Z : ∀ k, 0 < k → AgD k h h' := fun k hk a i q => A a i (by have := rgD_out q; omega)
  obtain ⟨r1, ⟨r2, r3⟩, ⟨r4, r5⟩, r6, r7, r8, r9⟩ := H
  exact ⟨r1.ag (Z 1 (by omega)) (Z 4 (by omega)) (Z 8 (by omega)), ⟨by rw [A _ _ (by omega)]; exact r2, fun U hU => (r3 U hU).ag9 (Z 3 (by omega))⟩, ⟨fun f hf => (r4 f hf).ag (Z 4 (by omega)) (by omega) (by omega), r5.ag (Z 4 (by omega)) (by omega) (by omega)⟩, r6.ag (Z 5 (by omega)), r7.ag (Z 6 (by omega)), r8.ag (Z 7 (by omega)) (fun a i h1 h2 => B a i (by omega)), r9.ag (Z 9 (by omega)) (by rw [C])⟩
theorem mn_ag {h h' : Hp} (F : Fx mnF h h') {k : Nat} (h0 : 1 < k) (h8 : ¬ k = 8) : AgD k h h' := fun a i q => F.1 a i (by
  have := rgD_out q
  simp only [mnF, asF, Bool.or_eq_false_iff, Bool.and_eq_false_iff, beq_eq_false_iff_ne, ne_eq, decide_eq_false_iff_not]
  omega)
theorem rd_ag {h h' : Hp} (F : Fr rdF h h') {k : Nat} (h0 : 0 < k) (h8 : ¬ k = 5) : AgD k h h' := fun a i q => F.1 a i (by
  have := rgD_out q
  simp only [rdF, Bool.or_eq_false_iff, Bool.and_eq_false_iff, beq_eq_false_iff_ne, ne_eq, decide_eq_false_iff_not]
  omega)
theorem dim_ag {h h' : Hp} (F : Fr (fun a i => tbF 9 a i || (a == 0 && i == 12)) h h') {k : Nat} (h0 : 0 < k) (h8 : ¬ k = 3) : AgD k h h' := fun a i q => F.1 a i (by
  have := rgD_out q
  simp only [tbF, Bool.or_eq_false_iff, Bool.and_eq_false_iff, beq_eq_false_iff_ne, ne_eq, decide_eq_false_iff_not]
  omega)
theorem no_ag {h h' : Hp} (F : Fr noF h h') {k : Nat} (h0 : 1 < k) : AgD k h h' := fun a i q => F.1 a i (by
  have := rgD_out q
  simp only [noF, Bool.and_eq_false_iff, decide_eq_false_iff_not]
  omega)
theorem dv_ag {h h' : Hp} (F : Fr dvF h h') {k : Nat} (h0 : 0 < k) (h8 : ¬ k = 6) : AgD k h h' := fun a i q => F.1 a i (by
  have := rgD_out q
  simp only [dvF, Bool.or_eq_false_iff, Bool.and_eq_false_iff, beq_eq_false_iff_ne, ne_eq, decide_eq_false_iff_not]
  omega)
theorem frt_ag {h h' : Hp} (F : FrT h h') {k : Nat} (h0 : 0 < k) (h8 : ¬ k = 7) : AgD k h h' := fun a i q => F.1 a i (by have := rgD_out q; omega)
theorem EvT.mn {h h' : Hp} (H : EvT h) (F : Fx mnF h h') : EvT h' := by
  refine ⟨?_, by rw [F.1 _ _ rfl]; exact H.2⟩
  rcases F.2.2 with e | e | e
  · rw [e]; exact H.1
  · rw [e]; exact Or.inl rfl
  · rw [e]; exact Or.inr (Or.inl rfl)
/-- an ask, or a change of the table -/
theorem RD.scr {h h' : Hp} {T T' : Tb} {im : Option Tb} {n : Nat} {hs : Nat → List Cz} {X : Tx} {tr : List Nat} {P : Tp} (H : RD h T im n hs X tr P) (F : Fx mnF h h') (C : DIc h' n (hcell (T.1 7 5)) (VS hs T) T') (h5 : T'.1 7 5 = T.1 7 5) : RD h' T' im n hs X tr P := by
  obtain ⟨r1, ⟨r2, r3⟩, ⟨r4, r5⟩, r6, r7, r8, r9⟩ := H
  have e2 : VS hs T' = VS hs T := by rw [VS, VS, h5]
  have hn : n ≤ 6 := r1.2.2.2.1.2.1
  exact ⟨by rw [h5, e2]; exact C, ⟨by rw [F.1 _ _ rfl]; exact r2, fun U hU => (r3 U hU).ag9 (mn_ag F (by omega) (by omega))⟩, ⟨fun f hf => (r4 f hf).ag (mn_ag F (by omega) (by omega)) (by omega) (by omega), r5.ag (mn_ag F (by omega) (by omega)) (by omega) (by omega)⟩, r6.ag (mn_ag F (by omega) (by omega)), r7.ag (mn_ag F (by omega) (by omega)), r8.ag (mn_ag F (by omega) (by omega)) (fun a i _ _ => by rw [F.2.1]), r9.mn F⟩
theorem RD.ask {h h' : Hp} {T : Tb} {im : Option Tb} {n : Nat} {hs : Nat → List Cz} {X : Tx} {tr : List Nat} {P : Tp} (H : RD h T im n hs X tr P) (F : Fx asF h h') (C : DIc h' n (hcell (T.1 7 5)) (VS hs T) T) : RD h' T im n hs X tr P := H.scr (as_mn F) C rfl
theorem RD.fd {h h' : Hp} {T : Tb} {im : Option Tb} {n : Nat} {hs : Nat → List Cz} {X X' : Tx} {tr : List Nat} {P : Tp} (H : RD h T im n hs X tr P) (F : Fr rdF h h') (C : DTx h' X') : RD h' T im n hs X' tr P := by
  obtain ⟨r1, ⟨r2, r3⟩, ⟨r4, r5⟩, r6, r7, r8, r9⟩ := H
  have hn : n ≤ 6 := r1.2.2.2.1.2.1
  exact ⟨r1.ag (rd_ag F (by omega) (by omega)) (rd_ag F (by omega) (by omega)) (rd_ag F (by omega) (by omega)), ⟨by rw [F.1 _ _ rfl]; exact r2, fun U hU => (r3 U hU).ag9 (rd_ag F (by omega) (by omega))⟩, ⟨fun f hf => (r4 f hf).ag (rd_ag F (by omega) (by omega)) (by omega) (by omega), r5.ag (rd_ag F (by omega) (by omega)) (by omega) (by omega)⟩, C, r7.ag (rd_ag F (by omega) (by omega)), r8.ag (rd_ag F (by omega) (by omega)) (fun a i _ _ => by rw [F.2]), r9.ag (rd_ag F (by omega) (by omega)) (by rw [F.2])⟩
theorem RD.im {h h' : Hp} {T U : Tb} {im : Option Tb} {n : Nat} {hs : Nat → List Cz} {X : Tx} {tr : List Nat} {P : Tp} (H : RD h T im n hs X tr P) (F : Fr (fun a i => tbF 9 a i || (a == 0 && i == 12)) h h') (C : DTb h' 9 U) (c2 : h'.1 0 12 = 1) : RD h' T (some U) n hs X tr P := by
  obtain ⟨r1, ⟨r2, r3⟩, ⟨r4, r5⟩, r6, r7, r8, r9⟩ := H
  have hn : n ≤ 6 := r1.2.2.2.1.2.1
  exact ⟨r1.ag (dim_ag F (by omega) (by omega)) (dim_ag F (by omega) (by omega)) (dim_ag F (by omega) (by omega)), ⟨c2, fun W hW => by cases hW; exact C⟩, ⟨fun f hf => (r4 f hf).ag (dim_ag F (by omega) (by omega)) (by omega) (by omega), r5.ag (dim_ag F (by omega) (by omega)) (by omega) (by omega)⟩, r6.ag (dim_ag F (by omega) (by omega)), r7.ag (dim_ag F (by omega) (by omega)), r8.ag (dim_ag F (by omega) (by omega)) (fun a i _ _ => by rw [F.2]), r9.ag (dim_ag F (by omega) (by omega)) (by rw [F.2])⟩
theorem RD.act {h h' : Hp} {T : Tb} {im : Option Tb} {n : Nat} {hs : Nat → List Cz} {X : Tx} {tr tr' : List Nat} {P : Tp} (H : RD h T im n hs X tr P) (F : Fr dvF h h') (C : DAc h' tr') : RD h' T im n hs X tr' P := by
  obtain ⟨r1, ⟨r2, r3⟩, ⟨r4, r5⟩, r6, r7, r8, r9⟩ := H
  have hn : n ≤ 6 := r1.2.2.2.1.2.1
  exact ⟨r1.ag (dv_ag F (by omega) (by omega)) (dv_ag F (by omega) (by omega)) (dv_ag F (by omega) (by omega)), ⟨by rw [F.1 _ _ rfl]; exact r2, fun U hU => (r3 U hU).ag9 (dv_ag F (by omega) (by omega))⟩, ⟨fun f hf => (r4 f hf).ag (dv_ag F (by omega) (by omega)) (by omega) (by omega), r5.ag (dv_ag F (by omega) (by omega)) (by omega) (by omega)⟩, r6.ag (dv_ag F (by omega) (by omega)), C, r8.ag (dv_ag F (by omega) (by omega)) (fun a i _ _ => by rw [F.2]), r9.ag (dv_ag F (by omega) (by omega)) (by rw [F.2])⟩
theorem RD.tp {h h' : Hp} {T : Tb} {im : Option Tb} {n : Nat} {hs : Nat → List Cz} {X : Tx} {tr : List Nat} {P P' : Tp} (H : RD h T im n hs X tr P) (F : FrT h h') (C : DTp h' P') : RD h' T im n hs X tr P' := by
  obtain ⟨r1, ⟨r2, r3⟩, ⟨r4, r5⟩, r6, r7, r8, r9⟩ := H
  have hn : n ≤ 6 := r1.2.2.2.1.2.1
  exact ⟨r1.ag (frt_ag F (by omega) (by omega)) (frt_ag F (by omega) (by omega)) (frt_ag F (by omega) (by omega)), ⟨by rw [F.1 _ _ (Or.inl (by omega))]; exact r2, fun U hU => (r3 U hU).ag9 (frt_ag F (by omega) (by omega))⟩, ⟨fun f hf => (r4 f hf).ag (frt_ag F (by omega) (by omega)) (by omega) (by omega), r5.ag (frt_ag F (by omega) (by omega)) (by omega) (by omega)⟩, r6.ag (frt_ag F (by omega) (by omega)), r7.ag (frt_ag F (by omega) (by omega)), C, r9.ag (frt_ag F (by omega) (by omega)) (by rw [F.2.2])⟩
