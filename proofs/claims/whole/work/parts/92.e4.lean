/-! the class: houses, undo -/
theorem DHs.ofLs {h : Hp} {n : Nat} {hs : Nat → List Cz} {U : Tb} (H : ∀ f, f < n → DHs h (50 + 8 * f) (hvOf (hs f))) (H0 : DHs h 98 (hvOf [])) (h1 : U.1 7 5 ≤ n) : DHs h (hcell (U.1 7 5)) (VS hs U) := by
  by_cases h0 : U.1 7 5 = 0
  · rw [VS, if_pos h0, h0]
    exact H0
  · obtain ⟨f, hf⟩ : ∃ f, U.1 7 5 = f + 1 := ⟨U.1 7 5 - 1, by omega⟩
    rw [VS, if_neg h0, hcell, if_neg h0, hf, Nat.add_sub_cancel, show 42 + 8 * (f + 1) = 50 + 8 * f by omega]
    exact H f (by omega)
theorem RD.un {h h' : Hp} {T U : Tb} {im : Option Tb} {n : Nat} {hs : Nat → List Cz} {X : Tx} {tr : List Nat} {P : Tp} (H : RD h T im n hs X tr P) (F : Fr noF h h') (R : DTb h' 1 U) (ok : TbOK U) (hd : U.1 7 2 ≤ 9999) (h1 : U.1 7 5 ≤ n) : RD h' U im n hs X tr P := by
  obtain ⟨r1, ⟨r2, r3⟩, ⟨r4, r5⟩, r6, r7, r8, r9⟩ := H
  obtain ⟨c1, c2, c3, ⟨c4, c5, c6, c7⟩, c8, ⟨d1, d2, d3⟩, ⟨e1, e2⟩, c11⟩ := r1
  have q4 : ∀ f, f < n → DHs h' (50 + 8 * f) (hvOf (hs f)) := fun f hf => (r4 f hf).ag (no_ag F (by omega)) (by omega) (by omega)
  have q5 : DHs h' 98 (hvOf []) := r5.ag (no_ag F (by omega)) (by omega) (by omega)
  exact ⟨⟨R, ok, hd, ⟨by rw [F.1 _ _ rfl]; exact c4, c5, h1, rfl⟩, DHs.ofLs q4 q5 h1, ⟨by rw [F.1 _ _ rfl]; exact d1, d2, by rw [F.1 _ _ rfl]; exact d3⟩, ⟨by rw [F.1 _ _ rfl]; exact e1, by rw [F.1 _ _ rfl]; exact e2⟩, fun e he => by rw [F.1 _ _ rfl]; exact c11 e he⟩, ⟨by rw [F.1 _ _ rfl]; exact r2, fun W hW => (r3 W hW).ag9 (no_ag F (by omega))⟩, ⟨q4, q5⟩, r6.ag (no_ag F (by omega)), r7.ag (no_ag F (by omega)), r8.ag (no_ag F (by omega)) (fun a i _ _ => by rw [F.2]), r9.ag (no_ag F (by omega)) (by rw [F.2])⟩
def hoD (n : Nat) (h h' : Hp) : Prop := (∀ a i, dcF (50 + 8 * n) a i = false → ¬ (a = 46 ∧ i = 1) → ¬ (a = 0 ∧ i = 11) → ¬ (a = 1 ∧ i = 12) → h'.1 a i = h.1 a i) ∧ h'.2.1 = h.2.1 ∧ h'.2.2 37 8 = h.2.2 37 8
theorem hoD.at {n : Nat} {h h' : Hp} (F : hoD n h h') {a i : Nat} (hn : n < 6) (ha : ¬ (50 + 8 * n ≤ a ∧ a ≤ 57 + 8 * n)) (h1 : ¬ a = 46) (h2 : ¬ (a = 0 ∧ i = 11)) (h3 : ¬ (a = 1 ∧ i = 12)) : h'.1 a i = h.1 a i := F.1 a i (by
  simp only [dcF, dsF, dbF, dnF, daF, Bool.or_eq_false_iff, Bool.and_eq_false_iff, beq_eq_false_iff_ne, ne_eq, decide_eq_false_iff_not]
  omega) (by omega) h2 h3
theorem hoD.ag {n : Nat} {h h' : Hp} (F : hoD n h h') (hn : n < 6) {k : Nat} (h0 : 0 < k) (h1 : ¬ k = 1) (h4 : ¬ k = 4) (h5 : ¬ k = 5) : AgD k h h' := fun a i q => by
  have := rgD_out q
  exact F.at hn (by omega) (by omega) (by omega) (by omega)
theorem DTx.zero {h : Hp} {X : Tx} (e : h.1 46 1 = 0) : DTx h (0, X.2) := ⟨e, fun j hj => absurd hj (Nat.not_lt_zero _)⟩
theorem RTx.zero {h : Hp} {X : Tx} (e : h.1 134 12 = 0) : RTx h (0, X.2) := ⟨e, fun j hj => absurd hj (Nat.not_lt_zero _)⟩
theorem TxOK.zero {X : Tx} : TxOK (0, X.2) := ⟨Nat.zero_le _, fun j hj => absurd hj (Nat.not_lt_zero _)⟩
theorem RD.hoN {h h' : Hp} {T : Tb} {im : Option Tb} {n : Nat} {hs : Nat → List Cz} {X : Tx} {tr : List Nat} {P : Tp} (H : RD h T im n hs X tr P) (F : hoD n h h') (hn : n < 6) (hl : h'.1 46 1 = 0) (hc : h'.1 0 11 = nI n) (hh : h'.1 1 12 = h.1 1 12) : RD h' T im n hs (0, X.2) tr P := by
  obtain ⟨r1, ⟨r2, r3⟩, ⟨r4, r5⟩, r6, r7, r8, r9⟩ := H
  obtain ⟨c1, c2, c3, ⟨c4, c5, c6, c7⟩, c8, ⟨d1, d2, d3⟩, ⟨e1, e2⟩, c11⟩ := r1
  have w : ∀ a i, ((1 ≤ a ∧ a ≤ 45) ∨ (98 ≤ a)) → h'.1 a i = h.1 a i := fun a i ha => by
    by_cases z : a = 1 ∧ i = 12
    · obtain ⟨rfl, rfl⟩ := z; exact hh
    · exact F.at hn (by omega) (by omega) (by omega) z
  have q4 : ∀ f, f < n → DHs h' (50 + 8 * f) (hvOf (hs f)) := fun f hf => (r4 f hf).eq (fun a y1 y2 => funext fun i => F.at hn (by omega) (by omega) (by omega) (by omega))
  have q5 : DHs h' 98 (hvOf []) := r5.eq (fun a y1 y2 => funext fun i => w a i (by omega))
  exact ⟨⟨c1.fr (fun a y1 y2 => funext fun i => w a i (by omega)), c2, c3, ⟨hc, c5, c6, rfl⟩, DHs.ofLs q4 q5 c6, ⟨by rw [w _ _ (by omega)]; exact d1, d2, by rw [w _ _ (by omega)]; exact d3⟩, ⟨by rw [w _ _ (by omega)]; exact e1, by rw [w _ _ (by omega)]; exact e2⟩, fun e he => by rw [w _ _ (by omega)]; exact c11 e he⟩, ⟨by rw [F.at hn (by omega) (by omega) (by omega) (by omega)]; exact r2, fun W hW => (r3 W hW).ag9 (F.ag hn (by omega) (by omega) (by omega) (by omega))⟩, ⟨q4, q5⟩, DTx.zero hl, r7.ag (F.ag hn (by omega) (by omega) (by omega) (by omega)), r8.ag (F.ag hn (by omega) (by omega) (by omega) (by omega)) (fun a i _ _ => by rw [F.2.1]), r9.ag (F.ag hn (by omega) (by omega) (by omega) (by omega)) F.2.2⟩
theorem setH_e {T : Tb} {m k x : Nat} (q : ¬ (k = 7 ∧ x = 5)) : (setT T 7 5 m).1 k x = T.1 k x := if_neg q
theorem setH_5 {T : Tb} {m : Nat} : (setT T 7 5 m).1 7 5 = m := by
  show (if (7 : Nat) = 7 ∧ (5 : Nat) = 5 then m else T.1 7 5) = m
  exact if_pos ⟨rfl, rfl⟩
theorem setH_ok {T : Tb} {m : Nat} (ok : TbOK T) (hm : m ≤ 6) : TbOK (setT T 7 5 m) := by
  obtain ⟨t1, t2, t3, t4, t5, t6, t7, t8, t9⟩ := ok
  refine ⟨by rw [setH_e (by omega)]; exact t1, by rw [setH_e (by omega)]; exact t2, by rw [setH_e (by omega)]; exact t3, by rw [setH_e (by omega), setH_e (by omega)]; exact t4, by rw [setH_e (by omega)]; exact t5, by rw [setH_5]; exact hm, fun x => ?_, fun k => by rw [setH_e (by omega)]; exact t8 k, fun b => by rw [setH_e (by omega)]; exact t9 b⟩
  rw [setH_e (by omega), setH_e (by omega), setH_e (by omega), setH_e (by omega)]
  exact t7 x
theorem DTb.held {h h' : Hp} {T : Tb} {m : Nat} (H : DTb h 1 T) (w : ∀ a i, 1 ≤ a → a ≤ 8 → ¬ (a = 1 ∧ i = 12) → h'.1 a i = h.1 a i) (hh : h'.1 1 12 = nI m - 1) : DTb h' 1 (setT T 7 5 m) := by
  obtain ⟨⟨a1, a2, a3, a4, a5, a6⟩, b, c⟩ := H
  refine ⟨⟨by rw [w _ _ (by omega) (by omega) (by decide), setH_e (by omega)]; exact a1, by rw [w _ _ (by omega) (by omega) (by decide), setH_e (by omega)]; exact a2, by rw [w _ _ (by omega) (by omega) (by decide), setH_e (by omega)]; exact a3, by rw [w _ _ (by omega) (by omega) (by decide), setH_e (by omega)]; exact a4, by rw [w _ _ (by omega) (by omega) (by decide), setH_e (by omega)]; exact a5, by rw [setH_5]; exact hh⟩, fun e he => ⟨fun q => ?_, fun q => ?_⟩, fun k hk h12 => ?_⟩
  · rw [setH_e (by omega)] at q
    obtain ⟨s1, s2, s3, s4, s5, s6⟩ := (b e he).1 q
    exact ⟨by rw [w _ _ (by omega) (by omega) (by omega), setH_e (by omega)]; exact s1, by rw [w _ _ (by omega) (by omega) (by omega), setH_e (by omega)]; exact s2, by rw [w _ _ (by omega) (by omega) (by omega), setH_e (by omega)]; exact s3, by rw [w _ _ (by omega) (by omega) (by omega), setH_e (by omega)]; exact s4, by rw [w _ _ (by omega) (by omega) (by omega)]; exact s5, fun p hp => by rw [w _ _ (by omega) (by omega) (by omega), setH_e (by omega)]; exact s6 p hp⟩
  · rw [setH_e (by omega)] at q
    obtain ⟨s1, s2, s3⟩ := (b e he).2 q
    exact ⟨by rw [w _ _ (by omega) (by omega) (by omega)]; exact s1, by rw [w _ _ (by omega) (by omega) (by omega)]; exact s2, fun p hp => by rw [w _ _ (by omega) (by omega) (by omega)]; exact s3 p hp⟩
  · rw [setH_e (by omega)] at hk
    rw [w _ _ (by omega) (by omega) (by omega), setH_e (by omega)]
    exact c k hk h12
theorem RD.hoY {h h' : Hp} {T : Tb} {im : Option Tb} {n : Nat} {hs : Nat → List Cz} {X : Tx} {tr : List Nat} {P : Tp} {L0 : List Cz} (H : RD h T im n hs X tr P) (F : hoD n h h') (hn : n < 6) (hl : h'.1 46 1 = 0) (hc : h'.1 0 11 = nI (n + 1)) (hh : h'.1 1 12 = nI n) (D : DHs h' (50 + 8 * n) (hvOf L0)) : RD h' (setT T 7 5 (n + 1)) im (n + 1) (fun f => if f = n then L0 else hs f) (0, X.2) tr P := by
  obtain ⟨r1, ⟨r2, r3⟩, ⟨r4, r5⟩, r6, r7, r8, r9⟩ := H
  obtain ⟨c1, c2, c3, ⟨c4, c5, c6, c7⟩, c8, ⟨d1, d2, d3⟩, ⟨e1, e2⟩, c11⟩ := r1
  have w : ∀ a i, ((1 ≤ a ∧ a ≤ 45) ∨ (98 ≤ a)) → ¬ (a = 1 ∧ i = 12) → h'.1 a i = h.1 a i := fun a i ha z => F.at hn (by omega) (by omega) (by omega) z
  have q4 : ∀ f, f < n + 1 → DHs h' (50 + 8 * f) (hvOf (if f = n then L0 else hs f)) := fun f hf => by
    by_cases z : f = n
    · rw [if_pos z, z]; exact D
    · rw [if_neg z]; exact (r4 f (by omega)).eq (fun a y1 y2 => funext fun i => F.at hn (by omega) (by omega) (by omega) (by omega))
  have q5 : DHs h' 98 (hvOf []) := r5.eq (fun a y1 y2 => funext fun i => w a i (by omega) (by omega))
  have t5 : (setT T 7 5 (n + 1)).1 7 5 ≤ n + 1 := by rw [setH_5]; omega
  exact ⟨⟨c1.held (fun a i y1 y2 y3 => w a i (by omega) y3) (by rw [nI_pred]; exact hh), setH_ok c2 (by omega), by rw [setH_e (by omega)]; exact c3, ⟨hc, by omega, t5, rfl⟩, DHs.ofLs q4 q5 t5, ⟨by rw [w _ _ (by omega) (by omega)]; exact d1, d2, by rw [w _ _ (by omega) (by omega)]; exact d3⟩, ⟨by rw [w _ _ (by omega) (by omega)]; exact e1, by rw [w _ _ (by omega) (by omega)]; exact e2⟩, fun e he => by rw [w _ _ (by omega) (by omega)]; exact c11 e he⟩, ⟨by rw [F.at hn (by omega) (by omega) (by omega) (by omega)]; exact r2, fun W hW => (r3 W hW).ag9 (F.ag hn (by omega) (by omega) (by omega) (by omega))⟩, ⟨q4, q5⟩, DTx.zero hl, r7.ag (F.ag hn (by omega) (by omega) (by omega) (by omega)), r8.ag (F.ag hn (by omega) (by omega) (by omega) (by omega)) (fun a i _ _ => by rw [F.2.1]), r9.ag (F.ag hn (by omega) (by omega) (by omega) (by omega)) F.2.2⟩
