/-! the reference: houses, undo -/
theorem getD_of {L : List Cz} {c : Nat} {z : Cz} (h : L[c]? = some z) : L.getD c (0, 0, []) = z := by
  rw [List.getD_eq_getElem?_getD, h]; rfl
theorem RHs.ofLs {h : Hp} {n : Nat} {hs : Nat → List Cz} {U : Tb} (H : ∀ f, f < n → RLs h f (hs f) ∧ h.1 142 f = nI (hs f).length) (hl : ∀ f, f < n → 0 < (hs f).length ∧ (hs f).length ≤ 10) (h1 : U.1 7 5 ≤ n) (h2 : n ≤ 6) (ht : h.1 134 11 = nI (U.1 7 5) - 1) : RHs h (baS U) (VS hs U) := by
  by_cases h0 : U.1 7 5 = 0
  · rw [baS, if_pos h0, VS, if_pos h0]
    rw [h0] at ht
    exact ⟨Or.inl ⟨ht, rfl, rfl⟩, ⟨Nat.zero_le _, fun c hc => absurd hc (Nat.not_lt_zero _)⟩, fun c hc => absurd hc (Nat.not_lt_zero _)⟩
  · rw [baS, if_neg h0, VS, if_neg h0]
    obtain ⟨f, hf⟩ : ∃ f, U.1 7 5 = f + 1 := ⟨U.1 7 5 - 1, by omega⟩
    rw [hf, nI_pred] at ht
    rw [hf, Nat.add_sub_cancel]
    obtain ⟨H1, H2⟩ := H f (by omega)
    obtain ⟨l1, l2⟩ := hl f (by omega)
    have key : ∀ c, c < (hs f).length → ∃ z, (hs f)[c]? = some z ∧ (hs f).getD c (0, 0, []) = z := fun c hc => ⟨(hs f)[c], List.getElem?_eq_getElem hc, getD_of (List.getElem?_eq_getElem hc)⟩
    refine ⟨Or.inr ⟨f, by omega, ht, rfl, H2⟩, ⟨l2, fun c hc => ?_⟩, fun c hc => ?_⟩
    · obtain ⟨z, z1, z2⟩ := key c hc
      show ((hs f).getD c (0, 0, [])).1 ≤ 4 ∧ ((hs f).getD c (0, 0, [])).2.1 ≤ 99
      rw [z2]
      exact (H1 c z z1).2
    · obtain ⟨z, z1, z2⟩ := key c hc
      show RCl h (10 * f + c) ((hs f).getD c (0, 0, [])).1 ((hs f).getD c (0, 0, [])).2.1 ((hs f).getD c (0, 0, [])).2.2
      rw [z2]
      obtain ⟨a1, a2, a3⟩ := (H1 c z z1).1
      refine ⟨a1, a2, fun y => ?_⟩
      obtain ⟨fr, b1, b2, b3, b4, b5, b6⟩ := a3 y
      exact ⟨fr, b2, b3, by omega, b5, b6⟩
theorem RIc.mk {h : Hp} {n : Nat} {hs : Nat → List Cz} {U : Tb} (R : RTb h U) (ok : TbOK U) (hd : U.1 7 2 ≤ 9999) (f1 : h.1 134 28 = 0) (f2 : h.1 134 29 = -1) (f3 : h.1 134 35 = -1) (H : ∀ f, f < n → RLs h f (hs f) ∧ h.1 142 f = nI (hs f).length) (hl : ∀ f, f < n → 0 < (hs f).length ∧ (hs f).length ≤ 10) (h1 : U.1 7 5 ≤ n) (h2 : n ≤ 6) (ht : h.1 134 11 = nI (U.1 7 5) - 1) : RIc h (baS U) (VS hs U) U :=
  ⟨⟨R, ok, RHs.ofLs H hl h1 h2 ht, ⟨f2, fun k q => by cases q⟩, f1⟩, f3, hd⟩
theorem RM.calm {h : Hp} {T : Tb} {im : Option Tb} {n : Nat} {hs : Nat → List Cz} {X : Tx} {tr : List Nat} {P : Tp} (H : RM h T im n hs X tr P) : h.1 134 28 = 0 ∧ h.1 134 29 = -1 ∧ h.1 134 35 = -1 := ⟨H.1.1.2.2.2.2, H.1.1.2.2.2.1.1, H.1.2.1⟩
theorem RM.un {h h' : Hp} {T U : Tb} {im : Option Tb} {n : Nat} {hs : Nat → List Cz} {X : Tx} {tr : List Nat} {P : Tp} (H : RM h T im n hs X tr P) (F : Fr unF h h') (R : RTb h' U) (B : RBk h' U) (ht : h'.1 134 11 = nI (U.1 7 5) - 1) (ok : TbOK U) (hd : U.1 7 2 ≤ 9999) (h1 : U.1 7 5 ≤ n) (h2 : n ≤ 6) (hl : ∀ f, f < n → 0 < (hs f).length ∧ (hs f).length ≤ 10) : RM h' U im n hs X tr P := by
  obtain ⟨f1, f2, f3⟩ := H.calm
  obtain ⟨r1, ⟨r2, r3⟩, ⟨r4, r5⟩, ⟨r6, r7⟩, r8, r9, r10, r11⟩ := H
  have L : ∀ f, f < n → RLs h' f (hs f) ∧ h'.1 142 f = nI (hs f).length := fun f hf => ⟨(r7 f hf).1.ag (un_ag F (by omega)), by rw [F.1 _ _ rfl]; exact (r7 f hf).2⟩
  exact ⟨RIc.mk R ok hd (by rw [F.1 _ _ rfl]; exact f1) (by rw [F.1 _ _ rfl]; exact f2) (by rw [F.1 _ _ rfl]; exact f3) L hl h1 h2 ht, ⟨B, ht⟩, ⟨by rw [F.1 _ _ rfl]; exact r4, fun W hW => (r5 W hW).ag (un_ag F (by omega))⟩, ⟨by rw [F.1 _ _ rfl]; exact r6, L⟩, r8.ag (un_ag F (by omega)), r9.ag (un_ag F (by omega)), r10.ag (un_ag F (by omega)) (fun i => by rw [F.2]), r11.ag (un_ag F (by omega))⟩
theorem RCx.ho {h h' : Hp} {f n c : Nat} {z : Cz} (H : RCx h c (100 * f) (100 * f + 100) z) (F : Fr (hoF n) h h') (hf : f < n) (hc : c < 10 * f + 10) : RCx h' c (100 * f) (100 * f + 100) z := by
  obtain ⟨a1, a2, a3⟩ := H
  have w : ∀ a, (a = 143 ∨ a = 144 ∨ a = 145 ∨ a = 146) → h'.1 a c = h.1 a c := fun a ha => F.1 _ _ (by
    simp only [hoF, gtF, Bool.or_eq_false_iff, Bool.and_eq_false_iff, beq_eq_false_iff_ne, ne_eq, decide_eq_false_iff_not]
    omega)
  refine ⟨by rw [w _ (by omega)]; exact a1, by rw [w _ (by omega)]; exact a2, fun y => ?_⟩
  obtain ⟨fr, b1, b2, b3, b4, b5, b6⟩ := a3 y
  refine ⟨fr, b1, by rw [w _ (by omega)]; exact b2, by rw [w _ (by omega)]; exact b3, b4, fun j t q => ?_, b6⟩
  have hj : j < z.2.2.length := (List.getElem?_eq_some_iff.mp q).1
  rw [F.1 _ _ (by
    simp only [hoF, gtF, Bool.or_eq_false_iff, Bool.and_eq_false_iff, beq_eq_false_iff_ne, ne_eq, decide_eq_false_iff_not]
    omega)]
  exact b5 j t q
theorem RLs.ho {h h' : Hp} {f n : Nat} {L : List Cz} (H : RLs h f L) (F : Fr (hoF n) h h') (hf : f < n) (hl : L.length ≤ 10) : RLs h' f L := fun c z q => ⟨(H c z q).1.ho F hf (by have := (List.getElem?_eq_some_iff.mp q).1; omega), (H c z q).2⟩
theorem RTb.ho {h h' : Hp} {n : Nat} {T : Tb} (H : RTb h T) (F : Fr (hoF n) h h') : RTb h' T := by
  obtain ⟨a1, a2, a3, a4, a5⟩ := H
  have w : ∀ a i, (135 ≤ a ∧ a ≤ 140) ∨ (a = 134 ∧ i ≤ 3) → h'.1 a i = h.1 a i := fun a i ha => F.1 _ _ (by
    simp only [hoF, gtF, Bool.or_eq_false_iff, Bool.and_eq_false_iff, beq_eq_false_iff_ne, ne_eq, decide_eq_false_iff_not]
    omega)
  refine ⟨by rw [w _ _ (by omega)]; exact a1, by rw [w _ _ (by omega)]; exact a2, by rw [w _ _ (by omega)]; exact a3, by rw [w _ _ (by omega)]; exact a4, fun e he => ?_⟩
  obtain ⟨s1, s2, s3, s4, s5, s6⟩ := a5 e he
  exact ⟨by rw [w _ _ (by omega)]; exact s1, by rw [w _ _ (by omega)]; exact s2, by rw [w _ _ (by omega)]; exact s3, by rw [w _ _ (by omega)]; exact s4, by rw [w _ _ (by omega)]; exact s5, fun p hp => by rw [w _ _ (by omega)]; exact s6 p hp⟩
/-- what the reading of a house leaves, whether it stood or not -/
theorem RM.hoN {h h' : Hp} {T : Tb} {im : Option Tb} {n : Nat} {hs : Nat → List Cz} {X X' : Tx} {tr : List Nat} {P : Tp} (H : RM h T im n hs X tr P) (F : Fr (hoF n) h h') (hX : RTx h' X') (ht : h'.1 134 11 = h.1 134 11) (hn : h'.1 134 10 = nI n) (ok : TbOK T) (hd : T.1 7 2 ≤ 9999) (h1 : T.1 7 5 ≤ n) (h2 : n ≤ 6) (hl : ∀ f, f < n → 0 < (hs f).length ∧ (hs f).length ≤ 10) : RM h' T im n hs X' tr P := by
  obtain ⟨f1, f2, f3⟩ := H.calm
  obtain ⟨r1, ⟨r2, r3⟩, ⟨r4, r5⟩, ⟨r6, r7⟩, r8, r9, r10, r11⟩ := H
  have c : ∀ f, f < n → h'.1 142 f = h.1 142 f := fun f hf => F.1 _ _ (by
    simp only [hoF, gtF, Bool.or_eq_false_iff, Bool.and_eq_false_iff, beq_eq_false_iff_ne, ne_eq, decide_eq_false_iff_not]
    omega)
  have L : ∀ f, f < n → RLs h' f (hs f) ∧ h'.1 142 f = nI (hs f).length := fun f hf => ⟨(r7 f hf).1.ho F hf (hl f hf).2, by rw [c f hf]; exact (r7 f hf).2⟩
  have w : ∀ i, (i = 28 ∨ i = 29 ∨ i = 35 ∨ i = 46) → h'.1 134 i = h.1 134 i := fun i hi => F.1 _ _ (by
    simp only [hoF, gtF, Bool.or_eq_false_iff, Bool.and_eq_false_iff, beq_eq_false_iff_ne, ne_eq, decide_eq_false_iff_not]
    omega)
  exact ⟨RIc.mk (r1.1.1.ho F) ok hd (by rw [w _ (by omega)]; exact f1) (by rw [w _ (by omega)]; exact f2) (by rw [w _ (by omega)]; exact f3) L hl h1 h2 (by rw [ht]; exact r3), ⟨r2.ag (ho_ag F (by omega) (by omega) (by omega) (by omega)), by rw [ht]; exact r3⟩, ⟨by rw [w _ (by omega)]; exact r4, fun W hW => (r5 W hW).ag (ho_ag F (by omega) (by omega) (by omega) (by omega))⟩, ⟨hn, L⟩, hX, r9.ag (ho_ag F (by omega) (by omega) (by omega) (by omega)), r10.ag (ho_ag F (by omega) (by omega) (by omega) (by omega)) (fun i => by rw [F.2]), r11.ag (ho_ag F (by omega) (by omega) (by omega) (by omega))⟩
theorem RM.hoY {h h' : Hp} {T : Tb} {im : Option Tb} {n : Nat} {hs : Nat → List Cz} {X X' : Tx} {tr : List Nat} {P : Tp} {L0 : List Cz} (H : RM h T im n hs X tr P) (F : Fr (hoF n) h h') (hX : RTx h' X') (ht : h'.1 134 11 = nI n) (hn : h'.1 134 10 = nI (n + 1)) (L1 : RLs h' n L0) (L2 : h'.1 142 n = nI L0.length) (l3 : 0 < L0.length) (l4 : L0.length ≤ 10) (ok : TbOK T) (hd : T.1 7 2 ≤ 9999) (h2 : n < 6) (hl : ∀ f, f < n → 0 < (hs f).length ∧ (hs f).length ≤ 10) : RM h' (setT T 7 5 (n + 1)) im (n + 1) (fun f => if f = n then L0 else hs f) X' tr P := by
  obtain ⟨f1, f2, f3⟩ := H.calm
  obtain ⟨r1, ⟨r2, r3⟩, ⟨r4, r5⟩, ⟨r6, r7⟩, r8, r9, r10, r11⟩ := H
  have c : ∀ f, f < n → h'.1 142 f = h.1 142 f := fun f hf => F.1 _ _ (by
    simp only [hoF, gtF, Bool.or_eq_false_iff, Bool.and_eq_false_iff, beq_eq_false_iff_ne, ne_eq, decide_eq_false_iff_not]
    omega)
  have L : ∀ f, f < n + 1 → RLs h' f (if f = n then L0 else hs f) ∧ h'.1 142 f = nI (if f = n then L0 else hs f).length := fun f hf => by
    by_cases hfn : f = n
    · subst hfn
      rw [if_pos rfl]
      exact ⟨L1, L2⟩
    · rw [if_neg hfn]
      exact ⟨(r7 f (by omega)).1.ho F (by omega) (hl f (by omega)).2, by rw [c f (by omega)]; exact (r7 f (by omega)).2⟩
  have hl' : ∀ f, f < n + 1 → 0 < (if f = n then L0 else hs f).length ∧ (if f = n then L0 else hs f).length ≤ 10 := fun f hf => by
    by_cases hfn : f = n
    · rw [if_pos hfn]; exact ⟨l3, l4⟩
    · rw [if_neg hfn]; exact hl f (by omega)
  have w : ∀ i, (i = 28 ∨ i = 29 ∨ i = 35 ∨ i = 46) → h'.1 134 i = h.1 134 i := fun i hi => F.1 _ _ (by
    simp only [hoF, gtF, Bool.or_eq_false_iff, Bool.and_eq_false_iff, beq_eq_false_iff_ne, ne_eq, decide_eq_false_iff_not]
    omega)
  have q2 := r2.ag (ho_ag F (k := 2) (by omega) (by omega) (by omega) (by omega))
  have e : ∀ k x, ¬ (k = 7 ∧ x = 5) → (setT T 7 5 (n + 1)).1 k x = T.1 k x := fun k x q => if_neg q
  have e5 : (setT T 7 5 (n + 1)).1 7 5 = n + 1 := by
    show (if (7 : Nat) = 7 ∧ (5 : Nat) = 5 then n + 1 else T.1 7 5) = n + 1
    exact if_pos ⟨rfl, rfl⟩
  have ok' : TbOK (setT T 7 5 (n + 1)) := by
    obtain ⟨t1, t2, t3, t4, t5, t6, t7, t8, t9⟩ := ok
    refine ⟨by rw [e _ _ (by omega)]; exact t1, by rw [e _ _ (by omega)]; exact t2, by rw [e _ _ (by omega)]; exact t3, by rw [e _ _ (by omega), e _ _ (by omega)]; exact t4, by rw [e _ _ (by omega)]; exact t5, by rw [e5]; omega, fun x => ?_, fun k => by rw [e _ _ (by omega)]; exact t8 k, fun b => by rw [e _ _ (by omega)]; exact t9 b⟩
    rw [e _ _ (by omega), e _ _ (by omega), e _ _ (by omega), e _ _ (by omega)]
    exact t7 x
  have R' : RTb h' (setT T 7 5 (n + 1)) := by
    obtain ⟨a1, a2, a3, a4, a5⟩ := r1.1.1.ho F
    refine ⟨by rw [e _ _ (by omega)]; exact a1, by rw [e _ _ (by omega)]; exact a2, by rw [e _ _ (by omega)]; exact a3, by rw [e _ _ (by omega)]; exact a4, fun x hx => ?_⟩
    rw [e _ _ (by omega)] at hx
    obtain ⟨s1, s2, s3, s4, s5, s6⟩ := a5 x hx
    exact ⟨by rw [e _ _ (by omega)]; exact s1, by rw [e _ _ (by omega)]; exact s2, by rw [e _ _ (by omega)]; exact s3, by rw [e _ _ (by omega)]; exact s4, s5, fun p hp => by rw [e _ _ (by omega)]; exact s6 p hp⟩
  have ht' : h'.1 134 11 = nI ((setT T 7 5 (n + 1)).1 7 5) - 1 := by rw [e5, nI_pred]; exact ht
  exact ⟨RIc.mk R' ok' (by rw [e _ _ (by omega)]; exact hd) (by rw [w _ (by omega)]; exact f1) (by rw [w _ (by omega)]; exact f2) (by rw [w _ (by omega)]; exact f3) L hl' (by rw [e5]; omega) (by omega) ht', ⟨⟨by rw [e _ _ (by omega)]; exact q2.1, fun k hk => by rw [e _ _ (by omega)] at hk; rw [e _ _ (by omega)]; exact q2.2 k hk⟩, ht'⟩, ⟨by rw [w _ (by omega)]; exact r4, fun W hW => (r5 W hW).ag (ho_ag F (by omega) (by omega) (by omega) (by omega))⟩, ⟨hn, L⟩, hX, r9.ag (ho_ag F (by omega) (by omega) (by omega) (by omega)), r10.ag (ho_ag F (by omega) (by omega) (by omega) (by omega)) (fun i => by rw [F.2]), r11.ag (ho_ag F (by omega) (by omega) (by omega) (by omega))⟩
