/-! THE WHOLE STATE, as the reference holds it: which cell belongs to which part of it -/
def rgM (a i : Nat) : Nat := if a < 134 then 0 else if a = 134 then (if i ≤ 3 ∨ i = 11 ∨ i = 28 ∨ i = 29 ∨ i = 35 ∨ i = 36 then 1 else if i = 44 then 2 else if 46 ≤ i ∧ i ≤ 52 then 3 else if i = 10 then 4 else if i = 12 then 5 else if i = 60 then 6 else 0)
  else if a ≤ 140 then 1 else if a = 141 then 5 else if a ≤ 147 then 4 else if a = 149 then 8 else if a = 159 then 2 else if a < 160 then 0 else if a ≤ 166 then 3 else if a = 167 then 6 else if a ≤ 169 then 7 else 0
def AgM (k : Nat) (h h' : Hp) : Prop := ∀ a i, rgM a i = k → h'.1 a i = h.1 a i
theorem RBk.ag {h h' : Hp} {T : Tb} (H : RBk h T) (A : AgM 2 h h') : RBk h' T := ⟨by rw [A _ _ rfl]; exact H.1, fun k hk => by rw [A _ _ rfl]; exact H.2 k hk⟩
theorem RIm.ag {h h' : Hp} {T : Tb} (H : RIm h T) (A : AgM 3 h h') : RIm h' T := by
  obtain ⟨a1, a2, a3, a4, a5, a6, a7, a8⟩ := H
  refine ⟨by rw [A _ _ rfl]; exact a1, by rw [A _ _ rfl]; exact a2, by rw [A _ _ rfl]; exact a3, by rw [A _ _ rfl]; exact a4, by rw [A _ _ rfl]; exact a5, by rw [A _ _ rfl]; exact a6, fun e he => ?_, fun k hk => by rw [A _ _ rfl]; exact a8 k hk⟩
  obtain ⟨s1, s2, s3, s4, s5, s6⟩ := a7 e he
  exact ⟨by rw [A _ _ rfl]; exact s1, by rw [A _ _ rfl]; exact s2, by rw [A _ _ rfl]; exact s3, by rw [A _ _ rfl]; exact s4, by rw [A _ _ rfl]; exact s5, fun p hp => by rw [A _ _ rfl]; exact s6 p hp⟩
theorem RCx.ag {h h' : Hp} {c lo hi : Nat} {z : Cz} (H : RCx h c lo hi z) (A : AgM 4 h h') : RCx h' c lo hi z := by
  obtain ⟨a1, a2, a3⟩ := H
  refine ⟨by rw [A _ _ rfl]; exact a1, by rw [A _ _ rfl]; exact a2, fun y => ?_⟩
  obtain ⟨fr, b1, b2, b3, b4, b5, b6⟩ := a3 y
  exact ⟨fr, b1, by rw [A _ _ rfl]; exact b2, by rw [A _ _ rfl]; exact b3, b4, fun j t q => by rw [A _ _ rfl]; exact b5 j t q, b6⟩
theorem RLs.ag {h h' : Hp} {f : Nat} {L : List Cz} (H : RLs h f L) (A : AgM 4 h h') : RLs h' f L := fun c z q => ⟨(H c z q).1.ag A, (H c z q).2⟩
theorem RTx.ag {h h' : Hp} {X : Tx} (H : RTx h X) (A : AgM 5 h h') : RTx h' X := ⟨by rw [A _ _ rfl]; exact H.1, fun j hj => by rw [A _ _ rfl]; exact H.2 j hj⟩
theorem RAc.ag {h h' : Hp} {tr : List Nat} (H : RAc h tr) (A : AgM 6 h h') : RAc h' tr := ⟨by rw [A _ _ rfl]; exact H.1, fun j b hj hb => by rw [A _ _ rfl]; exact H.2 j b hj hb⟩
theorem RTp.ag {h h' : Hp} {P : Tp} (H : RTp h P) (A : AgM 7 h h') (B : ∀ i, h'.2.1 170 i = h.2.1 170 i) : RTp h' P := fun t ht => by
  obtain ⟨a1, a2, a3⟩ := H t ht
  exact ⟨by rw [A _ _ rfl]; exact a1, by rw [A _ _ rfl]; exact a2, fun k hk => by rw [B]; exact a3 k hk⟩
theorem RLe.ag {h h' : Hp} (H : RLe h) (A : AgM 8 h h') : RLe h' := fun j hj => by rw [A _ _ rfl]; exact H j hj
theorem sup_rg {a i : Nat} (h : supDom a i) : rgM a i = 1 ∨ rgM a i = 4 := by
  rcases h with ⟨h1, h2⟩ | ⟨h1, h2⟩ | ⟨rfl, h⟩
  · left
    rw [rgM, if_neg (by omega), if_neg (by omega), if_pos (by omega)]
  · right
    rw [rgM, if_neg (by omega), if_neg (by omega), if_neg (by omega), if_neg (by omega), if_pos (by omega)]
  · left
    rw [rgM, if_neg (by omega), if_pos rfl, if_pos (by omega)]
theorem RIc.ag {h h' : Hp} {b : Nat} {V : Hv} {T : Tb} (C : RIc h b V T) (A : AgM 1 h h') (B : AgM 4 h h') : RIc h' b V T := by
  have F : Fr (fun a i => !(rgM a i == 1 || rgM a i == 4)) h (h'.1, h.2) := ⟨fun a i q => by
    simp only [Bool.not_eq_false', Bool.or_eq_true, beq_iff_eq] at q
    rcases q with q | q
    · exact A a i q
    · exact B a i q, rfl⟩
  have D : SC (h'.1, h.2) b V T none false := C.1.fr F (fun a i q => by
    simp only [Bool.not_eq_false', Bool.or_eq_true, beq_iff_eq]
    exact sup_rg q)
  have E : RPc (h'.1, h.2) (T.1 7 0) none := C.2.1.fr F rfl rfl
  exact ⟨D, E, C.2.2⟩
def VS (hs : Nat → List Cz) (T : Tb) : Hv := if T.1 7 5 = 0 then hvOf [] else hvOf (hs (T.1 7 5 - 1))
def baS (T : Tb) : Nat := if T.1 7 5 = 0 then 0 else 10 * (T.1 7 5 - 1)
def RM (h : Hp) (T : Tb) (im : Option Tb) (n : Nat) (hs : Nat → List Cz) (X : Tx) (tr : List Nat) (P : Tp) : Prop :=
  RIc h (baS T) (VS hs T) T ∧ (RBk h T ∧ h.1 134 11 = nI (T.1 7 5) - 1) ∧ (h.1 134 46 = b01 im.isSome ∧ ∀ U, im = some U → RIm h U) ∧ (h.1 134 10 = nI n ∧ ∀ f, f < n → RLs h f (hs f) ∧ h.1 142 f = nI (hs f).length) ∧ RTx h X ∧ RAc h tr ∧ RTp h P ∧ RLe h
def StOK (T : Tb) (im : Option Tb) (n : Nat) (hs : Nat → List Cz) (X : Tx) (tr : List Nat) (P : Tp) : Prop :=
  (TbOK T ∧ T.1 7 2 ≤ 9999 ∧ T.1 7 5 ≤ n ∧ n ≤ 6) ∧ (∀ U, im = some U → TbOK U ∧ U.1 7 2 ≤ 9999 ∧ U.1 7 5 ≤ n) ∧ TxOK X ∧ tr.length ≤ 100 ∧ TpOK P ∧ ∀ f, f < n → 0 < (hs f).length ∧ (hs f).length ≤ 10
/-- what others do leaves it -/
theorem RM.out {h h' : Hp} {T : Tb} {im : Option Tb} {n : Nat} {hs : Nat → List Cz} {X : Tx} {tr : List Nat} {P : Tp} (H : RM h T im n hs X tr P) (A : ∀ a i, 134 ≤ a → h'.1 a i = h.1 a i) (B : ∀ i, h'.2.1 170 i = h.2.1 170 i) : RM h' T im n hs X tr P := by
  have Z : ∀ k, 0 < k → AgM k h h' := fun k hk a i q => A a i (by
    by_cases hb : a < 134
    · rw [rgM, if_pos hb] at q; omega
    · omega)
  obtain ⟨r1, ⟨r2, r3⟩, ⟨r4, r5⟩, ⟨r6, r7⟩, r8, r9, r10, r11⟩ := H
  exact ⟨r1.ag (Z 1 (by omega)) (Z 4 (by omega)), ⟨r2.ag (Z 2 (by omega)), by rw [A _ _ (by omega)]; exact r3⟩, ⟨by rw [A _ _ (by omega)]; exact r4, fun U hU => (r5 U hU).ag (Z 3 (by omega))⟩, ⟨by rw [A _ _ (by omega)]; exact r6, fun f hf => ⟨(r7 f hf).1.ag (Z 4 (by omega)), by rw [A _ _ (by omega)]; exact (r7 f hf).2⟩⟩, r8.ag (Z 5 (by omega)), r9.ag (Z 6 (by omega)), r10.ag (Z 7 (by omega)) B, r11.ag (Z 8 (by omega))⟩
theorem rgM_out {a i k : Nat} (q : rgM a i = k) : k = 0 ∨ (k = 1 ∧ ((135 ≤ a ∧ a ≤ 140) ∨ (a = 134 ∧ (i ≤ 3 ∨ i = 11 ∨ i = 28 ∨ i = 29 ∨ i = 35 ∨ i = 36)))) ∨ (k = 2 ∧ (a = 159 ∨ (a = 134 ∧ i = 44))) ∨ (k = 3 ∧ ((160 ≤ a ∧ a ≤ 166) ∨ (a = 134 ∧ 46 ≤ i ∧ i ≤ 52))) ∨ (k = 4 ∧ ((142 ≤ a ∧ a ≤ 147) ∨ (a = 134 ∧ i = 10))) ∨ (k = 5 ∧ (a = 141 ∨ (a = 134 ∧ i = 12))) ∨ (k = 6 ∧ (a = 167 ∨ (a = 134 ∧ i = 60))) ∨ (k = 7 ∧ (a = 168 ∨ a = 169)) ∨ (k = 8 ∧ a = 149) := by
  by_cases c0 : a < 134
  · rw [rgM, if_pos c0] at q
    subst q; exact Or.inl rfl
  · rw [rgM, if_neg c0] at q
    by_cases c1 : a = 134
    · subst c1
      rw [if_pos rfl] at q
      by_cases d0 : i ≤ 3 ∨ i = 11 ∨ i = 28 ∨ i = 29 ∨ i = 35 ∨ i = 36
      · rw [if_pos d0] at q
        subst q; exact Or.inr (Or.inl ⟨rfl, Or.inr ⟨rfl, d0⟩⟩)
      · rw [if_neg d0] at q
        by_cases d1 : i = 44
        · rw [if_pos d1] at q
          subst q; exact Or.inr (Or.inr (Or.inl ⟨rfl, Or.inr ⟨rfl, d1⟩⟩))
        · rw [if_neg d1] at q
          by_cases d2 : 46 ≤ i ∧ i ≤ 52
          · rw [if_pos d2] at q
            subst q; exact Or.inr (Or.inr (Or.inr (Or.inl ⟨rfl, Or.inr ⟨rfl, d2⟩⟩)))
          · rw [if_neg d2] at q
            by_cases d3 : i = 10
            · rw [if_pos d3] at q
              subst q; exact Or.inr (Or.inr (Or.inr (Or.inr (Or.inl ⟨rfl, Or.inr ⟨rfl, d3⟩⟩))))
            · rw [if_neg d3] at q
              by_cases d4 : i = 12
              · rw [if_pos d4] at q
                subst q; exact Or.inr (Or.inr (Or.inr (Or.inr (Or.inr (Or.inl ⟨rfl, Or.inr ⟨rfl, d4⟩⟩)))))
              · rw [if_neg d4] at q
                by_cases d5 : i = 60
                · rw [if_pos d5] at q
                  subst q; exact Or.inr (Or.inr (Or.inr (Or.inr (Or.inr (Or.inr (Or.inl ⟨rfl, Or.inr ⟨rfl, d5⟩⟩))))))
                · rw [if_neg d5] at q
                  subst q; exact Or.inl rfl
    · rw [if_neg c1] at q
      by_cases e0 : a ≤ 140
      · rw [if_pos e0] at q
        subst q; exact Or.inr (Or.inl ⟨rfl, Or.inl ⟨by omega, by omega⟩⟩)
      · rw [if_neg e0] at q
        by_cases e1 : a = 141
        · rw [if_pos e1] at q
          subst q; exact Or.inr (Or.inr (Or.inr (Or.inr (Or.inr (Or.inl ⟨rfl, Or.inl e1⟩)))))
        · rw [if_neg e1] at q
          by_cases e2 : a ≤ 147
          · rw [if_pos e2] at q
            subst q; exact Or.inr (Or.inr (Or.inr (Or.inr (Or.inl ⟨rfl, Or.inl ⟨by omega, by omega⟩⟩))))
          · rw [if_neg e2] at q
            by_cases e3 : a = 149
            · rw [if_pos e3] at q
              subst q; exact Or.inr (Or.inr (Or.inr (Or.inr (Or.inr (Or.inr (Or.inr (Or.inr (⟨rfl, e3⟩))))))))
            · rw [if_neg e3] at q
              by_cases e4 : a = 159
              · rw [if_pos e4] at q
                subst q; exact Or.inr (Or.inr (Or.inl ⟨rfl, Or.inl e4⟩))
              · rw [if_neg e4] at q
                by_cases e5 : a < 160
                · rw [if_pos e5] at q
                  subst q; exact Or.inl rfl
                · rw [if_neg e5] at q
                  by_cases e6 : a ≤ 166
                  · rw [if_pos e6] at q
                    subst q; exact Or.inr (Or.inr (Or.inr (Or.inl ⟨rfl, Or.inl ⟨by omega, by omega⟩⟩)))
                  · rw [if_neg e6] at q
                    by_cases e7 : a = 167
                    · rw [if_pos e7] at q
                      subst q; exact Or.inr (Or.inr (Or.inr (Or.inr (Or.inr (Or.inr (Or.inl ⟨rfl, Or.inl e7⟩))))))
                    · rw [if_neg e7] at q
                      by_cases e8 : a ≤ 169
                      · rw [if_pos e8] at q
                        subst q; exact Or.inr (Or.inr (Or.inr (Or.inr (Or.inr (Or.inr (Or.inr (Or.inl ⟨rfl, by omega⟩)))))))
                      · rw [if_neg e8] at q
                        subst q; exact Or.inl rfl
/-- an ask, or a change of the table -/
theorem scr_ag {h h' : Hp} (F : Fr scrF h h') {k : Nat} (hk : 1 < k) : AgM k h h' := fun a i q => F.1 a i (by
  have := rgM_out q
  simp only [scrF, Bool.or_eq_false_iff, Bool.and_eq_false_iff, beq_eq_false_iff_ne, ne_eq, decide_eq_false_iff_not]
  omega)
theorem ac_ag {h h' : Hp} (F : Fr acF h h') {k : Nat} (hk : 0 < k) (h6 : ¬ k = 6) : AgM k h h' := fun a i q => F.1 a i (by
  have := rgM_out q
  simp only [acF, Bool.or_eq_false_iff, Bool.and_eq_false_iff, beq_eq_false_iff_ne, ne_eq]
  omega)
theorem bk_ag {h h' : Hp} (F : Fr bkF h h') {k : Nat} (hk : 0 < k) (h6 : ¬ k = 2) : AgM k h h' := fun a i q => F.1 a i (by
  have := rgM_out q
  simp only [bkF, Bool.or_eq_false_iff, Bool.and_eq_false_iff, beq_eq_false_iff_ne, ne_eq]
  omega)
theorem fd_ag {h h' : Hp} (F : Fr fdF h h') {k : Nat} (hk : 0 < k) (h6 : ¬ k = 5) : AgM k h h' := fun a i q => F.1 a i (by
  have := rgM_out q
  simp only [fdF, Bool.or_eq_false_iff, Bool.and_eq_false_iff, beq_eq_false_iff_ne, ne_eq]
  omega)
theorem im_ag {h h' : Hp} (F : Fr imF h h') {k : Nat} (hk : 0 < k) (h6 : ¬ k = 3) : AgM k h h' := fun a i q => F.1 a i (by
  have := rgM_out q
  simp only [imF, Bool.or_eq_false_iff, Bool.and_eq_false_iff, beq_eq_false_iff_ne, ne_eq, decide_eq_false_iff_not]
  omega)
theorem un_ag {h h' : Hp} (F : Fr unF h h') {k : Nat} (hk : 2 < k) : AgM k h h' := fun a i q => F.1 a i (by
  have := rgM_out q
  simp only [unF, Bool.or_eq_false_iff, Bool.and_eq_false_iff, beq_eq_false_iff_ne, ne_eq, decide_eq_false_iff_not]
  omega)
/-- a house is read: of the table, the book, the image, the trace, the tapes, the letters nothing is touched; the table's line that tells the house is told apart -/
theorem ho_ag {f : Nat} {h h' : Hp} (F : Fr (hoF f) h h') {k : Nat} (hk : 0 < k) (h1 : ¬ k = 1) (h4 : ¬ k = 4) (h5 : ¬ k = 5) : AgM k h h' := fun a i q => F.1 a i (by
  have := rgM_out q
  simp only [hoF, gtF, Bool.or_eq_false_iff, Bool.and_eq_false_iff, beq_eq_false_iff_ne, ne_eq, decide_eq_false_iff_not]
  omega)
theorem frl_ag {h h' : Hp} (F : FrL h h') {k : Nat} (hk : 0 < k) (h7 : ¬ k = 7) : AgM k h h' := fun a i q => F.1 a i (by have := rgM_out q; omega) (by have := rgM_out q; omega)
/-- what an ask and a change of the table leave behind -/
theorem RM.scr {h h' : Hp} {T T' : Tb} {im : Option Tb} {n : Nat} {hs : Nat → List Cz} {X : Tx} {tr : List Nat} {P : Tp} (H : RM h T im n hs X tr P) (F : Fr scrF h h') (C : RIc h' (baS T) (VS hs T) T') (h5 : T'.1 7 5 = T.1 7 5) (hb : T'.1 7 4 = T.1 7 4 ∧ ∀ k, k < T.1 7 4 → T'.1 6 k = T.1 6 k) : RM h' T' im n hs X tr P := by
  obtain ⟨r1, ⟨r2, r3⟩, ⟨r4, r5⟩, ⟨r6, r7⟩, r8, r9, r10, r11⟩ := H
  have e1 : baS T' = baS T := by rw [baS, baS, h5]
  have e2 : VS hs T' = VS hs T := by rw [VS, VS, h5]
  have q2 := r2.ag (scr_ag F (k := 2) (by omega))
  refine ⟨by rw [e1, e2]; exact C, ⟨⟨by rw [hb.1]; exact q2.1, fun k hk => by rw [hb.1] at hk; rw [hb.2 k hk]; exact q2.2 k hk⟩, by rw [F.1 _ _ rfl, h5]; exact r3⟩, ⟨by rw [F.1 _ _ rfl]; exact r4, fun U hU => (r5 U hU).ag (scr_ag F (by omega))⟩, ⟨by rw [F.1 _ _ rfl]; exact r6, fun f hf => ⟨(r7 f hf).1.ag (scr_ag F (by omega)), by rw [F.1 _ _ rfl]; exact (r7 f hf).2⟩⟩, r8.ag (scr_ag F (by omega)), r9.ag (scr_ag F (by omega)), r10.ag (scr_ag F (by omega)) (fun i => by rw [F.2]), r11.ag (scr_ag F (by omega))⟩
theorem RM.act {h h' : Hp} {T : Tb} {im : Option Tb} {n : Nat} {hs : Nat → List Cz} {X : Tx} {tr tr' : List Nat} {P : Tp} (H : RM h T im n hs X tr P) (F : Fr acF h h') (C : RAc h' tr') : RM h' T im n hs X tr' P := by
  obtain ⟨r1, ⟨r2, r3⟩, ⟨r4, r5⟩, ⟨r6, r7⟩, r8, r9, r10, r11⟩ := H
  exact ⟨r1.ag (ac_ag F (by omega) (by omega)) (ac_ag F (by omega) (by omega)), ⟨r2.ag (ac_ag F (by omega) (by omega)), by rw [F.1 _ _ rfl]; exact r3⟩, ⟨by rw [F.1 _ _ rfl]; exact r4, fun U hU => (r5 U hU).ag (ac_ag F (by omega) (by omega))⟩, ⟨by rw [F.1 _ _ rfl]; exact r6, fun f hf => ⟨(r7 f hf).1.ag (ac_ag F (by omega) (by omega)), by rw [F.1 _ _ rfl]; exact (r7 f hf).2⟩⟩, r8.ag (ac_ag F (by omega) (by omega)), C, r10.ag (ac_ag F (by omega) (by omega)) (fun i => by rw [F.2]), r11.ag (ac_ag F (by omega) (by omega))⟩
theorem RM.bk {h h' : Hp} {T T' : Tb} {im : Option Tb} {n : Nat} {hs : Nat → List Cz} {X : Tx} {tr : List Nat} {P : Tp} (H : RM h T im n hs X tr P) (F : Fr bkF h h') (C : RBk h' T') (ok : TbOK T') (e : ∀ k x, ¬ k = 6 → ¬ (k = 7 ∧ x = 4) → T'.1 k x = T.1 k x) (e2 : T'.2 = T.2) : RM h' T' im n hs X tr P := by
  obtain ⟨r1, ⟨r2, r3⟩, ⟨r4, r5⟩, ⟨r6, r7⟩, r8, r9, r10, r11⟩ := H
  have h5 : T'.1 7 5 = T.1 7 5 := e _ _ (by omega) (by omega)
  have q1 := r1.ag (bk_ag F (k := 1) (by omega) (by omega)) (bk_ag F (by omega) (by omega))
  have z1 : baS T' = baS T := by rw [baS, baS, h5]
  have z2 : VS hs T' = VS hs T := by rw [VS, VS, h5]
  obtain ⟨⟨⟨a1, a2, a3, a4, a5⟩, b2, b3, b4, b5⟩, c1, c2⟩ := q1
  have R' : RTb h' T' := by
    refine ⟨by rw [e 7 0 (by omega) (by omega)]; exact a1, by rw [e 7 1 (by omega) (by omega)]; exact a2, by rw [e 7 2 (by omega) (by omega)]; exact a3, by rw [e 7 3 (by omega) (by omega)]; exact a4, fun x hx => ?_⟩
    rw [e 7 0 (by omega) (by omega)] at hx
    obtain ⟨s1, s2, s3, s4, s5, s6⟩ := a5 x hx
    exact ⟨by rw [e _ _ (by omega) (by omega)]; exact s1, by rw [e _ _ (by omega) (by omega)]; exact s2, by rw [e _ _ (by omega) (by omega)]; exact s3, by rw [e _ _ (by omega) (by omega)]; exact s4, by rw [e2]; exact s5, fun p hp => by rw [e _ _ (by omega) (by omega)]; exact s6 p hp⟩
  refine ⟨by rw [z1, z2]; exact ⟨⟨R', ok, b3, b4, b5⟩, c1, by rw [e 7 2 (by omega) (by omega)]; exact c2⟩, ⟨C, by rw [F.1 _ _ rfl, h5]; exact r3⟩, ⟨by rw [F.1 _ _ rfl]; exact r4, fun U hU => (r5 U hU).ag (bk_ag F (by omega) (by omega))⟩, ⟨by rw [F.1 _ _ rfl]; exact r6, fun f hf => ⟨(r7 f hf).1.ag (bk_ag F (by omega) (by omega)), by rw [F.1 _ _ rfl]; exact (r7 f hf).2⟩⟩, r8.ag (bk_ag F (by omega) (by omega)), r9.ag (bk_ag F (by omega) (by omega)), r10.ag (bk_ag F (by omega) (by omega)) (fun i => by rw [F.2]), r11.ag (bk_ag F (by omega) (by omega))⟩
theorem RM.fd {h h' : Hp} {T : Tb} {im : Option Tb} {n : Nat} {hs : Nat → List Cz} {X X' : Tx} {tr : List Nat} {P : Tp} (H : RM h T im n hs X tr P) (F : Fr fdF h h') (C : RTx h' X') : RM h' T im n hs X' tr P := by
  obtain ⟨r1, ⟨r2, r3⟩, ⟨r4, r5⟩, ⟨r6, r7⟩, r8, r9, r10, r11⟩ := H
  exact ⟨r1.ag (fd_ag F (by omega) (by omega)) (fd_ag F (by omega) (by omega)), ⟨r2.ag (fd_ag F (by omega) (by omega)), by rw [F.1 _ _ rfl]; exact r3⟩, ⟨by rw [F.1 _ _ rfl]; exact r4, fun U hU => (r5 U hU).ag (fd_ag F (by omega) (by omega))⟩, ⟨by rw [F.1 _ _ rfl]; exact r6, fun f hf => ⟨(r7 f hf).1.ag (fd_ag F (by omega) (by omega)), by rw [F.1 _ _ rfl]; exact (r7 f hf).2⟩⟩, C, r9.ag (fd_ag F (by omega) (by omega)), r10.ag (fd_ag F (by omega) (by omega)) (fun i => by rw [F.2]), r11.ag (fd_ag F (by omega) (by omega))⟩
theorem RM.im {h h' : Hp} {T U : Tb} {im : Option Tb} {n : Nat} {hs : Nat → List Cz} {X : Tx} {tr : List Nat} {P : Tp} (H : RM h T im n hs X tr P) (F : Fr imF h h') (C : RIm h' U) (c2 : h'.1 134 46 = 1) : RM h' T (some U) n hs X tr P := by
  obtain ⟨r1, ⟨r2, r3⟩, ⟨r4, r5⟩, ⟨r6, r7⟩, r8, r9, r10, r11⟩ := H
  exact ⟨r1.ag (im_ag F (by omega) (by omega)) (im_ag F (by omega) (by omega)), ⟨r2.ag (im_ag F (by omega) (by omega)), by rw [F.1 _ _ rfl]; exact r3⟩, ⟨c2, fun W hW => by cases hW; exact C⟩, ⟨by rw [F.1 _ _ rfl]; exact r6, fun f hf => ⟨(r7 f hf).1.ag (im_ag F (by omega) (by omega)), by rw [F.1 _ _ rfl]; exact (r7 f hf).2⟩⟩, r8.ag (im_ag F (by omega) (by omega)), r9.ag (im_ag F (by omega) (by omega)), r10.ag (im_ag F (by omega) (by omega)) (fun i => by rw [F.2]), r11.ag (im_ag F (by omega) (by omega))⟩
theorem RM.tp {h h' : Hp} {T : Tb} {im : Option Tb} {n : Nat} {hs : Nat → List Cz} {X : Tx} {tr : List Nat} {P P' : Tp} (H : RM h T im n hs X tr P) (F : FrL h h') (C : RTp h' P') : RM h' T im n hs X tr P' := by
  obtain ⟨r1, ⟨r2, r3⟩, ⟨r4, r5⟩, ⟨r6, r7⟩, r8, r9, r10, r11⟩ := H
  have e : ∀ i, h'.1 134 i = h.1 134 i := fun i => F.1 _ _ (by decide) (by decide)
  have e2 : ∀ i, h'.1 142 i = h.1 142 i := fun i => F.1 _ _ (by decide) (by decide)
  exact ⟨r1.ag (frl_ag F (by omega) (by omega)) (frl_ag F (by omega) (by omega)), ⟨r2.ag (frl_ag F (by omega) (by omega)), by rw [e]; exact r3⟩, ⟨by rw [e]; exact r4, fun U hU => (r5 U hU).ag (frl_ag F (by omega) (by omega))⟩, ⟨by rw [e]; exact r6, fun f hf => ⟨(r7 f hf).1.ag (frl_ag F (by omega) (by omega)), by rw [e2]; exact (r7 f hf).2⟩⟩, r8.ag (frl_ag F (by omega) (by omega)), r9.ag (frl_ag F (by omega) (by omega)), C, r11.ag (frl_ag F (by omega) (by omega))⟩
