/-! what the machine's codes are: one answer is left, and they are not longer than what was read -/
def hdS (K : List Nat) : Nat := K.headD 40
def StV : List Nat → Prop
  | [] => True
  | c :: K => StV K ∧ (c = 33 ∨ c = 40 ∨ (c = 124 ∧ hdS K = 40) ∨ (c = 38 ∧ (hdS K = 40 ∨ hdS K = 124)))
def nbS : List Nat → Nat
  | [] => 0
  | c :: K => nbS K + (if c = 38 ∨ c = 124 then 1 else 0)
def tpS (K : List Nat) : Nat := if hdS K = 124 then 1 else if hdS K = 38 then 2 else 0
theorem nbS_le : ∀ K : List Nat, StV K → nbS K ≤ 2 * opn K + tpS K := by
  intro K
  induction K with
  | nil => intro _; exact Nat.zero_le _
  | cons c K ih =>
    intro h
    have h1 := ih h.1
    show nbS K + (if c = 38 ∨ c = 124 then 1 else 0) ≤ 2 * (opn K + (if c = 33 ∨ c = 40 then 1 else 0)) + (if c = 124 then 1 else if c = 38 then 2 else 0)
    unfold tpS at h1
    rcases h.2 with rfl | rfl | ⟨rfl, q⟩ | ⟨rfl, q⟩
    · simp; split at h1 <;> (try split at h1) <;> omega
    · simp; split at h1 <;> (try split at h1) <;> omega
    · rw [q] at h1; simp at h1 ⊢; omega
    · rcases q with q | q <;> (rw [q] at h1; simp at h1 ⊢; omega)
theorem dpL_app : ∀ (l : List Int) (d e : Nat) (t : Int), dpL d l = some e → dpL d (l ++ [t]) = dpS e t := by
  intro l
  induction l with
  | nil =>
    intro d e t h
    have : d = e := Option.some.inj h
    subst this
    show (match dpS d t with | some e => dpL e [] | none => none) = dpS d t
    cases dpS d t <;> rfl
  | cons x l ih =>
    intro d e t h
    show (match dpS d x with | some e => dpL e (l ++ [t]) | none => none) = dpS e t
    have h2 : (match dpS d x with | some e => dpL e l | none => none) = some e := h
    cases hx : dpS d x with
    | none => rw [hx] at h2; cases h2
    | some y => rw [hx] at h2; exact ih y e t h2
def PsOK (s : Ps) : Prop := StV s.2.2.1 ∧ opn s.2.2.1 ≤ 4 ∧ (s.2.1 = false → ¬ hdS s.2.2.1 = 33) ∧ ∃ d, dpL 0 s.2.2.2 = some d ∧ d + (if s.2.1 = true then 1 else 0) = nbS s.2.2.1 + 1
theorem opn_cons (c : Nat) (K : List Nat) : opn (c :: K) = opn K + (if c = 33 ∨ c = 40 then 1 else 0) := rfl
theorem nbS_cons (c : Nat) (K : List Nat) : nbS (c :: K) = nbS K + (if c = 38 ∨ c = 124 then 1 else 0) := rfl
theorem whS_ok : ∀ (K : List Nat) (acc : List Int) (d : Nat), StV K → dpL 0 acc = some d → d = nbS K + 1 → StV (whS K acc).1 ∧ opn (whS K acc).1 ≤ opn K ∧ ¬ hdS (whS K acc).1 = 33 ∧ dpL 0 (whS K acc).2 = some d ∧ d = nbS (whS K acc).1 + 1 := by
  intro K
  induction K with
  | nil => intro acc d h1 h2 h3; exact ⟨h1, Nat.le_refl _, (by show ¬ (40 : Nat) = 33; decide), h2, h3⟩
  | cons c K ih =>
    intro acc d h1 h2 h3
    by_cases q : c = 33
    · subst q
      rw [whS_eq]
      have e : nbS (33 :: K) = nbS K := rfl
      have h4 := ih (acc ++ [-33]) d h1.1 (by rw [dpL_app acc 0 d (-33) h2, dpS, if_pos rfl, if_pos (by omega)]) (by omega)
      refine ⟨h4.1, ?_, h4.2.2⟩
      rw [opn_cons]
      have := h4.2.1
      omega
    · rw [whS_ne q]
      exact ⟨h1, Nat.le_refl _, q, h2, h3⟩
theorem stS_ok {s : Nat} : ∀ (K : List Nat) (acc : List Int) (d : Nat), StV K → ¬ hdS K = 33 → dpL 0 acc = some d → d = nbS K + 1 → StV (stS s K acc).1 ∧ opn (stS s K acc).1 = opn K ∧ ¬ hdS (stS s K acc).1 = 33 ∧ dpL 0 (stS s K acc).2 = some (nbS (stS s K acc).1 + 1) ∧ ¬ hdS (stS s K acc).1 = 38 ∧ (hdS (stS s K acc).1 = 124 → s = 38) := by
  intro K
  induction K with
  | nil => intro acc d h1 h0 h2 h3; exact ⟨h1, rfl, h0, by rw [h3] at h2; exact h2, (by show ¬ (40 : Nat) = 38; decide), fun q => (by have : (40 : Nat) = 124 := q; omega)⟩
  | cons c K ih =>
    intro acc d h1 h0 h2 h3
    by_cases q : c = 38 ∨ (c = 124 ∧ s ≠ 38)
    · rw [stS_pop q]
      have hc : c = 38 ∨ c = 124 := q.elim Or.inl (fun y => Or.inr y.1)
      have e : nbS (c :: K) = nbS K + 1 := by rw [nbS_cons, if_pos hc]
      have eo : opn (c :: K) = opn K := opn_join hc
      have hK : ¬ hdS K = 33 := by
        rcases h1.2 with y | y | ⟨-, y⟩ | ⟨-, y | y⟩ <;> omega
      rw [eo]
      refine ih (acc ++ [-(c : Int)]) (d - 1) h1.1 hK ?_ (by omega)
      rw [dpL_app acc 0 d _ h2, dpS, if_neg (by omega), if_pos (by omega), if_pos ⟨by omega, by omega⟩]
    · rw [stS_keep q]
      refine ⟨h1, rfl, h0, by rw [← h3]; exact h2, ?_, ?_⟩
      · show ¬ c = 38
        omega
      · intro (y : c = 124)
        omega
theorem stp_ok {X : Tx} {s u : Ps} (h : stp X s = .inr u) (H : PsOK s) : PsOK u := by
  obtain ⟨a, w, K, acc⟩ := s
  obtain ⟨hK, ho, hw, d, hd, hn⟩ := H
  change StV K at hK
  change opn K ≤ 4 at ho
  change dpL 0 acc = some d at hd
  have hb := nbS_le K hK
  have ht : tpS K ≤ 2 := by
    unfold tpS
    split
    · omega
    · split <;> omega
  unfold stp at h
  dsimp only at h hw hn
  cases w with
  | true =>
    rw [if_pos rfl] at h hn
    split at h
    · rename_i q
      split at h
      · cases h
      · cases h
        refine ⟨⟨hK, q.elim Or.inl (fun y => Or.inr (Or.inl y))⟩, ?_, fun y => (by cases y), d, hd, ?_⟩
        · show opn K + (if _ then 1 else 0) ≤ 4
          split <;> omega
        · rw [if_pos rfl, nbS_cons, if_neg (by omega)]
          exact hn
    · cases ht2 : tX X a with
      | mk o b =>
        rw [ht2] at h
        cases o with
        | none => cases h
        | some t =>
          cases h
          have z := tX_at ht2
          have e : dpL 0 (acc ++ [t]) = some (d + 1) := by
            rw [dpL_app acc 0 d t hd, dpS, if_neg (by omega), if_neg (by omega), if_pos ⟨by omega, z.2.2.2.1, z.2.2.2.2⟩]
          obtain ⟨w1, w2, w3, w4, w5⟩ := whS_ok K (acc ++ [t]) (d + 1) hK e (by omega)
          exact ⟨w1, Nat.le_trans w2 ho, fun _ => w3, d + 1, w4, w5⟩
  | false =>
    rw [if_neg Bool.false_ne_true] at h hn
    have hw := hw rfl
    split at h
    · rename_i q
      cases h
      obtain ⟨w1, w2, w3, w4, w5, w6⟩ := stS_ok (s := nx X a) K acc d hK hw hd (by omega)
      refine ⟨⟨w1, ?_⟩, ?_, fun y => (by cases y), _, w4, ?_⟩
      · show nx X a = 33 ∨ nx X a = 40 ∨ (nx X a = 124 ∧ hdS (stS (nx X a) K acc).1 = 40) ∨ (nx X a = 38 ∧ (hdS (stS (nx X a) K acc).1 = 40 ∨ hdS (stS (nx X a) K acc).1 = 124))
        have w7 : hdS (stS (nx X a) K acc).1 = 40 ∨ hdS (stS (nx X a) K acc).1 = 124 := by
          cases hk : (stS (nx X a) K acc).1 with
          | nil => exact Or.inl rfl
          | cons c K2 =>
            rw [hk] at w1 w3 w5
            have w3 : ¬ c = 33 := w3
            have w5 : ¬ c = 38 := w5
            show c = 40 ∨ c = 124
            rcases w1.2 with y | y | y | y <;> omega
        rcases q with q | q
        · exact Or.inr (Or.inr (Or.inr ⟨q, w7⟩))
        · refine Or.inr (Or.inr (Or.inl ⟨q, w7.elim id (fun y => ?_)⟩))
          have := w6 y
          omega
      · show opn (_ :: _) ≤ 4
        rw [opn_cons, if_neg (by omega), w2]
        exact ho
      · show _ + (if true = true then 1 else 0) = nbS (_ :: _) + 1
        rw [if_pos rfl, nbS_cons, if_pos q]
    · split at h
      · cases h
      · rename_i c K2 hk
        split at h
        · cases h
          obtain ⟨w1, w2, w3, w4, w5, w6⟩ := stS_ok (s := 124) K acc d hK hw hd (by omega)
          rw [hk] at w1 w2 w3 w4 w5 w6
          have w3 : ¬ c = 33 := w3
          have w5 : ¬ c = 38 := w5
          have w6 : ¬ c = 124 := fun y => (by have := w6 y; omega)
          have e : nbS (c :: K2) = nbS K2 := by rw [nbS_cons, if_neg (by omega), Nat.add_zero]
          rw [opn_cons] at w2
          obtain ⟨v1, v2, v3, v4, v5⟩ := whS_ok K2 (stS 124 K acc).2 (nbS K2 + 1) w1.1 (by rw [w4, e]) rfl
          refine ⟨v1, ?_, fun _ => v3, _, v4, v5⟩
          show opn (whS K2 (stS 124 K acc).2).1 ≤ 4
          omega
        · cases h
theorem stp_out {X : Tx} {s : Ps} {cs : List Int} {b : Nat} (h : stp X s = .inl (some cs, b)) (H : PsOK s) : dpL 0 cs = some 1 := by
  obtain ⟨a, w, K, acc⟩ := s
  obtain ⟨hK, ho, hw, d, hd, hn⟩ := H
  unfold stp at h
  dsimp only at h hw hn hK hd
  cases w with
  | true =>
    rw [if_pos rfl] at h
    split at h
    · split at h <;> cases h
    · cases ht2 : tX X a with
      | mk o b =>
        rw [ht2] at h
        cases o <;> cases h
  | false =>
    rw [if_neg Bool.false_ne_true] at h hn
    split at h
    · cases h
    · split at h
      · rename_i hk
        cases h
        obtain ⟨w1, w2, w3, w4, w5, w6⟩ := stS_ok (s := 124) K acc d hK (hw rfl) hd (by omega)
        rw [hk] at w4
        exact w4
      · split at h <;> cases h
theorem stp_len {X : Tx} {s u : Ps} (h : stp X s = .inr u) : u.2.2.2.length + u.2.2.1.length + s.1 ≤ s.2.2.2.length + s.2.2.1.length + u.1 := by
  have hat := (stp_at h).1
  obtain ⟨a, w, K, acc⟩ := s
  unfold stp at h
  dsimp only at h hat ⊢
  split at h
  · split at h
    · split at h
      · cases h
      · cases h
        show acc.length + (K.length + 1) + a ≤ _
        omega
    · cases ht2 : tX X a with
      | mk o b =>
        rw [ht2] at h
        cases o with
        | none => cases h
        | some t =>
          cases h
          have wl := whS_len K (acc ++ [t])
          rw [List.length_append, show [t].length = 1 from rfl] at wl
          show (whS K (acc ++ [t])).2.length + (whS K (acc ++ [t])).1.length + a ≤ acc.length + K.length + b
          have := tX_at ht2
          omega
  · split at h
    · cases h
      have sl := stS_len (s := nx X a) K acc
      show (stS (nx X a) K acc).2.length + ((stS (nx X a) K acc).1.length + 1) + a ≤ acc.length + K.length + (a + 1)
      omega
    · split at h
      · cases h
      · rename_i c K2 hk
        split at h
        · cases h
          have sl := stS_len (s := 124) K acc
          rw [hk, show (c :: K2).length = K2.length + 1 from rfl] at sl
          have wl := whS_len K2 (stS 124 K acc).2
          show (whS K2 (stS 124 K acc).2).2.length + (whS K2 (stS 124 K acc).2).1.length + a ≤ acc.length + K.length + (a + 1)
          omega
        · cases h
theorem stp_end {X : Tx} {s : Ps} {o : Option (List Int)} {b : Nat} (h : stp X s = .inl (o, b)) (ha : s.1 ≤ X.1) : s.1 ≤ b ∧ b ≤ X.1 ∧ ∀ cs, o = some cs → cs.length + s.1 ≤ s.2.2.2.length + s.2.2.1.length + b := by
  obtain ⟨a, w, K, acc⟩ := s
  unfold stp at h
  dsimp only at h ha ⊢
  split at h
  · split at h
    · split at h
      · cases h
        exact ⟨Nat.le_refl _, ha, fun cs q => (by cases q)⟩
      · cases h
    · cases ht2 : tX X a with
      | mk o b =>
        rw [ht2] at h
        cases o with
        | none =>
          cases h
          refine ⟨?_, ?_, fun cs q => (by cases q)⟩
          · unfold tX at ht2
            split at ht2
            · cases ht2; exact Nat.le_refl _
            · split at ht2
              · split at ht2
                · cases ht2; omega
                · cases ht2
              · cases ht2; omega
          · unfold tX at ht2
            split at ht2
            · cases ht2; exact ha
            · rename_i f hf
              have := nx_in2 (X := X) (a := a) (plc_lt hf).1
              split at ht2
              · rename_i q
                have := nx_in2 (X := X) (a := a + 1) (by omega)
                split at ht2
                · cases ht2; omega
                · cases ht2
              · cases ht2; omega
        | some t => cases h
  · split at h
    · cases h
    · split at h
      · cases h
        refine ⟨Nat.le_refl _, ha, fun cs q => ?_⟩
        cases q
        have sl := stS_len (s := 124) K acc
        omega
      · split at h
        · cases h
        · cases h
          exact ⟨Nat.le_refl _, ha, fun cs q => (by cases q)⟩
theorem runE_at {X : Tx} : ∀ (n : Nat) (s : Ps) (o : Option (List Int)) (b : Nat), X.1 + 1 ≤ n + s.1 → s.1 ≤ X.1 → runE X n s = (o, b) → s.1 ≤ b ∧ b ≤ X.1 ∧ (PsOK s → ∀ cs, o = some cs → dpL 0 cs = some 1) ∧ ∀ cs, o = some cs → cs.length + s.1 ≤ s.2.2.2.length + s.2.2.1.length + b := by
  intro n
  induction n with
  | zero => intro s o b h1 h2; omega
  | succ n ih =>
    intro s o b h1 h2 h
    have h : (match stp X s with | .inl o => o | .inr s => runE X n s) = (o, b) := h
    cases hs : stp X s with
    | inl p =>
      rw [hs] at h
      have h : p = (o, b) := h
      rw [h] at hs
      have e := stp_end hs h2
      exact ⟨e.1, e.2.1, fun H cs q => stp_out (by rw [← q]; exact hs) H, e.2.2⟩
    | inr u =>
      rw [hs] at h
      have q := stp_at hs
      have k := ih u o b (by omega) q.2 h
      have l := stp_len hs
      refine ⟨by omega, k.2.1, fun H cs y => k.2.2.1 (stp_ok hs H) cs y, fun cs y => ?_⟩
      have := k.2.2.2 cs y
      omega
theorem evE_at {X : Tx} {a b : Nat} {o : Option (List Int)} (ha : a ≤ X.1) (h : evE X (a, true, [], []) = (o, b)) : a ≤ b ∧ b ≤ X.1 ∧ ∀ cs, o = some cs → dpL 0 cs = some 1 ∧ cs.length + a ≤ b := by
  have k := runE_at (X.1 + 2) (a, true, [], []) o b (by show X.1 + 1 ≤ X.1 + 2 + a; omega) ha h
  refine ⟨k.1, k.2.1, fun cs q => ⟨k.2.2.1 ⟨trivial, Nat.zero_le _, fun y => (by cases y), 0, rfl, rfl⟩ cs q, ?_⟩⟩
  have : cs.length + a ≤ 0 + 0 + b := k.2.2.2 cs q
  omega
