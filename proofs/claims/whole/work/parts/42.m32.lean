/-! takesE walks the machine -/
def eF (s0 c a i : Nat) : Bool := teF s0 a i || a == 148 || (a == 146 && i == c)
theorem teF_e {s0 c : Nat} {h h' : Hp} (H : Fr (teF s0) h h') : Fr (eF s0 c) h h' := H.wk (fun x i q => by simp only [eF, Bool.or_eq_false_iff] at q; exact q.1.1)
theorem whF_e {s0 c : Nat} {h h' : Hp} (H : Fr (whF s0) h h') : Fr (eF s0 c) h h' := teF_e (whF_te H)
def EPost (X : Tx) (s0 c : Nat) (h0 : Hp) (out : Po) (r : Option Value) (h' : Hp) : Prop := (∀ b, out = (none, b) → r = some (.int 0) ∧ RAt h' X b) ∧ (∀ cs b, out = (some cs, b) → r = some (.int 1) ∧ RAt h' X b ∧ RG h' s0 cs ∧ h'.1 146 c = nI (s0 + cs.length)) ∧ Fr (eF s0 c) h0 h'
theorem EPost.no {X : Tx} {s0 c b : Nat} {h0 h' : Hp} {out : Po} (e : out = (none, b)) (H : RAt h' X b) (hF : Fr (eF s0 c) h0 h') : EPost X s0 c h0 out (some (.int 0)) h' := ⟨fun d q => (by rw [e] at q; cases q; exact ⟨rfl, H⟩), fun cs d q => (by rw [e] at q; cases q), hF⟩
theorem EPost.yes {X : Tx} {s0 c b : Nat} {cs : List Int} {h0 h' : Hp} {out : Po} (e : out = (some cs, b)) (H : RAt h' X b) (HG : RG h' s0 cs) (ht : h'.1 146 c = nI (s0 + cs.length)) (hF : Fr (eF s0 c) h0 h') : EPost X s0 c h0 out (some (.int 1)) h' := ⟨fun d q => (by rw [e] at q; cases q), fun cs d q => (by rw [e] at q; cases q; exact ⟨rfl, H, HG, ht⟩), hF⟩
theorem RK.push {h : Hp} {K : List Nat} {c : Nat} (H : RK h K) (hc : c < 128) {n : Int32} (hn : n = nI (opn (c :: K))) : RK (setI (setI (setI h 134 25 n) 148 K.length (nI c)) 134 24 (nI (c :: K).length)) (c :: K) := by
  refine ⟨setI_at, ?_, fun j d q => ?_⟩
  · rw [setI_nj (by decide), setI_ne (by decide), setI_at]; exact hn
  · rw [setI_ne (by decide)]
    cases j with
    | zero =>
      have : c = d := Option.some.inj q
      rw [show (c :: K).length - 1 - 0 = K.length from rfl, setI_at, ← this]
      exact ⟨rfl, hc⟩
    | succ j =>
      have q2 : K[j]? = some d := q
      have hj : j < K.length := (List.getElem?_eq_some_iff.mp q2).1
      rw [show (c :: K).length - 1 - (j + 1) = K.length - 1 - j by show K.length + 1 - 1 - (j + 1) = _; omega, setI_nj (by omega), setI_ne (by decide)]
      exact H.2.2 j d q2
theorem RK.join {h : Hp} {K : List Nat} {c : Nat} (H : RK h K) (hc : c < 128) (ho : opn (c :: K) = opn K) : RK (setI (setI h 148 K.length (nI c)) 134 24 (nI (c :: K).length)) (c :: K) := by
  refine ⟨setI_at, ?_, fun j d q => ?_⟩
  · rw [setI_nj (by decide), setI_ne (by decide), ho]; exact H.2.1
  · rw [setI_ne (by decide)]
    cases j with
    | zero =>
      have : c = d := Option.some.inj q
      rw [show (c :: K).length - 1 - 0 = K.length from rfl, setI_at, ← this]
      exact ⟨rfl, hc⟩
    | succ j =>
      have q2 : K[j]? = some d := q
      have hj : j < K.length := (List.getElem?_eq_some_iff.mp q2).1
      rw [show (c :: K).length - 1 - (j + 1) = K.length - 1 - j by show K.length + 1 - 1 - (j + 1) = _; omega, setI_nj (by omega)]
      exact H.2.2 j d q2
theorem whS_len : ∀ (K : List Nat) (acc : List Int), (whS K acc).1.length + (whS K acc).2.length = K.length + acc.length ∧ (whS K acc).1.length ≤ K.length := by
  intro K
  induction K with
  | nil => intro acc; exact ⟨rfl, Nat.le_refl _⟩
  | cons c K ih =>
    intro acc
    by_cases h : c = 33
    · subst h
      rw [whS_eq]
      have := ih (acc ++ [-33])
      rw [List.length_append] at this
      have e : ([(-33 : Int)] : List Int).length = 1 := rfl
      have e2 : (33 :: K).length = K.length + 1 := rfl
      omega
    · rw [whS_ne h]; exact ⟨rfl, Nat.le_refl _⟩
theorem stS_len {s : Nat} : ∀ (K : List Nat) (acc : List Int), (stS s K acc).1.length + (stS s K acc).2.length = K.length + acc.length ∧ (stS s K acc).1.length ≤ K.length := by
  intro K
  induction K with
  | nil => intro acc; exact ⟨rfl, Nat.le_refl _⟩
  | cons c K ih =>
    intro acc
    by_cases h : c = 38 ∨ (c = 124 ∧ s ≠ 38)
    · rw [stS_pop h]
      have := ih (acc ++ [-(c : Int)])
      rw [List.length_append] at this
      have e : ([-(c : Int)] : List Int).length = 1 := rfl
      have e2 : (c :: K).length = K.length + 1 := rfl
      omega
    · rw [stS_keep h]; exact ⟨rfl, Nat.le_refl _⟩
/-- the machine's steps, one by one -/
theorem stp_open {X : Tx} {a : Nat} {K : List Nat} {acc : List Int} (h : nx X a = 33 ∨ nx X a = 40) (ho : ¬ opn K = 4) : evE X (a, true, K, acc) = evE X (a + 1, true, nx X a :: K, acc) := evE_inr (by unfold stp; rw [if_pos rfl, if_pos h, if_neg ho])
theorem stp_deep {X : Tx} {a : Nat} {K : List Nat} {acc : List Int} (h : nx X a = 33 ∨ nx X a = 40) (ho : opn K = 4) : evE X (a, true, K, acc) = (none, a) := evE_inl (by unfold stp; rw [if_pos rfl, if_pos h, if_pos ho])
theorem stp_test {X : Tx} {a b : Nat} {t : Int} {K : List Nat} {acc : List Int} (h : ¬ (nx X a = 33 ∨ nx X a = 40)) (ht : tX X a = (some t, b)) : evE X (a, true, K, acc) = evE X (b, false, whS K (acc ++ [t])) := evE_inr (by unfold stp; rw [if_pos rfl, if_neg h]; show (match tX X a with | (none, a) => _ | (some t, a) => _) = _; rw [ht])
theorem stp_fail {X : Tx} {a b : Nat} {K : List Nat} {acc : List Int} (h : ¬ (nx X a = 33 ∨ nx X a = 40)) (ht : tX X a = (none, b)) : evE X (a, true, K, acc) = (none, b) := evE_inl (by unfold stp; rw [if_pos rfl, if_neg h]; show (match tX X a with | (none, a) => _ | (some t, a) => _) = _; rw [ht])
theorem stp_join {X : Tx} {a : Nat} {K : List Nat} {acc : List Int} (h : nx X a = 38 ∨ nx X a = 124) : evE X (a, false, K, acc) = evE X (a + 1, true, nx X a :: (stS (nx X a) K acc).1, (stS (nx X a) K acc).2) := evE_inr (by unfold stp; rw [if_neg Bool.false_ne_true, if_pos h])
theorem stp_done {X : Tx} {a : Nat} {K : List Nat} {acc : List Int} (h : ¬ (nx X a = 38 ∨ nx X a = 124)) (hk : (stS 124 K acc).1 = []) : evE X (a, false, K, acc) = (some (stS 124 K acc).2, a) := evE_inl (by unfold stp; rw [if_neg Bool.false_ne_true, if_neg h]; dsimp only; rw [hk])
theorem stp_close {X : Tx} {a d : Nat} {K K2 : List Nat} {acc : List Int} (h : nx X a = 41) (hk : (stS 124 K acc).1 = d :: K2) : evE X (a, false, K, acc) = evE X (a + 1, false, whS K2 (stS 124 K acc).2) := evE_inr (by unfold stp; rw [if_neg Bool.false_ne_true, if_neg (by show ¬ (nx X a = 38 ∨ nx X a = 124); omega)]; dsimp only; rw [hk]; dsimp only; rw [if_pos h])
theorem stp_left {X : Tx} {a d : Nat} {K K2 : List Nat} {acc : List Int} (h : ¬ (nx X a = 38 ∨ nx X a = 124)) (h2 : ¬ nx X a = 41) (hk : (stS 124 K acc).1 = d :: K2) : evE X (a, false, K, acc) = (none, a) := evE_inl (by unfold stp; rw [if_neg Bool.false_ne_true, if_neg h]; dsimp only; rw [hk]; dsimp only; rw [if_neg h2])
