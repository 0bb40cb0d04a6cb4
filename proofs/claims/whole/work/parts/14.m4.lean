/-! who bakes: pure facts -/
theorem cntTo_le (q : Nat → Bool) : ∀ n, cntTo q n ≤ n := by
  intro n
  induction n with
  | zero => exact Nat.le_refl _
  | succ n ih => show cntTo q n + _ ≤ n + 1; split <;> omega
theorem cntTo_lt {q : Nat → Bool} {i : Nat} (hi : q i = false) : ∀ n, i < n → cntTo q n < n := by
  intro n
  induction n with
  | zero => intro h; omega
  | succ n ih =>
    intro h
    show cntTo q n + _ < n + 1
    by_cases hin : i = n
    · subst hin
      rw [hi]
      have := cntTo_le q i
      simp
      omega
    · have := ih (by omega)
      split <;> omega
theorem cntTo_mono {q q' : Nat → Bool} (hq : ∀ x, q x = true → q' x = true) : ∀ n, cntTo q n ≤ cntTo q' n := by
  intro n
  induction n with
  | zero => exact Nat.le_refl _
  | succ n ih =>
    show cntTo q n + _ ≤ cntTo q' n + _
    by_cases h1 : q n = true
    · rw [if_pos h1, if_pos (hq n h1)]; omega
    · rw [if_neg h1]; omega
theorem cntTo_strict {q q' : Nat → Bool} (hq : ∀ x, q x = true → q' x = true) {i : Nat} (h1 : q i = false) (h2 : q' i = true) : ∀ n, i < n → cntTo q n < cntTo q' n := by
  intro n
  induction n with
  | zero => intro h; omega
  | succ n ih =>
    intro h
    show cntTo q n + _ < cntTo q' n + _
    by_cases hin : i = n
    · subst hin
      have := cntTo_mono hq i
      rw [h1, h2]
      simp
      omega
    · have := ih (by omega)
      by_cases h3 : q n = true
      · rw [if_pos h3, if_pos (hq n h3)]; omega
      · rw [if_neg h3]; omega
theorem pig : ∀ (n : Nat) (f : Nat → Nat), (∀ i, i < n → f i < n) → (∀ i j, i < n → j < n → f i = f j → i = j) → ∀ k, k < n → ∃ i, i < n ∧ f i = k := by
  intro n
  induction n with
  | zero => intro f _ _ k hk; omega
  | succ n ih =>
    intro f h1 h2 k hk
    by_cases hn : ∃ i, i < n ∧ f i = n
    · obtain ⟨i0, hi0, hf0⟩ := hn
      have hfn : f n ≠ n := fun q => by have := h2 i0 n (by omega) (by omega) (hf0.trans q.symm); omega
      have g1 := ih (fun i => if f i = n then f n else f i) (fun i hi => by
        have a1 := h1 n (by omega)
        have a2 := h1 i (by omega)
        split <;> omega) (fun i j hi hj hij => by
        by_cases c1 : f i = n <;> by_cases c2 : f j = n
        · exact h2 i j (by omega) (by omega) (c1.trans c2.symm)
        · rw [if_pos c1, if_neg c2] at hij
          have := h2 n j (by omega) (by omega) hij
          omega
        · rw [if_neg c1, if_pos c2] at hij
          have := h2 i n (by omega) (by omega) hij
          omega
        · rw [if_neg c1, if_neg c2] at hij
          exact h2 i j (by omega) (by omega) hij)
      by_cases hkn : k = n
      · exact ⟨i0, by omega, by rw [hf0, hkn]⟩
      · obtain ⟨i, hi, hg⟩ := g1 k (by omega)
        by_cases c1 : f i = n
        · rw [if_pos c1] at hg
          exact ⟨n, by omega, hg⟩
        · rw [if_neg c1] at hg
          exact ⟨i, by omega, hg⟩
    · have hlt : ∀ i, i < n → f i < n := fun i hi => by
        have a1 := h1 i (by omega)
        have a2 : f i ≠ n := fun q => hn ⟨i, hi, q⟩
        omega
      have g1 := ih f hlt (fun i j hi hj => h2 i j (by omega) (by omega))
      have hfn : f n = n := by
        have a1 := h1 n (by omega)
        by_cases c : f n < n
        · obtain ⟨i, hi, hg⟩ := g1 (f n) c
          have := h2 i n (by omega) (by omega) hg
          omega
        · omega
      by_cases hkn : k = n
      · exact ⟨n, by omega, by rw [hfn, hkn]⟩
      · obtain ⟨i, hi, hg⟩ := g1 k (by omega)
        exact ⟨i, by omega, hg⟩
theorem aheadS_self (p : Nat → Nat) (e : Nat) : aheadS p e e = false := by simp [aheadS]
theorem aheadS_trans {p : Nat → Nat} {x o e : Nat} (h1 : aheadS p x o = true) (h2 : aheadS p o e = true) : aheadS p x e = true := by
  simp only [aheadS, decide_eq_true_eq] at *
  omega
theorem placeS_lt {p : Nat → Nat} {E e : Nat} (he : e < E) : placeS p E e < E := cntTo_lt (q := fun o => aheadS p o e) (i := e) (aheadS_self p e) E he
theorem placeS_inj {p : Nat → Nat} {E e o : Nat} (he : e < E) (ho : o < E) (h : placeS p E e = placeS p E o) : e = o := by
  have key : ∀ a b, a < E → aheadS p a b = true → placeS p E a < placeS p E b := fun a b ha hab => cntTo_strict (q := fun o => aheadS p o a) (q' := fun o => aheadS p o b) (fun x hx => aheadS_trans hx hab) (aheadS_self p a) hab E ha
  by_cases h1 : aheadS p e o = true
  · have := key e o he h1; omega
  · by_cases h2 : aheadS p o e = true
    · have := key o e ho h2; omega
    · simp only [aheadS, decide_eq_true_eq] at h1 h2
      omega
theorem firstTo_none {q : Nat → Bool} : ∀ n, (∀ i, i < n → q i = false) → firstTo q n = n := by
  intro n
  induction n with
  | zero => intro _; rfl
  | succ n ih =>
    intro h
    have e := ih (fun i hi => h i (by omega))
    show (if firstTo q n < n then firstTo q n else if q n = true then n else n + 1) = n + 1
    rw [e, if_neg (by omega), h n (by omega)]
    rfl
theorem firstTo_at {q : Nat → Bool} {k : Nat} (h1 : ∀ i, i < k → q i = false) (h2 : q k = true) : ∀ n, k < n → firstTo q n = k := by
  intro n
  induction n with
  | zero => intro h; omega
  | succ n ih =>
    intro h
    show (if firstTo q n < n then firstTo q n else if q n = true then n else n + 1) = k
    by_cases hkn : k = n
    · subst hkn
      rw [firstTo_none k h1, if_neg (by omega), if_pos h2]
    · rw [ih (by omega), if_pos (by omega)]
theorem firstTo_ex {q : Nat → Bool} : ∀ n, (∃ i, i < n ∧ q i = true) → firstTo q n < n ∧ q (firstTo q n) = true ∧ ∀ i, i < firstTo q n → q i = false := by
  intro n
  induction n with
  | zero => rintro ⟨i, hi, _⟩; omega
  | succ n ih =>
    rintro ⟨i, hi, hq⟩
    by_cases hn : ∃ j, j < n ∧ q j = true
    · obtain ⟨a1, a2, a3⟩ := ih hn
      have e : firstTo q (n + 1) = firstTo q n := by
        show (if firstTo q n < n then firstTo q n else if q n = true then n else n + 1) = _
        rw [if_pos a1]
      rw [e]
      exact ⟨by omega, a2, a3⟩
    · have hno : ∀ j, j < n → q j = false := fun j hj => by
        cases hx : q j with
        | false => rfl
        | true => exact absurd ⟨j, hj, hx⟩ hn
      have hin : i = n := by
        by_cases c : i < n
        · rw [hno i c] at hq; cases hq
        · omega
      subst hin
      rw [firstTo_at hno hq (i + 1) (by omega)]
      exact ⟨by omega, hq, hno⟩
theorem midS_ok {p : Nat → Nat} {E : Nat} (hE : 0 < E) : midS p E < E ∧ placeS p E (midS p E) = E / 2 ∧ ∀ i, i < midS p E → ¬ placeS p E i = E / 2 := by
  obtain ⟨i, hi, hp⟩ := pig E (placeS p E) (fun i hi => placeS_lt hi) (fun i j hi hj => placeS_inj hi hj) (E / 2) (by omega)
  obtain ⟨a1, a2, a3⟩ := firstTo_ex (q := fun e => decide (placeS p E e = E / 2)) E ⟨i, hi, by simp [hp]⟩
  exact ⟨a1, of_decide_eq_true a2, fun i hi => of_decide_eq_false (a3 i hi)⟩
theorem argS_lt (law : Nat) (p : Nat → Nat) : ∀ n, argS law p n ≤ n := by
  intro n
  induction n with
  | zero => exact Nat.le_refl _
  | succ n ih =>
    show (if (if law = 0 then p (n + 1) < p (argS law p n) else p (argS law p n) < p (n + 1)) then n + 1 else argS law p n) ≤ n + 1
    repeat' split
    all_goals omega
theorem bakeS_lt {law : Nat} {p : Nat → Nat} {E : Nat} (hE : 0 < E) : bakeS law p E < E := by
  unfold bakeS
  split
  · exact (midS_ok hE).1
  · have := argS_lt law p (E - 1); omega
/-! the reference's table -/
def RTb (h : Hp) (T : Tb) : Prop := h.1 134 0 = nI (T.1 7 0) ∧ h.1 134 1 = nI (T.1 7 1) ∧ h.1 134 2 = nI (T.1 7 2) ∧ h.1 134 3 = nI (T.1 7 3) - 1 ∧ ∀ e, e < T.1 7 0 → h.1 135 e = nI (T.1 0 e) ∧ h.1 136 e = nI (T.1 1 e) ∧ h.1 137 e = nI (T.1 2 e) ∧ h.1 138 e = nI (T.1 3 e) ∧ h.1 139 e = T.2 e ∧ ∀ p, p < 4 → h.1 140 (4 * e + p) = nI (T.1 5 (4 * e + p))
theorem RTb.lt {h : Hp} {T : Tb} (H : RTb h T) (hT : TbOK T) {e a : Nat} (he : e < T.1 7 0) (ha : a < 1000) : RLt h e a (ltS T e a) := by
  obtain ⟨h1, h2, h3, h4, h5⟩ := H
  obtain ⟨t1, t2, t3, t4, t5, t6, t7, -, -⟩ := hT
  obtain ⟨k1, k2, k3, k4⟩ := t7 e
  exact ⟨by omega, ha, rfl, rfl, (h5 e he).1, (h5 e he).2.2.1, ⟨T.1 7 1, by omega, h2, rfl⟩, ⟨T.1 7 2, by omega, h3, rfl⟩, by show T.1 0 e < 100; omega, by show T.1 2 e < 100; omega⟩
def EtOK (h : Hp) (E : Nat) (ate : Nat → Nat) : Prop := ∀ e, e < E → h.1 152 e = nI (ate e) ∧ ate e ≤ 9
def bkI (E bk : Nat) : Int32 := if E = 0 then -1 else nI bk
set_option maxRecDepth 100000 in
theorem m_X7_isAhead {G : WT} {l : Launch} (hG : GOK G) {h : Hp} {o i s E : Nat} {ate : Nat → Nat} (hE : E ≤ 5) (ho : o < E) (hi : i < E) (hs : 0 < s) (hs2 : s ≤ 99) (H : EtOK h E ate) : Cl G l 1 yX7_isAhead cX7_isAhead 4 (some .boolean) [.ref (gA G 134), .int (nI o), .int (nI i), .int (nI s)] h (fun r h' => r = some (.int (b01 (aheadS (fun e => ate e / s) o i))) ∧ h' = h) := by
  refine Cl.of hG (by decide) (Nat.le_of_ble_eq_true rfl) ?_
  show Wp G l 1 RX7 cX7_isAhead 4 (some .boolean) 0 [.ref (gA G 134), .int (nI o), .int (nI i), .int (nI s)] [] h _
  obtain ⟨a1, a2⟩ := H o ho
  obtain ⟨b1, b2⟩ := H i hi
  have hne : ¬ nI s = 0 := nI_ne0 hs (by omega)
  have l1 : ate o / s ≤ 9 := Nat.le_trans (Nat.div_le_self _ _) a2
  have l2 : ate i / s ≤ 9 := Nat.le_trans (Nat.div_le_self _ _) b2
  refine r_aload_n dX7_isAhead_0 rfl ?_
  refine r_getR (j := 152) dX7_isAhead_1 k_X7_106 rfl (by decide) rfl rfl ?_
  refine r_iload_n dX7_isAhead_4 rfl ?_
  refine r_iald (o) dX7_isAhead_5 rfl rfl (show o < 6 by omega) ?_
  refine r_iload_n dX7_isAhead_6 rfl ?_
  refine r_idiv dX7_isAhead_7 hne ?_
  refine r_aload_n dX7_isAhead_8 rfl ?_
  refine r_getR (j := 152) dX7_isAhead_9 k_X7_106 rfl (by decide) rfl rfl ?_
  refine r_iload_n dX7_isAhead_12 rfl ?_
  refine r_iald (i) dX7_isAhead_13 rfl rfl (show i < 6 by omega) ?_
  refine r_iload_n dX7_isAhead_14 rfl ?_
  refine r_idiv dX7_isAhead_15 hne ?_
  rw [a1, b1, nI_div (by omega) hs (by omega), nI_div (by omega) hs (by omega)]
  refine r_icmp_lt (tgt := 43) dX7_isAhead_16 (by decide) (fun c_16 => ?_) (fun c_16 => ?_)
  · have z := (nI_lt' (by omega) (by omega)).mp c_16
    refine r_iconst (v := 1) dX7_isAhead_43 (by decide) ?_
    refine r_goto (tgt := 48) dX7_isAhead_44 (by decide) ?_
    refine r_ireturn dX7_isAhead_48 ⟨_, rfl, rfl⟩ ?_
    exact ⟨by first | rw [show aheadS (fun e => ate e / s) o i = true from by simp only [aheadS, decide_eq_true_eq]; omega]; rfl | rw [show aheadS (fun e => ate e / s) o i = false from by simp only [aheadS, decide_eq_false_iff_not]; omega]; rfl, rfl⟩
  · have z : ¬ ate o / s < ate i / s := fun q => c_16 ((nI_lt' (by omega) (by omega)).mpr q)
    refine r_aload_n dX7_isAhead_19 rfl ?_
    refine r_getR (j := 152) dX7_isAhead_20 k_X7_106 rfl (by decide) rfl rfl ?_
    refine r_iload_n dX7_isAhead_23 rfl ?_
    refine r_iald (o) dX7_isAhead_24 rfl rfl (show o < 6 by omega) ?_
    refine r_iload_n dX7_isAhead_25 rfl ?_
    refine r_idiv dX7_isAhead_26 hne ?_
    refine r_aload_n dX7_isAhead_27 rfl ?_
    refine r_getR (j := 152) dX7_isAhead_28 k_X7_106 rfl (by decide) rfl rfl ?_
    refine r_iload_n dX7_isAhead_31 rfl ?_
    refine r_iald (i) dX7_isAhead_32 rfl rfl (show i < 6 by omega) ?_
    refine r_iload_n dX7_isAhead_33 rfl ?_
    refine r_idiv dX7_isAhead_34 hne ?_
    rw [a1, b1, nI_div (by omega) hs (by omega), nI_div (by omega) hs (by omega)]
    refine r_icmp_ne (tgt := 47) dX7_isAhead_35 (by decide) (fun c_35 => ?_) (fun c_35 => ?_)
    · have z2 : ¬ ate o / s = ate i / s := fun q => c_35 (by rw [q])
      refine r_iconst (v := 0) dX7_isAhead_47 (by decide) ?_
      refine r_ireturn dX7_isAhead_48 ⟨_, rfl, rfl⟩ ?_
      exact ⟨by first | rw [show aheadS (fun e => ate e / s) o i = true from by simp only [aheadS, decide_eq_true_eq]; omega]; rfl | rw [show aheadS (fun e => ate e / s) o i = false from by simp only [aheadS, decide_eq_false_iff_not]; omega]; rfl, rfl⟩
    · have z2 := (nI_eq' (by omega) (by omega)).mp c_35
      refine r_iload_n dX7_isAhead_38 rfl ?_
      refine r_iload_n dX7_isAhead_39 rfl ?_
      refine r_icmp_ge (tgt := 47) dX7_isAhead_40 (by decide) (fun c_40 => ?_) (fun c_40 => ?_)
      · have z3 := (nI_le' (by omega) (by omega)).mp c_40
        refine r_iconst (v := 0) dX7_isAhead_47 (by decide) ?_
        refine r_ireturn dX7_isAhead_48 ⟨_, rfl, rfl⟩ ?_
        exact ⟨by first | rw [show aheadS (fun e => ate e / s) o i = true from by simp only [aheadS, decide_eq_true_eq]; omega]; rfl | rw [show aheadS (fun e => ate e / s) o i = false from by simp only [aheadS, decide_eq_false_iff_not]; omega]; rfl, rfl⟩
      · have z3 : ¬ i ≤ o := fun q => c_40 ((nI_le' (by omega) (by omega)).mpr q)
        refine r_iconst (v := 1) dX7_isAhead_43 (by decide) ?_
        refine r_goto (tgt := 48) dX7_isAhead_44 (by decide) ?_
        refine r_ireturn dX7_isAhead_48 ⟨_, rfl, rfl⟩ ?_
        exact ⟨by first | rw [show aheadS (fun e => ate e / s) o i = true from by simp only [aheadS, decide_eq_true_eq]; omega]; rfl | rw [show aheadS (fun e => ate e / s) o i = false from by simp only [aheadS, decide_eq_false_iff_not]; omega]; rfl, rfl⟩
/-! bakerNow -/
theorem bk_mid {G : WT} {l : Launch} (hG : GOK G) {h : Hp} {b : Nat} {T : Tb} {V : Hv} {ate : Nat → Nat} {i : Nat} {vs : Int32} (hE : T.1 7 0 ≤ 5) (hE2 : h.1 134 0 = nI (T.1 7 0)) (H : RHs h b V) (hA : EtOK h (T.1 7 0) ate) (hi : i < T.1 7 0) {Q : Option Value → Hp → Prop}
    (k1 : placeS (prtS V ate) (T.1 7 0) i = T.1 7 0 / 2 → Q (some (.int (nI i))) h)
    (k2 : ¬ placeS (prtS V ate) (T.1 7 0) i = T.1 7 0 / 2 → ∀ v5 v6, Wp G l 4 RX7 cX7_bakerNow 7 (some .int) 152 [.ref (gA G 134), .int (nI (scaleS V)), .int 2, .int vs, .int (nI i), v5, v6] [] h Q) :
    ∀ m o : Nat, o + m = T.1 7 0 → Wp G l 4 RX7 cX7_bakerNow 7 (some .int) 35 [.ref (gA G 134), .int (nI (scaleS V)), .int 2, .int vs, .int (nI i), .int (nI (cntTo (fun o => aheadS (prtS V ate) o i) o)), .int (nI o)] [] h Q := by
  have hsp := scaleS_pos V
  have hsl := scaleS_le H.2.1
  intro m
  induction m with
  | zero =>
    intro o ho
    have hcl := cntTo_le (fun o => aheadS (prtS V ate) o i) o
    have e : cntTo (fun o => aheadS (prtS V ate) o i) o = placeS (prtS V ate) (T.1 7 0) i := by rw [placeS, show o = T.1 7 0 by omega]
    rw [e] at hcl ⊢
    refine r_iload dX7_bakerNow_35 rfl ?_
    refine r_aload_n dX7_bakerNow_37 rfl ?_
    refine r_getI dX7_bakerNow_38 k_X7_7 rfl (by decide) rfl ?_
    rw [hE2]
    refine r_icmp_ge (tgt := 79) dX7_bakerNow_41 (by decide) (fun c_41 => ?_) (fun c_41 => ?_)
    · refine r_iload dX7_bakerNow_79 rfl ?_
      refine r_aload_n dX7_bakerNow_81 rfl ?_
      refine r_getI dX7_bakerNow_82 k_X7_7 rfl (by decide) rfl ?_
      refine r_iconst (v := 2) dX7_bakerNow_85 (by decide) ?_
      refine r_idiv dX7_bakerNow_86 (by decide) ?_
      rw [hE2, show (2 : Int32) = nI 2 from rfl, nI_div (by omega) (by omega) (by omega)]
      refine r_icmp_ne (tgt := 93) dX7_bakerNow_87 (by decide) (fun c_87 => ?_) (fun c_87 => ?_)
      · refine r_goto (tgt := 152) dX7_bakerNow_93 (by decide) ?_
        exact k2 (fun q => c_87 (by rw [q])) _ _
      · refine r_iload dX7_bakerNow_90 rfl ?_
        refine r_ireturn dX7_bakerNow_92 ⟨_, rfl, rfl⟩ ?_
        exact k1 ((nI_eq' (by omega) (by omega)).mp c_87)
    · exact absurd (nI_le (by omega) (by omega)) c_41
  | succ m ih =>
    intro o ho
    have hcl := cntTo_le (fun o => aheadS (prtS V ate) o i) o
    have n1 : ∀ z : Int32, z = nI (if aheadS (prtS V ate) o i = true then 1 else 0) → Wp G l 4 RX7 cX7_bakerNow 7 (some .int) 35 [.ref (gA G 134), .int (nI (scaleS V)), .int 2, .int vs, .int (nI i), .int (nI (cntTo (fun o => aheadS (prtS V ate) o i) o) + z), .int (nI (o + 1))] [] h Q := by
      intro z hz
      subst hz
      rw [nI_add]
      exact ih (o + 1) (by omega)
    refine r_iload dX7_bakerNow_35 rfl ?_
    refine r_aload_n dX7_bakerNow_37 rfl ?_
    refine r_getI dX7_bakerNow_38 k_X7_7 rfl (by decide) rfl ?_
    rw [hE2]
    refine r_icmp_ge (tgt := 79) dX7_bakerNow_41 (by decide) (fun c_41 => ?_) (fun c_41 => ?_)
    · exact absurd c_41 (nI_ge (by omega) (by omega))
    · refine r_iload dX7_bakerNow_44 rfl ?_
      refine r_iload dX7_bakerNow_46 rfl ?_
      refine r_iload dX7_bakerNow_48 rfl ?_
      refine r_icmp_eq (tgt := 69) dX7_bakerNow_50 (by decide) (fun c_50 => ?_) (fun c_50 => ?_)
      · have z : aheadS (prtS V ate) o i = false := by rw [(nI_eq' (by omega) (by omega)).mp c_50]; exact aheadS_self _ _
        refine r_iconst (v := 0) dX7_bakerNow_69 (by decide) ?_
        refine r_iadd dX7_bakerNow_70 ?_
        refine r_istore dX7_bakerNow_71 (by decide) rfl rfl ?_
        dsimp only [List.set]
        refine r_iinc dX7_bakerNow_73 rfl (by first | exact nI_inc _ | rfl) (by decide) rfl rfl ?_
        dsimp only [List.set]
        refine r_goto (tgt := 35) dX7_bakerNow_76 (by decide) ?_
        exact n1 _ (by rw [z]; rfl)
      · refine r_aload_n dX7_bakerNow_53 rfl ?_
        refine r_iload dX7_bakerNow_54 rfl ?_
        refine r_iload dX7_bakerNow_56 rfl ?_
        refine r_iload_n dX7_bakerNow_58 rfl ?_
        refine r_callV dX7_bakerNow_59 l_X7_303 o_X7_isAhead v_X7_isAhead rfl (by decide) rfl rfl (m_X7_isAhead hG (E := T.1 7 0) (ate := ate) hE (show o < T.1 7 0 by omega) hi hsp hsl hA) (by decide) rfl (Nat.le_of_ble_eq_true rfl) (fun r59 h59 hq59 => ?_)
        obtain ⟨rfl, e59⟩ := hq59
        rw [e59]
        clear e59 h59
        refine r_if_eq (tgt := 69) dX7_bakerNow_62 (by decide) (fun c_62 => ?_) (fun c_62 => ?_)
        · have z : aheadS (prtS V ate) o i = false := b01_0.mp c_62
          refine r_iconst (v := 0) dX7_bakerNow_69 (by decide) ?_
          refine r_iadd dX7_bakerNow_70 ?_
          refine r_istore dX7_bakerNow_71 (by decide) rfl rfl ?_
          dsimp only [List.set]
          refine r_iinc dX7_bakerNow_73 rfl (by first | exact nI_inc _ | rfl) (by decide) rfl rfl ?_
          dsimp only [List.set]
          refine r_goto (tgt := 35) dX7_bakerNow_76 (by decide) ?_
          exact n1 _ (by rw [z]; rfl)
        · have z : aheadS (prtS V ate) o i = true := b01_n0.mp c_62
          refine r_iconst (v := 1) dX7_bakerNow_65 (by decide) ?_
          refine r_goto (tgt := 70) dX7_bakerNow_66 (by decide) ?_
          refine r_iadd dX7_bakerNow_70 ?_
          refine r_istore dX7_bakerNow_71 (by decide) rfl rfl ?_
          dsimp only [List.set]
          refine r_iinc dX7_bakerNow_73 rfl (by first | exact nI_inc _ | rfl) (by decide) rfl rfl ?_
          dsimp only [List.set]
          refine r_goto (tgt := 35) dX7_bakerNow_76 (by decide) ?_
          exact n1 _ (by rw [z]; rfl)
theorem bk_loop {G : WT} {l : Launch} (hG : GOK G) {h : Hp} {b : Nat} {T : Tb} {V : Hv} {ate : Nat → Nat} {law : Nat} (hE : T.1 7 0 ≤ 5) (hE2 : h.1 134 0 = nI (T.1 7 0)) (H : RHs h b V) (hA : EtOK h (T.1 7 0) ate) (hlaw : law < 3) :
    ∀ m i : Nat, i + m = T.1 7 0 → (law = 2 → ∀ j, j < i → ¬ placeS (prtS V ate) (T.1 7 0) j = T.1 7 0 / 2) → ∀ v5 v6, Wp G l 4 RX7 cX7_bakerNow 7 (some .int) 15 [.ref (gA G 134), .int (nI (scaleS V)), .int (nI law), .int (if law = 2 ∨ i = 0 then -1 else nI (argS law (prtS V ate) (i - 1))), .int (nI i), v5, v6] [] h (fun r h' => r = some (.int (bkI (T.1 7 0) (bakeS law (prtS V ate) (T.1 7 0)))) ∧ h' = h) := by
  have hsp := scaleS_pos V
  have hsl := scaleS_le H.2.1
  have hsn : ¬ nI (scaleS V) = 0 := nI_ne0 hsp (by omega)
  intro m
  induction m with
  | zero =>
    intro i hi hno v5 v6
    refine r_iload dX7_bakerNow_15 rfl ?_
    refine r_aload_n dX7_bakerNow_17 rfl ?_
    refine r_getI dX7_bakerNow_18 k_X7_7 rfl (by decide) rfl ?_
    rw [hE2]
    refine r_icmp_ge (tgt := 158) dX7_bakerNow_21 (by decide) (fun c_21 => ?_) (fun c_21 => ?_)
    · refine r_iload_n dX7_bakerNow_158 rfl ?_
      refine r_ireturn dX7_bakerNow_159 ⟨_, rfl, rfl⟩ ?_
      refine ⟨?_, rfl⟩
      by_cases h0 : T.1 7 0 = 0
      · rw [bkI, if_pos h0, if_pos (Or.inr (by omega))]
      · rw [bkI, if_neg h0]
        by_cases h2 : law = 2
        · have q := midS_ok (p := prtS V ate) (E := T.1 7 0) (by omega)
          exact absurd q.2.1 (hno h2 _ (by omega))
        · rw [if_neg (by omega), bakeS, if_neg h2, show i = T.1 7 0 by omega]
    · exact absurd (nI_le (by omega) (by omega)) c_21
  | succ m ih =>
    intro i hi hno v5 v6
    obtain ⟨a1, a2⟩ := hA i (by omega)
    have l1 : ate i / scaleS V ≤ 9 := Nat.le_trans (Nat.div_le_self _ _) a2
    have nx : ∀ (v5 v6 : Value) (f : Int32), f = (if law = 2 then -1 else nI (argS law (prtS V ate) i)) → (law = 2 → ¬ placeS (prtS V ate) (T.1 7 0) i = T.1 7 0 / 2) → Wp G l 4 RX7 cX7_bakerNow 7 (some .int) 152 [.ref (gA G 134), .int (nI (scaleS V)), .int (nI law), .int f, .int (nI i), v5, v6] [] h (fun r h' => r = some (.int (bkI (T.1 7 0) (bakeS law (prtS V ate) (T.1 7 0)))) ∧ h' = h) := by
      intro v5 v6 f hf hp
      have q := ih (i + 1) (by omega) (fun h2 j hj => by
        by_cases hji : j = i
        · rw [hji]; exact hp h2
        · exact hno h2 j (by omega)) v5 v6
      have e : f = (if law = 2 ∨ i + 1 = 0 then -1 else nI (argS law (prtS V ate) (i + 1 - 1))) := by
        rw [hf]
        by_cases h2 : law = 2
        · rw [if_pos h2, if_pos (Or.inl h2)]
        · rw [if_neg h2, if_neg (by omega), Nat.add_sub_cancel]
      rw [← e] at q
      refine r_iinc dX7_bakerNow_152 rfl (by first | exact nI_inc _ | rfl) (by decide) rfl rfl ?_
      dsimp only [List.set]
      refine r_goto (tgt := 15) dX7_bakerNow_155 (by decide) ?_
      exact q
    by_cases h2 : law = 2
    · subst h2
      refine r_iload dX7_bakerNow_15 rfl ?_
      refine r_aload_n dX7_bakerNow_17 rfl ?_
      refine r_getI dX7_bakerNow_18 k_X7_7 rfl (by decide) rfl ?_
      rw [hE2]
      refine r_icmp_ge (tgt := 158) dX7_bakerNow_21 (by decide) (fun c_21 => ?_) (fun c_21 => ?_)
      · exact absurd c_21 (nI_ge (by omega) (by omega))
      · refine r_iload_n dX7_bakerNow_24 rfl ?_
        refine r_iconst (v := 2) dX7_bakerNow_25 (by decide) ?_
        refine r_icmp_ne (tgt := 96) dX7_bakerNow_26 (by decide) (fun c_26 => ?_) (fun c_26 => ?_)
        · exact absurd rfl c_26
        · refine r_iconst (v := 0) dX7_bakerNow_29 (by decide) ?_
          refine r_istore dX7_bakerNow_30 (by decide) rfl rfl ?_
          dsimp only [List.set]
          refine r_iconst (v := 0) dX7_bakerNow_32 (by decide) ?_
          refine r_istore dX7_bakerNow_33 (by decide) rfl rfl ?_
          dsimp only [List.set]
          refine bk_mid hG hE hE2 H hA (by omega) ?_ ?_ (T.1 7 0) 0 (by omega)
          · intro q
            refine ⟨?_, rfl⟩
            rw [bkI, if_neg (by omega), bakeS, if_pos rfl, midS, firstTo_at (fun j hj => decide_eq_false (hno rfl j hj)) (decide_eq_true q) _ (by omega)]
          · intro q v5 v6
            exact nx v5 v6 _ (by rw [if_pos (Or.inl rfl), if_pos rfl]) (fun _ => q)
    · by_cases hi0 : i = 0
      · refine r_iload dX7_bakerNow_15 rfl ?_
        refine r_aload_n dX7_bakerNow_17 rfl ?_
        refine r_getI dX7_bakerNow_18 k_X7_7 rfl (by decide) rfl ?_
        rw [hE2]
        refine r_icmp_ge (tgt := 158) dX7_bakerNow_21 (by decide) (fun c_21 => ?_) (fun c_21 => ?_)
        · exact absurd c_21 (nI_ge (by omega) (by omega))
        · refine r_iload_n dX7_bakerNow_24 rfl ?_
          refine r_iconst (v := 2) dX7_bakerNow_25 (by decide) ?_
          refine r_icmp_ne (tgt := 96) dX7_bakerNow_26 (by decide) (fun c_26 => ?_) (fun c_26 => ?_)
          · refine r_iload_n dX7_bakerNow_96 rfl ?_
            rw [if_pos (Or.inr hi0)]
            refine r_if_lt (tgt := 149) dX7_bakerNow_97 (by decide) (fun c_97 => ?_) (fun c_97 => ?_)
            · refine r_iload dX7_bakerNow_149 rfl ?_
              refine r_istore_n dX7_bakerNow_151 (by decide) rfl rfl ?_
              dsimp only [List.set]
              exact nx v5 v6 _ (by rw [if_neg h2, hi0]; rfl) (fun q => absurd q h2)
            · exact absurd (by decide) c_97
          · exact absurd ((nI_eq' (b := 2) (by omega) (by omega)).mp c_26) h2
      · have al := argS_lt law (prtS V ate) (i - 1)
        obtain ⟨b1, b2⟩ := hA (argS law (prtS V ate) (i - 1)) (by omega)
        have l2 : ate (argS law (prtS V ate) (i - 1)) / scaleS V ≤ 9 := Nat.le_trans (Nat.div_le_self _ _) b2
        have ea : argS law (prtS V ate) i = if (if law = 0 then prtS V ate i < prtS V ate (argS law (prtS V ate) (i - 1)) else prtS V ate (argS law (prtS V ate) (i - 1)) < prtS V ate i) then i else argS law (prtS V ate) (i - 1) := by
          obtain ⟨j, rfl⟩ : ∃ j, i = j + 1 := ⟨i - 1, by omega⟩
          rfl
        simp only [prtS] at ea
        rw [if_neg (show ¬ (law = 2 ∨ i = 0) by omega)]
        generalize argS law (prtS V ate) (i - 1) = a at *
        generalize argS law (prtS V ate) i = a' at *
        refine r_iload dX7_bakerNow_15 rfl ?_
        refine r_aload_n dX7_bakerNow_17 rfl ?_
        refine r_getI dX7_bakerNow_18 k_X7_7 rfl (by decide) rfl ?_
        rw [hE2]
        refine r_icmp_ge (tgt := 158) dX7_bakerNow_21 (by decide) (fun c_21 => ?_) (fun c_21 => ?_)
        · exact absurd c_21 (nI_ge (by omega) (by omega))
        · refine r_iload_n dX7_bakerNow_24 rfl ?_
          refine r_iconst (v := 2) dX7_bakerNow_25 (by decide) ?_
          refine r_icmp_ne (tgt := 96) dX7_bakerNow_26 (by decide) (fun c_26 => ?_) (fun c_26 => ?_)
          · refine r_iload_n dX7_bakerNow_96 rfl ?_
            refine r_if_lt (tgt := 149) dX7_bakerNow_97 (by decide) (fun c_97 => ?_) (fun c_97 => ?_)
            · exact absurd c_97 (nI_pos (by omega))
            · refine r_iload_n dX7_bakerNow_100 rfl ?_
              refine r_if_ne (tgt := 124) dX7_bakerNow_101 (by decide) (fun c_101 => ?_) (fun c_101 => ?_)
              · have y : ¬ law = 0 := fun q => c_101 (by rw [q]; rfl)
                refine r_iload_n dX7_bakerNow_124 rfl ?_
                refine r_iconst (v := 1) dX7_bakerNow_125 (by decide) ?_
                refine r_icmp_ne (tgt := 152) dX7_bakerNow_126 (by decide) (fun c_126 => ?_) (fun c_126 => ?_)
                · have y2 : ¬ law = 1 := fun q => c_126 (by rw [q]; rfl)
                  refine nx v5 v6 _ ?_ (fun q => absurd q h2)
                  rw [if_neg h2, ea]
                  by_cases hl0 : law = 0
                  · simp only [if_pos hl0]
                    first
                    | (rw [if_pos (by assumption)]; done)
                    | (rw [if_neg (by assumption)]; done)
                    | (exfalso; omega)
                  · simp only [if_neg hl0]
                    first
                    | (rw [if_pos (by assumption)]; done)
                    | (rw [if_neg (by assumption)]; done)
                    | (exfalso; omega)
                · have y2 : law = 1 := (nI_eq' (b := 1) (by omega) (by omega)).mp c_126
                  refine r_aload_n dX7_bakerNow_129 rfl ?_
                  refine r_getR (j := 152) dX7_bakerNow_130 k_X7_106 rfl (by decide) rfl rfl ?_
                  refine r_iload dX7_bakerNow_133 rfl ?_
                  refine r_iald (i) dX7_bakerNow_135 rfl rfl (show i < 6 by omega) ?_
                  refine r_iload_n dX7_bakerNow_136 rfl ?_
                  refine r_idiv dX7_bakerNow_137 hsn ?_
                  refine r_aload_n dX7_bakerNow_138 rfl ?_
                  refine r_getR (j := 152) dX7_bakerNow_139 k_X7_106 rfl (by decide) rfl rfl ?_
                  refine r_iload_n dX7_bakerNow_142 rfl ?_
                  refine r_iald (a) dX7_bakerNow_143 rfl rfl (show a < 6 by omega) ?_
                  refine r_iload_n dX7_bakerNow_144 rfl ?_
                  refine r_idiv dX7_bakerNow_145 hsn ?_
                  rw [a1, b1, nI_div (by omega) hsp (by omega), nI_div (by omega) hsp (by omega)]
                  refine r_icmp_le (tgt := 152) dX7_bakerNow_146 (by decide) (fun c_146 => ?_) (fun c_146 => ?_)
                  · have z2 : ¬ ate a / scaleS V < ate i / scaleS V := Nat.not_lt.mpr ((nI_le' (by omega) (by omega)).mp c_146)
                    refine nx v5 v6 _ ?_ (fun q => absurd q h2)
                    rw [if_neg h2, ea]
                    by_cases hl0 : law = 0
                    · simp only [if_pos hl0]
                      first
                      | (rw [if_pos (by assumption)]; done)
                      | (rw [if_neg (by assumption)]; done)
                      | (exfalso; omega)
                    · simp only [if_neg hl0]
                      first
                      | (rw [if_pos (by assumption)]; done)
                      | (rw [if_neg (by assumption)]; done)
                      | (exfalso; omega)
                  · have z2 : ate a / scaleS V < ate i / scaleS V := Nat.not_le.mp (fun q => c_146 ((nI_le' (by omega) (by omega)).mpr q))
                    refine r_iload dX7_bakerNow_149 rfl ?_
                    refine r_istore_n dX7_bakerNow_151 (by decide) rfl rfl ?_
                    dsimp only [List.set]
                    refine nx v5 v6 _ ?_ (fun q => absurd q h2)
                    rw [if_neg h2, ea]
                    by_cases hl0 : law = 0
                    · simp only [if_pos hl0]
                      first
                      | (rw [if_pos (by assumption)]; done)
                      | (rw [if_neg (by assumption)]; done)
                      | (exfalso; omega)
                    · simp only [if_neg hl0]
                      first
                      | (rw [if_pos (by assumption)]; done)
                      | (rw [if_neg (by assumption)]; done)
                      | (exfalso; omega)
              · have y : law = 0 := (nI_eq' (b := 0) (by omega) (by omega)).mp c_101
                refine r_aload_n dX7_bakerNow_104 rfl ?_
                refine r_getR (j := 152) dX7_bakerNow_105 k_X7_106 rfl (by decide) rfl rfl ?_
                refine r_iload dX7_bakerNow_108 rfl ?_
                refine r_iald (i) dX7_bakerNow_110 rfl rfl (show i < 6 by omega) ?_
                refine r_iload_n dX7_bakerNow_111 rfl ?_
                refine r_idiv dX7_bakerNow_112 hsn ?_
                refine r_aload_n dX7_bakerNow_113 rfl ?_
                refine r_getR (j := 152) dX7_bakerNow_114 k_X7_106 rfl (by decide) rfl rfl ?_
                refine r_iload_n dX7_bakerNow_117 rfl ?_
                refine r_iald (a) dX7_bakerNow_118 rfl rfl (show a < 6 by omega) ?_
                refine r_iload_n dX7_bakerNow_119 rfl ?_
                refine r_idiv dX7_bakerNow_120 hsn ?_
                rw [a1, b1, nI_div (by omega) hsp (by omega), nI_div (by omega) hsp (by omega)]
                refine r_icmp_lt (tgt := 149) dX7_bakerNow_121 (by decide) (fun c_121 => ?_) (fun c_121 => ?_)
                · have z := (nI_lt' (by omega) (by omega)).mp c_121
                  refine r_iload dX7_bakerNow_149 rfl ?_
                  refine r_istore_n dX7_bakerNow_151 (by decide) rfl rfl ?_
                  dsimp only [List.set]
                  refine nx v5 v6 _ ?_ (fun q => absurd q h2)
                  rw [if_neg h2, ea]
                  by_cases hl0 : law = 0
                  · simp only [if_pos hl0]
                    first
                    | (rw [if_pos (by assumption)]; done)
                    | (rw [if_neg (by assumption)]; done)
                    | (exfalso; omega)
                  · simp only [if_neg hl0]
                    first
                    | (rw [if_pos (by assumption)]; done)
                    | (rw [if_neg (by assumption)]; done)
                    | (exfalso; omega)
                · have z : ¬ ate i / scaleS V < ate a / scaleS V := fun q => c_121 ((nI_lt' (by omega) (by omega)).mpr q)
                  refine r_iload_n dX7_bakerNow_124 rfl ?_
                  refine r_iconst (v := 1) dX7_bakerNow_125 (by decide) ?_
                  refine r_icmp_ne (tgt := 152) dX7_bakerNow_126 (by decide) (fun c_126 => ?_) (fun c_126 => ?_)
                  · have y2 : ¬ law = 1 := fun q => c_126 (by rw [q]; rfl)
                    refine nx v5 v6 _ ?_ (fun q => absurd q h2)
                    rw [if_neg h2, ea]
                    by_cases hl0 : law = 0
                    · simp only [if_pos hl0]
                      first
                      | (rw [if_pos (by assumption)]; done)
                      | (rw [if_neg (by assumption)]; done)
                      | (exfalso; omega)
                    · simp only [if_neg hl0]
                      first
                      | (rw [if_pos (by assumption)]; done)
                      | (rw [if_neg (by assumption)]; done)
                      | (exfalso; omega)
                  · have y2 : law = 1 := (nI_eq' (b := 1) (by omega) (by omega)).mp c_126
                    refine r_aload_n dX7_bakerNow_129 rfl ?_
                    refine r_getR (j := 152) dX7_bakerNow_130 k_X7_106 rfl (by decide) rfl rfl ?_
                    refine r_iload dX7_bakerNow_133 rfl ?_
                    refine r_iald (i) dX7_bakerNow_135 rfl rfl (show i < 6 by omega) ?_
                    refine r_iload_n dX7_bakerNow_136 rfl ?_
                    refine r_idiv dX7_bakerNow_137 hsn ?_
                    refine r_aload_n dX7_bakerNow_138 rfl ?_
                    refine r_getR (j := 152) dX7_bakerNow_139 k_X7_106 rfl (by decide) rfl rfl ?_
                    refine r_iload_n dX7_bakerNow_142 rfl ?_
                    refine r_iald (a) dX7_bakerNow_143 rfl rfl (show a < 6 by omega) ?_
                    refine r_iload_n dX7_bakerNow_144 rfl ?_
                    refine r_idiv dX7_bakerNow_145 hsn ?_
                    rw [a1, b1, nI_div (by omega) hsp (by omega), nI_div (by omega) hsp (by omega)]
                    refine r_icmp_le (tgt := 152) dX7_bakerNow_146 (by decide) (fun c_146 => ?_) (fun c_146 => ?_)
                    · have z2 : ¬ ate a / scaleS V < ate i / scaleS V := Nat.not_lt.mpr ((nI_le' (by omega) (by omega)).mp c_146)
                      refine nx v5 v6 _ ?_ (fun q => absurd q h2)
                      rw [if_neg h2, ea]
                      by_cases hl0 : law = 0
                      · simp only [if_pos hl0]
                        first
                        | (rw [if_pos (by assumption)]; done)
                        | (rw [if_neg (by assumption)]; done)
                        | (exfalso; omega)
                      · simp only [if_neg hl0]
                        first
                        | (rw [if_pos (by assumption)]; done)
                        | (rw [if_neg (by assumption)]; done)
                        | (exfalso; omega)
                    · have z2 : ate a / scaleS V < ate i / scaleS V := Nat.not_le.mp (fun q => c_146 ((nI_le' (by omega) (by omega)).mpr q))
                      refine r_iload dX7_bakerNow_149 rfl ?_
                      refine r_istore_n dX7_bakerNow_151 (by decide) rfl rfl ?_
                      dsimp only [List.set]
                      refine nx v5 v6 _ ?_ (fun q => absurd q h2)
                      rw [if_neg h2, ea]
                      by_cases hl0 : law = 0
                      · simp only [if_pos hl0]
                        first
                        | (rw [if_pos (by assumption)]; done)
                        | (rw [if_neg (by assumption)]; done)
                        | (exfalso; omega)
                      · simp only [if_neg hl0]
                        first
                        | (rw [if_pos (by assumption)]; done)
                        | (rw [if_neg (by assumption)]; done)
                        | (exfalso; omega)
          · exact absurd ((nI_eq' (b := 2) (by omega) (by omega)).mp c_26) h2
set_option maxRecDepth 100000 in
theorem m_X7_bakerNow {G : WT} {l : Launch} (hG : GOK G) {h : Hp} {b : Nat} {T : Tb} {V : Hv} {ate : Nat → Nat} {told : Option Nat} (hE : T.1 7 0 ≤ 5) (hE2 : h.1 134 0 = nI (T.1 7 0)) (H : RHs h b V) (hL : RLw h told) (hA : EtOK h (T.1 7 0) ate) : Cl G l 4 yX7_bakerNow cX7_bakerNow 7 (some .int) [.ref (gA G 134)] h (fun r h' => r = some (.int (bkI (T.1 7 0) (bakeS (lawE V told) (prtS V ate) (T.1 7 0)))) ∧ h' = h) := by
  refine Cl.of hG (by decide) (Nat.le_of_ble_eq_true rfl) ?_
  show Wp G l 4 RX7 cX7_bakerNow 7 (some .int) 0 [.ref (gA G 134), mk0, mk0, mk0, mk0, mk0, mk0] [] h _
  have hlaw : lawE V told < 3 := by
    cases told with
    | none => exact lawS_lt V
    | some k => exact hL.2 k rfl
  refine r_aload_n dX7_bakerNow_0 rfl ?_
  refine r_callV dX7_bakerNow_1 l_X7_297 o_X7_scaleNow v_X7_scaleNow rfl (by decide) rfl rfl (m_X7_scaleNow hG H) (by decide) rfl (Nat.le_of_ble_eq_true rfl) (fun r1 h1 hq1 => ?_)
  obtain ⟨rfl, e1⟩ := hq1
  rw [e1]
  clear e1 h1
  refine r_istore_n dX7_bakerNow_4 (by decide) rfl rfl ?_
  dsimp only [List.set]
  refine r_aload_n dX7_bakerNow_5 rfl ?_
  refine r_callV dX7_bakerNow_6 l_X7_300 o_X7_lawNow v_X7_lawNow rfl (by decide) rfl rfl (m_X7_lawNow hG H hL) (by decide) rfl (Nat.le_of_ble_eq_true rfl) (fun r6 h6 hq6 => ?_)
  obtain ⟨rfl, e6⟩ := hq6
  rw [e6]
  clear e6 h6
  refine r_istore_n dX7_bakerNow_9 (by decide) rfl rfl ?_
  dsimp only [List.set]
  refine r_iconst (v := -1) dX7_bakerNow_10 (by decide) ?_
  refine r_istore_n dX7_bakerNow_11 (by decide) rfl rfl ?_
  dsimp only [List.set]
  refine r_iconst (v := 0) dX7_bakerNow_12 (by decide) ?_
  refine r_istore dX7_bakerNow_13 (by decide) rfl rfl ?_
  dsimp only [List.set]
  have q := bk_loop (G := G) (l := l) hG hE hE2 H hA hlaw (T.1 7 0) 0 (by omega) (fun _ j hj => absurd hj (by omega)) mk0 mk0
  rw [if_pos (Or.inr rfl)] at q
  exact q
