/-! the face of the developers' class: what the calls share -/
theorem toInt_lt0 {x : Int32} : x < 0 ↔ x.toInt < 0 := Int32.lt_iff_toInt_lt
theorem toInt_nI {x : Int32} {m : Nat} (hm : m < 1000000) : nI m < x ↔ (m : Int) < x.toInt := by rw [Int32.lt_iff_toInt_lt, nI_toInt (by omega)]
set_option maxRecDepth 100000 in
theorem m_X6_within {G : WT} {l : Launch} (hG : GOK G) {h : Hp} {x : Int32} {m : Nat} (hm : m < 1000000) : Cl G l 1 yX6_within cX6_within 2 (some .boolean) [.int x, .int (nI m)] h (fun r h' => r = some (.int (b01 (dec x (m + 1)).isSome)) ∧ h' = h) := by
  refine Cl.of hG (by decide) (Nat.le_of_ble_eq_true rfl) ?_
  show Wp G l 1 RX6 cX6_within 2 (some .boolean) 0 [.int x, .int (nI m)] [] h _
  cases hd : dec x (m + 1) with
  | none =>
    have q9 := dec_none.mp hd
    refine r_iload_n dX6_within_0 rfl ?_
    refine r_if_lt (tgt := 13) dX6_within_1 (by decide) (fun c_1 => ?_) (fun c_1 => ?_)
    · refine r_iconst (v := 0) dX6_within_13 (by decide) ?_
      refine r_ireturn dX6_within_14 ⟨_, rfl, rfl⟩ ?_
      exact ⟨rfl, rfl⟩
    · refine r_iload_n dX6_within_4 rfl ?_
      refine r_iload_n dX6_within_5 rfl ?_
      refine r_icmp_gt (tgt := 13) dX6_within_6 (by decide) (fun c_6 => ?_) (fun c_6 => ?_)
      · refine r_iconst (v := 0) dX6_within_13 (by decide) ?_
        refine r_ireturn dX6_within_14 ⟨_, rfl, rfl⟩ ?_
        exact ⟨rfl, rfl⟩
      · exfalso
        have z1 : ¬ x.toInt < 0 := fun y => c_1 (toInt_lt0.mpr y)
        have z2 : ¬ (m : Int) < x.toInt := fun y => c_6 ((toInt_nI hm).mpr y)
        omega
        skip
  | some j =>
    obtain ⟨j1, rfl, j3⟩ := dec_some.mp hd
    refine r_iload_n dX6_within_0 rfl ?_
    refine r_if_lt (tgt := 13) dX6_within_1 (by decide) (fun c_1 => ?_) (fun c_1 => ?_)
    · exact absurd c_1 (by rw [toInt_lt0, nI_toInt (by omega)]; omega)
    · refine r_iload_n dX6_within_4 rfl ?_
      refine r_iload_n dX6_within_5 rfl ?_
      refine r_icmp_gt (tgt := 13) dX6_within_6 (by decide) (fun c_6 => ?_) (fun c_6 => ?_)
      · exact absurd c_6 (by rw [toInt_nI hm, nI_toInt (by omega)]; omega)
      · refine r_iconst (v := 1) dX6_within_9 (by decide) ?_
        refine r_goto (tgt := 14) dX6_within_10 (by decide) ?_
        refine r_ireturn dX6_within_14 ⟨_, rfl, rfl⟩ ?_
        exact ⟨rfl, rfl⟩
set_option maxRecDepth 100000 in
theorem m_X6_isEater {G : WT} {l : Launch} (hG : GOK G) {h : Hp} {x : Int32} {E : Nat} (hE : E ≤ 5) (h0 : h.1 1 7 = nI E) : Cl G l 1 yX6_isEater cX6_isEater 2 (some .boolean) [.ref (gA G 0), .int x] h (fun r h' => r = some (.int (b01 (dec x E).isSome)) ∧ h' = h) := by
  refine Cl.of hG (by decide) (Nat.le_of_ble_eq_true rfl) ?_
  show Wp G l 1 RX6 cX6_isEater 2 (some .boolean) 0 [.ref (gA G 0), .int x] [] h _
  cases hd : dec x E with
  | none =>
    have q9 := dec_none.mp hd
    refine r_iload_n dX6_isEater_0 rfl ?_
    refine r_if_lt (tgt := 19) dX6_isEater_1 (by decide) (fun c_1 => ?_) (fun c_1 => ?_)
    · refine r_iconst (v := 0) dX6_isEater_19 (by decide) ?_
      refine r_ireturn dX6_isEater_20 ⟨_, rfl, rfl⟩ ?_
      exact ⟨rfl, rfl⟩
    · refine r_iload_n dX6_isEater_4 rfl ?_
      refine r_aload_n dX6_isEater_5 rfl ?_
      refine r_getR (j := 1) dX6_isEater_6 k_X6_12 rfl (by decide) rfl rfl ?_
      refine r_getI dX6_isEater_9 k_X6_82 rfl (by decide) rfl ?_
      rw [h0]
      refine r_icmp_ge (tgt := 19) dX6_isEater_12 (by decide) (fun c_12 => ?_) (fun c_12 => ?_)
      · refine r_iconst (v := 0) dX6_isEater_19 (by decide) ?_
        refine r_ireturn dX6_isEater_20 ⟨_, rfl, rfl⟩ ?_
        exact ⟨rfl, rfl⟩
      · exfalso
        have z1 : ¬ x.toInt < 0 := fun y => c_1 (toInt_lt0.mpr y)
        have z2 : ¬ (E : Int) ≤ x.toInt := fun y => c_12 (by rw [Int32.le_iff_toInt_le, nI_toInt (by omega)]; exact y)
        omega
        skip
  | some j =>
    obtain ⟨j1, rfl, j3⟩ := dec_some.mp hd
    refine r_iload_n dX6_isEater_0 rfl ?_
    refine r_if_lt (tgt := 19) dX6_isEater_1 (by decide) (fun c_1 => ?_) (fun c_1 => ?_)
    · exact absurd c_1 (by rw [toInt_lt0, nI_toInt (by omega)]; omega)
    · refine r_iload_n dX6_isEater_4 rfl ?_
      refine r_aload_n dX6_isEater_5 rfl ?_
      refine r_getR (j := 1) dX6_isEater_6 k_X6_12 rfl (by decide) rfl rfl ?_
      refine r_getI dX6_isEater_9 k_X6_82 rfl (by decide) rfl ?_
      rw [h0]
      refine r_icmp_ge (tgt := 19) dX6_isEater_12 (by decide) (fun c_12 => ?_) (fun c_12 => ?_)
      · exact absurd c_12 (nI_ge (by omega) (by omega))
      · refine r_iconst (v := 1) dX6_isEater_15 (by decide) ?_
        refine r_goto (tgt := 20) dX6_isEater_16 (by decide) ?_
        refine r_ireturn dX6_isEater_20 ⟨_, rfl, rfl⟩ ?_
        exact ⟨rfl, rfl⟩
def hcell (k : Nat) : Nat := if k = 0 then 98 else 42 + 8 * k
theorem hcell_ks : ∀ k, k ≤ 6 → ksh (hcell k) = 1 := by decide
theorem hcell_rf : ∀ k, k < 6 → rfx 33 k = hcell (k + 1) := by decide
def HdC (h : Hp) (n k : Nat) : Prop := h.1 0 11 = nI n ∧ n ≤ 6 ∧ k ≤ n ∧ h.1 1 12 = nI k - 1
set_option maxRecDepth 100000 in
theorem m_X6_holding {G : WT} {l : Launch} (hG : GOK G) {h : Hp} {n k : Nat} (C : HdC h n k) : Cl G l 2 yX6_holding cX6_holding 1 (some (.object "AteLeast$House")) [.ref (gA G 0)] h (fun r h' => r = some (.ref (gA G (hcell k))) ∧ h' = h) := by
  refine Cl.of hG (by decide) (Nat.le_of_ble_eq_true rfl) ?_
  show Wp G l 2 RX6 cX6_holding 1 (some (.object "AteLeast$House")) 0 [.ref (gA G 0)] [] h _
  obtain ⟨c1, c2, c3, c4⟩ := C
  by_cases hk : k = 0
  · subst hk
    have e9 : dec (nI 0 - 1) n = none := dec_none.mpr (by rw [show (nI 0 - 1 : Int32).toInt = -1 from rfl]; omega)
    by_cases hn : n = 0
    · subst hn
      have w9 : Cl G l 1 yX6_within cX6_within 2 (some .boolean) [.int (nI 0 - 1), .int (nI 0 - 1)] h (fun r h' => r = some (.int 0) ∧ h' = h) := by
        refine Cl.of hG (by decide) (Nat.le_of_ble_eq_true rfl) ?_
        show Wp G l 1 RX6 cX6_within 2 (some .boolean) 0 [.int (nI 0 - 1), .int (nI 0 - 1)] [] h _
        refine r_iload_n dX6_within_0 rfl ?_
        refine r_if_lt (tgt := 13) dX6_within_1 (by decide) (fun c_1 => ?_) (fun c_1 => ?_)
        · refine r_iconst (v := 0) dX6_within_13 (by decide) ?_
          refine r_ireturn dX6_within_14 ⟨_, rfl, rfl⟩ ?_
          exact ⟨rfl, rfl⟩
        · exact absurd (by decide) c_1
      refine r_aload_n dX6_holding_0 rfl ?_
      refine r_getR (j := 1) dX6_holding_1 k_X6_12 rfl (by decide) rfl rfl ?_
      refine r_getI dX6_holding_4 k_X6_145 rfl (by decide) rfl ?_
      refine r_aload_n dX6_holding_7 rfl ?_
      refine r_getI dX6_holding_8 k_X6_69 rfl (by decide) rfl ?_
      refine r_iconst (v := 1) dX6_holding_11 (by decide) ?_
      refine r_isub dX6_holding_12 ?_
      rw [c4, c1]
      refine r_callS dX6_holding_13 l_X6_78 o_X6_within s_X6_within rfl (w9) (by decide) rfl (Nat.le_of_ble_eq_true rfl) (fun r13 h13 hq13 => ?_)
      obtain ⟨rfl, e13⟩ := hq13
      rw [e13]
      clear e13 h13
      refine r_if_eq (tgt := 34) dX6_holding_16 (by decide) (fun c_16 => ?_) (fun c_16 => ?_)
      · refine r_aload_n dX6_holding_34 rfl ?_
        refine r_getR (j := 98) dX6_holding_35 k_X6_27 rfl (by decide) rfl rfl ?_
        refine r_areturn dX6_holding_38 ⟨_, rfl, Or.inl ⟨_, rfl⟩⟩ ?_
        exact ⟨rfl, rfl⟩
      · exact absurd rfl c_16
    · refine r_aload_n dX6_holding_0 rfl ?_
      refine r_getR (j := 1) dX6_holding_1 k_X6_12 rfl (by decide) rfl rfl ?_
      refine r_getI dX6_holding_4 k_X6_145 rfl (by decide) rfl ?_
      refine r_aload_n dX6_holding_7 rfl ?_
      refine r_getI dX6_holding_8 k_X6_69 rfl (by decide) rfl ?_
      refine r_iconst (v := 1) dX6_holding_11 (by decide) ?_
      refine r_isub dX6_holding_12 ?_
      rw [c4, c1, show (nI n - 1 : Int32) = nI (n - 1) from pk_sub (b := 1) (by omega)]
      refine r_callS dX6_holding_13 l_X6_78 o_X6_within s_X6_within rfl (m_X6_within hG (x := nI 0 - 1) (m := n - 1) (by omega)) (by decide) rfl (Nat.le_of_ble_eq_true rfl) (fun r13 h13 hq13 => ?_)
      obtain ⟨rfl, rfl⟩ := hq13
      rw [show n - 1 + 1 = n by omega, e9]
      refine r_if_eq (tgt := 34) dX6_holding_16 (by decide) (fun c_16 => ?_) (fun c_16 => ?_)
      · refine r_aload_n dX6_holding_34 rfl ?_
        refine r_getR (j := 98) dX6_holding_35 k_X6_27 rfl (by decide) rfl rfl ?_
        refine r_areturn dX6_holding_38 ⟨_, rfl, Or.inl ⟨_, rfl⟩⟩ ?_
        exact ⟨rfl, rfl⟩
      · exact absurd rfl c_16
  · have e8 : (nI k - 1 : Int32) = nI (k - 1) := pk_sub (b := 1) (by omega)
    have e7 : (nI n - 1 : Int32) = nI (n - 1) := pk_sub (b := 1) (by omega)
    have e9 : dec (nI (k - 1)) n = some (k - 1) := dec_nI (by omega) (by omega)
    have er : rfx 33 (k - 1) = hcell k := by rw [hcell_rf (k - 1) (by omega), show k - 1 + 1 = k by omega]
    refine r_aload_n dX6_holding_0 rfl ?_
    refine r_getR (j := 1) dX6_holding_1 k_X6_12 rfl (by decide) rfl rfl ?_
    refine r_getI dX6_holding_4 k_X6_145 rfl (by decide) rfl ?_
    refine r_aload_n dX6_holding_7 rfl ?_
    refine r_getI dX6_holding_8 k_X6_69 rfl (by decide) rfl ?_
    refine r_iconst (v := 1) dX6_holding_11 (by decide) ?_
    refine r_isub dX6_holding_12 ?_
    rw [c4, c1, e8, e7]
    refine r_callS dX6_holding_13 l_X6_78 o_X6_within s_X6_within rfl (m_X6_within hG (x := nI (k - 1)) (m := n - 1) (by omega)) (by decide) rfl (Nat.le_of_ble_eq_true rfl) (fun r13 h13 hq13 => ?_)
    obtain ⟨rfl, rfl⟩ := hq13
    rw [show n - 1 + 1 = n by omega, e9]
    refine r_if_eq (tgt := 34) dX6_holding_16 (by decide) (fun c_16 => ?_) (fun c_16 => ?_)
    · exact absurd c_16 (show ¬ b01 true = 0 by decide)
    · refine r_aload_n dX6_holding_19 rfl ?_
      refine r_getR (j := 33) dX6_holding_20 k_X6_31 rfl (by decide) rfl rfl ?_
      refine r_aload_n dX6_holding_23 rfl ?_
      refine r_getR (j := 1) dX6_holding_24 k_X6_12 rfl (by decide) rfl rfl ?_
      refine r_getI dX6_holding_27 k_X6_145 rfl (by decide) rfl ?_
      refine r_aald (k - 1) dX6_holding_30 rfl (by decide) (by rw [c4, e8]) (show k - 1 < 6 by omega) ?_
      rw [er]
      refine r_goto (tgt := 38) dX6_holding_31 (by decide) ?_
      refine r_areturn dX6_holding_38 ⟨_, rfl, Or.inl ⟨_, rfl⟩⟩ ?_
      exact ⟨rfl, rfl⟩
/-! the state that asks need -/
def DIg (h : Hp) (n q : Nat) (V : Hv) (T : Tb) (told : Option Nat) (free : Bool) (pact : Option (Nat × Nat)) : Prop := DTb h 1 T ∧ TbOK T ∧ T.1 7 2 ≤ 9999 ∧ (h.1 0 11 = nI n ∧ n ≤ 6 ∧ T.1 7 5 ≤ n ∧ q = hcell (T.1 7 5)) ∧ DHs h q V ∧ SeC h told free ∧ RDp h (T.1 7 0) pact ∧ W0 h
theorem DIg.hd {h : Hp} {n q : Nat} {V : Hv} {T : Tb} {told : Option Nat} {free : Bool} {pact : Option (Nat × Nat)} (C : DIg h n q V T told free pact) : HdC h n (T.1 7 5) := ⟨C.2.2.2.1.1, C.2.2.2.1.2.1, C.2.2.2.1.2.2.1, C.1.1.2.2.2.2.2⟩
theorem DIg.ks {h : Hp} {n q : Nat} {V : Hv} {T : Tb} {told : Option Nat} {free : Bool} {pact : Option (Nat × Nat)} (C : DIg h n q V T told free pact) : ksh q = 1 := by
  rw [C.2.2.2.1.2.2.2]
  exact hcell_ks _ (by have := C.2.2.2.1.2.1; have := C.2.2.2.1.2.2.1; omega)
def asF (a i : Nat) : Bool := (decide (17 ≤ a) && decide (a ≤ 24)) || a == 35 || a == 36 || (decide (38 ≤ a) && decide (a ≤ 45)) || (a == 37 && decide (10 ≤ i))
theorem ho_as {h h' : Hp} (H : Fx (hoFd 17) h h') : Fx asF h h' := H.wk (fun x i y => by
  simp only [hoFd, asF, Bool.or_eq_false_iff, Bool.and_eq_false_iff, decide_eq_false_iff_not, beq_eq_false_iff_ne, ne_eq] at y ⊢
  omega)
theorem tb_as {h h' : Hp} (H : Fr (tbF 17) h h') : Fx asF h h' := H.x.wk (fun x i y => by
  simp only [tbF, asF, Bool.or_eq_false_iff, Bool.and_eq_false_iff, decide_eq_false_iff_not, beq_eq_false_iff_ne, ne_eq] at y ⊢
  omega)
theorem SeC.eq {h h' : Hp} {told : Option Nat} {free : Bool} (H : SeC h told free) (e : ∀ i, i = 13 ∨ i = 14 → h'.1 37 i = h.1 37 i) : SeC h' told free := ⟨by rw [e _ (by omega)]; exact H.1, H.2.1, by rw [e _ (by omega)]; exact H.2.2⟩
theorem DIg.fx {h h' : Hp} {n q : Nat} {V : Hv} {T : Tb} {told told' : Option Nat} {free free' : Bool} {pact pact' : Option (Nat × Nat)} (C : DIg h n q V T told free pact) (hF : Fx asF h h') (hS : SeC h' told' free') (hP : RDp h' (T.1 7 0) pact') (hW : W0 h') : DIg h' n q V T told' free' pact' := by
  have hq := C.ks
  obtain ⟨u, u1, u2⟩ := hs_at hq
  obtain ⟨c1, c2, c3, ⟨c4, c5, c6, c7⟩, c8, -, -, -⟩ := C
  exact ⟨c1.fr (fun a y1 y2 => funext fun i => hF.1 a i (by simp [asF]; omega)), c2, c3, ⟨by rw [hF.1 _ _ rfl]; exact c4, c5, c6, c7⟩, c8.eq (fun a y1 y2 => funext fun i => hF.1 a i (by simp [asF]; omega)), hS, hP, hW⟩
theorem DIg.ho {h h' : Hp} {n q : Nat} {V V' : Hv} {T T' : Tb} {told : Option Nat} {free : Bool} {pact : Option (Nat × Nat)} {P : Sup} {q' : Nat} (C : DIg h n q V T told free pact) (H : HoldP h h' 17 q' V' P T') : DIg h' n q V T told free pact :=
  C.fx (ho_as H.1) (C.2.2.2.2.2.1.eq (fun i hi => H.1.1 _ _ (by rcases hi with rfl | rfl <;> rfl))) (C.2.2.2.2.2.2.1.eq (fun i hi => H.1.1 _ _ (by rcases hi with rfl | rfl <;> rfl))) H.2.2.1
theorem DIg.be {h h' : Hp} {n q : Nat} {V : Hv} {T : Tb} {told : Option Nat} {free : Bool} {pact : Option (Nat × Nat)} (C : DIg h n q V T told free pact) (S : SameT h h' 1 17) (hF : Fr (tbF 17) h h') : DIg h' n q V T told free pact ∧ DTb h' 17 T :=
  ⟨C.fx (tb_as hF) (C.2.2.2.2.2.1.eq (fun i hi => hF.1 _ _ rfl)) (C.2.2.2.2.2.2.1.eq (fun i hi => hF.1 _ _ rfl)) (fun e he => by rw [hF.1 _ _ rfl]; exact C.2.2.2.2.2.2.2 e he), C.1.same S⟩
/-- what ahead leaves -/
def AhP (h h' : Hp) (n q : Nat) (V : Hv) (T : Tb) (told : Option Nat) (free : Bool) (pact : Option (Nat × Nat)) (N : Nat) : Prop := DIg h' n q V T told free pact ∧ Fx asF h h' ∧ DTb h' 17 (supN V (supE V told free pact) T N) ∧ ∀ m, N = m + 1 → 0 < T.1 7 0 → HeldC h' 17 q V (supE V told free pact) (supN V (supE V told free pact) T m)
theorem ah_lp {G : WT} {l : Launch} (hG : GOK G) {n q N : Nat} {V : Hv} {T : Tb} {told : Option Nat} {free : Bool} {pact : Option (Nat × Nat)} {h0 : Hp} (hN : N ≤ 1000) : ∀ (m j : Nat) (g : Hp), j + m = N → AhP h0 g n q V T told free pact j → Wp G l 6 RX6 cX6_ahead 3 none 13 [.ref (gA G 0), .int (nI N), .int (nI j)] [] g (fun r h' => r = none ∧ AhP h0 h' n q V T told free pact N) := by
  intro m
  induction m with
  | zero =>
    intro j g hj H
    refine r_iload_n dX6_ahead_13 rfl ?_
    refine r_iload_n dX6_ahead_14 rfl ?_
    refine r_icmp_ge (tgt := 39) dX6_ahead_15 (by decide) (fun c_15 => ?_) (fun c_15 => ?_)
    · refine r_return dX6_ahead_39 rfl ?_
      exact ⟨rfl, by rw [show j = N by omega] at H; exact H⟩
    · exact absurd (nI_le (by omega) (by omega)) c_15
  | succ m ih =>
    intro j g hj H
    obtain ⟨C, F, D, Hd⟩ := H
    have hq := C.ks
    have hd9 := C.2.2.1
    have dy := supN_day (V := V) (P := supE V told free pact) (T := T) j
    have eE := supN_E (V := V) (P := supE V told free pact) (T := T) j
    refine r_iload_n dX6_ahead_13 rfl ?_
    refine r_iload_n dX6_ahead_14 rfl ?_
    refine r_icmp_ge (tgt := 39) dX6_ahead_15 (by decide) (fun c_15 => ?_) (fun c_15 => ?_)
    · exact absurd c_15 (nI_ge (by omega) (by omega))
    · refine r_aload_n dX6_ahead_18 rfl ?_
      refine r_getR (j := 37) dX6_ahead_19 k_X6_38 rfl (by decide) rfl rfl ?_
      refine r_aload_n dX6_ahead_22 rfl ?_
      refine r_getR (j := 17) dX6_ahead_23 k_X6_21 rfl (by decide) rfl rfl ?_
      refine r_aload_n dX6_ahead_26 rfl ?_
      refine r_callV dX6_ahead_27 l_X6_113 o_X6_holding v_X6_holding rfl (by decide) rfl rfl (m_X6_holding hG C.hd) (by decide) rfl (Nat.le_of_ble_eq_true rfl) (fun r27 h27 hq27 => ?_)
      obtain ⟨rfl, e27⟩ := hq27
      rw [e27]
      clear e27 h27
      rw [← C.2.2.2.1.2.2.2]
      refine r_callV dX6_ahead_30 l_X6_163 o_X3_hold v_X3_hold rfl (by decide) rfl rfl (m_X3_hold hG (t := 17) (q := q) (pact := pact) rfl (Or.inr rfl) hq D (supN_ok C.2.1 j (by omega)) C.2.2.2.2.1 C.2.2.2.2.2.1 C.2.2.2.2.2.2.2 (by rw [eE]; exact C.2.2.2.2.2.2.1) (by omega)) (by decide) rfl (Nat.le_of_ble_eq_true rfl) (fun r30 h30 hq30 => ?_)
      obtain ⟨rfl, HH⟩ := hq30
      refine r_iinc dX6_ahead_33 rfl (by first | exact nI_inc _ | rfl) (by decide) rfl rfl ?_
      dsimp only [List.set]
      refine r_goto (tgt := 13) dX6_ahead_36 (by decide) ?_
      refine ih (j + 1) h30 (by omega) ⟨C.ho HH, F.tr (ho_as HH.1), HH.2.1, fun m9 e9 p9 => ?_⟩
      rw [← show j = m9 by omega]
      exact HH.2.2.2 (by rw [eE]; exact p9)
set_option maxRecDepth 100000 in
theorem m_X6_ahead {G : WT} {l : Launch} (hG : GOK G) {h : Hp} {n q N : Nat} {V : Hv} {T : Tb} {told : Option Nat} {free : Bool} {pact : Option (Nat × Nat)} (C : DIg h n q V T told free pact) (hN : N ≤ 1000) : Cl G l 6 yX6_ahead cX6_ahead 3 none [.ref (gA G 0), .int (nI N)] h (fun r h' => r = none ∧ AhP h h' n q V T told free pact N) := by
  refine Cl.of hG (by decide) (Nat.le_of_ble_eq_true rfl) ?_
  show Wp G l 6 RX6 cX6_ahead 3 none 0 [.ref (gA G 0), .int (nI N), mk0] [] h _
  refine r_aload_n dX6_ahead_0 rfl ?_
  refine r_getR (j := 17) dX6_ahead_1 k_X6_21 rfl (by decide) rfl rfl ?_
  refine r_aload_n dX6_ahead_4 rfl ?_
  refine r_getR (j := 1) dX6_ahead_5 k_X6_12 rfl (by decide) rfl rfl ?_
  refine r_callV dX6_ahead_8 l_X6_174 o_X4_becomes v_X4_becomes rfl (by decide) rfl rfl (m_X4_becomes hG (t := 17) (o := 1) rfl rfl (by decide)) (by decide) rfl (Nat.le_of_ble_eq_true rfl) (fun r8 h8 hq8 => ?_)
  obtain ⟨rfl, S8, F8⟩ := hq8
  obtain ⟨C8, D8⟩ := C.be S8 F8
  refine r_iconst (v := 0) dX6_ahead_11 (by decide) ?_
  refine r_istore_n dX6_ahead_12 (by decide) rfl rfl ?_
  dsimp only [List.set]
  exact ah_lp hG hN N 0 h8 (by omega) ⟨C8, tb_as F8, D8, fun m9 e9 => absurd e9 (by omega)⟩
