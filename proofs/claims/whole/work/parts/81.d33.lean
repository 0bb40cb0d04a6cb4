/-! count, trace, taken -/
set_option maxRecDepth 100000 in
theorem m_X6_withinN {G : WT} {l : Launch} (hG : GOK G) {h : Hp} {x : Int32} : Cl G l 1 yX6_within cX6_within 2 (some .boolean) [.int x, .int (-1)] h (fun r h' => r = some (.int (b01 false)) ∧ h' = h) := by
  refine Cl.of hG (by decide) (Nat.le_of_ble_eq_true rfl) ?_
  show Wp G l 1 RX6 cX6_within 2 (some .boolean) 0 [.int x, .int (-1)] [] h _
  refine r_iload_n dX6_within_0 rfl ?_
  refine r_if_lt (tgt := 13) dX6_within_1 (by decide) (fun c_1 => ?_) (fun c_1 => ?_)
  · refine r_iconst (v := 0) dX6_within_13 (by decide) ?_
    refine r_ireturn dX6_within_14 ⟨_, rfl, rfl⟩ ?_
    exact ⟨rfl, rfl⟩
  · refine r_iload_n dX6_within_4 rfl ?_
    refine r_iload_n dX6_within_5 rfl ?_
    refine r_icmp_gt (tgt := 13) dX6_within_6 (by decide) (fun c_6 => ?_) (fun c_6 => ?_)
    · refine r_iconst (v := 0) dX6_within_13 (by decide) ?_
      refine r_ireturn dX6_within_14 ⟨_, rfl, rfl⟩ ?_
      exact ⟨rfl, rfl⟩
    · exfalso
      have z1 : ¬ x.toInt < 0 := fun y => c_1 (toInt_lt0.mpr y)
      exact c_6 (by rw [Int32.lt_iff_toInt_lt, show ((-1 : Int32)).toInt = -1 from rfl]; omega)
      skip
/-! the acts' trace in the developers' rows -/
def DAc (h : Hp) (tr : List Nat) : Prop := h.1 48 1 = nI tr.length ∧ ∀ j b, j < 20 → tr[j]? = some b → h.1 49 j = nI b
set_option maxRecDepth 100000 in
theorem m_X6_count {G : WT} {l : Launch} (hG : GOK G) {h : Hp} {T : Tb} {X : Tx} {tr : List Nat} {n : Nat} {w : Int32} (hT : DTb h 1 T) (hX : DTx h X) (hA : DAc h tr) (hn : h.1 0 11 = nI n) : Cl G l 1 yX6_count cX6_count 2 (some .int) [.ref (gA G 0), .int w] h (fun r h' => r = some (.int (countA (T.1 7 0) n (T.1 7 4) X.1 tr.length w)) ∧ h' = h) := by
  refine Cl.of hG (by decide) (Nat.le_of_ble_eq_true rfl) ?_
  show Wp G l 1 RX6 cX6_count 2 (some .int) 0 [.ref (gA G 0), .int w] [] h _
  by_cases q0 : w = 0
  · subst q0
    refine r_iload_n dX6_count_0 rfl ?_
    · refine r_tsw 36 dX6_count_1 rfl (by decide) rfl ?_
      refine r_aload_n dX6_count_36 rfl ?_
      refine r_getR (j := 1) dX6_count_37 k_X6_12 rfl (by decide) rfl rfl ?_
      refine r_getI dX6_count_40 k_X6_82 rfl (by decide) rfl ?_
      refine r_ireturn dX6_count_43 ⟨_, rfl, rfl⟩ ?_
      exact ⟨by rw [countA, if_pos rfl, hT.1.1], rfl⟩
  · by_cases q1 : w = 1
    · subst q1
      refine r_iload_n dX6_count_0 rfl ?_
      · refine r_tsw 44 dX6_count_1 rfl (by decide) rfl ?_
        refine r_aload_n dX6_count_44 rfl ?_
        refine r_getI dX6_count_45 k_X6_69 rfl (by decide) rfl ?_
        refine r_ireturn dX6_count_48 ⟨_, rfl, rfl⟩ ?_
        exact ⟨by rw [countA, if_neg q0, if_pos rfl, hn], rfl⟩
    · by_cases q2 : w = 2
      · subst q2
        refine r_iload_n dX6_count_0 rfl ?_
        · refine r_tsw 49 dX6_count_1 rfl (by decide) rfl ?_
          refine r_aload_n dX6_count_49 rfl ?_
          refine r_getR (j := 1) dX6_count_50 k_X6_12 rfl (by decide) rfl rfl ?_
          refine r_getI dX6_count_53 k_X6_262 rfl (by decide) rfl ?_
          refine r_ireturn dX6_count_56 ⟨_, rfl, rfl⟩ ?_
          exact ⟨by rw [countA, if_neg q0, if_neg q1, if_pos rfl, hT.1.2.2.2.2.1], rfl⟩
      · by_cases q3 : w = 3
        · subst q3
          refine r_iload_n dX6_count_0 rfl ?_
          · refine r_tsw 57 dX6_count_1 rfl (by decide) rfl ?_
            refine r_aload_n dX6_count_57 rfl ?_
            refine r_getR (j := 46) dX6_count_58 k_X6_45 rfl (by decide) rfl rfl ?_
            refine r_getI dX6_count_61 k_X6_134 rfl (by decide) rfl ?_
            refine r_ireturn dX6_count_64 ⟨_, rfl, rfl⟩ ?_
            exact ⟨by rw [countA, if_neg q0, if_neg q1, if_neg q2, if_pos rfl, hX.1], rfl⟩
        · by_cases q4 : w = 4
          · subst q4
            refine r_iload_n dX6_count_0 rfl ?_
            · refine r_tsw 65 dX6_count_1 rfl (by decide) rfl ?_
              refine r_aload_n dX6_count_65 rfl ?_
              refine r_getR (j := 48) dX6_count_66 k_X6_52 rfl (by decide) rfl rfl ?_
              refine r_getI dX6_count_69 k_X6_278 rfl (by decide) rfl ?_
              refine r_ireturn dX6_count_72 ⟨_, rfl, rfl⟩ ?_
              exact ⟨by rw [countA, if_neg q0, if_neg q1, if_neg q2, if_neg q3, if_pos rfl, hA.1], rfl⟩
          · have z0 := lv_neT q0 (a := 0) rfl
            have z1 := lv_neT q1 (a := 1) rfl
            have z2 := lv_neT q2 (a := 2) rfl
            have z3 := lv_neT q3 (a := 3) rfl
            have z4 := lv_neT q4 (a := 4) rfl
            refine r_iload_n dX6_count_0 rfl ?_
            · refine r_tsw 73 dX6_count_1 rfl (by decide) (by rw [tswT, if_pos (by omega)]; rfl) ?_
              refine r_bipush (v := -2) dX6_count_73 (by decide) ?_
              refine r_ireturn dX6_count_75 ⟨_, rfl, rfl⟩ ?_
              exact ⟨by rw [countA, if_neg q0, if_neg q1, if_neg q2, if_neg q3, if_neg q4], rfl⟩
set_option maxRecDepth 100000 in
theorem m_X6_trace {G : WT} {l : Launch} (hG : GOK G) {h : Hp} {tr : List Nat} {i : Int32} (H : DAc h tr) (hl : tr.length ≤ 100) : Cl G l 2 yX6_trace cX6_trace 2 (some .int) [.ref (gA G 0), .int i] h (fun r h' => r = some (.int (traceA tr i)) ∧ h' = h) := by
  refine Cl.of hG (by decide) (Nat.le_of_ble_eq_true rfl) ?_
  show Wp G l 2 RX6 cX6_trace 2 (some .int) 0 [.ref (gA G 0), .int i] [] h _
  by_cases hz : tr.length = 0
  · obtain rfl := List.eq_nil_of_length_eq_zero hz
    have es : traceA [] i = -1 := by
      rw [traceA]
      cases dec i 20 with
      | none => rfl
      | some j => rfl
    have e0 : h.1 48 1 = nI 0 := H.1
    refine r_iload_n dX6_trace_0 rfl ?_
    refine r_aload_n dX6_trace_1 rfl ?_
    refine r_getR (j := 48) dX6_trace_2 k_X6_52 rfl (by decide) rfl rfl ?_
    refine r_getI dX6_trace_5 k_X6_278 rfl (by decide) rfl ?_
    refine r_bipush (v := 20) dX6_trace_8 (by decide) ?_
    rw [e0]
    refine r_min dX6_trace_10 l_X6_231 o_J9_min_7cf53 rfl s_J9_min_7cf53 (by decide) (Nat.le_of_ble_eq_true rfl) ?_
    refine r_iconst (v := 1) dX6_trace_13 (by decide) ?_
    refine r_isub dX6_trace_14 ?_
    refine r_callS dX6_trace_15 l_X6_78 o_X6_within s_X6_within rfl (m_X6_withinN hG (x := i)) (by decide) rfl (Nat.le_of_ble_eq_true rfl) (fun r15 h15 hq15 => ?_)
    obtain ⟨rfl, rfl⟩ := hq15
    refine r_if_eq (tgt := 33) dX6_trace_18 (by decide) (fun c_18 => ?_) (fun c_18 => ?_)
    · refine r_iconst (v := -1) dX6_trace_33 (by decide) ?_
      refine r_ireturn dX6_trace_34 ⟨_, rfl, rfl⟩ ?_
      exact ⟨by rw [es], rfl⟩
    · exact absurd rfl c_18
  · obtain ⟨m, hm⟩ : ∃ m, min tr.length 20 = m + 1 := ⟨min tr.length 20 - 1, by omega⟩
    have em : (if nI 20 < nI tr.length then nI 20 else nI tr.length) - 1 = nI m := by
      rw [minI (a := tr.length) (b := 20) (by omega) (by omega), hm, nI_pred]
    cases hi : dec i (m + 1) with
    | none =>
      have es : traceA tr i = -1 := by
        rw [traceA]
        cases h20 : dec i 20 with
        | none => rfl
        | some j =>
          obtain ⟨j1, j2, j3⟩ := dec_some.mp h20
          have q9 := dec_none.mp hi
          rw [j2, nI_toInt (by omega)] at q9
          dsimp only
          rw [List.getElem?_eq_none (by omega)]
      refine r_iload_n dX6_trace_0 rfl ?_
      refine r_aload_n dX6_trace_1 rfl ?_
      refine r_getR (j := 48) dX6_trace_2 k_X6_52 rfl (by decide) rfl rfl ?_
      refine r_getI dX6_trace_5 k_X6_278 rfl (by decide) rfl ?_
      refine r_bipush (v := 20) dX6_trace_8 (by decide) ?_
      rw [H.1]
      refine r_min dX6_trace_10 l_X6_231 o_J9_min_7cf53 rfl s_J9_min_7cf53 (by decide) (Nat.le_of_ble_eq_true rfl) ?_
      refine r_iconst (v := 1) dX6_trace_13 (by decide) ?_
      rw [show (20 : Int32) = nI 20 from rfl]
      refine r_isub dX6_trace_14 ?_
      rw [em]
      refine r_callS dX6_trace_15 l_X6_78 o_X6_within s_X6_within rfl (m_X6_within hG (x := i) (m := m) (by omega)) (by decide) rfl (Nat.le_of_ble_eq_true rfl) (fun r15 h15 hq15 => ?_)
      obtain ⟨rfl, rfl⟩ := hq15
      rw [hi]
      refine r_if_eq (tgt := 33) dX6_trace_18 (by decide) (fun c_18 => ?_) (fun c_18 => ?_)
      · refine r_iconst (v := -1) dX6_trace_33 (by decide) ?_
        refine r_ireturn dX6_trace_34 ⟨_, rfl, rfl⟩ ?_
        exact ⟨by rw [es], rfl⟩
      · exact absurd rfl c_18
    | some j =>
      obtain ⟨hj, rfl, -⟩ := dec_some.mp hi
      have h20 : dec (nI j) 20 = some j := dec_nI (by omega) (by omega)
      have hjl : j < tr.length := by omega
      have es : traceA tr (nI j) = nI tr[j] := by rw [traceA, h20]; dsimp only; rw [List.getElem?_eq_getElem hjl]
      refine r_iload_n dX6_trace_0 rfl ?_
      refine r_aload_n dX6_trace_1 rfl ?_
      refine r_getR (j := 48) dX6_trace_2 k_X6_52 rfl (by decide) rfl rfl ?_
      refine r_getI dX6_trace_5 k_X6_278 rfl (by decide) rfl ?_
      refine r_bipush (v := 20) dX6_trace_8 (by decide) ?_
      rw [H.1]
      refine r_min dX6_trace_10 l_X6_231 o_J9_min_7cf53 rfl s_J9_min_7cf53 (by decide) (Nat.le_of_ble_eq_true rfl) ?_
      refine r_iconst (v := 1) dX6_trace_13 (by decide) ?_
      rw [show (20 : Int32) = nI 20 from rfl]
      refine r_isub dX6_trace_14 ?_
      rw [em]
      refine r_callS dX6_trace_15 l_X6_78 o_X6_within s_X6_within rfl (m_X6_within hG (x := nI j) (m := m) (by omega)) (by decide) rfl (Nat.le_of_ble_eq_true rfl) (fun r15 h15 hq15 => ?_)
      obtain ⟨rfl, rfl⟩ := hq15
      rw [hi]
      refine r_if_eq (tgt := 33) dX6_trace_18 (by decide) (fun c_18 => ?_) (fun c_18 => ?_)
      · exact absurd c_18 some_t
      · refine r_aload_n dX6_trace_21 rfl ?_
        refine r_getR (j := 48) dX6_trace_22 k_X6_52 rfl (by decide) rfl rfl ?_
        refine r_getR (j := 49) dX6_trace_25 k_X6_285 rfl (by decide) rfl rfl ?_
        refine r_iload_n dX6_trace_28 rfl ?_
        refine r_iald (j) dX6_trace_29 rfl rfl (show j < 20 by omega) ?_
        refine r_goto (tgt := 34) dX6_trace_30 (by decide) ?_
        refine r_ireturn dX6_trace_34 ⟨_, rfl, rfl⟩ ?_
        exact ⟨by rw [es, H.2 j _ (by omega) (List.getElem?_eq_getElem hjl)], rfl⟩
/-! isUnder: the chain above -/
def upS (k : Int32) : Nat → Int32 → Int32
  | 0, c => c
  | f + 1, c => if c < 0 then c else if c = k then c else upS k f (tabA.getD c.toInt.toNat 0)
theorem upS_ok : ∀ a, a < 7 → ∀ k, k < 7 → decide (upS (nI k) 7 (nI a) = nI k) = underS a k := by decide +kernel
theorem tabA_ok : ∀ a, a < 7 → tabA.getD a 0 = -1 ∨ ∃ b, b < 7 ∧ tabA.getD a 0 = nI b := by
  have key : ∀ a, a < 7 → tabA.getD a 0 = -1 ∨ tabA.getD a 0 = nI 0 ∨ tabA.getD a 0 = nI 1 ∨ tabA.getD a 0 = nI 2 ∨ tabA.getD a 0 = nI 3 := by decide
  intro a ha
  rcases key a ha with e | e | e | e | e
  · exact Or.inl e
  · exact Or.inr ⟨0, by omega, e⟩
  · exact Or.inr ⟨1, by omega, e⟩
  · exact Or.inr ⟨2, by omega, e⟩
  · exact Or.inr ⟨3, by omega, e⟩
theorem under_loop {G : WT} {l : Launch} (hG : GOK G) {h : Hp} {x : Value} {k : Nat} (hk : k < 7) : ∀ (f j : Nat) (c : Int32), j + f = 7 → (c = -1 ∨ ∃ b, b < 7 ∧ c = nI b) → Wp G l 1 RX0 cX0_isUnder 5 (some .boolean) 5 [.ref (gA G 48), x, .int (nI k), .int c, .int (nI j)] [] h (fun r h' => r = some (.int (b01 (decide (upS (nI k) f c = nI k)))) ∧ h' = h) := by
  intro f
  induction f with
  | zero =>
    intro j c hj hc
    obtain rfl : j = 7 := by omega
    by_cases e : c = nI k
    · refine r_iload dX0_isUnder_5 rfl ?_
      refine r_getA dX0_isUnder_7 k_X0_32 ?_
      refine r_alenA dX0_isUnder_10 ?_
      refine r_icmp_ge (tgt := 35) dX0_isUnder_11 (by decide) (fun c_11 => ?_) (fun c_11 => ?_)
      · refine r_iload_n dX0_isUnder_35 rfl ?_
        refine r_iload_n dX0_isUnder_36 rfl ?_
        refine r_icmp_ne (tgt := 44) dX0_isUnder_37 (by decide) (fun c_37 => ?_) (fun c_37 => ?_)
        · exact absurd e c_37
        · refine r_iconst (v := 1) dX0_isUnder_40 (by decide) ?_
          refine r_goto (tgt := 45) dX0_isUnder_41 (by decide) ?_
          refine r_ireturn dX0_isUnder_45 ⟨_, rfl, rfl⟩ ?_
          exact ⟨by rw [upS, e, decide_eq_true rfl]; rfl, rfl⟩
      · exact absurd (Int32.le_refl _) c_11
    · refine r_iload dX0_isUnder_5 rfl ?_
      refine r_getA dX0_isUnder_7 k_X0_32 ?_
      refine r_alenA dX0_isUnder_10 ?_
      refine r_icmp_ge (tgt := 35) dX0_isUnder_11 (by decide) (fun c_11 => ?_) (fun c_11 => ?_)
      · refine r_iload_n dX0_isUnder_35 rfl ?_
        refine r_iload_n dX0_isUnder_36 rfl ?_
        refine r_icmp_ne (tgt := 44) dX0_isUnder_37 (by decide) (fun c_37 => ?_) (fun c_37 => ?_)
        · refine r_iconst (v := 0) dX0_isUnder_44 (by decide) ?_
          refine r_ireturn dX0_isUnder_45 ⟨_, rfl, rfl⟩ ?_
          exact ⟨by rw [upS, decide_eq_false e]; rfl, rfl⟩
        · exact absurd c_37 e
      · exact absurd (Int32.le_refl _) c_11
  | succ f ih =>
    intro j c hj hc
    by_cases hn : c = -1
    · have e1 : upS (nI k) (f + 1) c = c := by rw [upS, if_pos (by rw [hn]; decide)]
      have e2 : ¬ c = nI k := fun y => by
        rw [hn] at y
        have := congrArg Int32.toInt y
        rw [nI_toInt (by omega), show ((-1 : Int32)).toInt = -1 from rfl] at this
        omega
      rw [e1, decide_eq_false e2]
      refine r_iload dX0_isUnder_5 rfl ?_
      refine r_getA dX0_isUnder_7 k_X0_32 ?_
      refine r_alenA dX0_isUnder_10 ?_
      refine r_icmp_ge (tgt := 35) dX0_isUnder_11 (by decide) (fun c_11 => ?_) (fun c_11 => ?_)
      · exact absurd c_11 (nI_ge (a := j) (b := 7) (by omega) (by omega))
      · refine r_iload_n dX0_isUnder_14 rfl ?_
        refine r_if_lt (tgt := 35) dX0_isUnder_15 (by decide) (fun c_15 => ?_) (fun c_15 => ?_)
        · refine r_iload_n dX0_isUnder_35 rfl ?_
          refine r_iload_n dX0_isUnder_36 rfl ?_
          refine r_icmp_ne (tgt := 44) dX0_isUnder_37 (by decide) (fun c_37 => ?_) (fun c_37 => ?_)
          · refine r_iconst (v := 0) dX0_isUnder_44 (by decide) ?_
            refine r_ireturn dX0_isUnder_45 ⟨_, rfl, rfl⟩ ?_
            exact ⟨rfl, rfl⟩
          · exact absurd c_37 e2
        · exact absurd (by rw [hn]; decide) c_15
    · obtain ⟨b, hb, rfl⟩ := hc.resolve_left hn
      have nl : ¬ nI b < 0 := fun y => by
        have := Int32.lt_iff_toInt_lt.mp y
        rw [nI_toInt (by omega), show ((0 : Int32)).toInt = 0 from rfl] at this
        omega
      by_cases e : nI b = nI k
      · have e1 : upS (nI k) (f + 1) (nI b) = nI b := by rw [upS, if_neg nl, if_pos e]
        rw [e1, decide_eq_true e]
        refine r_iload dX0_isUnder_5 rfl ?_
        refine r_getA dX0_isUnder_7 k_X0_32 ?_
        refine r_alenA dX0_isUnder_10 ?_
        refine r_icmp_ge (tgt := 35) dX0_isUnder_11 (by decide) (fun c_11 => ?_) (fun c_11 => ?_)
        · exact absurd c_11 (nI_ge (a := j) (b := 7) (by omega) (by omega))
        · refine r_iload_n dX0_isUnder_14 rfl ?_
          refine r_if_lt (tgt := 35) dX0_isUnder_15 (by decide) (fun c_15 => ?_) (fun c_15 => ?_)
          · exact absurd c_15 nl
          · refine r_iload_n dX0_isUnder_18 rfl ?_
            refine r_iload_n dX0_isUnder_19 rfl ?_
            refine r_icmp_eq (tgt := 35) dX0_isUnder_20 (by decide) (fun c_20 => ?_) (fun c_20 => ?_)
            · refine r_iload_n dX0_isUnder_35 rfl ?_
              refine r_iload_n dX0_isUnder_36 rfl ?_
              refine r_icmp_ne (tgt := 44) dX0_isUnder_37 (by decide) (fun c_37 => ?_) (fun c_37 => ?_)
              · exact absurd e c_37
              · refine r_iconst (v := 1) dX0_isUnder_40 (by decide) ?_
                refine r_goto (tgt := 45) dX0_isUnder_41 (by decide) ?_
                refine r_ireturn dX0_isUnder_45 ⟨_, rfl, rfl⟩ ?_
                exact ⟨rfl, rfl⟩
            · exact absurd e c_20
      · have e1 : upS (nI k) (f + 1) (nI b) = upS (nI k) f (tabA.getD b 0) := by
          rw [upS, if_neg nl, if_neg e, nI_toInt (by omega)]; rfl
        rw [e1]
        refine r_iload dX0_isUnder_5 rfl ?_
        refine r_getA dX0_isUnder_7 k_X0_32 ?_
        refine r_alenA dX0_isUnder_10 ?_
        refine r_icmp_ge (tgt := 35) dX0_isUnder_11 (by decide) (fun c_11 => ?_) (fun c_11 => ?_)
        · exact absurd c_11 (nI_ge (a := j) (b := 7) (by omega) (by omega))
        · refine r_iload_n dX0_isUnder_14 rfl ?_
          refine r_if_lt (tgt := 35) dX0_isUnder_15 (by decide) (fun c_15 => ?_) (fun c_15 => ?_)
          · exact absurd c_15 nl
          · refine r_iload_n dX0_isUnder_18 rfl ?_
            refine r_iload_n dX0_isUnder_19 rfl ?_
            refine r_icmp_eq (tgt := 35) dX0_isUnder_20 (by decide) (fun c_20 => ?_) (fun c_20 => ?_)
            · exact absurd c_20 e
            · refine r_getA dX0_isUnder_23 k_X0_32 ?_
              refine r_iload_n dX0_isUnder_26 rfl ?_
              refine r_aldA (b) dX0_isUnder_27  rfl hb ?_
              refine r_istore_n dX0_isUnder_28 (by decide) rfl rfl ?_
              dsimp only [List.set]
              refine r_iinc dX0_isUnder_29 rfl (nI_1 j) (by decide) rfl rfl ?_
              dsimp only [List.set]
              refine r_goto (tgt := 5) dX0_isUnder_32 (by decide) ?_
              exact ih (j + 1) _ (by omega) (tabA_ok b hb)
set_option maxRecDepth 100000 in
theorem m_X0_isUnder {G : WT} {l : Launch} (hG : GOK G) {h : Hp} {a k : Nat} (ha : a < 7) (hk : k < 7) : Cl G l 1 yX0_isUnder cX0_isUnder 5 (some .boolean) [.ref (gA G 48), .int (nI a), .int (nI k)] h (fun r h' => r = some (.int (b01 (underS a k))) ∧ h' = h) := by
  refine Cl.of hG (by decide) (Nat.le_of_ble_eq_true rfl) ?_
  show Wp G l 1 RX0 cX0_isUnder 5 (some .boolean) 0 [.ref (gA G 48), .int (nI a), .int (nI k), mk0, mk0] [] h _
  rw [← upS_ok a ha k hk]
  refine r_iload_n dX0_isUnder_0 rfl ?_
  refine r_istore_n dX0_isUnder_1 (by decide) rfl rfl ?_
  dsimp only [List.set]
  refine r_iconst (v := 0) dX0_isUnder_2 (by decide) ?_
  refine r_istore dX0_isUnder_3 (by decide) rfl rfl ?_
  dsimp only [List.set]
  exact under_loop hG hk 7 0 _ rfl (Or.inr ⟨a, ha, rfl⟩)
set_option maxRecDepth 100000 in
theorem m_X6_taken {G : WT} {l : Launch} (hG : GOK G) {h : Hp} {T : Tb} {i k : Int32} (HT : DTb h 1 T) (hT : TbOK T) : Cl G l 2 yX6_taken cX6_taken 3 (some .int) [.ref (gA G 0), .int i, .int k] h (fun r h' => r = some (.int (takenA T i k)) ∧ h' = h) := by
  refine Cl.of hG (by decide) (Nat.le_of_ble_eq_true rfl) ?_
  show Wp G l 2 RX6 cX6_taken 3 (some .int) 0 [.ref (gA G 0), .int i, .int k] [] h _
  cases hk : dec k 7 with
  | none =>
    refine r_iload_n dX6_taken_0 rfl ?_
    refine r_bipush (v := 6) dX6_taken_1 (by decide) ?_
    rw [show (6 : Int32) = nI 6 from rfl]
    refine r_callS dX6_taken_3 l_X6_78 o_X6_within s_X6_within rfl (m_X6_within hG (x := k) (m := 6) (by omega)) (by decide) rfl (Nat.le_of_ble_eq_true rfl) (fun r3 h3 hq3 => ?_)
    obtain ⟨rfl, rfl⟩ := hq3
    rw [hk]
    refine r_if_ne (tgt := 12) dX6_taken_6 (by decide) (fun c_6 => ?_) (fun c_6 => ?_)
    · exact absurd none_f c_6
    · refine r_bipush (v := -2) dX6_taken_9 (by decide) ?_
      refine r_ireturn dX6_taken_11 ⟨_, rfl, rfl⟩ ?_
      exact ⟨by rw [takenA, hk], rfl⟩
  | some k1 =>
    obtain ⟨hk1, rfl, -⟩ := dec_some.mp hk
    cases hi : dec i (T.1 7 0) with
    | none =>
      refine r_iload_n dX6_taken_0 rfl ?_
      refine r_bipush (v := 6) dX6_taken_1 (by decide) ?_
      rw [show (6 : Int32) = nI 6 from rfl]
      refine r_callS dX6_taken_3 l_X6_78 o_X6_within s_X6_within rfl (m_X6_within hG (x := nI k1) (m := 6) (by omega)) (by decide) rfl (Nat.le_of_ble_eq_true rfl) (fun r3 h3 hq3 => ?_)
      obtain ⟨rfl, rfl⟩ := hq3
      rw [hk]
      refine r_if_ne (tgt := 12) dX6_taken_6 (by decide) (fun c_6 => ?_) (fun c_6 => ?_)
      · refine r_aload_n dX6_taken_12 rfl ?_
        refine r_iload_n dX6_taken_13 rfl ?_
        refine r_callV dX6_taken_14 l_X6_89 o_X6_isEater v_X6_isEater rfl (by decide) rfl rfl (m_X6_isEater hG (x := i) (E := T.1 7 0) hT.1 HT.1.1) (by decide) rfl (Nat.le_of_ble_eq_true rfl) (fun r14 h14 hq14 => ?_)
        obtain ⟨rfl, rfl⟩ := hq14
        rw [hi]
        refine r_if_ne (tgt := 23) dX6_taken_17 (by decide) (fun c_17 => ?_) (fun c_17 => ?_)
        · exact absurd none_f c_17
        · refine r_bipush (v := -11) dX6_taken_20 (by decide) ?_
          refine r_ireturn dX6_taken_22 ⟨_, rfl, rfl⟩ ?_
          exact ⟨by rw [takenA, hk, hi], rfl⟩
      · exact absurd c_6 some_t
    | some j =>
      obtain ⟨hj, rfl, -⟩ := dec_some.mp hi
      have e5 := hT.1
      have ea := (hT.2.2.2.2.2.2.1 j).1
      have hv := ((HT.2.1 j (by omega)).1 hj).1
      have es : takenA T (nI j) (nI k1) = if underS (T.1 0 j) k1 = true then nI (T.1 0 j) else -12 := by rw [takenA, hk, hi]
      cases hu : underS (T.1 0 j) k1 with
      | false =>
        rw [es, hu]
        refine r_iload_n dX6_taken_0 rfl ?_
        refine r_bipush (v := 6) dX6_taken_1 (by decide) ?_
        rw [show (6 : Int32) = nI 6 from rfl]
        refine r_callS dX6_taken_3 l_X6_78 o_X6_within s_X6_within rfl (m_X6_within hG (x := nI k1) (m := 6) (by omega)) (by decide) rfl (Nat.le_of_ble_eq_true rfl) (fun r3 h3 hq3 => ?_)
        obtain ⟨rfl, rfl⟩ := hq3
        rw [hk]
        refine r_if_ne (tgt := 12) dX6_taken_6 (by decide) (fun c_6 => ?_) (fun c_6 => ?_)
        · refine r_aload_n dX6_taken_12 rfl ?_
          refine r_iload_n dX6_taken_13 rfl ?_
          refine r_callV dX6_taken_14 l_X6_89 o_X6_isEater v_X6_isEater rfl (by decide) rfl rfl (m_X6_isEater hG (x := nI j) (E := T.1 7 0) hT.1 HT.1.1) (by decide) rfl (Nat.le_of_ble_eq_true rfl) (fun r14 h14 hq14 => ?_)
          obtain ⟨rfl, rfl⟩ := hq14
          rw [hi]
          refine r_if_ne (tgt := 23) dX6_taken_17 (by decide) (fun c_17 => ?_) (fun c_17 => ?_)
          · refine r_aload_n dX6_taken_23 rfl ?_
            refine r_getR (j := 48) dX6_taken_24 k_X6_52 rfl (by decide) rfl rfl ?_
            refine r_aload_n dX6_taken_27 rfl ?_
            refine r_getR (j := 1) dX6_taken_28 k_X6_12 rfl (by decide) rfl rfl ?_
            refine r_getR (j := 2) dX6_taken_31 k_X6_94 rfl (by decide) rfl rfl ?_
            refine r_iload_n dX6_taken_34 rfl ?_
            refine r_iald (j) dX6_taken_35 rfl rfl (show j < 5 by omega) ?_
            refine r_iload_n dX6_taken_36 rfl ?_
            rw [hv]
            refine r_callV dX6_taken_37 l_X6_288 o_X0_isUnder v_X0_isUnder rfl (by decide) rfl rfl (m_X0_isUnder hG (a := T.1 0 j) (k := k1) (by omega) hk1) (by decide) rfl (Nat.le_of_ble_eq_true rfl) (fun r37 h37 hq37 => ?_)
            obtain ⟨rfl, rfl⟩ := hq37
            rw [hu]
            refine r_if_eq (tgt := 55) dX6_taken_40 (by decide) (fun c_40 => ?_) (fun c_40 => ?_)
            · refine r_bipush (v := -12) dX6_taken_55 (by decide) ?_
              refine r_ireturn dX6_taken_57 ⟨_, rfl, rfl⟩ ?_
              exact ⟨rfl, rfl⟩
            · exact absurd rfl c_40
          · exact absurd c_17 some_t
        · exact absurd c_6 some_t
      | true =>
        rw [es, hu]
        refine r_iload_n dX6_taken_0 rfl ?_
        refine r_bipush (v := 6) dX6_taken_1 (by decide) ?_
        rw [show (6 : Int32) = nI 6 from rfl]
        refine r_callS dX6_taken_3 l_X6_78 o_X6_within s_X6_within rfl (m_X6_within hG (x := nI k1) (m := 6) (by omega)) (by decide) rfl (Nat.le_of_ble_eq_true rfl) (fun r3 h3 hq3 => ?_)
        obtain ⟨rfl, rfl⟩ := hq3
        rw [hk]
        refine r_if_ne (tgt := 12) dX6_taken_6 (by decide) (fun c_6 => ?_) (fun c_6 => ?_)
        · refine r_aload_n dX6_taken_12 rfl ?_
          refine r_iload_n dX6_taken_13 rfl ?_
          refine r_callV dX6_taken_14 l_X6_89 o_X6_isEater v_X6_isEater rfl (by decide) rfl rfl (m_X6_isEater hG (x := nI j) (E := T.1 7 0) hT.1 HT.1.1) (by decide) rfl (Nat.le_of_ble_eq_true rfl) (fun r14 h14 hq14 => ?_)
          obtain ⟨rfl, rfl⟩ := hq14
          rw [hi]
          refine r_if_ne (tgt := 23) dX6_taken_17 (by decide) (fun c_17 => ?_) (fun c_17 => ?_)
          · refine r_aload_n dX6_taken_23 rfl ?_
            refine r_getR (j := 48) dX6_taken_24 k_X6_52 rfl (by decide) rfl rfl ?_
            refine r_aload_n dX6_taken_27 rfl ?_
            refine r_getR (j := 1) dX6_taken_28 k_X6_12 rfl (by decide) rfl rfl ?_
            refine r_getR (j := 2) dX6_taken_31 k_X6_94 rfl (by decide) rfl rfl ?_
            refine r_iload_n dX6_taken_34 rfl ?_
            refine r_iald (j) dX6_taken_35 rfl rfl (show j < 5 by omega) ?_
            refine r_iload_n dX6_taken_36 rfl ?_
            rw [hv]
            refine r_callV dX6_taken_37 l_X6_288 o_X0_isUnder v_X0_isUnder rfl (by decide) rfl rfl (m_X0_isUnder hG (a := T.1 0 j) (k := k1) (by omega) hk1) (by decide) rfl (Nat.le_of_ble_eq_true rfl) (fun r37 h37 hq37 => ?_)
            obtain ⟨rfl, rfl⟩ := hq37
            rw [hu]
            refine r_if_eq (tgt := 55) dX6_taken_40 (by decide) (fun c_40 => ?_) (fun c_40 => ?_)
            · exact absurd c_40 (by decide)
            · refine r_aload_n dX6_taken_43 rfl ?_
              refine r_getR (j := 1) dX6_taken_44 k_X6_12 rfl (by decide) rfl rfl ?_
              refine r_getR (j := 2) dX6_taken_47 k_X6_94 rfl (by decide) rfl rfl ?_
              refine r_iload_n dX6_taken_50 rfl ?_
              refine r_iald (j) dX6_taken_51 rfl rfl (show j < 5 by omega) ?_
              refine r_goto (tgt := 57) dX6_taken_52 (by decide) ?_
              rw [hv]
              refine r_ireturn dX6_taken_57 ⟨_, rfl, rfl⟩ ?_
              exact ⟨rfl, rfl⟩
          · exact absurd c_17 some_t
        · exact absurd c_6 some_t
