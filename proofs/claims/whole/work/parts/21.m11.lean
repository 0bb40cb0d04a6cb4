/-! cook, pact -/
theorem gbF_scr {h h' : Hp} (H : Fr (fun a i => kpF a i || goF a i) h h') : Fr scrF h h' := H.wk (fun x i q => by
  simp only [scrF, Bool.or_eq_false_iff, Bool.and_eq_false_iff, beq_eq_false_iff_ne, decide_eq_false_iff_not] at q
  simp only [kpF, goF, wshF, bestF, supF, Bool.or_eq_false_iff, Bool.and_eq_false_iff, beq_eq_false_iff_ne]
  omega)
theorem gbF_calm {h h' : Hp} (H : Calm h) (hF : Fr (fun a i => kpF a i || goF a i) h h') : Calm h' := ⟨by rw [hF.1 _ _ rfl]; exact H.1, by rw [hF.1 _ _ rfl]; exact H.2.1, by rw [hF.1 _ _ rfl]; exact H.2.2⟩
theorem RTb.scr {h : Hp} {T : Tb} {i : Nat} {v : Int32} (H : RTb h T) (hi : 3 < i) : RTb (setI h 134 i v) T := by
  obtain ⟨r1, r2, r3, r4, r5⟩ := H
  exact ⟨by rw [setI_nj (by omega)]; exact r1, by rw [setI_nj (by omega)]; exact r2, by rw [setI_nj (by omega)]; exact r3, by rw [setI_nj (by omega)]; exact r4, fun e he => r5 e he⟩
set_option maxRecDepth 100000 in
theorem m_X7_cook {G : WT} {l : Launch} (hG : GOK G) {h : Hp} {b : Nat} {V : Hv} {T : Tb} {e n : Int32} (C : RIc h b V T) : Cl G l 12 yX7_cook cX7_cook 5 (some .int) [.ref (gA G 134), .int e, .int n] h (fun r h' => r = some (.int (cookA V T e n)) ∧ RIc h' b V T ∧ Fr scrF h h') := by
  refine Cl.of hG (by decide) (Nat.le_of_ble_eq_true rfl) ?_
  show Wp G l 12 RX7 cX7_cook 5 (some .int) 0 [.ref (gA G 134), .int e, .int n, mk0, mk0] [] h _
  have hE := C.1.2.1.1
  have hd := C.2.2
  cases he : dec e (T.1 7 0) with
  | none =>
    refine r_aload_n dX7_cook_0 rfl ?_
    refine r_iload_n dX7_cook_1 rfl ?_
    refine r_callV dX7_cook_2 l_X7_220 o_X7_isEater v_X7_isEater rfl (by decide) rfl rfl (m_X7_isEater hG) (by decide) rfl (Nat.le_of_ble_eq_true rfl) (fun r2 h2 hq2 => ?_)
    obtain ⟨rfl, e2⟩ := hq2
    rw [e2]
    clear e2 h2
    rw [C.1.1.1, isE_dec (by omega), he]
    refine r_if_ne (tgt := 12) dX7_cook_5 (by decide) (fun c_5 => ?_) (fun c_5 => ?_)
    · exact absurd rfl c_5
    · refine r_ldcw dX7_cook_8 n_X7_339 ?_
      refine r_ireturn dX7_cook_11 ⟨_, rfl, rfl⟩ ?_
      exact ⟨by rw [cookA, he]; rfl, C, Fr.rf⟩
  | some i =>
    cases hn : dec n 61 with
    | none =>
      refine r_aload_n dX7_cook_0 rfl ?_
      refine r_iload_n dX7_cook_1 rfl ?_
      refine r_callV dX7_cook_2 l_X7_220 o_X7_isEater v_X7_isEater rfl (by decide) rfl rfl (m_X7_isEater hG) (by decide) rfl (Nat.le_of_ble_eq_true rfl) (fun r2 h2 hq2 => ?_)
      obtain ⟨rfl, e2⟩ := hq2
      rw [e2]
      clear e2 h2
      rw [C.1.1.1, isE_dec (by omega), he]
      refine r_if_ne (tgt := 12) dX7_cook_5 (by decide) (fun c_5 => ?_) (fun c_5 => ?_)
      · refine r_aload_n dX7_cook_12 rfl ?_
        refine r_iload_n dX7_cook_13 rfl ?_
        refine r_iconst (v := 0) dX7_cook_14 (by decide) ?_
        refine r_bipush (v := 60) dX7_cook_15 (by decide) ?_
        refine r_callV dX7_cook_17 l_X7_212 o_X7_in v_X7_in rfl (by decide) rfl rfl (m_X7_in hG) (by decide) rfl (Nat.le_of_ble_eq_true rfl) (fun r17 h17 hq17 => ?_)
        obtain ⟨rfl, e17⟩ := hq17
        rw [e17]
        clear e17 h17
        rw [show inP n 0 60 = (dec n 61).isSome from inP_dec0 (c := 60) (by omega) rfl, hn]
        refine r_if_ne (tgt := 27) dX7_cook_20 (by decide) (fun c_20 => ?_) (fun c_20 => ?_)
        · exact absurd rfl c_20
        · refine r_ldcw dX7_cook_23 n_X7_340 ?_
          refine r_ireturn dX7_cook_26 ⟨_, rfl, rfl⟩ ?_
          exact ⟨by rw [cookA, he, hn]; rfl, C, Fr.rf⟩
      · exact absurd c_5 (b01_n0.mpr rfl)
    | some k =>
      obtain ⟨hi, rfl, -⟩ := dec_some.mp he
      obtain ⟨hk, rfl, -⟩ := dec_some.mp hn
      refine r_aload_n dX7_cook_0 rfl ?_
      refine r_iload_n dX7_cook_1 rfl ?_
      refine r_callV dX7_cook_2 l_X7_220 o_X7_isEater v_X7_isEater rfl (by decide) rfl rfl (m_X7_isEater hG) (by decide) rfl (Nat.le_of_ble_eq_true rfl) (fun r2 h2 hq2 => ?_)
      obtain ⟨rfl, e2⟩ := hq2
      rw [e2]
      clear e2 h2
      rw [C.1.1.1, isE_dec (by omega), he]
      refine r_if_ne (tgt := 12) dX7_cook_5 (by decide) (fun c_5 => ?_) (fun c_5 => ?_)
      · refine r_aload_n dX7_cook_12 rfl ?_
        refine r_iload_n dX7_cook_13 rfl ?_
        refine r_iconst (v := 0) dX7_cook_14 (by decide) ?_
        refine r_bipush (v := 60) dX7_cook_15 (by decide) ?_
        refine r_callV dX7_cook_17 l_X7_212 o_X7_in v_X7_in rfl (by decide) rfl rfl (m_X7_in hG) (by decide) rfl (Nat.le_of_ble_eq_true rfl) (fun r17 h17 hq17 => ?_)
        obtain ⟨rfl, e17⟩ := hq17
        rw [e17]
        clear e17 h17
        rw [show inP (nI k) 0 60 = (dec (nI k) 61).isSome from inP_dec0 (c := 60) (by omega) rfl, hn]
        refine r_if_ne (tgt := 27) dX7_cook_20 (by decide) (fun c_20 => ?_) (fun c_20 => ?_)
        · refine r_aload_n dX7_cook_27 rfl ?_
          refine r_iload_n dX7_cook_28 rfl ?_
          refine r_iload_n dX7_cook_29 rfl ?_
          refine r_callV dX7_cook_30 l_X7_368 o_X7_gladBehind v_X7_gladBehind rfl (by decide) rfl rfl (m_X7_gladBehind (pact := none) hG hi (show k ≤ 1000 by omega) (by omega) C.1 C.2.1) (by decide) rfl (Nat.le_of_ble_eq_true rfl) (fun r30 h30 hq30 => ?_)
          obtain ⟨rfl, hR1, hF1⟩ := hq30
          obtain ⟨C1, -⟩ := C.end hR1 C.1.2.1 hd (gbF_scr hF1) (gbF_calm C.calm hF1)
          have C2 : SC (setI h30 134 28 1) b V T none true := ⟨hR1.scr (by decide), C.1.2.1, C1.1.2.2.1.fr (S := scrF) (Fr.set rfl) (fun j => ⟨rfl, rfl, rfl, rfl, rfl, rfl⟩) rfl, ⟨by rw [setI_nj (by decide)]; exact C1.1.2.2.2.1.1, C1.1.2.2.2.1.2⟩, setI_at⟩
          have P2 : RPc (setI h30 134 28 1) (T.1 7 0) none := by show (setI h30 134 28 1).1 134 35 = -1; rw [setI_nj (by decide)]; exact C1.2.1
          refine r_istore_n dX7_cook_33 (by decide) rfl rfl ?_
          dsimp only [List.set]
          refine r_aload_n dX7_cook_34 rfl ?_
          refine r_iconst (v := 1) dX7_cook_35 (by decide) ?_
          refine r_putI dX7_cook_36 k_X7_96 rfl (by decide) rfl rfl rfl rfl ?_
          refine r_aload_n dX7_cook_39 rfl ?_
          refine r_iload_n dX7_cook_40 rfl ?_
          refine r_iload_n dX7_cook_41 rfl ?_
          refine r_callV dX7_cook_42 l_X7_368 o_X7_gladBehind v_X7_gladBehind rfl (by decide) rfl rfl (m_X7_gladBehind (pact := none) hG hi (show k ≤ 1000 by omega) (by omega) C2 P2) (by decide) rfl (Nat.le_of_ble_eq_true rfl) (fun r42 h42 hq42 => ?_)
          obtain ⟨rfl, hR2, hF2⟩ := hq42
          refine r_istore dX7_cook_45 (by decide) rfl rfl ?_
          dsimp only [List.set]
          refine r_aload_n dX7_cook_47 rfl ?_
          refine r_iconst (v := 0) dX7_cook_48 (by decide) ?_
          refine r_putI dX7_cook_49 k_X7_96 rfl (by decide) rfl rfl rfl rfl ?_
          refine r_iload dX7_cook_52 rfl ?_
          refine r_iload_n dX7_cook_54 rfl ?_
          refine r_isub dX7_cook_55 ?_
          refine r_ireturn dX7_cook_56 ⟨_, rfl, rfl⟩ ?_
          refine ⟨by rw [cookA, he, hn]; rfl, C.end (hR2.scr (by decide)) C.1.2.1 hd ((((gbF_scr hF1).tr (Fr.set rfl)).tr (gbF_scr hF2)).tr (Fr.set rfl)) ⟨setI_at, ?_, ?_⟩⟩
          · rw [setI_nj (by decide), hF2.1 _ _ rfl, setI_nj (by decide)]; exact C1.1.2.2.2.1.1
          · rw [setI_nj (by decide), hF2.1 _ _ rfl, setI_nj (by decide)]; exact C1.2.1
        · exact absurd c_20 (b01_n0.mpr rfl)
      · exact absurd c_5 (b01_n0.mpr rfl)
theorem least_nI {a b : Nat} (ha : a < 1000) (hb : b < 1000) : (if nI a < nI b then nI a else nI b) = nI (min a b) := by
  by_cases h : a < b
  · rw [if_pos ((nI_lt' (by omega) (by omega)).mpr h), Nat.min_eq_left (by omega)]
  · rw [if_neg (fun q => h ((nI_lt' (by omega) (by omega)).mp q)), Nat.min_eq_right (by omega)]
set_option maxRecDepth 100000 in
theorem m_X7_pact {G : WT} {l : Launch} (hG : GOK G) {h : Hp} {b : Nat} {V : Hv} {T : Tb} {x y n : Int32} (C : RIc h b V T) : Cl G l 12 yX7_pact cX7_pact 6 (some .int) [.ref (gA G 134), .int x, .int y, .int n] h (fun r h' => r = some (.int (pactA V T x y n)) ∧ RIc h' b V T ∧ Fr (fun a i => scrF a i) h h') := by
  refine Cl.of hG (by decide) (Nat.le_of_ble_eq_true rfl) ?_
  show Wp G l 12 RX7 cX7_pact 6 (some .int) 0 [.ref (gA G 134), .int x, .int y, .int n, mk0, mk0] [] h _
  have hE := C.1.2.1.1
  have hd := C.2.2
  cases he : dec x (T.1 7 0) with
  | none =>
    refine r_aload_n dX7_pact_0 rfl ?_
    refine r_iload_n dX7_pact_1 rfl ?_
    refine r_callV dX7_pact_2 l_X7_220 o_X7_isEater v_X7_isEater rfl (by decide) rfl rfl (m_X7_isEater hG) (by decide) rfl (Nat.le_of_ble_eq_true rfl) (fun r2 h2 hq2 => ?_)
    obtain ⟨rfl, e2⟩ := hq2
    rw [e2]
    clear e2 h2
    rw [C.1.1.1, isE_dec (by omega), he]
    refine r_if_eq (tgt := 16) dX7_pact_5 (by decide) (fun c_5 => ?_) (fun c_5 => ?_)
    · refine r_ldcw dX7_pact_16 n_X7_339 ?_
      refine r_ireturn dX7_pact_19 ⟨_, rfl, rfl⟩ ?_
      exact ⟨by rw [pactA, he]; rfl, C, Fr.rf⟩
    · exact absurd rfl c_5
  | some i =>
    cases he2 : dec y (T.1 7 0) with
    | none =>
      refine r_aload_n dX7_pact_0 rfl ?_
      refine r_iload_n dX7_pact_1 rfl ?_
      refine r_callV dX7_pact_2 l_X7_220 o_X7_isEater v_X7_isEater rfl (by decide) rfl rfl (m_X7_isEater hG) (by decide) rfl (Nat.le_of_ble_eq_true rfl) (fun r2 h2 hq2 => ?_)
      obtain ⟨rfl, e2⟩ := hq2
      rw [e2]
      clear e2 h2
      rw [C.1.1.1, isE_dec (by omega), he]
      refine r_if_eq (tgt := 16) dX7_pact_5 (by decide) (fun c_5 => ?_) (fun c_5 => ?_)
      · exact absurd c_5 (b01_n0.mpr rfl)
      · refine r_aload_n dX7_pact_8 rfl ?_
        refine r_iload_n dX7_pact_9 rfl ?_
        refine r_callV dX7_pact_10 l_X7_220 o_X7_isEater v_X7_isEater rfl (by decide) rfl rfl (m_X7_isEater hG) (by decide) rfl (Nat.le_of_ble_eq_true rfl) (fun r10 h10 hq10 => ?_)
        obtain ⟨rfl, e10⟩ := hq10
        rw [e10]
        clear e10 h10
        rw [C.1.1.1, isE_dec (by omega), he2]
        refine r_if_ne (tgt := 20) dX7_pact_13 (by decide) (fun c_13 => ?_) (fun c_13 => ?_)
        · exact absurd rfl c_13
        · refine r_ldcw dX7_pact_16 n_X7_339 ?_
          refine r_ireturn dX7_pact_19 ⟨_, rfl, rfl⟩ ?_
          exact ⟨by rw [pactA, he, he2]; rfl, C, Fr.rf⟩
    | some j =>
      obtain ⟨hi, rfl, -⟩ := dec_some.mp he
      obtain ⟨hj, rfl, -⟩ := dec_some.mp he2
      by_cases hij : i = j
      · refine r_aload_n dX7_pact_0 rfl ?_
        refine r_iload_n dX7_pact_1 rfl ?_
        refine r_callV dX7_pact_2 l_X7_220 o_X7_isEater v_X7_isEater rfl (by decide) rfl rfl (m_X7_isEater hG) (by decide) rfl (Nat.le_of_ble_eq_true rfl) (fun r2 h2 hq2 => ?_)
        obtain ⟨rfl, e2⟩ := hq2
        rw [e2]
        clear e2 h2
        rw [C.1.1.1, isE_dec (by omega), he]
        refine r_if_eq (tgt := 16) dX7_pact_5 (by decide) (fun c_5 => ?_) (fun c_5 => ?_)
        · exact absurd c_5 (b01_n0.mpr rfl)
        · refine r_aload_n dX7_pact_8 rfl ?_
          refine r_iload_n dX7_pact_9 rfl ?_
          refine r_callV dX7_pact_10 l_X7_220 o_X7_isEater v_X7_isEater rfl (by decide) rfl rfl (m_X7_isEater hG) (by decide) rfl (Nat.le_of_ble_eq_true rfl) (fun r10 h10 hq10 => ?_)
          obtain ⟨rfl, e10⟩ := hq10
          rw [e10]
          clear e10 h10
          rw [C.1.1.1, isE_dec (by omega), he2]
          refine r_if_ne (tgt := 20) dX7_pact_13 (by decide) (fun c_13 => ?_) (fun c_13 => ?_)
          · refine r_iload_n dX7_pact_20 rfl ?_
            refine r_iload_n dX7_pact_21 rfl ?_
            refine r_icmp_eq (tgt := 36) dX7_pact_22 (by decide) (fun c_22 => ?_) (fun c_22 => ?_)
            · refine r_ldcw dX7_pact_36 n_X7_340 ?_
              refine r_ireturn dX7_pact_39 ⟨_, rfl, rfl⟩ ?_
              exact ⟨by rw [pactA, he, he2]; show _ = some (Value.int (if i = j then _ else _)); rw [if_pos hij]; rfl, C, Fr.rf⟩
            · exact absurd (by rw [hij]) c_22
          · exact absurd c_13 (b01_n0.mpr rfl)
      · cases hn : dec n 61 with
        | none =>
          refine r_aload_n dX7_pact_0 rfl ?_
          refine r_iload_n dX7_pact_1 rfl ?_
          refine r_callV dX7_pact_2 l_X7_220 o_X7_isEater v_X7_isEater rfl (by decide) rfl rfl (m_X7_isEater hG) (by decide) rfl (Nat.le_of_ble_eq_true rfl) (fun r2 h2 hq2 => ?_)
          obtain ⟨rfl, e2⟩ := hq2
          rw [e2]
          clear e2 h2
          rw [C.1.1.1, isE_dec (by omega), he]
          refine r_if_eq (tgt := 16) dX7_pact_5 (by decide) (fun c_5 => ?_) (fun c_5 => ?_)
          · exact absurd c_5 (b01_n0.mpr rfl)
          · refine r_aload_n dX7_pact_8 rfl ?_
            refine r_iload_n dX7_pact_9 rfl ?_
            refine r_callV dX7_pact_10 l_X7_220 o_X7_isEater v_X7_isEater rfl (by decide) rfl rfl (m_X7_isEater hG) (by decide) rfl (Nat.le_of_ble_eq_true rfl) (fun r10 h10 hq10 => ?_)
            obtain ⟨rfl, e10⟩ := hq10
            rw [e10]
            clear e10 h10
            rw [C.1.1.1, isE_dec (by omega), he2]
            refine r_if_ne (tgt := 20) dX7_pact_13 (by decide) (fun c_13 => ?_) (fun c_13 => ?_)
            · refine r_iload_n dX7_pact_20 rfl ?_
              refine r_iload_n dX7_pact_21 rfl ?_
              refine r_icmp_eq (tgt := 36) dX7_pact_22 (by decide) (fun c_22 => ?_) (fun c_22 => ?_)
              · exact absurd ((nI_eq' (by omega) (by omega)).mp c_22) hij
              · refine r_aload_n dX7_pact_25 rfl ?_
                refine r_iload_n dX7_pact_26 rfl ?_
                refine r_iconst (v := 0) dX7_pact_27 (by decide) ?_
                refine r_bipush (v := 60) dX7_pact_28 (by decide) ?_
                refine r_callV dX7_pact_30 l_X7_212 o_X7_in v_X7_in rfl (by decide) rfl rfl (m_X7_in hG) (by decide) rfl (Nat.le_of_ble_eq_true rfl) (fun r30 h30 hq30 => ?_)
                obtain ⟨rfl, e30⟩ := hq30
                rw [e30]
                clear e30 h30
                rw [show inP n 0 60 = (dec n 61).isSome from inP_dec0 (c := 60) (by omega) rfl, hn]
                refine r_if_ne (tgt := 40) dX7_pact_33 (by decide) (fun c_33 => ?_) (fun c_33 => ?_)
                · exact absurd rfl c_33
                · refine r_ldcw dX7_pact_36 n_X7_340 ?_
                  refine r_ireturn dX7_pact_39 ⟨_, rfl, rfl⟩ ?_
                  exact ⟨by rw [pactA, he, he2, hn]; show _ = some (Value.int (if i = j then _ else _)); rw [if_neg hij]; rfl, C, Fr.rf⟩
            · exact absurd c_13 (b01_n0.mpr rfl)
        | some k =>
          obtain ⟨hk, rfl, -⟩ := dec_some.mp hn
          have em : nI i + nI j - nI (min i j) = nI (max i j) := by rw [nI_add, pk_sub (by omega)]; congr 1; omega
          refine r_aload_n dX7_pact_0 rfl ?_
          refine r_iload_n dX7_pact_1 rfl ?_
          refine r_callV dX7_pact_2 l_X7_220 o_X7_isEater v_X7_isEater rfl (by decide) rfl rfl (m_X7_isEater hG) (by decide) rfl (Nat.le_of_ble_eq_true rfl) (fun r2 h2 hq2 => ?_)
          obtain ⟨rfl, e2⟩ := hq2
          rw [e2]
          clear e2 h2
          rw [C.1.1.1, isE_dec (by omega), he]
          refine r_if_eq (tgt := 16) dX7_pact_5 (by decide) (fun c_5 => ?_) (fun c_5 => ?_)
          · exact absurd c_5 (b01_n0.mpr rfl)
          · refine r_aload_n dX7_pact_8 rfl ?_
            refine r_iload_n dX7_pact_9 rfl ?_
            refine r_callV dX7_pact_10 l_X7_220 o_X7_isEater v_X7_isEater rfl (by decide) rfl rfl (m_X7_isEater hG) (by decide) rfl (Nat.le_of_ble_eq_true rfl) (fun r10 h10 hq10 => ?_)
            obtain ⟨rfl, e10⟩ := hq10
            rw [e10]
            clear e10 h10
            rw [C.1.1.1, isE_dec (by omega), he2]
            refine r_if_ne (tgt := 20) dX7_pact_13 (by decide) (fun c_13 => ?_) (fun c_13 => ?_)
            · refine r_iload_n dX7_pact_20 rfl ?_
              refine r_iload_n dX7_pact_21 rfl ?_
              refine r_icmp_eq (tgt := 36) dX7_pact_22 (by decide) (fun c_22 => ?_) (fun c_22 => ?_)
              · exact absurd ((nI_eq' (by omega) (by omega)).mp c_22) hij
              · refine r_aload_n dX7_pact_25 rfl ?_
                refine r_iload_n dX7_pact_26 rfl ?_
                refine r_iconst (v := 0) dX7_pact_27 (by decide) ?_
                refine r_bipush (v := 60) dX7_pact_28 (by decide) ?_
                refine r_callV dX7_pact_30 l_X7_212 o_X7_in v_X7_in rfl (by decide) rfl rfl (m_X7_in hG) (by decide) rfl (Nat.le_of_ble_eq_true rfl) (fun r30 h30 hq30 => ?_)
                obtain ⟨rfl, e30⟩ := hq30
                rw [e30]
                clear e30 h30
                rw [show inP (nI k) 0 60 = (dec (nI k) 61).isSome from inP_dec0 (c := 60) (by omega) rfl, hn]
                refine r_if_ne (tgt := 40) dX7_pact_33 (by decide) (fun c_33 => ?_) (fun c_33 => ?_)
                · refine r_aload_n dX7_pact_40 rfl ?_
                  refine r_iload_n dX7_pact_41 rfl ?_
                  refine r_iload_n dX7_pact_42 rfl ?_
                  refine r_callV dX7_pact_43 l_X7_368 o_X7_gladBehind v_X7_gladBehind rfl (by decide) rfl rfl (m_X7_gladBehind (pact := none) hG hi (show k ≤ 1000 by omega) (by omega) C.1 C.2.1) (by decide) rfl (Nat.le_of_ble_eq_true rfl) (fun r43 h43 hq43 => ?_)
                  obtain ⟨rfl, hR1, hF1⟩ := hq43
                  obtain ⟨C1, -⟩ := C.end hR1 C.1.2.1 hd (gbF_scr hF1) (gbF_calm C.calm hF1)
                  refine r_aload_n dX7_pact_46 rfl ?_
                  refine r_iload_n dX7_pact_47 rfl ?_
                  refine r_iload_n dX7_pact_48 rfl ?_
                  refine r_callV dX7_pact_49 l_X7_368 o_X7_gladBehind v_X7_gladBehind rfl (by decide) rfl rfl (m_X7_gladBehind (pact := none) hG hj (show k ≤ 1000 by omega) (by omega) C1.1 C1.2.1) (by decide) rfl (Nat.le_of_ble_eq_true rfl) (fun r49 h49 hq49 => ?_)
                  obtain ⟨rfl, hR2, hF2⟩ := hq49
                  obtain ⟨C2, -⟩ := C1.end hR2 C.1.2.1 hd (gbF_scr hF2) (gbF_calm C1.calm hF2)
                  refine r_iadd dX7_pact_52 ?_
                  refine r_istore dX7_pact_53 (by decide) rfl rfl ?_
                  dsimp only [List.set]
                  refine r_aload_n dX7_pact_55 rfl ?_
                  refine r_aload_n dX7_pact_56 rfl ?_
                  refine r_iload_n dX7_pact_57 rfl ?_
                  refine r_iload_n dX7_pact_58 rfl ?_
                  refine r_callV dX7_pact_59 l_X7_315 o_X7_least v_X7_least rfl (by decide) rfl rfl (m_X7_least hG) (by decide) rfl (Nat.le_of_ble_eq_true rfl) (fun r59 h59 hq59 => ?_)
                  obtain ⟨rfl, e59⟩ := hq59
                  rw [e59]
                  clear e59 h59
                  rw [least_nI (by omega) (by omega)]
                  refine r_putI dX7_pact_62 k_X7_118 rfl (by decide) rfl rfl rfl rfl ?_
                  refine r_aload_n dX7_pact_65 rfl ?_
                  refine r_iload_n dX7_pact_66 rfl ?_
                  refine r_iload_n dX7_pact_67 rfl ?_
                  refine r_iadd dX7_pact_68 ?_
                  refine r_aload_n dX7_pact_69 rfl ?_
                  refine r_getI dX7_pact_70 k_X7_118 rfl (by decide) rfl ?_
                  rw [setI_at]
                  refine r_isub dX7_pact_73 ?_
                  rw [em]
                  have F3 : Fr scrF h49 (setI (setI h49 134 35 (nI (min i j))) 134 36 (nI (max i j))) := (Fr.set rfl).tr (Fr.set rfl)
                  have C3 : SC (setI (setI h49 134 35 (nI (min i j))) 134 36 (nI (max i j))) b V T none false := ⟨(hR2.scr (by decide)).scr (by decide), C.1.2.1, C2.1.2.2.1.fr F3 (fun j => ⟨rfl, rfl, rfl, rfl, rfl, rfl⟩) rfl, ⟨by rw [setI_nj (by decide), setI_nj (by decide)]; exact C2.1.2.2.2.1.1, C2.1.2.2.2.1.2⟩, by rw [setI_nj (by decide), setI_nj (by decide)]; exact C2.1.2.2.2.2⟩
                  have P3 : RPc (setI (setI h49 134 35 (nI (min i j))) 134 36 (nI (max i j))) (T.1 7 0) (some (min i j, max i j)) := ⟨by rw [setI_nj (by decide), setI_at], setI_at, by omega, by omega, by omega⟩
                  refine r_putI dX7_pact_74 k_X7_121 rfl (by decide) rfl rfl rfl rfl ?_
                  refine r_aload_n dX7_pact_77 rfl ?_
                  refine r_iload_n dX7_pact_78 rfl ?_
                  refine r_iload_n dX7_pact_79 rfl ?_
                  refine r_callV dX7_pact_80 l_X7_368 o_X7_gladBehind v_X7_gladBehind rfl (by decide) rfl rfl (m_X7_gladBehind (pact := some (min i j, max i j)) hG hi (show k ≤ 1000 by omega) (by omega) C3 P3) (by decide) rfl (Nat.le_of_ble_eq_true rfl) (fun r80 h80 hq80 => ?_)
                  obtain ⟨rfl, hR4, hF4⟩ := hq80
                  have C4 : SC h80 b V T none false := ⟨hR4, C.1.2.1, C3.2.2.1.fr (gbF_scr hF4) (fun j => ⟨rfl, rfl, rfl, rfl, rfl, rfl⟩) rfl, ⟨by rw [hF4.1 _ _ rfl]; exact C3.2.2.2.1.1, C3.2.2.2.1.2⟩, by rw [hF4.1 _ _ rfl]; exact C3.2.2.2.2⟩
                  refine r_aload_n dX7_pact_83 rfl ?_
                  refine r_iload_n dX7_pact_84 rfl ?_
                  refine r_iload_n dX7_pact_85 rfl ?_
                  refine r_callV dX7_pact_86 l_X7_368 o_X7_gladBehind v_X7_gladBehind rfl (by decide) rfl rfl (m_X7_gladBehind (pact := some (min i j, max i j)) hG hj (show k ≤ 1000 by omega) (by omega) C4 (P3.fr hF4 rfl rfl)) (by decide) rfl (Nat.le_of_ble_eq_true rfl) (fun r86 h86 hq86 => ?_)
                  obtain ⟨rfl, hR5, hF5⟩ := hq86
                  refine r_iadd dX7_pact_89 ?_
                  refine r_istore dX7_pact_90 (by decide) rfl rfl ?_
                  dsimp only [List.set]
                  refine r_aload_n dX7_pact_92 rfl ?_
                  refine r_iconst (v := -1) dX7_pact_93 (by decide) ?_
                  refine r_putI dX7_pact_94 k_X7_118 rfl (by decide) rfl rfl rfl rfl ?_
                  refine r_aload_n dX7_pact_97 rfl ?_
                  refine r_iconst (v := -1) dX7_pact_98 (by decide) ?_
                  refine r_putI dX7_pact_99 k_X7_121 rfl (by decide) rfl rfl rfl rfl ?_
                  refine r_iload dX7_pact_102 rfl ?_
                  refine r_iload dX7_pact_104 rfl ?_
                  refine r_isub dX7_pact_106 ?_
                  refine r_ireturn dX7_pact_107 ⟨_, rfl, rfl⟩ ?_
                  refine ⟨?_, C.end ((hR5.scr (by decide)).scr (by decide)) C.1.2.1 hd ((((((gbF_scr hF1).tr (gbF_scr hF2)).tr F3).tr (gbF_scr hF4)).tr (gbF_scr hF5)).tr ((Fr.set rfl).tr (Fr.set rfl))) ⟨?_, ?_, ?_⟩⟩
                  · rw [pactA, he, he2, hn]
                    show _ = some (Value.int (if i = j then _ else _))
                    rw [if_neg hij]
                    rfl
                  · rw [setI_nj (by decide), setI_nj (by decide), hF5.1 _ _ rfl]; exact C4.2.2.2.2
                  · rw [setI_nj (by decide), setI_nj (by decide), hF5.1 _ _ rfl]; exact C4.2.2.2.1.1
                  · rw [setI_nj (by decide), setI_at]
                · exact absurd c_33 (b01_n0.mpr rfl)
            · exact absurd c_13 (b01_n0.mpr rfl)
/-! looked -/
theorem looked_loop {G : WT} {l : Launch} (hG : GOK G) {h g1 : Hp} {b : Nat} {V : Hv} {T : Tb} (C : RIc h b V T) (f1 : Fr kpF h g1) (k1 : Kept h g1) (hp : h.1 134 44 = nI (T.1 7 4)) (hbk : ∀ k, k < T.1 7 4 → h.1 159 k = nI (T.1 6 k)) :
    ∀ (m k : Nat) (g : Hp), k + m = T.1 7 4 → Fr goF g1 g → RTb g (supN V (P0 V) T k) → (∀ j, j < k → (supN V (P0 V) T (j + 1)).1 7 1 = T.1 6 j) → Wp G l 10 RX7 cX7_looked 3 (some .int) 9 [.ref (gA G 134), .int (-5), .int (nI k)] [] g (fun r h' => r = some (.int (lookedA V T)) ∧ RIc h' b V T ∧ Fr scrF h h') := by
  have h12 := C.1.2.1.2.2.2.2.1
  have hb99 := C.1.2.1.2.2.2.2.2.2.2.2
  intro m
  induction m with
  | zero =>
    intro k g hk hF hR hno
    obtain rfl : k = T.1 7 4 := by omega
    refine r_iload_n dX7_looked_9 rfl ?_
    refine r_aload_n dX7_looked_10 rfl ?_
    refine r_getI dX7_looked_11 k_X7_145 rfl (by decide) rfl ?_
    rw [hF.1 _ _ rfl, f1.1 _ _ rfl, hp]
    refine r_icmp_ge (tgt := 51) dX7_looked_14 (by decide) (fun c_14 => ?_) (fun c_14 => ?_)
    · refine r_aload_n dX7_looked_51 rfl ?_
      refine r_callV dX7_looked_52 l_X7_347 o_X7_putBack v_X7_putBack rfl (by decide) rfl rfl (m_X7_putBack hG) (by decide) rfl (Nat.le_of_ble_eq_true rfl) (fun r52 h52 hq52 => ?_)
      obtain ⟨rfl, f3, b3⟩ := hq52
      refine r_iload_n dX7_looked_55 rfl ?_
      refine r_ireturn dX7_looked_56 ⟨_, rfl, rfl⟩ ?_
      have e : lookF V T = T.1 7 4 := firstTo_none _ (fun j hj => decide_eq_false (fun q => q (hno j hj)))
      exact ⟨by rw [lookedA, e, if_neg (by omega)], C.back f1 k1 hF f3 b3⟩
    · exact absurd (Int32.le_refl _) c_14
  | succ m ih =>
    intro k g hk hF hR hno
    obtain ⟨C2, P2, hd2⟩ := SC.sup C (by omega) f1 hF hR
    have hd := C.2.2
    have hok9 := supN_ok (V := V) (P := P0 V) C.1.2.1 (k + 1) (by omega)
    have b1 := hok9.2.1
    have b2 := hb99 k
    refine r_iload_n dX7_looked_9 rfl ?_
    refine r_aload_n dX7_looked_10 rfl ?_
    refine r_getI dX7_looked_11 k_X7_145 rfl (by decide) rfl ?_
    rw [hF.1 _ _ rfl, f1.1 _ _ rfl, hp]
    refine r_icmp_ge (tgt := 51) dX7_looked_14 (by decide) (fun c_14 => ?_) (fun c_14 => ?_)
    · exact absurd c_14 (nI_ge (by omega) (by omega))
    · refine r_iload_n dX7_looked_17 rfl ?_
      refine r_if_ge (tgt := 51) dX7_looked_18 (by decide) (fun c_18 => ?_) (fun c_18 => ?_)
      · exact absurd c_18 (by decide)
      · refine r_aload_n dX7_looked_21 rfl ?_
        refine r_callV dX7_looked_22 l_X7_336 o_X7_goSupper v_X7_goSupper rfl (by decide) rfl rfl (m_X7_goSupper (pact := none) hG C2 P2 (by omega)) (by decide) rfl (Nat.le_of_ble_eq_true rfl) (fun r22 h22 hq22 => ?_)
        obtain ⟨rfl, hR20, hF20, -⟩ := hq22
        have hR9 : RTb h22 (supN V (P0 V) T (k + 1)) := hR20
        refine r_aload_n dX7_looked_25 rfl ?_
        refine r_getI dX7_looked_26 k_X7_13 rfl (by decide) rfl ?_
        refine r_aload_n dX7_looked_29 rfl ?_
        refine r_getR (j := 159) dX7_looked_30 k_X7_148 rfl (by decide) rfl rfl ?_
        refine r_iload_n dX7_looked_33 rfl ?_
        refine r_iald (k) dX7_looked_34 rfl rfl (show k < 12 by omega) ?_
        rw [hR9.2.1, hF20.1 _ _ rfl, hF.1 _ _ rfl, f1.1 _ _ rfl, hbk k (by omega)]
        refine r_icmp_ne (tgt := 43) dX7_looked_35 (by decide) (fun c_35 => ?_) (fun c_35 => ?_)
        · refine r_iload_n dX7_looked_43 rfl ?_
          refine r_istore_n dX7_looked_44 (by decide) rfl rfl ?_
          dsimp only [List.set]
          refine r_iinc dX7_looked_45 rfl (by first | exact nI_inc _ | rfl) (by decide) rfl rfl ?_
          dsimp only [List.set]
          refine r_goto (tgt := 9) dX7_looked_48 (by decide) ?_
          have y : ¬ (supN V (P0 V) T (k + 1)).1 7 1 = T.1 6 k := fun q => c_35 (by rw [q])
          have e : lookF V T = k := firstTo_at (q := fun k => decide (¬ (supN V (P0 V) T (k + 1)).1 7 1 = T.1 6 k)) (k := k) (fun j hj => decide_eq_false (fun q => q (hno j hj))) (decide_eq_true y) (T.1 7 4) (by omega)
          refine r_iload_n dX7_looked_9 rfl ?_
          refine r_aload_n dX7_looked_10 rfl ?_
          refine r_getI dX7_looked_11 k_X7_145 rfl (by decide) rfl ?_
          rw [hF20.1 _ _ rfl, hF.1 _ _ rfl, f1.1 _ _ rfl, hp]
          have fin : Wp G l 10 RX7 cX7_looked 3 (some .int) 51 [.ref (gA G 134), .int (nI k), .int (nI (k + 1))] [] h22 (fun r h' => r = some (.int (lookedA V T)) ∧ RIc h' b V T ∧ Fr scrF h h') := by
            refine r_aload_n dX7_looked_51 rfl ?_
            refine r_callV dX7_looked_52 l_X7_347 o_X7_putBack v_X7_putBack rfl (by decide) rfl rfl (m_X7_putBack hG) (by decide) rfl (Nat.le_of_ble_eq_true rfl) (fun r52 h52 hq52 => ?_)
            obtain ⟨rfl, f3, b3⟩ := hq52
            refine r_iload_n dX7_looked_55 rfl ?_
            refine r_ireturn dX7_looked_56 ⟨_, rfl, rfl⟩ ?_
            exact ⟨by rw [lookedA, e, if_pos (by omega)], C.back f1 k1 (hF.tr hF20) f3 b3⟩
          refine r_icmp_ge (tgt := 51) dX7_looked_14 (by decide) (fun c_14 => fin) (fun c_14 => ?_)
          refine r_iload_n dX7_looked_17 rfl ?_
          refine r_if_ge (tgt := 51) dX7_looked_18 (by decide) (fun c_18 => fin) (fun c_18 => ?_)
          exact absurd (nI_pos' (by omega)) c_18
        · refine r_bipush (v := -5) dX7_looked_38 (by decide) ?_
          refine r_goto (tgt := 44) dX7_looked_40 (by decide) ?_
          refine r_istore_n dX7_looked_44 (by decide) rfl rfl ?_
          dsimp only [List.set]
          refine r_iinc dX7_looked_45 rfl (by first | exact nI_inc _ | rfl) (by decide) rfl rfl ?_
          dsimp only [List.set]
          refine r_goto (tgt := 9) dX7_looked_48 (by decide) ?_
          exact ih (k + 1) _ (by omega) (hF.tr hF20) hR9 (fun j hj => by
            by_cases hjk : j = k
            · rw [hjk]; exact (nI_eq' (by omega) (by omega)).mp c_35
            · exact hno j (by omega))
set_option maxRecDepth 100000 in
theorem m_X7_looked {G : WT} {l : Launch} (hG : GOK G) {h : Hp} {b : Nat} {V : Hv} {T : Tb} (C : RIc h b V T) (hp : h.1 134 44 = nI (T.1 7 4)) (hbk : ∀ k, k < T.1 7 4 → h.1 159 k = nI (T.1 6 k)) : Cl G l 10 yX7_looked cX7_looked 3 (some .int) [.ref (gA G 134)] h (fun r h' => r = some (.int (lookedA V T)) ∧ RIc h' b V T ∧ Fr scrF h h') := by
  refine Cl.of hG (by decide) (Nat.le_of_ble_eq_true rfl) ?_
  show Wp G l 10 RX7 cX7_looked 3 (some .int) 0 [.ref (gA G 134), mk0, mk0] [] h _
  refine r_aload_n dX7_looked_0 rfl ?_
  refine r_callV dX7_looked_1 l_X7_341 o_X7_keep v_X7_keep rfl (by decide) rfl rfl (m_X7_keep hG) (by decide) rfl (Nat.le_of_ble_eq_true rfl) (fun r1 h1 hq1 => ?_)
  obtain ⟨rfl, f1, k1, -⟩ := hq1
  refine r_bipush (v := -5) dX7_looked_4 (by decide) ?_
  refine r_istore_n dX7_looked_6 (by decide) rfl rfl ?_
  dsimp only [List.set]
  refine r_iconst (v := 0) dX7_looked_7 (by decide) ?_
  refine r_istore_n dX7_looked_8 (by decide) rfl rfl ?_
  dsimp only [List.set]
  exact looked_loop hG C f1 k1 hp hbk (T.1 7 4) 0 _ (by omega) Fr.rf (C.1.fr f1 kpF_dom).1 (fun j hj => absurd hj (by omega))
