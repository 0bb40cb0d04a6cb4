/-! a test read -/
theorem place_far {x : Int} (z1 : ¬ x = (105 : Nat)) (z2 : ¬ x = (107 : Nat)) (z3 : ¬ x = (104 : Nat)) (z4 : ¬ x = (97 : Nat)) (z5 : ¬ x = (98 : Nat)) (z6 : ¬ x = (100 : Nat)) : tswT 71 97 107 #[65, 67, 71, 69, 71, 71, 71, 63, 59, 71, 61].toList (0 + 1) x = 72 := by
  unfold tswT
  by_cases c : x < 97 ∨ 107 < x
  · rw [if_pos c]; rfl
  · rw [if_neg c]
    have d : x = 99 ∨ x = 101 ∨ x = 102 ∨ x = 103 ∨ x = 106 := by omega
    rcases d with rfl | rfl | rfl | rfl | rfl <;> rfl
set_option maxRecDepth 100000 in
theorem m_X7_place {G : WT} {l : Launch} (hG : GOK G) {h : Hp} {X : Tx} {a : Nat} (hX : TxOK X) : Cl G l 1 yX7_place cX7_place 2 (some .int) [.ref (gA G 134), .int (nxI X a)] h (fun r h' => r = some (.int (match plcS (nx X a) with | some f => nI f | none => -1)) ∧ h' = h) := by
  refine Cl.of hG (by decide) (Nat.le_of_ble_eq_true rfl) ?_
  show Wp G l 1 RX7 cX7_place 2 (some .int) 0 [.ref (gA G 134), .int (nxI X a)] [] h _
  have key : ∀ (c : Nat), c < 128 → nx X a = c → nxI X a = nI c := fun c hc q => (nxI_eq hX hc).mpr q
  by_cases c1 : nx X a = 105
  · rw [key 105 (by omega) c1, c1]
    refine r_iload_n dX7_place_0 rfl ?_
    · refine r_tsw 60 dX7_place_1 rfl (by decide) rfl ?_
      refine r_iconst (v := 0) dX7_place_60 (by decide) ?_
      refine r_ireturn dX7_place_61 ⟨_, rfl, rfl⟩ ?_
      exact ⟨rfl, rfl⟩
  · by_cases c2 : nx X a = 107
    · rw [key 107 (by omega) c2, c2]
      refine r_iload_n dX7_place_0 rfl ?_
      · refine r_tsw 62 dX7_place_1 rfl (by decide) rfl ?_
        refine r_iconst (v := 1) dX7_place_62 (by decide) ?_
        refine r_ireturn dX7_place_63 ⟨_, rfl, rfl⟩ ?_
        exact ⟨rfl, rfl⟩
    · by_cases c3 : nx X a = 104
      · rw [key 104 (by omega) c3, c3]
        refine r_iload_n dX7_place_0 rfl ?_
        · refine r_tsw 64 dX7_place_1 rfl (by decide) rfl ?_
          refine r_iconst (v := 2) dX7_place_64 (by decide) ?_
          refine r_ireturn dX7_place_65 ⟨_, rfl, rfl⟩ ?_
          exact ⟨rfl, rfl⟩
      · by_cases c4 : nx X a = 97
        · rw [key 97 (by omega) c4, c4]
          refine r_iload_n dX7_place_0 rfl ?_
          · refine r_tsw 66 dX7_place_1 rfl (by decide) rfl ?_
            refine r_iconst (v := 3) dX7_place_66 (by decide) ?_
            refine r_ireturn dX7_place_67 ⟨_, rfl, rfl⟩ ?_
            exact ⟨rfl, rfl⟩
        · by_cases c5 : nx X a = 98
          · rw [key 98 (by omega) c5, c5]
            refine r_iload_n dX7_place_0 rfl ?_
            · refine r_tsw 68 dX7_place_1 rfl (by decide) rfl ?_
              refine r_iconst (v := 4) dX7_place_68 (by decide) ?_
              refine r_ireturn dX7_place_69 ⟨_, rfl, rfl⟩ ?_
              exact ⟨rfl, rfl⟩
          · by_cases c6 : nx X a = 100
            · rw [key 100 (by omega) c6, c6]
              refine r_iload_n dX7_place_0 rfl ?_
              · refine r_tsw 70 dX7_place_1 rfl (by decide) rfl ?_
                refine r_iconst (v := 5) dX7_place_70 (by decide) ?_
                refine r_ireturn dX7_place_71 ⟨_, rfl, rfl⟩ ?_
                exact ⟨rfl, rfl⟩
            · have e : plcS (nx X a) = none := by
                unfold plcS
                split <;> first | (exfalso; omega) | rfl
              have n1 : ∀ c, c < 128 → ¬ nx X a = c → ¬ (nxI X a).toInt = c := fun c hc q y => q ((nxI_eq hX hc).mp (Int32.toInt_inj.mp (by rw [y, nI_toInt (by omega)])))
              have z1 := n1 105 (by omega) c1
              have z2 := n1 107 (by omega) c2
              have z3 := n1 104 (by omega) c3
              have z4 := n1 97 (by omega) c4
              have z5 := n1 98 (by omega) c5
              have z6 := n1 100 (by omega) c6
              refine r_iload_n dX7_place_0 rfl ?_
              · refine r_tsw 72 dX7_place_1 rfl (by decide) (place_far z1 z2 z3 z4 z5 z6) ?_
                refine r_iconst (v := -1) dX7_place_72 (by decide) ?_
                refine r_ireturn dX7_place_73 ⟨_, rfl, rfl⟩ ?_
                exact ⟨by rw [e], rfl⟩
theorem tX_f {X : Tx} {a : Nat} (h : plcS (nx X a) = none) : tX X a = (none, a) := by rw [tX, h]
theorem tX_s {X : Tx} {a f : Nat} (h : plcS (nx X a) = some f) : tX X a = if 60 ≤ nx X (a + 1) ∧ nx X (a + 1) ≤ 62 then (match numS X (a + 2) with | none => (none, a + 2) | some (b, v) => (some ((1000 * f + 100 * (nx X (a + 1) - 60) + v : Nat) : Int), b)) else (none, a + 1) := by rw [tX, h]; rfl
def teF (s0 a i : Nat) : Bool := whF s0 a i || nuF a i
theorem nuF_te {s0 : Nat} {h h' : Hp} (H : Fr nuF h h') : Fr (teF s0) h h' := H.wk (fun x i q => by simp only [teF, Bool.or_eq_false_iff] at q; exact q.2)
theorem whF_te {s0 : Nat} {h h' : Hp} (H : Fr (whF s0) h h') : Fr (teF s0) h h' := H.wk (fun x i q => by simp only [teF, Bool.or_eq_false_iff] at q; exact q.1)
theorem RK.nu {h h' : Hp} {K : List Nat} (H : RK h K) (hF : Fr nuF h h') : RK h' K :=
  ⟨by rw [hF.1 _ _ rfl]; exact H.1, by rw [hF.1 _ _ rfl]; exact H.2.1, fun j c q => ⟨by rw [hF.1 _ _ rfl]; exact (H.2.2 j c q).1, (H.2.2 j c q).2⟩⟩
theorem RG.nu {s0 : Nat} {acc : List Int} {h h' : Hp} (H : RG h s0 acc) (hF : Fr nuF h h') : RG h' s0 acc := ⟨by rw [hF.1 _ _ rfl]; exact H.1, fun j t q => by rw [hF.1 _ _ rfl]; exact H.2 j t q⟩
theorem nx_rel {X : Tx} (hX : TxOK X) (a : Nat) : inP (nxI X a) 60 62 = decide (60 ≤ nx X a ∧ nx X a ≤ 62) := by
  by_cases q : 60 ≤ nx X a ∧ nx X a ≤ 62
  · rw [decide_eq_true q]
    exact (in_nn (a := 60) (b := 62) (by omega) (by omega)).mpr ⟨nx X a, q.1, q.2, (nxI_eq hX (by omega)).mpr rfl⟩
  · rw [decide_eq_false q]
    cases hi : inP (nxI X a) 60 62 with
    | false => rfl
    | true =>
      obtain ⟨j, j1, j2, j3⟩ := (in_nn (a := 60) (b := 62) (by omega) (by omega)).mp hi
      have := (nxI_eq hX (by omega)).mp j3
      exact absurd ⟨by omega, by omega⟩ q
theorem test_63 {G : WT} {l : Launch} (hG : GOK G) {h : Hp} {f c v s0 : Nat} {K : List Nat} {acc : List Int} (hf : f ≤ 5) (hc1 : 60 ≤ c) (hc2 : c ≤ 62) (hv : v ≤ 99) (HK : RK h K) (HG : RG h s0 acc) (hb : s0 + acc.length + K.length ≤ 599) (hk : K.length ≤ 101) (hd : h.1 134 14 = nI v) : Wp G l 4 RX7 cX7_takesTest 3 (some .boolean) 63 [.ref (gA G 134), .int (nI f), .int (nI c)] [] h (fun r h' => r = some (.int 1) ∧ RK h' (whS K (acc ++ [((1000 * f + 100 * (c - 60) + v : Nat) : Int)])).1 ∧ RG h' s0 (whS K (acc ++ [((1000 * f + 100 * (c - 60) + v : Nat) : Int)])).2 ∧ Fr (whF s0) h h') := by
  refine r_aload_n dX7_takesTest_63 rfl ?_
  refine r_sipush (v := 1000) dX7_takesTest_64 (by decide) ?_
  refine r_iload_n dX7_takesTest_67 rfl ?_
  refine r_imul dX7_takesTest_68 ?_
  refine r_bipush (v := 100) dX7_takesTest_69 (by decide) ?_
  refine r_iload_n dX7_takesTest_71 rfl ?_
  refine r_bipush (v := 60) dX7_takesTest_72 (by decide) ?_
  refine r_isub dX7_takesTest_74 ?_
  refine r_imul dX7_takesTest_75 ?_
  refine r_iadd dX7_takesTest_76 ?_
  refine r_aload_n dX7_takesTest_77 rfl ?_
  refine r_getI dX7_takesTest_78 k_X7_53 rfl (by decide) rfl ?_
  refine r_iadd dX7_takesTest_81 ?_
  rw [hd, show (1000 : Int32) * nI f + 100 * (nI c - 60) + nI v = zI ((1000 * f + 100 * (c - 60) + v : Nat) : Int) by rw [show (1000 : Int32) = nI 1000 from rfl, show (100 : Int32) = nI 100 from rfl, show (60 : Int32) = nI 60 from rfl, pk_sub hc1, pk_mul, pk_mul, nI_add, nI_add]; rfl]
  refine r_callV dX7_takesTest_82 l_X7_235 o_X7_put v_X7_put rfl (by decide) rfl rfl (m_X7_put hG HG (by omega)) (by decide) rfl (Nat.le_of_ble_eq_true rfl) (fun r82 h82 hq82 => ?_)
  obtain ⟨rfl, G1, F1⟩ := hq82
  refine r_aload_n dX7_takesTest_85 rfl ?_
  refine r_callV dX7_takesTest_86 l_X7_246 o_X7_whole v_X7_whole rfl (by decide) rfl rfl (m_X7_whole hG (HK.put F1) G1 (by rw [List.length_append]; show s0 + (acc.length + 1) + K.length ≤ 600; omega) hk) (by decide) rfl (Nat.le_of_ble_eq_true rfl) (fun r86 h86 hq86 => ?_)
  obtain ⟨rfl, K2, G2, F2⟩ := hq86
  refine r_iconst (v := 1) dX7_takesTest_89 (by decide) ?_
  refine r_ireturn dX7_takesTest_90 ⟨_, rfl, rfl⟩ ?_
  exact ⟨rfl, K2, G2, (puF_wh F1).tr F2⟩
set_option maxRecDepth 100000 in
theorem m_X7_takesTest {G : WT} {l : Launch} (hG : GOK G) {h : Hp} {X : Tx} {a s0 : Nat} {K : List Nat} {acc : List Int} (H : RAt h X a) (HK : RK h K) (HG : RG h s0 acc) (hb : s0 + acc.length + K.length ≤ 500 + a) (hk : K.length ≤ 101) : Cl G l 4 yX7_takesTest cX7_takesTest 3 (some .boolean) [.ref (gA G 134)] h (fun r h' => (∀ b, tX X a = (none, b) → r = some (.int 0) ∧ RAt h' X b ∧ Fr (teF s0) h h') ∧ (∀ t b, tX X a = (some t, b) → r = some (.int 1) ∧ RAt h' X b ∧ RK h' (whS K (acc ++ [t])).1 ∧ RG h' s0 (whS K (acc ++ [t])).2 ∧ Fr (teF s0) h h')) := by
  refine Cl.of hG (by decide) (Nat.le_of_ble_eq_true rfl) ?_
  show Wp G l 4 RX7 cX7_takesTest 3 (some .boolean) 0 [.ref (gA G 134), mk0, mk0] [] h _
  have hX := H.2.1
  cases hf : plcS (nx X a) with
  | none =>
    have e := tX_f hf
    refine r_aload_n dX7_takesTest_0 rfl ?_
    refine r_aload_n dX7_takesTest_1 rfl ?_
    refine r_callV dX7_takesTest_2 l_X7_224 o_X7_next v_X7_next rfl (by decide) rfl rfl (m_X7_next hG H) (by decide) rfl (Nat.le_of_ble_eq_true rfl) (fun r2 h2 hq2 => ?_)
    obtain ⟨rfl, e2⟩ := hq2
    rw [e2]
    clear e2 h2
    refine r_callV dX7_takesTest_5 l_X7_239 o_X7_place v_X7_place rfl (by decide) rfl rfl (m_X7_place hG hX) (by decide) rfl (Nat.le_of_ble_eq_true rfl) (fun r5 h5 hq5 => ?_)
    obtain ⟨rfl, e5⟩ := hq5
    rw [e5]
    clear e5 h5
    refine r_istore_n dX7_takesTest_8 (by decide) rfl rfl ?_
    dsimp only [List.set]
    rw [hf]
    refine r_iload_n dX7_takesTest_9 rfl ?_
    refine r_if_ge (tgt := 15) dX7_takesTest_10 (by decide) (fun c_10 => ?_) (fun c_10 => ?_)
    · exact absurd c_10 (by decide)
    · refine r_iconst (v := 0) dX7_takesTest_13 (by decide) ?_
      refine r_ireturn dX7_takesTest_14 ⟨_, rfl, rfl⟩ ?_
      exact ⟨fun b q => by rw [e] at q; cases q; exact ⟨rfl, H, Fr.rf⟩, fun t b q => by rw [e] at q; cases q⟩
  | some f =>
    obtain ⟨hc1, hf5⟩ := plc_lt hf
    have a1 := nx_in2 (X := X) (a := a) hc1
    have H1 := H.mv (b := a + 1) a1
    have F1 : Fr nuF h (setI h 134 13 (nI (a + 1))) := Fr.set rfl
    have e := tX_s hf
    by_cases hr : 60 ≤ nx X (a + 1) ∧ nx X (a + 1) ≤ 62
    · rw [if_pos hr] at e
      have a2 := nx_in2 (X := X) (a := a + 1) (by omega)
      have H2 := H1.mv (b := a + 2) a2
      have F2 : Fr nuF (setI h 134 13 (nI (a + 1))) (setI (setI h 134 13 (nI (a + 1))) 134 13 (nI (a + 2))) := Fr.set rfl
      have en : nxI X (a + 1) = nI (nx X (a + 1)) := (nxI_eq hX (by omega)).mpr rfl
      refine r_aload_n dX7_takesTest_0 rfl ?_
      refine r_aload_n dX7_takesTest_1 rfl ?_
      refine r_callV dX7_takesTest_2 l_X7_224 o_X7_next v_X7_next rfl (by decide) rfl rfl (m_X7_next hG H) (by decide) rfl (Nat.le_of_ble_eq_true rfl) (fun r2 h2 hq2 => ?_)
      obtain ⟨rfl, e2⟩ := hq2
      rw [e2]
      clear e2 h2
      refine r_callV dX7_takesTest_5 l_X7_239 o_X7_place v_X7_place rfl (by decide) rfl rfl (m_X7_place hG hX) (by decide) rfl (Nat.le_of_ble_eq_true rfl) (fun r5 h5 hq5 => ?_)
      obtain ⟨rfl, e5⟩ := hq5
      rw [e5]
      clear e5 h5
      refine r_istore_n dX7_takesTest_8 (by decide) rfl rfl ?_
      dsimp only [List.set]
      rw [hf]
      refine r_iload_n dX7_takesTest_9 rfl ?_
      refine r_if_ge (tgt := 15) dX7_takesTest_10 (by decide) (fun c_10 => ?_) (fun c_10 => ?_)
      · refine r_aload_n dX7_takesTest_15 rfl ?_
        refine r_dup dX7_takesTest_16 rfl ?_
        refine r_getI dX7_takesTest_17 k_X7_50 rfl (by decide) rfl ?_
        refine r_iconst (v := 1) dX7_takesTest_20 (by decide) ?_
        refine r_iadd dX7_takesTest_21 ?_
        rw [H.2.2.1, nI_1]
        refine r_putI dX7_takesTest_22 k_X7_50 rfl (by decide) rfl rfl rfl rfl ?_
        refine r_aload_n dX7_takesTest_25 rfl ?_
        refine r_callV dX7_takesTest_26 l_X7_224 o_X7_next v_X7_next rfl (by decide) rfl rfl (m_X7_next hG H1) (by decide) rfl (Nat.le_of_ble_eq_true rfl) (fun r26 h26 hq26 => ?_)
        obtain ⟨rfl, e26⟩ := hq26
        rw [e26]
        clear e26 h26
        refine r_istore_n dX7_takesTest_29 (by decide) rfl rfl ?_
        dsimp only [List.set]
        refine r_aload_n dX7_takesTest_30 rfl ?_
        refine r_iload_n dX7_takesTest_31 rfl ?_
        refine r_bipush (v := 60) dX7_takesTest_32 (by decide) ?_
        refine r_bipush (v := 62) dX7_takesTest_34 (by decide) ?_
        refine r_callV dX7_takesTest_36 l_X7_212 o_X7_in v_X7_in rfl (by decide) rfl rfl (m_X7_in hG) (by decide) rfl (Nat.le_of_ble_eq_true rfl) (fun r36 h36 hq36 => ?_)
        obtain ⟨rfl, e36⟩ := hq36
        rw [e36]
        clear e36 h36
        rw [nx_rel hX, decide_eq_true hr]
        refine r_if_ne (tgt := 44) dX7_takesTest_39 (by decide) (fun c_39 => ?_) (fun c_39 => ?_)
        · refine r_aload_n dX7_takesTest_44 rfl ?_
          refine r_dup dX7_takesTest_45 rfl ?_
          refine r_getI dX7_takesTest_46 k_X7_50 rfl (by decide) rfl ?_
          refine r_iconst (v := 1) dX7_takesTest_49 (by decide) ?_
          refine r_iadd dX7_takesTest_50 ?_
          rw [H1.2.2.1, nI_1]
          refine r_putI dX7_takesTest_51 k_X7_50 rfl (by decide) rfl rfl rfl rfl ?_
          refine r_aload_n dX7_takesTest_54 rfl ?_
          refine r_callV dX7_takesTest_55 l_X7_243 o_X7_takesNumber v_X7_takesNumber rfl (by decide) rfl rfl (m_X7_takesNumber hG H2) (by decide) rfl (Nat.le_of_ble_eq_true rfl) (fun r55 h55 hq55 => ?_)
          obtain ⟨n1, n2⟩ := hq55
          cases hn : numS X (a + 2) with
          | none =>
            obtain ⟨rfl, rfl⟩ := n1 hn
            rw [hn] at e
            refine r_if_ne (tgt := 63) dX7_takesTest_58 (by decide) (fun c_58 => absurd rfl c_58) (fun c_58 => ?_)
            refine r_iconst (v := 0) dX7_takesTest_61 (by decide) ?_
            refine r_ireturn dX7_takesTest_62 ⟨_, rfl, rfl⟩ ?_
            exact ⟨fun b q => by rw [e] at q; cases q; exact ⟨rfl, H2, nuF_te (F1.tr F2)⟩, fun t b q => by rw [e] at q; cases q⟩
          | some bv =>
            obtain ⟨b, v⟩ := bv
            obtain ⟨rfl, H3, hdg, F3⟩ := n2 b v hn
            rw [hn] at e
            have FF := (F1.tr F2).tr F3
            refine r_if_ne (tgt := 63) dX7_takesTest_58 (by decide) (fun c_58 => ?_) (fun c_58 => absurd c_58 (by decide))
            rw [en]
            refine Wp.mono (test_63 hG hf5 hr.1 hr.2 (num_at hn).2.2.1 (HK.nu FF) (HG.nu FF) (by have := num_at hn; have := hX.1; omega) hk hdg) (fun r h' q => ?_)
            obtain ⟨w1, w2, w3, w4⟩ := q
            refine ⟨fun b q => (by rw [e] at q; cases q), fun t b1 q => ?_⟩
            rw [e] at q
            cases q
            exact ⟨w1, H3.fr w4 (by simp [whF, puF]) (fun _ => by simp [whF, puF]) (by simp [whF, puF]), w2, w3, (nuF_te FF).tr (whF_te w4)⟩
        · exact absurd c_39 (by decide)
      · exact absurd (nI_pos' (by omega)) c_10
    · rw [if_neg hr] at e
      refine r_aload_n dX7_takesTest_0 rfl ?_
      refine r_aload_n dX7_takesTest_1 rfl ?_
      refine r_callV dX7_takesTest_2 l_X7_224 o_X7_next v_X7_next rfl (by decide) rfl rfl (m_X7_next hG H) (by decide) rfl (Nat.le_of_ble_eq_true rfl) (fun r2 h2 hq2 => ?_)
      obtain ⟨rfl, e2⟩ := hq2
      rw [e2]
      clear e2 h2
      refine r_callV dX7_takesTest_5 l_X7_239 o_X7_place v_X7_place rfl (by decide) rfl rfl (m_X7_place hG hX) (by decide) rfl (Nat.le_of_ble_eq_true rfl) (fun r5 h5 hq5 => ?_)
      obtain ⟨rfl, e5⟩ := hq5
      rw [e5]
      clear e5 h5
      refine r_istore_n dX7_takesTest_8 (by decide) rfl rfl ?_
      dsimp only [List.set]
      rw [hf]
      refine r_iload_n dX7_takesTest_9 rfl ?_
      refine r_if_ge (tgt := 15) dX7_takesTest_10 (by decide) (fun c_10 => ?_) (fun c_10 => ?_)
      · refine r_aload_n dX7_takesTest_15 rfl ?_
        refine r_dup dX7_takesTest_16 rfl ?_
        refine r_getI dX7_takesTest_17 k_X7_50 rfl (by decide) rfl ?_
        refine r_iconst (v := 1) dX7_takesTest_20 (by decide) ?_
        refine r_iadd dX7_takesTest_21 ?_
        rw [H.2.2.1, nI_1]
        refine r_putI dX7_takesTest_22 k_X7_50 rfl (by decide) rfl rfl rfl rfl ?_
        refine r_aload_n dX7_takesTest_25 rfl ?_
        refine r_callV dX7_takesTest_26 l_X7_224 o_X7_next v_X7_next rfl (by decide) rfl rfl (m_X7_next hG H1) (by decide) rfl (Nat.le_of_ble_eq_true rfl) (fun r26 h26 hq26 => ?_)
        obtain ⟨rfl, e26⟩ := hq26
        rw [e26]
        clear e26 h26
        refine r_istore_n dX7_takesTest_29 (by decide) rfl rfl ?_
        dsimp only [List.set]
        refine r_aload_n dX7_takesTest_30 rfl ?_
        refine r_iload_n dX7_takesTest_31 rfl ?_
        refine r_bipush (v := 60) dX7_takesTest_32 (by decide) ?_
        refine r_bipush (v := 62) dX7_takesTest_34 (by decide) ?_
        refine r_callV dX7_takesTest_36 l_X7_212 o_X7_in v_X7_in rfl (by decide) rfl rfl (m_X7_in hG) (by decide) rfl (Nat.le_of_ble_eq_true rfl) (fun r36 h36 hq36 => ?_)
        obtain ⟨rfl, e36⟩ := hq36
        rw [e36]
        clear e36 h36
        rw [nx_rel hX, decide_eq_false hr]
        refine r_if_ne (tgt := 44) dX7_takesTest_39 (by decide) (fun c_39 => ?_) (fun c_39 => ?_)
        · exact absurd rfl c_39
        · refine r_iconst (v := 0) dX7_takesTest_42 (by decide) ?_
          refine r_ireturn dX7_takesTest_43 ⟨_, rfl, rfl⟩ ?_
          exact ⟨fun b q => by rw [e] at q; cases q; exact ⟨rfl, H1, nuF_te F1⟩, fun t b q => by rw [e] at q; cases q⟩
      · exact absurd (nI_pos' (by omega)) c_10
