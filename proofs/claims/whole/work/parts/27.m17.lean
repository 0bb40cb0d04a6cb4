/-! hunger, row, bin, told, of -/
theorem RTb_hunger {h : Hp} {T : Tb} {i n : Nat} (H : RTb h T) : RTb (setI h 137 i (nI n)) (setT T 2 i n) := by
  obtain ⟨r1, r2, r3, r4, r5⟩ := H
  refine ⟨by rw [setI_ne (by decide)]; exact r1, by rw [setI_ne (by decide)]; exact r2, by rw [setI_ne (by decide)]; exact r3, by rw [setI_ne (by decide)]; exact r4, fun e he => ?_⟩
  obtain ⟨s1, s2, s3, s4, s5, s6⟩ := r5 e he
  refine ⟨by rw [setI_ne (by decide)]; exact s1, by rw [setI_ne (by decide)]; exact s2, ?_, by rw [setI_ne (by decide)]; exact s4, by rw [setI_ne (by decide)]; exact s5, fun p hp => by rw [setI_ne (by decide)]; exact s6 p hp⟩
  rw [setI_1]
  show _ = nI (if 2 = 2 ∧ e = i then n else T.1 2 e)
  by_cases hei : e = i
  · rw [if_pos ⟨rfl, hei⟩, if_pos ⟨rfl, hei⟩]
  · rw [if_neg (fun q => hei q.2), if_neg (fun q => hei q.2)]; exact s3
theorem RTb_row {h : Hp} {T : Tb} {j n : Nat} (H : RTb h T) : RTb (setI h 140 j (nI n)) (setT T 5 j n) := by
  obtain ⟨r1, r2, r3, r4, r5⟩ := H
  refine ⟨by rw [setI_ne (by decide)]; exact r1, by rw [setI_ne (by decide)]; exact r2, by rw [setI_ne (by decide)]; exact r3, by rw [setI_ne (by decide)]; exact r4, fun e he => ?_⟩
  obtain ⟨s1, s2, s3, s4, s5, s6⟩ := r5 e he
  refine ⟨by rw [setI_ne (by decide)]; exact s1, by rw [setI_ne (by decide)]; exact s2, by rw [setI_ne (by decide)]; exact s3, by rw [setI_ne (by decide)]; exact s4, by rw [setI_ne (by decide)]; exact s5, fun p hp => ?_⟩
  rw [setI_1]
  show _ = nI (if 5 = 5 ∧ 4 * e + p = j then n else T.1 5 (4 * e + p))
  by_cases hei : 4 * e + p = j
  · rw [if_pos ⟨rfl, hei⟩, if_pos ⟨rfl, hei⟩]
  · rw [if_neg (fun q => hei q.2), if_neg (fun q => hei q.2)]; exact s6 p hp
theorem RTb_bin {h : Hp} {T : Tb} {n : Nat} (H : RTb h T) : RTb (setI h 134 1 (nI n)) (setT T 7 1 n) := by
  obtain ⟨r1, r2, r3, r4, r5⟩ := H
  exact ⟨by rw [setI_nj (by decide)]; exact r1, setI_at, by rw [setI_nj (by decide)]; exact r3, by rw [setI_nj (by decide)]; exact r4, fun e he => r5 e he⟩
theorem RIc.put {h : Hp} {b a i : Nat} {x : Int32} {V : Hv} {T T' : Tb} (C : RIc h b V T) (hR : RTb (setI h a i x) T') (hT : TbOK T') (hd : T'.1 7 2 ≤ 9999) (hs : scrF a i = true) (hn : ¬ (a = 134 ∧ (i = 28 ∨ i = 29 ∨ i = 35))) : RIc (setI h a i x) b V T' ∧ Fr scrF h (setI h a i x) := by
  refine C.end hR hT hd (Fr.set hs) ⟨?_, ?_, ?_⟩
  · rw [setI_1, if_neg (by omega)]; exact C.calm.1
  · rw [setI_1, if_neg (by omega)]; exact C.calm.2.1
  · rw [setI_1, if_neg (by omega)]; exact C.calm.2.2
set_option maxRecDepth 100000 in
theorem m_X7_hunger {G : WT} {l : Launch} (hG : GOK G) {h : Hp} {b : Nat} {V : Hv} {T : Tb} {i n : Int32} (C : RIc h b V T) : Cl G l 3 yX7_hunger cX7_hunger 4 (some .int) [.ref (gA G 134), .int i, .int n] h (fun r h' => r = some (.int (hungerS T i n).1) ∧ RIc h' b V (hungerS T i n).2 ∧ Fr scrF h h') := by
  refine Cl.of hG (by decide) (Nat.le_of_ble_eq_true rfl) ?_
  show Wp G l 3 RX7 cX7_hunger 4 (some .int) 0 [.ref (gA G 134), .int i, .int n, mk0] [] h _
  have hE := C.1.2.1.1
  cases hi : dec i (T.1 7 0) with
  | none =>
    refine r_aload_n dX7_hunger_0 rfl ?_
    refine r_iload_n dX7_hunger_1 rfl ?_
    refine r_callV dX7_hunger_2 l_X7_220 o_X7_isEater v_X7_isEater rfl (by decide) rfl rfl (m_X7_isEater hG) (by decide) rfl (Nat.le_of_ble_eq_true rfl) (fun r2 h2 hq2 => ?_)
    obtain ⟨rfl, e2⟩ := hq2
    rw [e2]
    clear e2 h2
    rw [C.1.1.1, isE_dec (by omega), hi]
    refine r_if_ne (tgt := 10) dX7_hunger_5 (by decide) (fun c_5 => ?_) (fun c_5 => ?_)
    · exact absurd rfl c_5
    · refine r_iconst (v := -1) dX7_hunger_8 (by decide) ?_
      refine r_ireturn dX7_hunger_9 ⟨_, rfl, rfl⟩ ?_
      rw [hungerS, hi]
      exact ⟨rfl, C, Fr.rf⟩
  | some i1 =>
    obtain ⟨hi1, rfl, -⟩ := dec_some.mp hi
    cases hn : dec n 10 with
    | none =>
      refine r_aload_n dX7_hunger_0 rfl ?_
      refine r_iload_n dX7_hunger_1 rfl ?_
      refine r_callV dX7_hunger_2 l_X7_220 o_X7_isEater v_X7_isEater rfl (by decide) rfl rfl (m_X7_isEater hG) (by decide) rfl (Nat.le_of_ble_eq_true rfl) (fun r2 h2 hq2 => ?_)
      obtain ⟨rfl, e2⟩ := hq2
      rw [e2]
      clear e2 h2
      rw [C.1.1.1, isE_dec (by omega), hi]
      refine r_if_ne (tgt := 10) dX7_hunger_5 (by decide) (fun c_5 => ?_) (fun c_5 => ?_)
      · refine r_aload_n dX7_hunger_10 rfl ?_
        refine r_iload_n dX7_hunger_11 rfl ?_
        refine r_iconst (v := 0) dX7_hunger_12 (by decide) ?_
        refine r_bipush (v := 9) dX7_hunger_13 (by decide) ?_
        refine r_callV dX7_hunger_15 l_X7_212 o_X7_in v_X7_in rfl (by decide) rfl rfl (m_X7_in hG) (by decide) rfl (Nat.le_of_ble_eq_true rfl) (fun r15 h15 hq15 => ?_)
        obtain ⟨rfl, e15⟩ := hq15
        rw [e15]
        clear e15 h15
        rw [show inP n 0 9 = (dec n 10).isSome from inP_dec0 (c := 9) (by omega) rfl, hn]
        refine r_if_ne (tgt := 24) dX7_hunger_18 (by decide) (fun c_18 => ?_) (fun c_18 => ?_)
        · exact absurd rfl c_18
        · refine r_bipush (v := -2) dX7_hunger_21 (by decide) ?_
          refine r_ireturn dX7_hunger_23 ⟨_, rfl, rfl⟩ ?_
          rw [hungerS, hi, hn]
          exact ⟨rfl, C, Fr.rf⟩
      · exact absurd c_5 (b01_n0.mpr rfl)
    | some n1 =>
      obtain ⟨hn1, rfl, -⟩ := dec_some.mp hn
      obtain ⟨t1, t2, t3, t4, t5, t6, t7, t8, t9⟩ := C.1.2.1
      refine r_aload_n dX7_hunger_0 rfl ?_
      refine r_iload_n dX7_hunger_1 rfl ?_
      refine r_callV dX7_hunger_2 l_X7_220 o_X7_isEater v_X7_isEater rfl (by decide) rfl rfl (m_X7_isEater hG) (by decide) rfl (Nat.le_of_ble_eq_true rfl) (fun r2 h2 hq2 => ?_)
      obtain ⟨rfl, e2⟩ := hq2
      rw [e2]
      clear e2 h2
      rw [C.1.1.1, isE_dec (by omega), hi]
      refine r_if_ne (tgt := 10) dX7_hunger_5 (by decide) (fun c_5 => ?_) (fun c_5 => ?_)
      · refine r_aload_n dX7_hunger_10 rfl ?_
        refine r_iload_n dX7_hunger_11 rfl ?_
        refine r_iconst (v := 0) dX7_hunger_12 (by decide) ?_
        refine r_bipush (v := 9) dX7_hunger_13 (by decide) ?_
        refine r_callV dX7_hunger_15 l_X7_212 o_X7_in v_X7_in rfl (by decide) rfl rfl (m_X7_in hG) (by decide) rfl (Nat.le_of_ble_eq_true rfl) (fun r15 h15 hq15 => ?_)
        obtain ⟨rfl, e15⟩ := hq15
        rw [e15]
        clear e15 h15
        rw [show inP (nI n1) 0 9 = (dec (nI n1) 10).isSome from inP_dec0 (c := 9) (by omega) rfl, hn]
        refine r_if_ne (tgt := 24) dX7_hunger_18 (by decide) (fun c_18 => ?_) (fun c_18 => ?_)
        · refine r_aload_n dX7_hunger_24 rfl ?_
          refine r_getR (j := 137) dX7_hunger_25 k_X7_29 rfl (by decide) rfl rfl ?_
          refine r_iload_n dX7_hunger_28 rfl ?_
          refine r_iald (i1) dX7_hunger_29 rfl rfl (show i1 < 6 by omega) ?_
          rw [(C.1.1.2.2.2.2 i1 hi1).2.2.1]
          refine r_istore_n dX7_hunger_30 (by decide) rfl rfl ?_
          dsimp only [List.set]
          refine r_aload_n dX7_hunger_31 rfl ?_
          refine r_getR (j := 137) dX7_hunger_32 k_X7_29 rfl (by decide) rfl rfl ?_
          refine r_iload_n dX7_hunger_35 rfl ?_
          refine r_iload_n dX7_hunger_36 rfl ?_
          refine r_iast (i1) dX7_hunger_37 rfl rfl (show i1 < 6 by omega) ?_
          refine r_iload_n dX7_hunger_38 rfl ?_
          refine r_ireturn dX7_hunger_39 ⟨_, rfl, rfl⟩ ?_
          rw [hungerS, hi, hn]
          refine ⟨rfl, C.put (RTb_hunger C.1.1) ⟨t1, t2, t3, t4, t5, t6, fun e => ?_, t8, t9⟩ C.2.2 rfl (by omega)⟩
          have := t7 e
          show T.1 0 e ≤ 6 ∧ T.1 1 e ≤ 9 ∧ (if 2 = 2 ∧ e = i1 then n1 else T.1 2 e) ≤ 9 ∧ T.1 3 e ≤ 9
          split <;> omega
        · exact absurd c_18 (b01_n0.mpr rfl)
      · exact absurd c_5 (b01_n0.mpr rfl)
set_option maxRecDepth 100000 in
theorem m_X7_row {G : WT} {l : Launch} (hG : GOK G) {h : Hp} {b : Nat} {V : Hv} {T : Tb} {i q n : Int32} (C : RIc h b V T) : Cl G l 3 yX7_row cX7_row 5 (some .int) [.ref (gA G 134), .int i, .int q, .int n] h (fun r h' => r = some (.int (rowS T i q n).1) ∧ RIc h' b V (rowS T i q n).2 ∧ Fr scrF h h') := by
  refine Cl.of hG (by decide) (Nat.le_of_ble_eq_true rfl) ?_
  show Wp G l 3 RX7 cX7_row 5 (some .int) 0 [.ref (gA G 134), .int i, .int q, .int n, mk0] [] h _
  have hE := C.1.2.1.1
  cases hi : dec i (T.1 7 0) with
  | none =>
    refine r_aload_n dX7_row_0 rfl ?_
    refine r_iload_n dX7_row_1 rfl ?_
    refine r_callV dX7_row_2 l_X7_220 o_X7_isEater v_X7_isEater rfl (by decide) rfl rfl (m_X7_isEater hG) (by decide) rfl (Nat.le_of_ble_eq_true rfl) (fun r2 h2 hq2 => ?_)
    obtain ⟨rfl, e2⟩ := hq2
    rw [e2]
    clear e2 h2
    rw [C.1.1.1, isE_dec (by omega), hi]
    refine r_if_eq (tgt := 18) dX7_row_5 (by decide) (fun c_5 => ?_) (fun c_5 => ?_)
    · refine r_iconst (v := -1) dX7_row_18 (by decide) ?_
      refine r_ireturn dX7_row_19 ⟨_, rfl, rfl⟩ ?_
      rw [rowS, hi]
      exact ⟨rfl, C, Fr.rf⟩
    · exact absurd rfl c_5
  | some i1 =>
    obtain ⟨hi1, rfl, -⟩ := dec_some.mp hi
    cases hq : dec q 4 with
    | none =>
      refine r_aload_n dX7_row_0 rfl ?_
      refine r_iload_n dX7_row_1 rfl ?_
      refine r_callV dX7_row_2 l_X7_220 o_X7_isEater v_X7_isEater rfl (by decide) rfl rfl (m_X7_isEater hG) (by decide) rfl (Nat.le_of_ble_eq_true rfl) (fun r2 h2 hq2 => ?_)
      obtain ⟨rfl, e2⟩ := hq2
      rw [e2]
      clear e2 h2
      rw [C.1.1.1, isE_dec (by omega), hi]
      refine r_if_eq (tgt := 18) dX7_row_5 (by decide) (fun c_5 => ?_) (fun c_5 => ?_)
      · exact absurd c_5 (b01_n0.mpr rfl)
      · refine r_aload_n dX7_row_8 rfl ?_
        refine r_iload_n dX7_row_9 rfl ?_
        refine r_iconst (v := 0) dX7_row_10 (by decide) ?_
        refine r_iconst (v := 3) dX7_row_11 (by decide) ?_
        refine r_callV dX7_row_12 l_X7_212 o_X7_in v_X7_in rfl (by decide) rfl rfl (m_X7_in hG) (by decide) rfl (Nat.le_of_ble_eq_true rfl) (fun r12 h12 hq12 => ?_)
        obtain ⟨rfl, e12⟩ := hq12
        rw [e12]
        clear e12 h12
        rw [show inP q 0 3 = (dec q 4).isSome from inP_dec0 (c := 3) (by omega) rfl, hq]
        refine r_if_ne (tgt := 20) dX7_row_15 (by decide) (fun c_15 => ?_) (fun c_15 => ?_)
        · exact absurd rfl c_15
        · refine r_iconst (v := -1) dX7_row_18 (by decide) ?_
          refine r_ireturn dX7_row_19 ⟨_, rfl, rfl⟩ ?_
          rw [rowS, hi, hq]
          exact ⟨rfl, C, Fr.rf⟩
    | some q1 =>
      obtain ⟨hq1, rfl, -⟩ := dec_some.mp hq
      cases hn : dec n 10 with
      | none =>
        refine r_aload_n dX7_row_0 rfl ?_
        refine r_iload_n dX7_row_1 rfl ?_
        refine r_callV dX7_row_2 l_X7_220 o_X7_isEater v_X7_isEater rfl (by decide) rfl rfl (m_X7_isEater hG) (by decide) rfl (Nat.le_of_ble_eq_true rfl) (fun r2 h2 hq2 => ?_)
        obtain ⟨rfl, e2⟩ := hq2
        rw [e2]
        clear e2 h2
        rw [C.1.1.1, isE_dec (by omega), hi]
        refine r_if_eq (tgt := 18) dX7_row_5 (by decide) (fun c_5 => ?_) (fun c_5 => ?_)
        · exact absurd c_5 (b01_n0.mpr rfl)
        · refine r_aload_n dX7_row_8 rfl ?_
          refine r_iload_n dX7_row_9 rfl ?_
          refine r_iconst (v := 0) dX7_row_10 (by decide) ?_
          refine r_iconst (v := 3) dX7_row_11 (by decide) ?_
          refine r_callV dX7_row_12 l_X7_212 o_X7_in v_X7_in rfl (by decide) rfl rfl (m_X7_in hG) (by decide) rfl (Nat.le_of_ble_eq_true rfl) (fun r12 h12 hq12 => ?_)
          obtain ⟨rfl, e12⟩ := hq12
          rw [e12]
          clear e12 h12
          rw [show inP (nI q1) 0 3 = (dec (nI q1) 4).isSome from inP_dec0 (c := 3) (by omega) rfl, hq]
          refine r_if_ne (tgt := 20) dX7_row_15 (by decide) (fun c_15 => ?_) (fun c_15 => ?_)
          · refine r_aload_n dX7_row_20 rfl ?_
            refine r_iload_n dX7_row_21 rfl ?_
            refine r_iconst (v := 0) dX7_row_22 (by decide) ?_
            refine r_bipush (v := 9) dX7_row_23 (by decide) ?_
            refine r_callV dX7_row_25 l_X7_212 o_X7_in v_X7_in rfl (by decide) rfl rfl (m_X7_in hG) (by decide) rfl (Nat.le_of_ble_eq_true rfl) (fun r25 h25 hq25 => ?_)
            obtain ⟨rfl, e25⟩ := hq25
            rw [e25]
            clear e25 h25
            rw [show inP n 0 9 = (dec n 10).isSome from inP_dec0 (c := 9) (by omega) rfl, hn]
            refine r_if_ne (tgt := 34) dX7_row_28 (by decide) (fun c_28 => ?_) (fun c_28 => ?_)
            · exact absurd rfl c_28
            · refine r_bipush (v := -2) dX7_row_31 (by decide) ?_
              refine r_ireturn dX7_row_33 ⟨_, rfl, rfl⟩ ?_
              rw [rowS, hi, hq, hn]
              exact ⟨rfl, C, Fr.rf⟩
          · exact absurd c_15 (b01_n0.mpr rfl)
      | some n1 =>
        obtain ⟨hn1, rfl, -⟩ := dec_some.mp hn
        obtain ⟨t1, t2, t3, t4, t5, t6, t7, t8, t9⟩ := C.1.2.1
        have k6 := (t7 i1).1
        have eix : 4 * nI i1 + nI q1 = nI (4 * i1 + q1) := by rw [show (4 : Int32) = nI 4 from rfl, pk_mul, nI_add]
        have es : rowS T (nI i1) (nI q1) (nI n1) = if T.1 0 i1 = 6 then (nI (T.1 5 (4 * i1 + q1)), setT T 5 (4 * i1 + q1) n1) else (-3, T) := by rw [rowS, hi, hq, hn]
        refine r_aload_n dX7_row_0 rfl ?_
        refine r_iload_n dX7_row_1 rfl ?_
        refine r_callV dX7_row_2 l_X7_220 o_X7_isEater v_X7_isEater rfl (by decide) rfl rfl (m_X7_isEater hG) (by decide) rfl (Nat.le_of_ble_eq_true rfl) (fun r2 h2 hq2 => ?_)
        obtain ⟨rfl, e2⟩ := hq2
        rw [e2]
        clear e2 h2
        rw [C.1.1.1, isE_dec (by omega), hi]
        refine r_if_eq (tgt := 18) dX7_row_5 (by decide) (fun c_5 => ?_) (fun c_5 => ?_)
        · exact absurd c_5 (b01_n0.mpr rfl)
        · refine r_aload_n dX7_row_8 rfl ?_
          refine r_iload_n dX7_row_9 rfl ?_
          refine r_iconst (v := 0) dX7_row_10 (by decide) ?_
          refine r_iconst (v := 3) dX7_row_11 (by decide) ?_
          refine r_callV dX7_row_12 l_X7_212 o_X7_in v_X7_in rfl (by decide) rfl rfl (m_X7_in hG) (by decide) rfl (Nat.le_of_ble_eq_true rfl) (fun r12 h12 hq12 => ?_)
          obtain ⟨rfl, e12⟩ := hq12
          rw [e12]
          clear e12 h12
          rw [show inP (nI q1) 0 3 = (dec (nI q1) 4).isSome from inP_dec0 (c := 3) (by omega) rfl, hq]
          refine r_if_ne (tgt := 20) dX7_row_15 (by decide) (fun c_15 => ?_) (fun c_15 => ?_)
          · refine r_aload_n dX7_row_20 rfl ?_
            refine r_iload_n dX7_row_21 rfl ?_
            refine r_iconst (v := 0) dX7_row_22 (by decide) ?_
            refine r_bipush (v := 9) dX7_row_23 (by decide) ?_
            refine r_callV dX7_row_25 l_X7_212 o_X7_in v_X7_in rfl (by decide) rfl rfl (m_X7_in hG) (by decide) rfl (Nat.le_of_ble_eq_true rfl) (fun r25 h25 hq25 => ?_)
            obtain ⟨rfl, e25⟩ := hq25
            rw [e25]
            clear e25 h25
            rw [show inP (nI n1) 0 9 = (dec (nI n1) 10).isSome from inP_dec0 (c := 9) (by omega) rfl, hn]
            refine r_if_ne (tgt := 34) dX7_row_28 (by decide) (fun c_28 => ?_) (fun c_28 => ?_)
            · refine r_aload_n dX7_row_34 rfl ?_
              refine r_getR (j := 135) dX7_row_35 k_X7_22 rfl (by decide) rfl rfl ?_
              refine r_iload_n dX7_row_38 rfl ?_
              refine r_iald (i1) dX7_row_39 rfl rfl (show i1 < 6 by omega) ?_
              rw [(C.1.1.2.2.2.2 i1 hi1).1]
              refine r_bipush (v := 6) dX7_row_40 (by decide) ?_
              refine r_icmp_eq (tgt := 48) dX7_row_42 (by decide) (fun c_42 => ?_) (fun c_42 => ?_)
              · have y : T.1 0 i1 = 6 := (nI_eq' (b := 6) (by omega) (by omega)).mp c_42
                refine r_aload_n dX7_row_48 rfl ?_
                refine r_getR (j := 140) dX7_row_49 k_X7_38 rfl (by decide) rfl rfl ?_
                refine r_iconst (v := 4) dX7_row_52 (by decide) ?_
                refine r_iload_n dX7_row_53 rfl ?_
                refine r_imul dX7_row_54 ?_
                refine r_iload_n dX7_row_55 rfl ?_
                refine r_iadd dX7_row_56 ?_
                refine r_iald (4 * i1 + q1) dX7_row_57 rfl eix (show 4 * i1 + q1 < 24 by omega) ?_
                rw [(C.1.1.2.2.2.2 i1 hi1).2.2.2.2.2 q1 hq1]
                refine r_istore dX7_row_58 (by decide) rfl rfl ?_
                dsimp only [List.set]
                refine r_aload_n dX7_row_60 rfl ?_
                refine r_getR (j := 140) dX7_row_61 k_X7_38 rfl (by decide) rfl rfl ?_
                refine r_iconst (v := 4) dX7_row_64 (by decide) ?_
                refine r_iload_n dX7_row_65 rfl ?_
                refine r_imul dX7_row_66 ?_
                refine r_iload_n dX7_row_67 rfl ?_
                refine r_iadd dX7_row_68 ?_
                refine r_iload_n dX7_row_69 rfl ?_
                refine r_iast (4 * i1 + q1) dX7_row_70 rfl eix (show 4 * i1 + q1 < 24 by omega) ?_
                refine r_iload dX7_row_71 rfl ?_
                refine r_ireturn dX7_row_73 ⟨_, rfl, rfl⟩ ?_
                rw [es, if_pos y]
                refine ⟨rfl, C.put (RTb_row C.1.1) ⟨t1, t2, t3, t4, t5, t6, t7, fun k => ?_, t9⟩ C.2.2 rfl (by omega)⟩
                have := t8 k
                show (if 5 = 5 ∧ k = 4 * i1 + q1 then n1 else T.1 5 k) ≤ 9
                split <;> omega
              · have y : ¬ T.1 0 i1 = 6 := fun q => c_42 (by rw [q]; rfl)
                refine r_bipush (v := -3) dX7_row_45 (by decide) ?_
                refine r_ireturn dX7_row_47 ⟨_, rfl, rfl⟩ ?_
                rw [es, if_neg y]
                exact ⟨rfl, C, Fr.rf⟩
            · exact absurd c_28 (b01_n0.mpr rfl)
          · exact absurd c_15 (b01_n0.mpr rfl)
set_option maxRecDepth 100000 in
theorem m_X7_bin {G : WT} {l : Launch} (hG : GOK G) {h : Hp} {b : Nat} {V : Hv} {T : Tb} {n : Int32} (C : RIc h b V T) : Cl G l 2 yX7_bin cX7_bin 3 (some .int) [.ref (gA G 134), .int n] h (fun r h' => r = some (.int (binS T n).1) ∧ RIc h' b V (binS T n).2 ∧ Fr scrF h h') := by
  refine Cl.of hG (by decide) (Nat.le_of_ble_eq_true rfl) ?_
  show Wp G l 2 RX7 cX7_bin 3 (some .int) 0 [.ref (gA G 134), .int n, mk0] [] h _
  cases hn : dec n 100 with
  | none =>
    refine r_aload_n dX7_bin_0 rfl ?_
    refine r_iload_n dX7_bin_1 rfl ?_
    refine r_iconst (v := 0) dX7_bin_2 (by decide) ?_
    refine r_bipush (v := 99) dX7_bin_3 (by decide) ?_
    refine r_callV dX7_bin_5 l_X7_212 o_X7_in v_X7_in rfl (by decide) rfl rfl (m_X7_in hG) (by decide) rfl (Nat.le_of_ble_eq_true rfl) (fun r5 h5 hq5 => ?_)
    obtain ⟨rfl, e5⟩ := hq5
    rw [e5]
    clear e5 h5
    rw [show inP n 0 99 = (dec n 100).isSome from inP_dec0 (c := 99) (by omega) rfl, hn]
    refine r_if_ne (tgt := 14) dX7_bin_8 (by decide) (fun c_8 => ?_) (fun c_8 => ?_)
    · exact absurd rfl c_8
    · refine r_bipush (v := -2) dX7_bin_11 (by decide) ?_
      refine r_ireturn dX7_bin_13 ⟨_, rfl, rfl⟩ ?_
      rw [binS, hn]
      exact ⟨rfl, C, Fr.rf⟩
  | some n1 =>
    obtain ⟨hn1, rfl, -⟩ := dec_some.mp hn
    obtain ⟨t1, t2, t3, t4, t5, t6, t7, t8, t9⟩ := C.1.2.1
    refine r_aload_n dX7_bin_0 rfl ?_
    refine r_iload_n dX7_bin_1 rfl ?_
    refine r_iconst (v := 0) dX7_bin_2 (by decide) ?_
    refine r_bipush (v := 99) dX7_bin_3 (by decide) ?_
    refine r_callV dX7_bin_5 l_X7_212 o_X7_in v_X7_in rfl (by decide) rfl rfl (m_X7_in hG) (by decide) rfl (Nat.le_of_ble_eq_true rfl) (fun r5 h5 hq5 => ?_)
    obtain ⟨rfl, e5⟩ := hq5
    rw [e5]
    clear e5 h5
    rw [show inP (nI n1) 0 99 = (dec (nI n1) 100).isSome from inP_dec0 (c := 99) (by omega) rfl, hn]
    refine r_if_ne (tgt := 14) dX7_bin_8 (by decide) (fun c_8 => ?_) (fun c_8 => ?_)
    · refine r_aload_n dX7_bin_14 rfl ?_
      refine r_getI dX7_bin_15 k_X7_13 rfl (by decide) rfl ?_
      rw [C.1.1.2.1]
      refine r_istore_n dX7_bin_18 (by decide) rfl rfl ?_
      dsimp only [List.set]
      refine r_aload_n dX7_bin_19 rfl ?_
      refine r_iload_n dX7_bin_20 rfl ?_
      refine r_putI dX7_bin_21 k_X7_13 rfl (by decide) rfl rfl rfl rfl ?_
      refine r_iload_n dX7_bin_24 rfl ?_
      refine r_ireturn dX7_bin_25 ⟨_, rfl, rfl⟩ ?_
      rw [binS, hn]
      exact ⟨rfl, C.put (RTb_bin C.1.1) ⟨t1, by show n1 ≤ 99; omega, t3, t4, t5, t6, t7, t8, t9⟩ C.2.2 rfl (by omega)⟩
    · exact absurd c_8 (b01_n0.mpr rfl)
def RBk (h : Hp) (T : Tb) : Prop := h.1 134 44 = nI (T.1 7 4) ∧ ∀ k, k < T.1 7 4 → h.1 159 k = nI (T.1 6 k)
def bkF (a i : Nat) : Bool := a == 159 || (a == 134 && i == 44)
set_option maxRecDepth 100000 in
theorem m_X7_book {G : WT} {l : Launch} (hG : GOK G) {h : Hp} {T : Tb} {n : Int32} (H : RBk h T) (hT : TbOK T) : Cl G l 2 yX7_book cX7_book 2 (some .int) [.ref (gA G 134), .int n] h (fun r h' => r = some (.int (bookS T n).1) ∧ RBk h' (bookS T n).2 ∧ TbOK (bookS T n).2 ∧ Fr bkF h h') := by
  refine Cl.of hG (by decide) (Nat.le_of_ble_eq_true rfl) ?_
  show Wp G l 2 RX7 cX7_book 2 (some .int) 0 [.ref (gA G 134), .int n] [] h _
  obtain ⟨t1, t2, t3, t4, t5, t6, t7, t8, t9⟩ := hT
  by_cases hm : n = -1
  · have es : bookS T n = (0, setT T 7 4 0) := by rw [bookS, if_pos hm]
    refine r_iload_n dX7_book_0 rfl ?_
    refine r_iconst (v := -1) dX7_book_1 (by decide) ?_
    refine r_icmp_ne (tgt := 12) dX7_book_2 (by decide) (fun c_2 => ?_) (fun c_2 => ?_)
    · exact absurd hm c_2
    · refine r_aload_n dX7_book_5 rfl ?_
      refine r_iconst (v := 0) dX7_book_6 (by decide) ?_
      refine r_putI dX7_book_7 k_X7_145 rfl (by decide) rfl rfl rfl rfl ?_
      refine r_iconst (v := 0) dX7_book_10 (by decide) ?_
      refine r_ireturn dX7_book_11 ⟨_, rfl, rfl⟩ ?_
      rw [es]
      exact ⟨rfl, ⟨setI_at, fun k hk => absurd hk (Nat.not_lt_zero k)⟩, ⟨t1, t2, t3, t4, Nat.zero_le _, t6, t7, t8, t9⟩, Fr.set rfl⟩
  · cases hn : dec n 100 with
    | none =>
      have es : bookS T n = (-2, T) := by rw [bookS, if_neg hm, hn]
      refine r_iload_n dX7_book_0 rfl ?_
      refine r_iconst (v := -1) dX7_book_1 (by decide) ?_
      refine r_icmp_ne (tgt := 12) dX7_book_2 (by decide) (fun c_2 => ?_) (fun c_2 => ?_)
      · refine r_aload_n dX7_book_12 rfl ?_
        refine r_iload_n dX7_book_13 rfl ?_
        refine r_iconst (v := 0) dX7_book_14 (by decide) ?_
        refine r_bipush (v := 99) dX7_book_15 (by decide) ?_
        refine r_callV dX7_book_17 l_X7_212 o_X7_in v_X7_in rfl (by decide) rfl rfl (m_X7_in hG) (by decide) rfl (Nat.le_of_ble_eq_true rfl) (fun r17 h17 hq17 => ?_)
        obtain ⟨rfl, e17⟩ := hq17
        rw [e17]
        clear e17 h17
        rw [show inP n 0 99 = (dec n 100).isSome from inP_dec0 (c := 99) (by omega) rfl, hn]
        refine r_if_ne (tgt := 26) dX7_book_20 (by decide) (fun c_20 => ?_) (fun c_20 => ?_)
        · exact absurd rfl c_20
        · refine r_bipush (v := -2) dX7_book_23 (by decide) ?_
          refine r_ireturn dX7_book_25 ⟨_, rfl, rfl⟩ ?_
          rw [es]
          exact ⟨rfl, H, ⟨t1, t2, t3, t4, t5, t6, t7, t8, t9⟩, Fr.rf⟩
      · exact absurd c_2 hm
    | some n1 =>
      obtain ⟨hn1, rfl, -⟩ := dec_some.mp hn
      have es : bookS T (nI n1) = if T.1 7 4 = 12 then (-4, T) else (nI (T.1 7 4 + 1), setT (setT T 6 (T.1 7 4) n1) 7 4 (T.1 7 4 + 1)) := by rw [bookS, if_neg hm, hn]
      refine r_iload_n dX7_book_0 rfl ?_
      refine r_iconst (v := -1) dX7_book_1 (by decide) ?_
      refine r_icmp_ne (tgt := 12) dX7_book_2 (by decide) (fun c_2 => ?_) (fun c_2 => ?_)
      · refine r_aload_n dX7_book_12 rfl ?_
        refine r_iload_n dX7_book_13 rfl ?_
        refine r_iconst (v := 0) dX7_book_14 (by decide) ?_
        refine r_bipush (v := 99) dX7_book_15 (by decide) ?_
        refine r_callV dX7_book_17 l_X7_212 o_X7_in v_X7_in rfl (by decide) rfl rfl (m_X7_in hG) (by decide) rfl (Nat.le_of_ble_eq_true rfl) (fun r17 h17 hq17 => ?_)
        obtain ⟨rfl, e17⟩ := hq17
        rw [e17]
        clear e17 h17
        rw [show inP (nI n1) 0 99 = (dec (nI n1) 100).isSome from inP_dec0 (c := 99) (by omega) rfl, hn]
        refine r_if_ne (tgt := 26) dX7_book_20 (by decide) (fun c_20 => ?_) (fun c_20 => ?_)
        · refine r_aload_n dX7_book_26 rfl ?_
          refine r_getI dX7_book_27 k_X7_145 rfl (by decide) rfl ?_
          refine r_bipush (v := 12) dX7_book_30 (by decide) ?_
          rw [H.1]
          refine r_icmp_ne (tgt := 38) dX7_book_32 (by decide) (fun c_32 => ?_) (fun c_32 => ?_)
          · have y : ¬ T.1 7 4 = 12 := fun q => c_32 (by rw [q]; rfl)
            refine r_aload_n dX7_book_38 rfl ?_
            refine r_getR (j := 159) dX7_book_39 k_X7_148 rfl (by decide) rfl rfl ?_
            refine r_aload_n dX7_book_42 rfl ?_
            refine r_getI dX7_book_43 k_X7_145 rfl (by decide) rfl ?_
            refine r_iload_n dX7_book_46 rfl ?_
            refine r_iast (T.1 7 4) dX7_book_47 rfl H.1 (show T.1 7 4 < 12 by omega) ?_
            refine r_aload_n dX7_book_48 rfl ?_
            refine r_dup dX7_book_49 rfl ?_
            refine r_getI dX7_book_50 k_X7_145 rfl (by decide) rfl ?_
            refine r_iconst (v := 1) dX7_book_53 (by decide) ?_
            refine r_iadd dX7_book_54 ?_
            rw [setI_ne (by decide), H.1, nI_1]
            refine r_putI dX7_book_55 k_X7_145 rfl (by decide) rfl rfl rfl rfl ?_
            refine r_aload_n dX7_book_58 rfl ?_
            refine r_getI dX7_book_59 k_X7_145 rfl (by decide) rfl ?_
            rw [setI_at]
            refine r_ireturn dX7_book_62 ⟨_, rfl, rfl⟩ ?_
            rw [es, if_neg y]
            refine ⟨rfl, ⟨setI_at, fun k hk => ?_⟩, ⟨t1, t2, t3, t4, by show T.1 7 4 + 1 ≤ 12; omega, t6, t7, t8, fun k => ?_⟩, (Fr.set rfl).tr (Fr.set rfl)⟩
            · have hk1 : k < T.1 7 4 + 1 := hk
              show _ = nI (if 6 = 6 ∧ k = T.1 7 4 then n1 else T.1 6 k)
              rw [setI_ne (by decide), setI_1]
              by_cases hkk : k = T.1 7 4
              · rw [if_pos ⟨rfl, hkk⟩, if_pos ⟨rfl, hkk⟩]
              · rw [if_neg (fun q => hkk q.2), if_neg (fun q => hkk q.2)]; exact H.2 k (by omega)
            · have := t9 k
              show (if 6 = 6 ∧ k = T.1 7 4 then n1 else T.1 6 k) ≤ 99
              split <;> omega
          · have y : T.1 7 4 = 12 := (nI_eq' (b := 12) (by omega) (by omega)).mp c_32
            refine r_bipush (v := -4) dX7_book_35 (by decide) ?_
            refine r_ireturn dX7_book_37 ⟨_, rfl, rfl⟩ ?_
            rw [es, if_pos y]
            exact ⟨rfl, H, ⟨t1, t2, t3, t4, t5, t6, t7, t8, t9⟩, Fr.rf⟩
        · exact absurd c_20 (b01_n0.mpr rfl)
      · exact absurd c_2 hm
set_option maxRecDepth 100000 in
theorem m_X7_told {G : WT} {l : Launch} (hG : GOK G) {h : Hp} {b : Nat} {V : Hv} {T : Tb} {w : Int32} (C : RIc h b V T) : Cl G l 4 yX7_told cX7_told 2 (some .int) [.ref (gA G 134), .int w] h (fun r h' => r = some (.int (toldA V T w)) ∧ h' = h) := by
  refine Cl.of hG (by decide) (Nat.le_of_ble_eq_true rfl) ?_
  show Wp G l 4 RX7 cX7_told 2 (some .int) 0 [.ref (gA G 134), .int w] [] h _
  have hd := C.2.2
  have e0 : (0 : Int32).toInt = 0 := rfl
  have hb := C.1.1.2.2.2.1
  have hbb := C.1.2.1.2.2.2.1
  have hE := C.1.2.1.1
  by_cases q0 : w = 0
  · subst q0
    refine r_iload_n dX7_told_0 rfl ?_
    · refine r_tsw 40 dX7_told_1 rfl (by decide) rfl ?_
      refine r_aload_n dX7_told_40 rfl ?_
      refine r_iconst (v := 2) dX7_told_41 (by decide) ?_
      refine r_bipush (v := 8) dX7_told_42 (by decide) ?_
      refine r_callV dX7_told_44 l_X7_293 o_X7_lastOf v_X7_lastOf rfl (by decide) rfl rfl (m_X7_lastOf hG (w := 2) (d0 := 8) (by decide) C.1.2.2.1) (by decide) rfl (Nat.le_of_ble_eq_true rfl) (fun r44 h44 hq44 => ?_)
      obtain ⟨rfl, e44⟩ := hq44
      rw [e44]
      clear e44 h44
      refine r_ireturn dX7_told_47 ⟨_, rfl, rfl⟩ ?_
      exact ⟨by rw [toldA, if_pos rfl]; rfl, rfl⟩
  · by_cases q1 : w = 1
    · subst q1
      refine r_iload_n dX7_told_0 rfl ?_
      · refine r_tsw 48 dX7_told_1 rfl (by decide) rfl ?_
        refine r_aload_n dX7_told_48 rfl ?_
        refine r_callV dX7_told_49 l_X7_300 o_X7_lawNow v_X7_lawNow rfl (by decide) rfl rfl (m_X7_lawNow hG C.1.2.2.1 C.1.2.2.2.1) (by decide) rfl (Nat.le_of_ble_eq_true rfl) (fun r49 h49 hq49 => ?_)
        obtain ⟨rfl, e49⟩ := hq49
        rw [e49]
        clear e49 h49
        refine r_ireturn dX7_told_52 ⟨_, rfl, rfl⟩ ?_
        exact ⟨by rw [toldA, if_neg q0, if_pos rfl]; rfl, rfl⟩
    · by_cases q2 : w = 2
      · subst q2
        refine r_iload_n dX7_told_0 rfl ?_
        · refine r_tsw 53 dX7_told_1 rfl (by decide) rfl ?_
          refine r_aload_n dX7_told_53 rfl ?_
          refine r_callV dX7_told_54 l_X7_297 o_X7_scaleNow v_X7_scaleNow rfl (by decide) rfl rfl (m_X7_scaleNow hG C.1.2.2.1) (by decide) rfl (Nat.le_of_ble_eq_true rfl) (fun r54 h54 hq54 => ?_)
          obtain ⟨rfl, e54⟩ := hq54
          rw [e54]
          clear e54 h54
          refine r_ireturn dX7_told_57 ⟨_, rfl, rfl⟩ ?_
          exact ⟨by rw [toldA, if_neg q0, if_neg q1, if_pos rfl], rfl⟩
      · by_cases q3 : w = 3
        · subst q3
          refine r_iload_n dX7_told_0 rfl ?_
          · refine r_tsw 58 dX7_told_1 rfl (by decide) rfl ?_
            refine r_aload_n dX7_told_58 rfl ?_
            refine r_getI dX7_told_59 k_X7_13 rfl (by decide) rfl ?_
            refine r_ireturn dX7_told_62 ⟨_, rfl, rfl⟩ ?_
            exact ⟨by rw [toldA, if_neg q0, if_neg q1, if_neg q2, if_pos rfl, C.1.1.2.1], rfl⟩
        · by_cases q4 : w = 4
          · subst q4
            refine r_iload_n dX7_told_0 rfl ?_
            · refine r_tsw 63 dX7_told_1 rfl (by decide) rfl ?_
              refine r_aload_n dX7_told_63 rfl ?_
              refine r_getI dX7_told_64 k_X7_16 rfl (by decide) rfl ?_
              refine r_ireturn dX7_told_67 ⟨_, rfl, rfl⟩ ?_
              exact ⟨by rw [toldA, if_neg q0, if_neg q1, if_neg q2, if_neg q3, if_pos rfl, C.1.1.2.2.1], rfl⟩
          · by_cases q5 : w = 5
            · subst q5
              have et : toldA V T 5 = bkA (T.1 7 3) := by rw [toldA, if_neg q0, if_neg q1, if_neg q2, if_neg q3, if_neg q4, if_pos rfl]
              refine r_iload_n dX7_told_0 rfl ?_
              · refine r_tsw 68 dX7_told_1 rfl (by decide) rfl ?_
                refine r_aload_n dX7_told_68 rfl ?_
                refine r_getI dX7_told_69 k_X7_19 rfl (by decide) rfl ?_
                rw [hb]
                refine r_if_ge (tgt := 80) dX7_told_72 (by decide) (fun c_72 => ?_) (fun c_72 => ?_)
                · have y : ¬ T.1 7 3 = 0 := fun q => by rw [q] at c_72; exact absurd c_72 (by decide)
                  refine r_aload_n dX7_told_80 rfl ?_
                  refine r_getI dX7_told_81 k_X7_19 rfl (by decide) rfl ?_
                  refine r_ireturn dX7_told_84 ⟨_, rfl, rfl⟩ ?_
                  obtain ⟨m, hm⟩ : ∃ m, T.1 7 3 = m + 1 := ⟨T.1 7 3 - 1, by omega⟩
                  exact ⟨by rw [et, hb, bkA, if_neg y, hm, nI_pred]; rfl, rfl⟩
                · have y : T.1 7 3 = 0 := Classical.byContradiction fun q => by
                    obtain ⟨m, hm⟩ : ∃ m, T.1 7 3 = m + 1 := ⟨T.1 7 3 - 1, by omega⟩
                    rw [hm, nI_pred] at c_72
                    exact c_72 (nI_pos' (by omega))
                  refine r_bipush (v := -5) dX7_told_75 (by decide) ?_
                  refine r_goto (tgt := 84) dX7_told_77 (by decide) ?_
                  refine r_ireturn dX7_told_84 ⟨_, rfl, rfl⟩ ?_
                  exact ⟨by rw [et, bkA, if_pos y], rfl⟩
            · have z0 := lv_neT q0 (a := 0) rfl
              have z1 := lv_neT q1 (a := 1) rfl
              have z2 := lv_neT q2 (a := 2) rfl
              have z3 := lv_neT q3 (a := 3) rfl
              have z4 := lv_neT q4 (a := 4) rfl
              have z5 := lv_neT q5 (a := 5) rfl
              refine r_iload_n dX7_told_0 rfl ?_
              · refine r_tsw 85 dX7_told_1 rfl (by decide) (by rw [tswT, if_pos (by omega)]; rfl) ?_
                refine r_iconst (v := -1) dX7_told_85 (by decide) ?_
                refine r_ireturn dX7_told_86 ⟨_, rfl, rfl⟩ ?_
                exact ⟨by rw [toldA, if_neg q0, if_neg q1, if_neg q2, if_neg q3, if_neg q4, if_neg q5], rfl⟩
