/-! act, trace, taken, count, feed -/
def actS (T : Tb) (i a x : Int32) : Int32 × List Nat := match dec i (T.1 7 0), dec a 3 with
  | some i, some a => if a = 0 then eatA (T.1 0 i) i (T.1 1 i) x else if a = 1 then bakA (T.1 0 i) i (T.1 1 i) x else telA (T.1 0 i) i (T.1 1 i) x
  | _, _ => (0, [])
def traceA (tr : List Nat) (i : Int32) : Int32 := match dec i 20 with
  | some j => (match tr[j]? with | some b => nI b | none => -1)
  | none => -1
def underS (is k : Nat) : Bool := decide (k = 0 ∨ is = k ∨ (k = 1 ∧ is = 4) ∨ (k = 2 ∧ is = 5) ∨ (k = 3 ∧ is = 6))
def takenA (T : Tb) (i k : Int32) : Int32 := match dec k 7 with
  | none => -2
  | some k => match dec i (T.1 7 0) with
    | none => -11
    | some i => if underS (T.1 0 i) k = true then nI (T.1 0 i) else -12
def countA (e n b f q : Nat) (w : Int32) : Int32 := if w = 0 then nI e else if w = 1 then nI n else if w = 2 then nI b else if w = 3 then nI f else if w = 4 then nI q else -2
abbrev Tx : Type := Nat × (Nat → Nat)
def feedS (X : Tx) (c : Int32) : Int32 × Tx := match dec c 128 with
  | none => (-2, X)
  | some c => if X.1 = 100 then (-4, X) else (nI (X.1 + 1), X.1 + 1, fun j => if j = X.1 then c else X.2 j)
def TxOK (X : Tx) : Prop := X.1 ≤ 100 ∧ ∀ j, j < X.1 → X.2 j < 128
def RTx (h : Hp) (X : Tx) : Prop := h.1 134 12 = nI X.1 ∧ ∀ j, j < X.1 → h.1 141 j = nI (X.2 j)
theorem acF_RTb {h h' : Hp} {T : Tb} (H : RTb h T) (hF : Fr acF h h') : RTb h' T := by
  obtain ⟨r1, r2, r3, r4, r5⟩ := H
  refine ⟨by rw [hF.1 _ _ rfl]; exact r1, by rw [hF.1 _ _ rfl]; exact r2, by rw [hF.1 _ _ rfl]; exact r3, by rw [hF.1 _ _ rfl]; exact r4, fun e he => ?_⟩
  obtain ⟨s1, s2, s3, s4, s5, s6⟩ := r5 e he
  exact ⟨by rw [hF.1 _ _ rfl]; exact s1, by rw [hF.1 _ _ rfl]; exact s2, by rw [hF.1 _ _ rfl]; exact s3, by rw [hF.1 _ _ rfl]; exact s4, by rw [hF.1 _ _ rfl]; exact s5, fun p hp => by rw [hF.1 _ _ rfl]; exact s6 p hp⟩
theorem actS_len (T : Tb) (i a x : Int32) : (actS T i a x).2.length ≤ 12 := by
  unfold actS
  split
  · rename_i i a _ _
    split
    · exact Nat.le_trans (eatA_len _ _ _ _) (by omega)
    · split
      · exact Nat.le_trans (bakA_len _ _ _ _) (by omega)
      · exact telA_len _ _ _ _
  · exact Nat.zero_le _
set_option maxRecDepth 100000 in
theorem m_X7_act {G : WT} {l : Launch} (hG : GOK G) {h : Hp} {T : Tb} {i a x : Int32} (hR : RTb h T) (hT : TbOK T) : Cl G l 9 yX7_act cX7_act 4 (some .int) [.ref (gA G 134), .int i, .int a, .int x] h (fun r h' => r = some (.int (actS T i a x).1) ∧ RAc h' (actS T i a x).2 ∧ Fr acF h h') := by
  refine Cl.of hG (by decide) (Nat.le_of_ble_eq_true rfl) ?_
  show Wp G l 9 RX7 cX7_act 4 (some .int) 0 [.ref (gA G 134), .int i, .int a, .int x] [] h _
  have hE := hT.1
  have F0 : Fr acF h (setI h 134 60 0) := Fr.set rfl
  have R0 := acF_RTb hR F0
  have A0 : RAc (setI h 134 60 0) [] := ⟨setI_at, fun j b _ q => by cases q⟩
  cases hi : dec i (T.1 7 0) with
  | none =>
    refine r_aload_n dX7_act_0 rfl ?_
    refine r_iconst (v := 0) dX7_act_1 (by decide) ?_
    refine r_putI dX7_act_2 k_X7_193 rfl (by decide) rfl rfl rfl rfl ?_
    refine r_aload_n dX7_act_5 rfl ?_
    refine r_iload_n dX7_act_6 rfl ?_
    refine r_callV dX7_act_7 l_X7_220 o_X7_isEater v_X7_isEater rfl (by decide) rfl rfl (m_X7_isEater hG) (by decide) rfl (Nat.le_of_ble_eq_true rfl) (fun r7 h7 hq7 => ?_)
    obtain ⟨rfl, e7⟩ := hq7
    rw [e7]
    clear e7 h7
    rw [R0.1, isE_dec (by omega), hi]
    refine r_if_eq (tgt := 23) dX7_act_10 (by decide) (fun c_10 => ?_) (fun c_10 => ?_)
    · refine r_iconst (v := 0) dX7_act_23 (by decide) ?_
      refine r_ireturn dX7_act_24 ⟨_, rfl, rfl⟩ ?_
      rw [actS, hi]
      exact ⟨rfl, A0, F0⟩
    · exact absurd rfl c_10
  | some i1 =>
    obtain ⟨hi1, rfl, -⟩ := dec_some.mp hi
    obtain ⟨t1, t2, -⟩ := hT.2.2.2.2.2.2.1 i1
    have C0 : ActC (setI h 134 60 0) [] (T.1 0 i1) i1 (T.1 1 i1) := ⟨A0, by omega, t1, (R0.2.2.2.2 i1 hi1).1, (R0.2.2.2.2 i1 hi1).2.1⟩
    cases ha : dec a 3 with
    | none =>
      refine r_aload_n dX7_act_0 rfl ?_
      refine r_iconst (v := 0) dX7_act_1 (by decide) ?_
      refine r_putI dX7_act_2 k_X7_193 rfl (by decide) rfl rfl rfl rfl ?_
      refine r_aload_n dX7_act_5 rfl ?_
      refine r_iload_n dX7_act_6 rfl ?_
      refine r_callV dX7_act_7 l_X7_220 o_X7_isEater v_X7_isEater rfl (by decide) rfl rfl (m_X7_isEater hG) (by decide) rfl (Nat.le_of_ble_eq_true rfl) (fun r7 h7 hq7 => ?_)
      obtain ⟨rfl, e7⟩ := hq7
      rw [e7]
      clear e7 h7
      rw [R0.1, isE_dec (by omega), hi]
      refine r_if_eq (tgt := 23) dX7_act_10 (by decide) (fun c_10 => ?_) (fun c_10 => ?_)
      · exact absurd c_10 (b01_n0.mpr rfl)
      · refine r_aload_n dX7_act_13 rfl ?_
        refine r_iload_n dX7_act_14 rfl ?_
        refine r_iconst (v := 0) dX7_act_15 (by decide) ?_
        refine r_iconst (v := 2) dX7_act_16 (by decide) ?_
        refine r_callV dX7_act_17 l_X7_212 o_X7_in v_X7_in rfl (by decide) rfl rfl (m_X7_in hG) (by decide) rfl (Nat.le_of_ble_eq_true rfl) (fun r17 h17 hq17 => ?_)
        obtain ⟨rfl, e17⟩ := hq17
        rw [e17]
        clear e17 h17
        rw [show inP a 0 2 = (dec a 3).isSome from inP_dec0 (c := 2) (by omega) rfl, ha]
        refine r_if_ne (tgt := 25) dX7_act_20 (by decide) (fun c_20 => ?_) (fun c_20 => ?_)
        · exact absurd rfl c_20
        · refine r_iconst (v := 0) dX7_act_23 (by decide) ?_
          refine r_ireturn dX7_act_24 ⟨_, rfl, rfl⟩ ?_
          rw [actS, hi, ha]
          exact ⟨rfl, A0, F0⟩
    | some a1 =>
      obtain ⟨ha1, rfl, -⟩ := dec_some.mp ha
      have es : actS T (nI i1) (nI a1) x = if a1 = 0 then eatA (T.1 0 i1) i1 (T.1 1 i1) x else if a1 = 1 then bakA (T.1 0 i1) i1 (T.1 1 i1) x else telA (T.1 0 i1) i1 (T.1 1 i1) x := by rw [actS, hi, ha]
      refine r_aload_n dX7_act_0 rfl ?_
      refine r_iconst (v := 0) dX7_act_1 (by decide) ?_
      refine r_putI dX7_act_2 k_X7_193 rfl (by decide) rfl rfl rfl rfl ?_
      refine r_aload_n dX7_act_5 rfl ?_
      refine r_iload_n dX7_act_6 rfl ?_
      refine r_callV dX7_act_7 l_X7_220 o_X7_isEater v_X7_isEater rfl (by decide) rfl rfl (m_X7_isEater hG) (by decide) rfl (Nat.le_of_ble_eq_true rfl) (fun r7 h7 hq7 => ?_)
      obtain ⟨rfl, e7⟩ := hq7
      rw [e7]
      clear e7 h7
      rw [R0.1, isE_dec (by omega), hi]
      refine r_if_eq (tgt := 23) dX7_act_10 (by decide) (fun c_10 => ?_) (fun c_10 => ?_)
      · exact absurd c_10 (b01_n0.mpr rfl)
      · refine r_aload_n dX7_act_13 rfl ?_
        refine r_iload_n dX7_act_14 rfl ?_
        refine r_iconst (v := 0) dX7_act_15 (by decide) ?_
        refine r_iconst (v := 2) dX7_act_16 (by decide) ?_
        refine r_callV dX7_act_17 l_X7_212 o_X7_in v_X7_in rfl (by decide) rfl rfl (m_X7_in hG) (by decide) rfl (Nat.le_of_ble_eq_true rfl) (fun r17 h17 hq17 => ?_)
        obtain ⟨rfl, e17⟩ := hq17
        rw [e17]
        clear e17 h17
        rw [show inP (nI a1) 0 2 = (dec (nI a1) 3).isSome from inP_dec0 (c := 2) (by omega) rfl, ha]
        refine r_if_ne (tgt := 25) dX7_act_20 (by decide) (fun c_20 => ?_) (fun c_20 => ?_)
        · refine r_iload_n dX7_act_25 rfl ?_
          refine r_if_ne (tgt := 38) dX7_act_26 (by decide) (fun c_26 => ?_) (fun c_26 => ?_)
          · have y : ¬ a1 = 0 := fun q => c_26 (by rw [q]; rfl)
            refine r_iload_n dX7_act_38 rfl ?_
            refine r_iconst (v := 1) dX7_act_39 (by decide) ?_
            refine r_icmp_ne (tgt := 52) dX7_act_40 (by decide) (fun c_40 => ?_) (fun c_40 => ?_)
            · have z : ¬ a1 = 1 := fun q => c_40 (by rw [q]; rfl)
              refine r_aload_n dX7_act_52 rfl ?_
              refine r_iload_n dX7_act_53 rfl ?_
              refine r_iload_n dX7_act_54 rfl ?_
              refine r_callV dX7_act_55 l_X7_408 o_X7_tellsAct v_X7_tellsAct rfl (by decide) rfl rfl (m_X7_tellsAct hG C0 (Nat.le_of_ble_eq_true rfl)) (by decide) rfl (Nat.le_of_ble_eq_true rfl) (fun r55 h55 hq55 => ?_)
              obtain ⟨rfl, H2, F2⟩ := hq55
              refine r_ireturn dX7_act_58 ⟨_, rfl, rfl⟩ ?_
              rw [es, if_neg y, if_neg z]
              exact ⟨rfl, H2.1, F0.tr F2⟩
            · have z : a1 = 1 := (nI_eq' (b := 1) (by omega) (by omega)).mp c_40
              refine r_aload_n dX7_act_43 rfl ?_
              refine r_iload_n dX7_act_44 rfl ?_
              refine r_iload_n dX7_act_45 rfl ?_
              refine r_callV dX7_act_46 l_X7_402 o_X7_bakesAct v_X7_bakesAct rfl (by decide) rfl rfl (m_X7_bakesAct hG C0 (Nat.le_of_ble_eq_true rfl)) (by decide) rfl (Nat.le_of_ble_eq_true rfl) (fun r46 h46 hq46 => ?_)
              obtain ⟨rfl, H2, F2⟩ := hq46
              refine r_goto (tgt := 58) dX7_act_49 (by decide) ?_
              refine r_ireturn dX7_act_58 ⟨_, rfl, rfl⟩ ?_
              rw [es, if_neg y, if_pos z]
              exact ⟨rfl, H2.1, F0.tr F2⟩
          · have y : a1 = 0 := (nI_eq' (b := 0) (by omega) (by omega)).mp c_26
            refine r_aload_n dX7_act_29 rfl ?_
            refine r_iload_n dX7_act_30 rfl ?_
            refine r_iload_n dX7_act_31 rfl ?_
            refine r_callV dX7_act_32 l_X7_393 o_X7_eatsAct v_X7_eatsAct rfl (by decide) rfl rfl (m_X7_eatsAct hG C0 (Nat.le_of_ble_eq_true rfl)) (by decide) rfl (Nat.le_of_ble_eq_true rfl) (fun r32 h32 hq32 => ?_)
            obtain ⟨rfl, H2, F2⟩ := hq32
            refine r_goto (tgt := 58) dX7_act_35 (by decide) ?_
            refine r_ireturn dX7_act_58 ⟨_, rfl, rfl⟩ ?_
            rw [es, if_pos y]
            exact ⟨rfl, H2.1, F0.tr F2⟩
        · exact absurd c_20 (b01_n0.mpr rfl)
set_option maxRecDepth 100000 in
theorem m_X7_trace {G : WT} {l : Launch} (hG : GOK G) {h : Hp} {tr : List Nat} {i : Int32} (H : RAc h tr) (hl : tr.length ≤ 100) : Cl G l 2 yX7_trace cX7_trace 2 (some .int) [.ref (gA G 134), .int i] h (fun r h' => r = some (.int (traceA tr i)) ∧ h' = h) := by
  refine Cl.of hG (by decide) (Nat.le_of_ble_eq_true rfl) ?_
  show Wp G l 2 RX7 cX7_trace 2 (some .int) 0 [.ref (gA G 134), .int i] [] h _
  cases hi : dec i 20 with
  | none =>
    refine r_aload_n dX7_trace_0 rfl ?_
    refine r_iload_n dX7_trace_1 rfl ?_
    refine r_iconst (v := 0) dX7_trace_2 (by decide) ?_
    refine r_bipush (v := 19) dX7_trace_3 (by decide) ?_
    refine r_callV dX7_trace_5 l_X7_212 o_X7_in v_X7_in rfl (by decide) rfl rfl (m_X7_in hG) (by decide) rfl (Nat.le_of_ble_eq_true rfl) (fun r5 h5 hq5 => ?_)
    obtain ⟨rfl, e5⟩ := hq5
    rw [e5]
    clear e5 h5
    rw [show inP i 0 19 = (dec i 20).isSome from inP_dec0 (c := 19) (by omega) rfl, hi]
    refine r_if_eq (tgt := 28) dX7_trace_8 (by decide) (fun c_8 => ?_) (fun c_8 => ?_)
    · refine r_iconst (v := -1) dX7_trace_28 (by decide) ?_
      refine r_ireturn dX7_trace_29 ⟨_, rfl, rfl⟩ ?_
      exact ⟨by rw [traceA, hi], rfl⟩
    · exact absurd rfl c_8
  | some j =>
    obtain ⟨hj, rfl, -⟩ := dec_some.mp hi
    have es : traceA tr (nI j) = match tr[j]? with | some b => nI b | none => -1 := by rw [traceA, hi]
    by_cases hjl : j < tr.length
    · obtain ⟨b, hb⟩ : ∃ b, tr[j]? = some b := ⟨tr[j], List.getElem?_eq_getElem hjl⟩
      refine r_aload_n dX7_trace_0 rfl ?_
      refine r_iload_n dX7_trace_1 rfl ?_
      refine r_iconst (v := 0) dX7_trace_2 (by decide) ?_
      refine r_bipush (v := 19) dX7_trace_3 (by decide) ?_
      refine r_callV dX7_trace_5 l_X7_212 o_X7_in v_X7_in rfl (by decide) rfl rfl (m_X7_in hG) (by decide) rfl (Nat.le_of_ble_eq_true rfl) (fun r5 h5 hq5 => ?_)
      obtain ⟨rfl, e5⟩ := hq5
      rw [e5]
      clear e5 h5
      rw [show inP (nI j) 0 19 = (dec (nI j) 20).isSome from inP_dec0 (c := 19) (by omega) rfl, hi]
      refine r_if_eq (tgt := 28) dX7_trace_8 (by decide) (fun c_8 => ?_) (fun c_8 => ?_)
      · exact absurd c_8 (b01_n0.mpr rfl)
      · refine r_iload_n dX7_trace_11 rfl ?_
        refine r_aload_n dX7_trace_12 rfl ?_
        refine r_getI dX7_trace_13 k_X7_193 rfl (by decide) rfl ?_
        rw [H.1]
        refine r_icmp_ge (tgt := 28) dX7_trace_16 (by decide) (fun c_16 => ?_) (fun c_16 => ?_)
        · exact absurd c_16 (nI_ge (by omega) (by omega))
        · refine r_aload_n dX7_trace_19 rfl ?_
          refine r_getR (j := 167) dX7_trace_20 k_X7_196 rfl (by decide) rfl rfl ?_
          refine r_iload_n dX7_trace_23 rfl ?_
          refine r_iald (j) dX7_trace_24 rfl rfl (show j < 20 by omega) ?_
          refine r_goto (tgt := 29) dX7_trace_25 (by decide) ?_
          refine r_ireturn dX7_trace_29 ⟨_, rfl, rfl⟩ ?_
          exact ⟨by rw [es, hb, H.2 j b hj hb], rfl⟩
    · refine r_aload_n dX7_trace_0 rfl ?_
      refine r_iload_n dX7_trace_1 rfl ?_
      refine r_iconst (v := 0) dX7_trace_2 (by decide) ?_
      refine r_bipush (v := 19) dX7_trace_3 (by decide) ?_
      refine r_callV dX7_trace_5 l_X7_212 o_X7_in v_X7_in rfl (by decide) rfl rfl (m_X7_in hG) (by decide) rfl (Nat.le_of_ble_eq_true rfl) (fun r5 h5 hq5 => ?_)
      obtain ⟨rfl, e5⟩ := hq5
      rw [e5]
      clear e5 h5
      rw [show inP (nI j) 0 19 = (dec (nI j) 20).isSome from inP_dec0 (c := 19) (by omega) rfl, hi]
      refine r_if_eq (tgt := 28) dX7_trace_8 (by decide) (fun c_8 => ?_) (fun c_8 => ?_)
      · exact absurd c_8 (b01_n0.mpr rfl)
      · refine r_iload_n dX7_trace_11 rfl ?_
        refine r_aload_n dX7_trace_12 rfl ?_
        refine r_getI dX7_trace_13 k_X7_193 rfl (by decide) rfl ?_
        rw [H.1]
        refine r_icmp_ge (tgt := 28) dX7_trace_16 (by decide) (fun c_16 => ?_) (fun c_16 => ?_)
        · refine r_iconst (v := -1) dX7_trace_28 (by decide) ?_
          refine r_ireturn dX7_trace_29 ⟨_, rfl, rfl⟩ ?_
          exact ⟨by rw [es, List.getElem?_eq_none (by omega)], rfl⟩
        · exact absurd (nI_le (by omega) (by omega)) c_16
theorem underS_t {a k : Nat} (h : k = 0 ∨ a = k ∨ (k = 1 ∧ a = 4) ∨ (k = 2 ∧ a = 5) ∨ (k = 3 ∧ a = 6)) : underS a k = true := decide_eq_true h
theorem underS_f {a k : Nat} (h : ¬ (k = 0 ∨ a = k ∨ (k = 1 ∧ a = 4) ∨ (k = 2 ∧ a = 5) ∨ (k = 3 ∧ a = 6))) : underS a k = false := decide_eq_false h
set_option maxRecDepth 100000 in
theorem m_X7_taken {G : WT} {l : Launch} (hG : GOK G) {h : Hp} {T : Tb} {i k : Int32} (hR : RTb h T) (hT : TbOK T) : Cl G l 3 yX7_taken cX7_taken 4 (some .int) [.ref (gA G 134), .int i, .int k] h (fun r h' => r = some (.int (takenA T i k)) ∧ h' = h) := by
  refine Cl.of hG (by decide) (Nat.le_of_ble_eq_true rfl) ?_
  show Wp G l 3 RX7 cX7_taken 4 (some .int) 0 [.ref (gA G 134), .int i, .int k, mk0] [] h _
  have hE := hT.1
  cases hk : dec k 7 with
  | none =>
    refine r_aload_n dX7_taken_0 rfl ?_
    refine r_iload_n dX7_taken_1 rfl ?_
    refine r_iconst (v := 0) dX7_taken_2 (by decide) ?_
    refine r_bipush (v := 6) dX7_taken_3 (by decide) ?_
    refine r_callV dX7_taken_5 l_X7_212 o_X7_in v_X7_in rfl (by decide) rfl rfl (m_X7_in hG) (by decide) rfl (Nat.le_of_ble_eq_true rfl) (fun r5 h5 hq5 => ?_)
    obtain ⟨rfl, e5⟩ := hq5
    rw [e5]
    clear e5 h5
    rw [show inP k 0 6 = (dec k 7).isSome from inP_dec0 (c := 6) (by omega) rfl, hk]
    refine r_if_ne (tgt := 14) dX7_taken_8 (by decide) (fun c_8 => ?_) (fun c_8 => ?_)
    · exact absurd rfl c_8
    · refine r_bipush (v := -2) dX7_taken_11 (by decide) ?_
      refine r_ireturn dX7_taken_13 ⟨_, rfl, rfl⟩ ?_
      exact ⟨by rw [takenA, hk], rfl⟩
  | some k1 =>
    obtain ⟨hk1, rfl, -⟩ := dec_some.mp hk
    cases hi : dec i (T.1 7 0) with
    | none =>
      refine r_aload_n dX7_taken_0 rfl ?_
      refine r_iload_n dX7_taken_1 rfl ?_
      refine r_iconst (v := 0) dX7_taken_2 (by decide) ?_
      refine r_bipush (v := 6) dX7_taken_3 (by decide) ?_
      refine r_callV dX7_taken_5 l_X7_212 o_X7_in v_X7_in rfl (by decide) rfl rfl (m_X7_in hG) (by decide) rfl (Nat.le_of_ble_eq_true rfl) (fun r5 h5 hq5 => ?_)
      obtain ⟨rfl, e5⟩ := hq5
      rw [e5]
      clear e5 h5
      rw [show inP (nI k1) 0 6 = (dec (nI k1) 7).isSome from inP_dec0 (c := 6) (by omega) rfl, hk]
      refine r_if_ne (tgt := 14) dX7_taken_8 (by decide) (fun c_8 => ?_) (fun c_8 => ?_)
      · refine r_aload_n dX7_taken_14 rfl ?_
        refine r_iload_n dX7_taken_15 rfl ?_
        refine r_callV dX7_taken_16 l_X7_220 o_X7_isEater v_X7_isEater rfl (by decide) rfl rfl (m_X7_isEater hG) (by decide) rfl (Nat.le_of_ble_eq_true rfl) (fun r16 h16 hq16 => ?_)
        obtain ⟨rfl, e16⟩ := hq16
        rw [e16]
        clear e16 h16
        rw [hR.1, isE_dec (by omega), hi]
        refine r_if_ne (tgt := 25) dX7_taken_19 (by decide) (fun c_19 => ?_) (fun c_19 => ?_)
        · exact absurd rfl c_19
        · refine r_bipush (v := -11) dX7_taken_22 (by decide) ?_
          refine r_ireturn dX7_taken_24 ⟨_, rfl, rfl⟩ ?_
          exact ⟨by rw [takenA, hk, hi], rfl⟩
      · exact absurd c_8 (b01_n0.mpr rfl)
    | some i1 =>
      obtain ⟨hi1, rfl, -⟩ := dec_some.mp hi
      obtain ⟨t1, -⟩ := hT.2.2.2.2.2.2.1 i1
      obtain ⟨a, ha⟩ : ∃ a, a = T.1 0 i1 := ⟨_, rfl⟩
      rw [← ha] at t1
      have es : takenA T (nI i1) (nI k1) = if underS a k1 = true then nI a else -12 := by rw [takenA, hk, hi, ha]
      have q0 : k1 = 0 ↔ nI k1 = 0 := (nI_eq' (b := 0) (by omega) (by omega)).symm
      have q1 : k1 = 1 ↔ nI k1 = 1 := (nI_eq' (b := 1) (by omega) (by omega)).symm
      have q2 : k1 = 2 ↔ nI k1 = 2 := (nI_eq' (b := 2) (by omega) (by omega)).symm
      have q3 : k1 = 3 ↔ nI k1 = 3 := (nI_eq' (b := 3) (by omega) (by omega)).symm
      have p4 : a = 4 ↔ nI a = 4 := (nI_eq' (b := 4) (by omega) (by omega)).symm
      have p5 : a = 5 ↔ nI a = 5 := (nI_eq' (b := 5) (by omega) (by omega)).symm
      have p6 : a = 6 ↔ nI a = 6 := (nI_eq' (b := 6) (by omega) (by omega)).symm
      have pk : a = k1 ↔ nI a = nI k1 := (nI_eq' (by omega) (by omega)).symm
      have fin : (underS a k1 = true → Wp G l 3 RX7 cX7_taken 4 (some .int) 72 [.ref (gA G 134), .int (nI i1), .int (nI k1), .int (nI a)] [] h (fun r h' => r = some (.int (takenA T (nI i1) (nI k1))) ∧ h' = h)) ∧ (underS a k1 = false → Wp G l 3 RX7 cX7_taken 4 (some .int) 76 [.ref (gA G 134), .int (nI i1), .int (nI k1), .int (nI a)] [] h (fun r h' => r = some (.int (takenA T (nI i1) (nI k1))) ∧ h' = h)) := by
        constructor
        · intro hu
          refine r_iload_n dX7_taken_72 rfl ?_
          refine r_goto (tgt := 78) dX7_taken_73 (by decide) ?_
          refine r_ireturn dX7_taken_78 ⟨_, rfl, rfl⟩ ?_
          exact ⟨by rw [es, if_pos hu], rfl⟩
        · intro hu
          refine r_bipush (v := -12) dX7_taken_76 (by decide) ?_
          refine r_ireturn dX7_taken_78 ⟨_, rfl, rfl⟩ ?_
          exact ⟨by rw [es, hu, if_neg Bool.false_ne_true], rfl⟩
      refine r_aload_n dX7_taken_0 rfl ?_
      refine r_iload_n dX7_taken_1 rfl ?_
      refine r_iconst (v := 0) dX7_taken_2 (by decide) ?_
      refine r_bipush (v := 6) dX7_taken_3 (by decide) ?_
      refine r_callV dX7_taken_5 l_X7_212 o_X7_in v_X7_in rfl (by decide) rfl rfl (m_X7_in hG) (by decide) rfl (Nat.le_of_ble_eq_true rfl) (fun r5 h5 hq5 => ?_)
      obtain ⟨rfl, e5⟩ := hq5
      rw [e5]
      clear e5 h5
      rw [show inP (nI k1) 0 6 = (dec (nI k1) 7).isSome from inP_dec0 (c := 6) (by omega) rfl, hk]
      refine r_if_ne (tgt := 14) dX7_taken_8 (by decide) (fun c_8 => ?_) (fun c_8 => ?_)
      · refine r_aload_n dX7_taken_14 rfl ?_
        refine r_iload_n dX7_taken_15 rfl ?_
        refine r_callV dX7_taken_16 l_X7_220 o_X7_isEater v_X7_isEater rfl (by decide) rfl rfl (m_X7_isEater hG) (by decide) rfl (Nat.le_of_ble_eq_true rfl) (fun r16 h16 hq16 => ?_)
        obtain ⟨rfl, e16⟩ := hq16
        rw [e16]
        clear e16 h16
        rw [hR.1, isE_dec (by omega), hi]
        refine r_if_ne (tgt := 25) dX7_taken_19 (by decide) (fun c_19 => ?_) (fun c_19 => ?_)
        · refine r_aload_n dX7_taken_25 rfl ?_
          refine r_getR (j := 135) dX7_taken_26 k_X7_22 rfl (by decide) rfl rfl ?_
          refine r_iload_n dX7_taken_29 rfl ?_
          refine r_iald (i1) dX7_taken_30 rfl rfl (show i1 < 6 by omega) ?_
          rw [(hR.2.2.2.2 i1 hi1).1, ← ha]
          refine r_istore_n dX7_taken_31 (by decide) rfl rfl ?_
          dsimp only [List.set]
          refine r_iload_n dX7_taken_32 rfl ?_
          refine r_if_eq (tgt := 72) dX7_taken_33 (by decide) (fun c_33 => ?_) (fun c_33 => ?_)
          · exact fin.1 (underS_t (by simp_all))
          · refine r_iload_n dX7_taken_36 rfl ?_
            refine r_iload_n dX7_taken_37 rfl ?_
            refine r_icmp_eq (tgt := 72) dX7_taken_38 (by decide) (fun c_38 => ?_) (fun c_38 => ?_)
            · exact fin.1 (underS_t (by simp_all))
            · refine r_iload_n dX7_taken_41 rfl ?_
              refine r_iconst (v := 1) dX7_taken_42 (by decide) ?_
              refine r_icmp_ne (tgt := 51) dX7_taken_43 (by decide) (fun c_43 => ?_) (fun c_43 => ?_)
              · refine r_iload_n dX7_taken_51 rfl ?_
                refine r_iconst (v := 2) dX7_taken_52 (by decide) ?_
                refine r_icmp_ne (tgt := 61) dX7_taken_53 (by decide) (fun c_53 => ?_) (fun c_53 => ?_)
                · refine r_iload_n dX7_taken_61 rfl ?_
                  refine r_iconst (v := 3) dX7_taken_62 (by decide) ?_
                  refine r_icmp_ne (tgt := 76) dX7_taken_63 (by decide) (fun c_63 => ?_) (fun c_63 => ?_)
                  · exact fin.2 (underS_f (by simp_all))
                  · refine r_iload_n dX7_taken_66 rfl ?_
                    refine r_bipush (v := 6) dX7_taken_67 (by decide) ?_
                    refine r_icmp_ne (tgt := 76) dX7_taken_69 (by decide) (fun c_69 => ?_) (fun c_69 => ?_)
                    · exact fin.2 (underS_f (by simp_all))
                    · exact fin.1 (underS_t (by simp_all))
                · refine r_iload_n dX7_taken_56 rfl ?_
                  refine r_iconst (v := 5) dX7_taken_57 (by decide) ?_
                  refine r_icmp_eq (tgt := 72) dX7_taken_58 (by decide) (fun c_58 => ?_) (fun c_58 => ?_)
                  · exact fin.1 (underS_t (by simp_all))
                  · refine r_iload_n dX7_taken_61 rfl ?_
                    refine r_iconst (v := 3) dX7_taken_62 (by decide) ?_
                    refine r_icmp_ne (tgt := 76) dX7_taken_63 (by decide) (fun c_63 => ?_) (fun c_63 => ?_)
                    · exact fin.2 (underS_f (by simp_all))
                    · refine r_iload_n dX7_taken_66 rfl ?_
                      refine r_bipush (v := 6) dX7_taken_67 (by decide) ?_
                      refine r_icmp_ne (tgt := 76) dX7_taken_69 (by decide) (fun c_69 => ?_) (fun c_69 => ?_)
                      · exact fin.2 (underS_f (by simp_all))
                      · exact fin.1 (underS_t (by simp_all))
              · refine r_iload_n dX7_taken_46 rfl ?_
                refine r_iconst (v := 4) dX7_taken_47 (by decide) ?_
                refine r_icmp_eq (tgt := 72) dX7_taken_48 (by decide) (fun c_48 => ?_) (fun c_48 => ?_)
                · exact fin.1 (underS_t (by simp_all))
                · refine r_iload_n dX7_taken_51 rfl ?_
                  refine r_iconst (v := 2) dX7_taken_52 (by decide) ?_
                  refine r_icmp_ne (tgt := 61) dX7_taken_53 (by decide) (fun c_53 => ?_) (fun c_53 => ?_)
                  · refine r_iload_n dX7_taken_61 rfl ?_
                    refine r_iconst (v := 3) dX7_taken_62 (by decide) ?_
                    refine r_icmp_ne (tgt := 76) dX7_taken_63 (by decide) (fun c_63 => ?_) (fun c_63 => ?_)
                    · exact fin.2 (underS_f (by simp_all))
                    · refine r_iload_n dX7_taken_66 rfl ?_
                      refine r_bipush (v := 6) dX7_taken_67 (by decide) ?_
                      refine r_icmp_ne (tgt := 76) dX7_taken_69 (by decide) (fun c_69 => ?_) (fun c_69 => ?_)
                      · exact fin.2 (underS_f (by simp_all))
                      · exact fin.1 (underS_t (by simp_all))
                  · refine r_iload_n dX7_taken_56 rfl ?_
                    refine r_iconst (v := 5) dX7_taken_57 (by decide) ?_
                    refine r_icmp_eq (tgt := 72) dX7_taken_58 (by decide) (fun c_58 => ?_) (fun c_58 => ?_)
                    · exact fin.1 (underS_t (by simp_all))
                    · refine r_iload_n dX7_taken_61 rfl ?_
                      refine r_iconst (v := 3) dX7_taken_62 (by decide) ?_
                      refine r_icmp_ne (tgt := 76) dX7_taken_63 (by decide) (fun c_63 => ?_) (fun c_63 => ?_)
                      · exact fin.2 (underS_f (by simp_all))
                      · refine r_iload_n dX7_taken_66 rfl ?_
                        refine r_bipush (v := 6) dX7_taken_67 (by decide) ?_
                        refine r_icmp_ne (tgt := 76) dX7_taken_69 (by decide) (fun c_69 => ?_) (fun c_69 => ?_)
                        · exact fin.2 (underS_f (by simp_all))
                        · exact fin.1 (underS_t (by simp_all))
        · exact absurd c_19 (b01_n0.mpr rfl)
      · exact absurd c_8 (b01_n0.mpr rfl)
set_option maxRecDepth 100000 in
theorem m_X7_count {G : WT} {l : Launch} (hG : GOK G) {h : Hp} {T : Tb} {X : Tx} {tr : List Nat} {n : Nat} {w : Int32} (hR : RTb h T) (hB : RBk h T) (hX : RTx h X) (hA : RAc h tr) (hn : h.1 134 10 = nI n) : Cl G l 1 yX7_count cX7_count 2 (some .int) [.ref (gA G 134), .int w] h (fun r h' => r = some (.int (countA (T.1 7 0) n (T.1 7 4) X.1 tr.length w)) ∧ h' = h) := by
  refine Cl.of hG (by decide) (Nat.le_of_ble_eq_true rfl) ?_
  show Wp G l 1 RX7 cX7_count 2 (some .int) 0 [.ref (gA G 134), .int w] [] h _
  by_cases q0 : w = 0
  · subst q0
    refine r_iload_n dX7_count_0 rfl ?_
    · refine r_tsw 36 dX7_count_1 rfl (by decide) rfl ?_
      refine r_aload_n dX7_count_36 rfl ?_
      refine r_getI dX7_count_37 k_X7_7 rfl (by decide) rfl ?_
      refine r_ireturn dX7_count_40 ⟨_, rfl, rfl⟩ ?_
      exact ⟨by rw [countA, if_pos rfl, hR.1], rfl⟩
  · by_cases q1 : w = 1
    · subst q1
      refine r_iload_n dX7_count_0 rfl ?_
      · refine r_tsw 41 dX7_count_1 rfl (by decide) rfl ?_
        refine r_aload_n dX7_count_41 rfl ?_
        refine r_getI dX7_count_42 k_X7_41 rfl (by decide) rfl ?_
        refine r_ireturn dX7_count_45 ⟨_, rfl, rfl⟩ ?_
        exact ⟨by rw [countA, if_neg q0, if_pos rfl, hn], rfl⟩
    · by_cases q2 : w = 2
      · subst q2
        refine r_iload_n dX7_count_0 rfl ?_
        · refine r_tsw 46 dX7_count_1 rfl (by decide) rfl ?_
          refine r_aload_n dX7_count_46 rfl ?_
          refine r_getI dX7_count_47 k_X7_145 rfl (by decide) rfl ?_
          refine r_ireturn dX7_count_50 ⟨_, rfl, rfl⟩ ?_
          exact ⟨by rw [countA, if_neg q0, if_neg q1, if_pos rfl, hB.1], rfl⟩
      · by_cases q3 : w = 3
        · subst q3
          refine r_iload_n dX7_count_0 rfl ?_
          · refine r_tsw 51 dX7_count_1 rfl (by decide) rfl ?_
            refine r_aload_n dX7_count_51 rfl ?_
            refine r_getI dX7_count_52 k_X7_47 rfl (by decide) rfl ?_
            refine r_ireturn dX7_count_55 ⟨_, rfl, rfl⟩ ?_
            exact ⟨by rw [countA, if_neg q0, if_neg q1, if_neg q2, if_pos rfl, hX.1], rfl⟩
        · by_cases q4 : w = 4
          · subst q4
            refine r_iload_n dX7_count_0 rfl ?_
            · refine r_tsw 56 dX7_count_1 rfl (by decide) rfl ?_
              refine r_aload_n dX7_count_56 rfl ?_
              refine r_getI dX7_count_57 k_X7_193 rfl (by decide) rfl ?_
              refine r_ireturn dX7_count_60 ⟨_, rfl, rfl⟩ ?_
              exact ⟨by rw [countA, if_neg q0, if_neg q1, if_neg q2, if_neg q3, if_pos rfl, hA.1], rfl⟩
          · have z0 := lv_neT q0 (a := 0) rfl
            have z1 := lv_neT q1 (a := 1) rfl
            have z2 := lv_neT q2 (a := 2) rfl
            have z3 := lv_neT q3 (a := 3) rfl
            have z4 := lv_neT q4 (a := 4) rfl
            refine r_iload_n dX7_count_0 rfl ?_
            · refine r_tsw 61 dX7_count_1 rfl (by decide) (by rw [tswT, if_pos (by omega)]; rfl) ?_
              refine r_bipush (v := -2) dX7_count_61 (by decide) ?_
              refine r_ireturn dX7_count_63 ⟨_, rfl, rfl⟩ ?_
              exact ⟨by rw [countA, if_neg q0, if_neg q1, if_neg q2, if_neg q3, if_neg q4], rfl⟩
def fdF (a i : Nat) : Bool := a == 141 || (a == 134 && i == 12)
set_option maxRecDepth 100000 in
theorem m_X7_feed {G : WT} {l : Launch} (hG : GOK G) {h : Hp} {X : Tx} {c : Int32} (H : RTx h X) (hX : TxOK X) : Cl G l 2 yX7_feed cX7_feed 2 (some .int) [.ref (gA G 134), .int c] h (fun r h' => r = some (.int (feedS X c).1) ∧ RTx h' (feedS X c).2 ∧ TxOK (feedS X c).2 ∧ Fr fdF h h') := by
  refine Cl.of hG (by decide) (Nat.le_of_ble_eq_true rfl) ?_
  show Wp G l 2 RX7 cX7_feed 2 (some .int) 0 [.ref (gA G 134), .int c] [] h _
  have h100 := hX.1
  cases hc : dec c 128 with
  | none =>
    refine r_aload_n dX7_feed_0 rfl ?_
    refine r_iload_n dX7_feed_1 rfl ?_
    refine r_iconst (v := 0) dX7_feed_2 (by decide) ?_
    refine r_bipush (v := 127) dX7_feed_3 (by decide) ?_
    refine r_callV dX7_feed_5 l_X7_212 o_X7_in v_X7_in rfl (by decide) rfl rfl (m_X7_in hG) (by decide) rfl (Nat.le_of_ble_eq_true rfl) (fun r5 h5 hq5 => ?_)
    obtain ⟨rfl, e5⟩ := hq5
    rw [e5]
    clear e5 h5
    rw [show inP c 0 127 = (dec c 128).isSome from inP_dec0 (c := 127) (by omega) rfl, hc]
    refine r_if_ne (tgt := 14) dX7_feed_8 (by decide) (fun c_8 => ?_) (fun c_8 => ?_)
    · exact absurd rfl c_8
    · refine r_bipush (v := -2) dX7_feed_11 (by decide) ?_
      refine r_ireturn dX7_feed_13 ⟨_, rfl, rfl⟩ ?_
      rw [feedS, hc]
      exact ⟨rfl, H, hX, Fr.rf⟩
  | some c1 =>
    obtain ⟨hc1, rfl, -⟩ := dec_some.mp hc
    have es : feedS X (nI c1) = if X.1 = 100 then (-4, X) else (nI (X.1 + 1), X.1 + 1, fun j => if j = X.1 then c1 else X.2 j) := by rw [feedS, hc]
    refine r_aload_n dX7_feed_0 rfl ?_
    refine r_iload_n dX7_feed_1 rfl ?_
    refine r_iconst (v := 0) dX7_feed_2 (by decide) ?_
    refine r_bipush (v := 127) dX7_feed_3 (by decide) ?_
    refine r_callV dX7_feed_5 l_X7_212 o_X7_in v_X7_in rfl (by decide) rfl rfl (m_X7_in hG) (by decide) rfl (Nat.le_of_ble_eq_true rfl) (fun r5 h5 hq5 => ?_)
    obtain ⟨rfl, e5⟩ := hq5
    rw [e5]
    clear e5 h5
    rw [show inP (nI c1) 0 127 = (dec (nI c1) 128).isSome from inP_dec0 (c := 127) (by omega) rfl, hc]
    refine r_if_ne (tgt := 14) dX7_feed_8 (by decide) (fun c_8 => ?_) (fun c_8 => ?_)
    · refine r_aload_n dX7_feed_14 rfl ?_
      refine r_getI dX7_feed_15 k_X7_47 rfl (by decide) rfl ?_
      refine r_bipush (v := 100) dX7_feed_18 (by decide) ?_
      rw [H.1]
      refine r_icmp_ne (tgt := 26) dX7_feed_20 (by decide) (fun c_20 => ?_) (fun c_20 => ?_)
      · have y : ¬ X.1 = 100 := fun q => c_20 (by rw [q]; rfl)
        refine r_aload_n dX7_feed_26 rfl ?_
        refine r_getR (j := 141) dX7_feed_27 k_X7_56 rfl (by decide) rfl rfl ?_
        refine r_aload_n dX7_feed_30 rfl ?_
        refine r_getI dX7_feed_31 k_X7_47 rfl (by decide) rfl ?_
        refine r_iload_n dX7_feed_34 rfl ?_
        refine r_iast (X.1) dX7_feed_35 rfl H.1 (show X.1 < 100 by omega) ?_
        refine r_aload_n dX7_feed_36 rfl ?_
        refine r_dup dX7_feed_37 rfl ?_
        refine r_getI dX7_feed_38 k_X7_47 rfl (by decide) rfl ?_
        refine r_iconst (v := 1) dX7_feed_41 (by decide) ?_
        refine r_iadd dX7_feed_42 ?_
        rw [setI_ne (by decide), H.1, nI_1]
        refine r_putI dX7_feed_43 k_X7_47 rfl (by decide) rfl rfl rfl rfl ?_
        refine r_aload_n dX7_feed_46 rfl ?_
        refine r_getI dX7_feed_47 k_X7_47 rfl (by decide) rfl ?_
        rw [setI_at]
        refine r_ireturn dX7_feed_50 ⟨_, rfl, rfl⟩ ?_
        rw [es, if_neg y]
        refine ⟨rfl, ⟨setI_at, fun j hj => ?_⟩, ⟨by show X.1 + 1 ≤ 100; omega, fun j hj => ?_⟩, (Fr.set rfl).tr (Fr.set rfl)⟩
        · have hj1 : j < X.1 + 1 := hj
          show _ = nI (if j = X.1 then c1 else X.2 j)
          rw [setI_ne (by decide), setI_1]
          by_cases hjx : j = X.1
          · rw [if_pos ⟨rfl, hjx⟩, if_pos hjx]
          · rw [if_neg (fun q => hjx q.2), if_neg hjx]; exact H.2 j (by omega)
        · have hj1 : j < X.1 + 1 := hj
          show (if j = X.1 then c1 else X.2 j) < 128
          split
          · exact hc1
          · exact hX.2 j (by omega)
      · have y : X.1 = 100 := (nI_eq' (b := 100) (by omega) (by omega)).mp c_20
        refine r_bipush (v := -4) dX7_feed_23 (by decide) ?_
        refine r_ireturn dX7_feed_25 ⟨_, rfl, rfl⟩ ?_
        rw [es, if_pos y]
        exact ⟨rfl, H, hX, Fr.rf⟩
    · exact absurd c_8 (b01_n0.mpr rfl)
