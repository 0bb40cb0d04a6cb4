/-! tapes: sort and 1 (0 for none), length, items -/
abbrev Tp : Type := Nat → Nat × Nat × (Nat → Int64)
def TpOK (P : Tp) : Prop := ∀ t, t < 6 → (P t).1 ≤ 5 ∧ (P t).2.1 ≤ 60 ∧ ((P t).1 = 0 → (P t).2.1 = 0)
def updP (P : Tp) (t : Nat) (x : Nat × Nat × (Nat → Int64)) : Tp := fun o => if o = t then x else P o
def sortD (s : Int32) : Option Nat := if s = -1 then some 0 else match dec s 5 with | some j => some (j + 1) | none => none
def tapeS (P : Tp) (t s n : Int32) : Int32 × Tp := match dec t 6 with
  | none => (-1, P)
  | some t => match sortD s with
    | none => (-2, P)
    | some q => if q = 0 then (1, updP P t (0, 0, fun _ => 0)) else if 60 < n.toInt then (-2, P) else if n.toInt < 0 then (-14, P) else (1, updP P t (q, n.toInt.toNat, fun _ => 0))
def narS (q : Nat) (z : Int64) : Int64 := if q = 1 then z.toInt32.toInt8.toInt32.toInt64 else if q = 2 then z.toInt32.toInt16.toInt32.toInt64 else if q = 3 then z.toInt32.toInt64 else if q = 5 then (if z = 0 then 0 else 1) else z
def itemS (P : Tp) (t i : Int32) (z : Int64) : Int32 × Tp := match dec t 6 with
  | none => (-1, P)
  | some t => if (P t).1 = 0 then (-11, P) else match dec i (P t).2.1 with
    | none => (-13, P)
    | some i => (1, updP P t ((P t).1, (P t).2.1, fun k => if k = i then narS (P t).1 z else (P t).2.2 k))
def readA (P : Tp) (t i : Int32) : Int64 := match dec t 6 with
  | none => -9223372036854775808
  | some t => match dec i (P t).2.1 with
    | none => -9223372036854775808
    | some i => (P t).2.2 i
def shiftS (P : Tp) (t i o j n : Int32) : Int32 × Tp := match dec t 6, dec o 6 with
  | some t, some o => if (P t).1 = 0 ∨ (P o).1 = 0 then (-11, P) else if (P t).1 = (P o).1 then
      (if n.toInt < 0 ∨ i.toInt < 0 ∨ j.toInt < 0 ∨ ((P t).2.1 : Int) < i.toInt + n.toInt ∨ ((P o).2.1 : Int) < j.toInt + n.toInt then (-13, P) else
        (n, updP P o ((P o).1, (P o).2.1, fun x => if j.toInt.toNat ≤ x ∧ x < j.toInt.toNat + n.toInt.toNat then (P t).2.2 (i.toInt.toNat + (x - j.toInt.toNat)) else (P o).2.2 x)))
      else (-12, P)
  | _, _ => (-1, P)
def judgeQ (T : Tb) (y : Nat × Nat × (Nat → Int64)) (i : Int32) (k : Nat) : Bool := decide (¬ (0 ≤ i.toInt ∧ i.toInt + k < (y.2.1 : Int)) ∨ ¬ y.2.2 (i.toInt.toNat + k) = (T.2 k).toInt64)
def judgeA (T : Tb) (P : Tp) (t i : Int32) : Int32 := match dec t 6 with
  | none => -1
  | some t => if ¬ ((P t).1 = 0 ∨ (P t).1 = 3) then -12 else
    if firstTo (judgeQ T (P t) i) (T.1 7 0) < T.1 7 0 then
      (if 0 ≤ i.toInt ∧ i.toInt + firstTo (judgeQ T (P t) i) (T.1 7 0) < ((P t).2.1 : Int) then nI (firstTo (judgeQ T (P t) i) (T.1 7 0)) else nI (100 + firstTo (judgeQ T (P t) i) (T.1 7 0)))
    else -5
def RTp (h : Hp) (P : Tp) : Prop := ∀ t, t < 6 → h.1 168 t = nI (P t).1 - 1 ∧ h.1 169 t = nI (P t).2.1 ∧ ∀ k, k < 60 → h.2.1 170 (60 * t + k) = (P t).2.2 k
def FrL (h h' : Hp) : Prop := (∀ a i, ¬ a = 168 → ¬ a = 169 → h'.1 a i = h.1 a i) ∧ (∀ a i, ¬ a = 170 → ¬ a = 171 → h'.2.1 a i = h.2.1 a i) ∧ h'.2.2 = h.2.2
theorem FrL.rf {h : Hp} : FrL h h := ⟨fun _ _ _ _ => rfl, fun _ _ _ _ => rfl, rfl⟩
theorem FrL.tr {h g k : Hp} (H : FrL h g) (H2 : FrL g k) : FrL h k := ⟨fun a i q1 q2 => (H2.1 a i q1 q2).trans (H.1 a i q1 q2), fun a i q1 q2 => (H2.2.1 a i q1 q2).trans (H.2.1 a i q1 q2), H2.2.2.trans H.2.2⟩
theorem nI_pred0 {q : Nat} (hq : q ≤ 1000) : (nI q - 1).toInt = (q : Int) - 1 := by
  cases q with
  | zero => rfl
  | succ n => rw [nI_pred, nI_toInt (by omega)]; omega
theorem sort_lt {q : Nat} (hq : q ≤ 1000) : nI q - 1 < 0 ↔ q = 0 := by
  rw [Int32.lt_iff_toInt_lt, nI_pred0 hq, show (0 : Int32).toInt = 0 from rfl]
  omega
theorem sort_ge {q : Nat} (hq : q ≤ 1000) : 0 ≤ nI q - 1 ↔ ¬ q = 0 := by
  rw [Int32.le_iff_toInt_le, nI_pred0 hq, show (0 : Int32).toInt = 0 from rfl]
  omega
set_option maxRecDepth 100000 in
theorem m_X7_isTape {G : WT} {l : Launch} (hG : GOK G) {h : Hp} {t : Int32} : Cl G l 2 yX7_isTape cX7_isTape 2 (some .boolean) [.ref (gA G 134), .int t] h (fun r h' => r = some (.int (b01 (dec t 6).isSome)) ∧ h' = h) := by
  refine Cl.of hG (by decide) (Nat.le_of_ble_eq_true rfl) ?_
  show Wp G l 2 RX7 cX7_isTape 2 (some .boolean) 0 [.ref (gA G 134), .int t] [] h _
  refine r_aload_n dX7_isTape_0 rfl ?_
  refine r_iload_n dX7_isTape_1 rfl ?_
  refine r_iconst (v := 0) dX7_isTape_2 (by decide) ?_
  refine r_iconst (v := 5) dX7_isTape_3 (by decide) ?_
  refine r_callV dX7_isTape_4 l_X7_212 o_X7_in v_X7_in rfl (by decide) rfl rfl (m_X7_in hG) (by decide) rfl (Nat.le_of_ble_eq_true rfl) (fun r4 h4 hq4 => ?_)
  obtain ⟨rfl, e4⟩ := hq4
  rw [e4]
  clear e4 h4
  rw [show inP t 0 5 = (dec t 6).isSome from inP_dec0 (c := 5) (by omega) rfl]
  refine r_ireturn dX7_isTape_7 ⟨_, rfl, (b01_nar _)⟩ ?_
  exact ⟨rfl, rfl⟩
set_option maxRecDepth 100000 in
theorem m_X7_narrow {G : WT} {l : Launch} (hG : GOK G) {h : Hp} {q : Nat} {z : Int64} (hq : q ≤ 5) (h0 : ¬ q = 0) : Cl G l 1 yX7_narrow cX7_narrow 4 (some .long) [.ref (gA G 134), .int (nI q - 1), .long z] h (fun r h' => r = some (.long (narS q z)) ∧ h' = h) := by
  refine Cl.of hG (by decide) (Nat.le_of_ble_eq_true rfl) ?_
  show Wp G l 1 RX7 cX7_narrow 4 (some .long) 0 [.ref (gA G 134), .int (nI q - 1), .long z, mk0] [] h _
  have c : q = 1 ∨ q = 2 ∨ q = 3 ∨ q = 4 ∨ q = 5 := by omega
  rcases c with rfl | rfl | rfl | rfl | rfl
  · refine r_iload_n dX7_narrow_0 rfl ?_
    refine r_if_ne (tgt := 11) dX7_narrow_1 (by decide) (fun c_1 => ?_) (fun c_1 => ?_)
    · exact absurd (by decide) c_1
    · refine r_lload_n dX7_narrow_4 rfl ?_
      refine r_l2i dX7_narrow_5 ?_
      refine r_i2b dX7_narrow_6 ?_
      refine r_i2l dX7_narrow_7 ?_
      refine r_goto (tgt := 54) dX7_narrow_8 (by decide) ?_
      refine r_lreturn dX7_narrow_54 rfl ?_
      exact ⟨rfl, rfl⟩
  · refine r_iload_n dX7_narrow_0 rfl ?_
    refine r_if_ne (tgt := 11) dX7_narrow_1 (by decide) (fun c_1 => ?_) (fun c_1 => ?_)
    · refine r_iload_n dX7_narrow_11 rfl ?_
      refine r_iconst (v := 1) dX7_narrow_12 (by decide) ?_
      refine r_icmp_ne (tgt := 23) dX7_narrow_13 (by decide) (fun c_13 => ?_) (fun c_13 => ?_)
      · exact absurd (by decide) c_13
      · refine r_lload_n dX7_narrow_16 rfl ?_
        refine r_l2i dX7_narrow_17 ?_
        refine r_i2s dX7_narrow_18 ?_
        refine r_i2l dX7_narrow_19 ?_
        refine r_goto (tgt := 54) dX7_narrow_20 (by decide) ?_
        refine r_lreturn dX7_narrow_54 rfl ?_
        exact ⟨rfl, rfl⟩
    · exact absurd c_1 (by decide)
  · refine r_iload_n dX7_narrow_0 rfl ?_
    refine r_if_ne (tgt := 11) dX7_narrow_1 (by decide) (fun c_1 => ?_) (fun c_1 => ?_)
    · refine r_iload_n dX7_narrow_11 rfl ?_
      refine r_iconst (v := 1) dX7_narrow_12 (by decide) ?_
      refine r_icmp_ne (tgt := 23) dX7_narrow_13 (by decide) (fun c_13 => ?_) (fun c_13 => ?_)
      · refine r_iload_n dX7_narrow_23 rfl ?_
        refine r_iconst (v := 2) dX7_narrow_24 (by decide) ?_
        refine r_icmp_ne (tgt := 34) dX7_narrow_25 (by decide) (fun c_25 => ?_) (fun c_25 => ?_)
        · exact absurd (by decide) c_25
        · refine r_lload_n dX7_narrow_28 rfl ?_
          refine r_l2i dX7_narrow_29 ?_
          refine r_i2l dX7_narrow_30 ?_
          refine r_goto (tgt := 54) dX7_narrow_31 (by decide) ?_
          refine r_lreturn dX7_narrow_54 rfl ?_
          exact ⟨rfl, rfl⟩
      · exact absurd c_13 (by decide)
    · exact absurd c_1 (by decide)
  · refine r_iload_n dX7_narrow_0 rfl ?_
    refine r_if_ne (tgt := 11) dX7_narrow_1 (by decide) (fun c_1 => ?_) (fun c_1 => ?_)
    · refine r_iload_n dX7_narrow_11 rfl ?_
      refine r_iconst (v := 1) dX7_narrow_12 (by decide) ?_
      refine r_icmp_ne (tgt := 23) dX7_narrow_13 (by decide) (fun c_13 => ?_) (fun c_13 => ?_)
      · refine r_iload_n dX7_narrow_23 rfl ?_
        refine r_iconst (v := 2) dX7_narrow_24 (by decide) ?_
        refine r_icmp_ne (tgt := 34) dX7_narrow_25 (by decide) (fun c_25 => ?_) (fun c_25 => ?_)
        · refine r_iload_n dX7_narrow_34 rfl ?_
          refine r_iconst (v := 4) dX7_narrow_35 (by decide) ?_
          refine r_icmp_ne (tgt := 53) dX7_narrow_36 (by decide) (fun c_36 => ?_) (fun c_36 => ?_)
          · refine r_lload_n dX7_narrow_53 rfl ?_
            refine r_lreturn dX7_narrow_54 rfl ?_
            exact ⟨rfl, rfl⟩
          · exact absurd c_36 (by decide)
        · exact absurd c_25 (by decide)
      · exact absurd c_13 (by decide)
    · exact absurd c_1 (by decide)
  · have e : narS 5 z = if z = 0 then 0 else 1 := rfl
    refine r_iload_n dX7_narrow_0 rfl ?_
    refine r_if_ne (tgt := 11) dX7_narrow_1 (by decide) (fun c_1 => ?_) (fun c_1 => ?_)
    · refine r_iload_n dX7_narrow_11 rfl ?_
      refine r_iconst (v := 1) dX7_narrow_12 (by decide) ?_
      refine r_icmp_ne (tgt := 23) dX7_narrow_13 (by decide) (fun c_13 => ?_) (fun c_13 => ?_)
      · refine r_iload_n dX7_narrow_23 rfl ?_
        refine r_iconst (v := 2) dX7_narrow_24 (by decide) ?_
        refine r_icmp_ne (tgt := 34) dX7_narrow_25 (by decide) (fun c_25 => ?_) (fun c_25 => ?_)
        · refine r_iload_n dX7_narrow_34 rfl ?_
          refine r_iconst (v := 4) dX7_narrow_35 (by decide) ?_
          refine r_icmp_ne (tgt := 53) dX7_narrow_36 (by decide) (fun c_36 => ?_) (fun c_36 => ?_)
          · exact absurd (by decide) c_36
          · refine r_lload_n dX7_narrow_39 rfl ?_
            refine r_lconst (v := 0) dX7_narrow_40 (by decide) ?_
            refine r_lcmp dX7_narrow_41 ?_
            refine r_if_eq (tgt := 49) dX7_narrow_42 (by decide) (fun c_42 => ?_) (fun c_42 => ?_)
            · refine r_lconst (v := 0) dX7_narrow_49 (by decide) ?_
              refine r_goto (tgt := 54) dX7_narrow_50 (by decide) ?_
              refine r_lreturn dX7_narrow_54 rfl ?_
              exact ⟨by rw [e, if_pos (lcmp_0.mp c_42)], rfl⟩
            · refine r_lconst (v := 1) dX7_narrow_45 (by decide) ?_
              refine r_goto (tgt := 54) dX7_narrow_46 (by decide) ?_
              refine r_lreturn dX7_narrow_54 rfl ?_
              exact ⟨by rw [e, if_neg (fun y => c_42 (lcmp_0.mpr y))], rfl⟩
        · exact absurd c_25 (by decide)
      · exact absurd c_13 (by decide)
    · exact absurd c_1 (by decide)
set_option maxRecDepth 100000 in
theorem m_X7_read {G : WT} {l : Launch} (hG : GOK G) {h : Hp} {P : Tp} {t i : Int32} (H : RTp h P) (hP : TpOK P) : Cl G l 3 yX7_read cX7_read 3 (some .long) [.ref (gA G 134), .int t, .int i] h (fun r h' => r = some (.long (readA P t i)) ∧ h' = h) := by
  refine Cl.of hG (by decide) (Nat.le_of_ble_eq_true rfl) ?_
  show Wp G l 3 RX7 cX7_read 3 (some .long) 0 [.ref (gA G 134), .int t, .int i] [] h _
  cases ht : dec t 6 with
  | none =>
    refine r_aload_n dX7_read_0 rfl ?_
    refine r_iload_n dX7_read_1 rfl ?_
    refine r_callV dX7_read_2 l_X7_384 o_X7_isTape v_X7_isTape rfl (by decide) rfl rfl (m_X7_isTape hG) (by decide) rfl (Nat.le_of_ble_eq_true rfl) (fun r2 h2 hq2 => ?_)
    obtain ⟨rfl, e2⟩ := hq2
    rw [e2]
    clear e2 h2
    refine r_if_eq (tgt := 34) dX7_read_5 (by decide) (fun c_5 => ?_) (fun c_5 => ?_)
    · refine r_ldc2 dX7_read_34 n_X7_378 ?_
      refine r_goto (tgt := 51) dX7_read_37 (by decide) ?_
      refine r_lreturn dX7_read_51 rfl ?_
      exact ⟨by rw [readA, ht], rfl⟩
    · exact absurd (by rw [ht]; rfl) c_5
  | some t1 =>
    obtain ⟨ht1, rfl, -⟩ := dec_some.mp ht
    obtain ⟨p1, p2, p3⟩ := hP t1 ht1
    obtain ⟨q1, q2, q3⟩ := H t1 ht1
    by_cases h0 : (P t1).1 = 0
    · refine r_aload_n dX7_read_0 rfl ?_
      refine r_iload_n dX7_read_1 rfl ?_
      refine r_callV dX7_read_2 l_X7_384 o_X7_isTape v_X7_isTape rfl (by decide) rfl rfl (m_X7_isTape hG) (by decide) rfl (Nat.le_of_ble_eq_true rfl) (fun r2 h2 hq2 => ?_)
      obtain ⟨rfl, e2⟩ := hq2
      rw [e2]
      clear e2 h2
      refine r_if_eq (tgt := 34) dX7_read_5 (by decide) (fun c_5 => ?_) (fun c_5 => ?_)
      · exact absurd c_5 (b01_n0.mpr (by rw [ht]; rfl))
      · refine r_aload_n dX7_read_8 rfl ?_
        refine r_getR (j := 168) dX7_read_9 k_X7_199 rfl (by decide) rfl rfl ?_
        refine r_iload_n dX7_read_12 rfl ?_
        refine r_iald (t1) dX7_read_13 rfl rfl (show t1 < 6 by omega) ?_
        rw [q1]
        refine r_if_lt (tgt := 34) dX7_read_14 (by decide) (fun c_14 => ?_) (fun c_14 => ?_)
        · refine r_ldc2 dX7_read_34 n_X7_378 ?_
          refine r_goto (tgt := 51) dX7_read_37 (by decide) ?_
          refine r_lreturn dX7_read_51 rfl ?_
          have e : dec i (P t1).2.1 = none := by
            rw [p3 h0]
            exact dec_none.mpr (by omega)
          exact ⟨by rw [readA, ht]; show _ = some (Value.long (match dec i (P t1).2.1 with | none => _ | some i => _)); rw [e], rfl⟩
        · exact absurd ((sort_lt (by omega)).mpr h0) c_14
    · have es : readA P (nI t1) i = match dec i (P t1).2.1 with | none => -9223372036854775808 | some i => (P t1).2.2 i := by rw [readA, ht]
      cases hi : dec i (P t1).2.1 with
      | none =>
        refine r_aload_n dX7_read_0 rfl ?_
        refine r_iload_n dX7_read_1 rfl ?_
        refine r_callV dX7_read_2 l_X7_384 o_X7_isTape v_X7_isTape rfl (by decide) rfl rfl (m_X7_isTape hG) (by decide) rfl (Nat.le_of_ble_eq_true rfl) (fun r2 h2 hq2 => ?_)
        obtain ⟨rfl, e2⟩ := hq2
        rw [e2]
        clear e2 h2
        refine r_if_eq (tgt := 34) dX7_read_5 (by decide) (fun c_5 => ?_) (fun c_5 => ?_)
        · exact absurd c_5 (b01_n0.mpr (by rw [ht]; rfl))
        · refine r_aload_n dX7_read_8 rfl ?_
          refine r_getR (j := 168) dX7_read_9 k_X7_199 rfl (by decide) rfl rfl ?_
          refine r_iload_n dX7_read_12 rfl ?_
          refine r_iald (t1) dX7_read_13 rfl rfl (show t1 < 6 by omega) ?_
          rw [q1]
          refine r_if_lt (tgt := 34) dX7_read_14 (by decide) (fun c_14 => ?_) (fun c_14 => ?_)
          · exact absurd ((sort_lt (by omega)).mp c_14) h0
          · refine r_aload_n dX7_read_17 rfl ?_
            refine r_iload_n dX7_read_18 rfl ?_
            refine r_iconst (v := 0) dX7_read_19 (by decide) ?_
            refine r_aload_n dX7_read_20 rfl ?_
            refine r_getR (j := 169) dX7_read_21 k_X7_202 rfl (by decide) rfl rfl ?_
            refine r_iload_n dX7_read_24 rfl ?_
            refine r_iald (t1) dX7_read_25 rfl rfl (show t1 < 6 by omega) ?_
            rw [q2]
            refine r_iconst (v := 1) dX7_read_26 (by decide) ?_
            refine r_isub dX7_read_27 ?_
            refine r_callV dX7_read_28 l_X7_212 o_X7_in v_X7_in rfl (by decide) rfl rfl (m_X7_in hG) (by decide) rfl (Nat.le_of_ble_eq_true rfl) (fun r28 h28 hq28 => ?_)
            obtain ⟨rfl, e28⟩ := hq28
            rw [e28]
            clear e28 h28
            rw [isE_dec (by omega), hi]
            refine r_if_ne (tgt := 40) dX7_read_31 (by decide) (fun c_31 => ?_) (fun c_31 => ?_)
            · exact absurd rfl c_31
            · refine r_ldc2 dX7_read_34 n_X7_378 ?_
              refine r_goto (tgt := 51) dX7_read_37 (by decide) ?_
              refine r_lreturn dX7_read_51 rfl ?_
              exact ⟨by rw [es, hi], rfl⟩
      | some i1 =>
        obtain ⟨hi1, rfl, -⟩ := dec_some.mp hi
        refine r_aload_n dX7_read_0 rfl ?_
        refine r_iload_n dX7_read_1 rfl ?_
        refine r_callV dX7_read_2 l_X7_384 o_X7_isTape v_X7_isTape rfl (by decide) rfl rfl (m_X7_isTape hG) (by decide) rfl (Nat.le_of_ble_eq_true rfl) (fun r2 h2 hq2 => ?_)
        obtain ⟨rfl, e2⟩ := hq2
        rw [e2]
        clear e2 h2
        refine r_if_eq (tgt := 34) dX7_read_5 (by decide) (fun c_5 => ?_) (fun c_5 => ?_)
        · exact absurd c_5 (b01_n0.mpr (by rw [ht]; rfl))
        · refine r_aload_n dX7_read_8 rfl ?_
          refine r_getR (j := 168) dX7_read_9 k_X7_199 rfl (by decide) rfl rfl ?_
          refine r_iload_n dX7_read_12 rfl ?_
          refine r_iald (t1) dX7_read_13 rfl rfl (show t1 < 6 by omega) ?_
          rw [q1]
          refine r_if_lt (tgt := 34) dX7_read_14 (by decide) (fun c_14 => ?_) (fun c_14 => ?_)
          · exact absurd ((sort_lt (by omega)).mp c_14) h0
          · refine r_aload_n dX7_read_17 rfl ?_
            refine r_iload_n dX7_read_18 rfl ?_
            refine r_iconst (v := 0) dX7_read_19 (by decide) ?_
            refine r_aload_n dX7_read_20 rfl ?_
            refine r_getR (j := 169) dX7_read_21 k_X7_202 rfl (by decide) rfl rfl ?_
            refine r_iload_n dX7_read_24 rfl ?_
            refine r_iald (t1) dX7_read_25 rfl rfl (show t1 < 6 by omega) ?_
            rw [q2]
            refine r_iconst (v := 1) dX7_read_26 (by decide) ?_
            refine r_isub dX7_read_27 ?_
            refine r_callV dX7_read_28 l_X7_212 o_X7_in v_X7_in rfl (by decide) rfl rfl (m_X7_in hG) (by decide) rfl (Nat.le_of_ble_eq_true rfl) (fun r28 h28 hq28 => ?_)
            obtain ⟨rfl, e28⟩ := hq28
            rw [e28]
            clear e28 h28
            rw [isE_dec (by omega), hi]
            refine r_if_ne (tgt := 40) dX7_read_31 (by decide) (fun c_31 => ?_) (fun c_31 => ?_)
            · refine r_aload_n dX7_read_40 rfl ?_
              refine r_getR (j := 170) dX7_read_41 k_X7_205 rfl (by decide) rfl rfl ?_
              refine r_bipush (v := 60) dX7_read_44 (by decide) ?_
              refine r_iload_n dX7_read_46 rfl ?_
              refine r_imul dX7_read_47 ?_
              refine r_iload_n dX7_read_48 rfl ?_
              refine r_iadd dX7_read_49 ?_
              refine r_lald (60 * t1 + i1) dX7_read_50 rfl (by rw [show (60 : Int32) = nI 60 from rfl, pk_mul, nI_add]) (show 60 * t1 + i1 < 360 by omega) ?_
              rw [q3 i1 (by omega)]
              refine r_lreturn dX7_read_51 rfl ?_
              exact ⟨by rw [es, hi], rfl⟩
            · exact absurd c_31 (b01_n0.mpr rfl)
theorem RTp.set {h : Hp} {P : Tp} {t i : Nat} {z : Int64} (H : RTp h P) (ht : t < 6) (hi : i < 60) : RTp (setL h 170 (60 * t + i) z) (updP P t ((P t).1, (P t).2.1, fun k => if k = i then z else (P t).2.2 k)) := by
  intro o ho
  obtain ⟨q1, q2, q3⟩ := H o ho
  unfold updP
  by_cases hot : o = t
  · subst hot
    rw [if_pos rfl]
    refine ⟨q1, q2, fun k hk => ?_⟩
    rw [setL_2]
    by_cases hki : k = i
    · rw [if_pos ⟨rfl, by omega⟩]; exact (if_pos hki).symm
    · rw [if_neg (fun y => hki (by omega)), q3 k hk]; exact (if_neg hki).symm
  · rw [if_neg hot]
    refine ⟨q1, q2, fun k hk => ?_⟩
    rw [setL_2, if_neg (fun y => by omega)]
    exact q3 k hk
theorem FrL.setL {h : Hp} {a i : Nat} {z : Int64} (ha : a = 170 ∨ a = 171) : FrL h (setL h a i z) := ⟨fun _ _ _ _ => rfl, fun b j q1 q2 => by rw [setL_2, if_neg (by omega)], rfl⟩
theorem FrL.setI {h : Hp} {a i : Nat} {z : Int32} (ha : a = 168 ∨ a = 169) : FrL h (setI h a i z) := ⟨fun b j q1 q2 => by rw [setI_1, if_neg (by omega)], fun _ _ _ _ => rfl, rfl⟩
set_option maxRecDepth 100000 in
theorem m_X7_item {G : WT} {l : Launch} (hG : GOK G) {h : Hp} {P : Tp} {t i : Int32} {z : Int64} (H : RTp h P) (hP : TpOK P) : Cl G l 3 yX7_item cX7_item 5 (some .int) [.ref (gA G 134), .int t, .int i, .long z] h (fun r h' => r = some (.int (itemS P t i z).1) ∧ RTp h' (itemS P t i z).2 ∧ TpOK (itemS P t i z).2 ∧ FrL h h') := by
  refine Cl.of hG (by decide) (Nat.le_of_ble_eq_true rfl) ?_
  show Wp G l 3 RX7 cX7_item 5 (some .int) 0 [.ref (gA G 134), .int t, .int i, .long z, mk0] [] h _
  cases ht : dec t 6 with
  | none =>
    refine r_aload_n dX7_item_0 rfl ?_
    refine r_iload_n dX7_item_1 rfl ?_
    refine r_callV dX7_item_2 l_X7_384 o_X7_isTape v_X7_isTape rfl (by decide) rfl rfl (m_X7_isTape hG) (by decide) rfl (Nat.le_of_ble_eq_true rfl) (fun r2 h2 hq2 => ?_)
    obtain ⟨rfl, e2⟩ := hq2
    rw [e2]
    clear e2 h2
    refine r_if_ne (tgt := 10) dX7_item_5 (by decide) (fun c_5 => ?_) (fun c_5 => ?_)
    · exact absurd (by rw [ht]; rfl) c_5
    · refine r_iconst (v := -1) dX7_item_8 (by decide) ?_
      refine r_ireturn dX7_item_9 ⟨_, rfl, rfl⟩ ?_
      rw [itemS, ht]
      exact ⟨rfl, H, hP, FrL.rf⟩
  | some t1 =>
    obtain ⟨ht1, rfl, -⟩ := dec_some.mp ht
    obtain ⟨p1, p2, p3⟩ := hP t1 ht1
    obtain ⟨q1, q2, q3⟩ := H t1 ht1
    have es : itemS P (nI t1) i z = if (P t1).1 = 0 then ((-11 : Int32), P) else match dec i (P t1).2.1 with | none => ((-13 : Int32), P) | some i => ((1 : Int32), updP P t1 ((P t1).1, (P t1).2.1, fun k => if k = i then narS (P t1).1 z else (P t1).2.2 k)) := by rw [itemS, ht]
    by_cases h0 : (P t1).1 = 0
    · refine r_aload_n dX7_item_0 rfl ?_
      refine r_iload_n dX7_item_1 rfl ?_
      refine r_callV dX7_item_2 l_X7_384 o_X7_isTape v_X7_isTape rfl (by decide) rfl rfl (m_X7_isTape hG) (by decide) rfl (Nat.le_of_ble_eq_true rfl) (fun r2 h2 hq2 => ?_)
      obtain ⟨rfl, e2⟩ := hq2
      rw [e2]
      clear e2 h2
      refine r_if_ne (tgt := 10) dX7_item_5 (by decide) (fun c_5 => ?_) (fun c_5 => ?_)
      · refine r_aload_n dX7_item_10 rfl ?_
        refine r_getR (j := 168) dX7_item_11 k_X7_199 rfl (by decide) rfl rfl ?_
        refine r_iload_n dX7_item_14 rfl ?_
        refine r_iald (t1) dX7_item_15 rfl rfl (show t1 < 6 by omega) ?_
        rw [q1]
        refine r_if_ge (tgt := 22) dX7_item_16 (by decide) (fun c_16 => ?_) (fun c_16 => ?_)
        · exact absurd h0 ((sort_ge (by omega)).mp c_16)
        · refine r_bipush (v := -11) dX7_item_19 (by decide) ?_
          refine r_ireturn dX7_item_21 ⟨_, rfl, rfl⟩ ?_
          rw [es, if_pos h0]
          exact ⟨rfl, H, hP, FrL.rf⟩
      · exact absurd c_5 (b01_n0.mpr (by rw [ht]; rfl))
    · rw [if_neg h0] at es
      cases hi : dec i (P t1).2.1 with
      | none =>
        rw [hi] at es
        refine r_aload_n dX7_item_0 rfl ?_
        refine r_iload_n dX7_item_1 rfl ?_
        refine r_callV dX7_item_2 l_X7_384 o_X7_isTape v_X7_isTape rfl (by decide) rfl rfl (m_X7_isTape hG) (by decide) rfl (Nat.le_of_ble_eq_true rfl) (fun r2 h2 hq2 => ?_)
        obtain ⟨rfl, e2⟩ := hq2
        rw [e2]
        clear e2 h2
        refine r_if_ne (tgt := 10) dX7_item_5 (by decide) (fun c_5 => ?_) (fun c_5 => ?_)
        · refine r_aload_n dX7_item_10 rfl ?_
          refine r_getR (j := 168) dX7_item_11 k_X7_199 rfl (by decide) rfl rfl ?_
          refine r_iload_n dX7_item_14 rfl ?_
          refine r_iald (t1) dX7_item_15 rfl rfl (show t1 < 6 by omega) ?_
          rw [q1]
          refine r_if_ge (tgt := 22) dX7_item_16 (by decide) (fun c_16 => ?_) (fun c_16 => ?_)
          · refine r_aload_n dX7_item_22 rfl ?_
            refine r_iload_n dX7_item_23 rfl ?_
            refine r_iconst (v := 0) dX7_item_24 (by decide) ?_
            refine r_aload_n dX7_item_25 rfl ?_
            refine r_getR (j := 169) dX7_item_26 k_X7_202 rfl (by decide) rfl rfl ?_
            refine r_iload_n dX7_item_29 rfl ?_
            refine r_iald (t1) dX7_item_30 rfl rfl (show t1 < 6 by omega) ?_
            rw [q2]
            refine r_iconst (v := 1) dX7_item_31 (by decide) ?_
            refine r_isub dX7_item_32 ?_
            refine r_callV dX7_item_33 l_X7_212 o_X7_in v_X7_in rfl (by decide) rfl rfl (m_X7_in hG) (by decide) rfl (Nat.le_of_ble_eq_true rfl) (fun r33 h33 hq33 => ?_)
            obtain ⟨rfl, e33⟩ := hq33
            rw [e33]
            clear e33 h33
            rw [isE_dec (by omega), hi]
            refine r_if_ne (tgt := 42) dX7_item_36 (by decide) (fun c_36 => ?_) (fun c_36 => ?_)
            · exact absurd rfl c_36
            · refine r_bipush (v := -13) dX7_item_39 (by decide) ?_
              refine r_ireturn dX7_item_41 ⟨_, rfl, rfl⟩ ?_
              rw [es]
              exact ⟨rfl, H, hP, FrL.rf⟩
          · exact absurd ((sort_ge (by omega)).mpr h0) c_16
        · exact absurd c_5 (b01_n0.mpr (by rw [ht]; rfl))
      | some i1 =>
        obtain ⟨hi1, rfl, -⟩ := dec_some.mp hi
        rw [hi] at es
        refine r_aload_n dX7_item_0 rfl ?_
        refine r_iload_n dX7_item_1 rfl ?_
        refine r_callV dX7_item_2 l_X7_384 o_X7_isTape v_X7_isTape rfl (by decide) rfl rfl (m_X7_isTape hG) (by decide) rfl (Nat.le_of_ble_eq_true rfl) (fun r2 h2 hq2 => ?_)
        obtain ⟨rfl, e2⟩ := hq2
        rw [e2]
        clear e2 h2
        refine r_if_ne (tgt := 10) dX7_item_5 (by decide) (fun c_5 => ?_) (fun c_5 => ?_)
        · refine r_aload_n dX7_item_10 rfl ?_
          refine r_getR (j := 168) dX7_item_11 k_X7_199 rfl (by decide) rfl rfl ?_
          refine r_iload_n dX7_item_14 rfl ?_
          refine r_iald (t1) dX7_item_15 rfl rfl (show t1 < 6 by omega) ?_
          rw [q1]
          refine r_if_ge (tgt := 22) dX7_item_16 (by decide) (fun c_16 => ?_) (fun c_16 => ?_)
          · refine r_aload_n dX7_item_22 rfl ?_
            refine r_iload_n dX7_item_23 rfl ?_
            refine r_iconst (v := 0) dX7_item_24 (by decide) ?_
            refine r_aload_n dX7_item_25 rfl ?_
            refine r_getR (j := 169) dX7_item_26 k_X7_202 rfl (by decide) rfl rfl ?_
            refine r_iload_n dX7_item_29 rfl ?_
            refine r_iald (t1) dX7_item_30 rfl rfl (show t1 < 6 by omega) ?_
            rw [q2]
            refine r_iconst (v := 1) dX7_item_31 (by decide) ?_
            refine r_isub dX7_item_32 ?_
            refine r_callV dX7_item_33 l_X7_212 o_X7_in v_X7_in rfl (by decide) rfl rfl (m_X7_in hG) (by decide) rfl (Nat.le_of_ble_eq_true rfl) (fun r33 h33 hq33 => ?_)
            obtain ⟨rfl, e33⟩ := hq33
            rw [e33]
            clear e33 h33
            rw [isE_dec (by omega), hi]
            refine r_if_ne (tgt := 42) dX7_item_36 (by decide) (fun c_36 => ?_) (fun c_36 => ?_)
            · refine r_aload_n dX7_item_42 rfl ?_
              refine r_getR (j := 170) dX7_item_43 k_X7_205 rfl (by decide) rfl rfl ?_
              refine r_bipush (v := 60) dX7_item_46 (by decide) ?_
              refine r_iload_n dX7_item_48 rfl ?_
              refine r_imul dX7_item_49 ?_
              refine r_iload_n dX7_item_50 rfl ?_
              refine r_iadd dX7_item_51 ?_
              refine r_aload_n dX7_item_52 rfl ?_
              refine r_aload_n dX7_item_53 rfl ?_
              refine r_getR (j := 168) dX7_item_54 k_X7_199 rfl (by decide) rfl rfl ?_
              refine r_iload_n dX7_item_57 rfl ?_
              refine r_iald (t1) dX7_item_58 rfl rfl (show t1 < 6 by omega) ?_
              refine r_lload_n dX7_item_59 rfl ?_
              rw [q1]
              refine r_callV dX7_item_60 l_X7_411 o_X7_narrow v_X7_narrow rfl (by decide) rfl rfl (m_X7_narrow hG p1 h0) (by decide) rfl (Nat.le_of_ble_eq_true rfl) (fun r60 h60 hq60 => ?_)
              obtain ⟨rfl, e60⟩ := hq60
              rw [e60]
              clear e60 h60
              refine r_last (60 * t1 + i1) dX7_item_63 rfl (by rw [show (60 : Int32) = nI 60 from rfl, pk_mul, nI_add]) (show 60 * t1 + i1 < 360 by omega) ?_
              refine r_iconst (v := 1) dX7_item_64 (by decide) ?_
              refine r_ireturn dX7_item_65 ⟨_, rfl, rfl⟩ ?_
              rw [es]
              refine ⟨rfl, H.set ht1 (by omega), fun o ho => ?_, FrL.setL (Or.inl rfl)⟩
              show (updP P t1 _ o).1 ≤ 5 ∧ (updP P t1 _ o).2.1 ≤ 60 ∧ ((updP P t1 _ o).1 = 0 → (updP P t1 _ o).2.1 = 0)
              unfold updP
              by_cases hot : o = t1
              · rw [if_pos hot]; exact ⟨p1, p2, p3⟩
              · rw [if_neg hot]; exact hP o ho
            · exact absurd c_36 (b01_n0.mpr rfl)
          · exact absurd ((sort_ge (by omega)).mpr h0) c_16
        · exact absurd c_5 (b01_n0.mpr (by rw [ht]; rfl))
