/-! tape -/
theorem tape_P {h : Hp} {P : Tp} {t q m : Nat} {s n : Int32} (H : DTp h P) (hP : TpOK P) (ht : t < 6) (es : s = nI q - 1) (en : n = nI m) (hq : q ≤ 5) (hm : m ≤ 60) (h0 : q = 0 → m = 0) : DTp (rowL (setI (setI h (122 + 2 * t) 1 s) (122 + 2 * t) 2 n) (122 + 2 * t + 1) (fun j => if j < lnt (122 + 2 * t + 1) then 0 else (setI (setI h (122 + 2 * t) 1 s) (122 + 2 * t) 2 n).2.1 (122 + 2 * t + 1) j)) (updP P t (q, m, fun _ => 0)) ∧ TpOK (updP P t (q, m, fun _ => 0)) ∧ FrT h (rowL (setI (setI h (122 + 2 * t) 1 s) (122 + 2 * t) 2 n) (122 + 2 * t + 1) (fun j => if j < lnt (122 + 2 * t + 1) then 0 else (setI (setI h (122 + 2 * t) 1 s) (122 + 2 * t) 2 n).2.1 (122 + 2 * t + 1) j)) := by
  have s4 : lnt (122 + 2 * t + 1) = 60 := ln_P (tp_s ht).2
  refine ⟨H.up ⟨?_, ?_, fun k hk => ?_⟩ (fun o i ho => ⟨?_, ?_⟩), hP.up ⟨hq, hm, h0⟩, fun a i ha => ?_, fun a i ha => ?_, rfl⟩
  · rw [rowL_1, setI_nj (by decide), setI_at]; exact es
  · rw [rowL_1, setI_at]; exact en
  · rw [rowL_2, if_pos (by omega), if_pos (by omega)]
  · rw [rowL_1, setI_ne (by omega), setI_ne (by omega)]
  · rw [rowL_2, if_neg (by omega)]; rfl
  · rw [rowL_1, setI_ne (by omega), setI_ne (by omega)]
  · rw [rowL_2, if_neg (by omega)]; rfl
set_option maxRecDepth 100000 in
theorem m_X6_tape {G : WT} {l : Launch} (hG : GOK G) {h : Hp} {P : Tp} {t s n : Int32} (H : DTp h P) (hP : TpOK P) : Cl G l 3 yX6_tape cX6_tape 4 (some .int) [.ref (gA G 0), .int t, .int s, .int n] h (fun r h' => r = some (.int (tapeS P t s n).1) ∧ DTp h' (tapeS P t s n).2 ∧ TpOK (tapeS P t s n).2 ∧ FrT h h') := by
  refine Cl.of hG (by decide) (Nat.le_of_ble_eq_true rfl) ?_
  show Wp G l 3 RX6 cX6_tape 4 (some .int) 0 [.ref (gA G 0), .int t, .int s, .int n] [] h _
  cases ht : dec t 6 with
  | none =>
    have es : tapeS P t s n = (-1, P) := by rw [tapeS, ht]
    rw [es]
    refine r_iload_n dX6_tape_0 rfl ?_
    refine r_iconst (v := 5) dX6_tape_1 (by decide) ?_
    rw [show (5 : Int32) = nI 5 from rfl]
    refine r_callS dX6_tape_2 l_X6_78 o_X6_within s_X6_within rfl (m_X6_within hG (x := t) (m := 5) (by omega)) (by decide) rfl (Nat.le_of_ble_eq_true rfl) (fun r2 h2 hq2 => ?_)
    obtain ⟨rfl, rfl⟩ := hq2
    rw [ht]
    refine r_if_ne (tgt := 10) dX6_tape_5 (by decide) (fun c_5 => ?_) (fun c_5 => ?_)
    · exact absurd none_f c_5
    · refine r_iconst (v := -1) dX6_tape_8 (by decide) ?_
      refine r_ireturn dX6_tape_9 ⟨_, rfl, rfl⟩ ?_
      exact ⟨rfl, H, hP, FrT.rf⟩
  | some t1 =>
    obtain ⟨ht1, rfl, -⟩ := dec_some.mp ht
    obtain ⟨s1, s2⟩ := tp_s ht1
    have k0 : (0 : Int32).toInt = 0 := rfl
    have k1 : (-1 : Int32).toInt = -1 := rfl
    have k4 : (4 : Int32).toInt = 4 := rfl
    have k60 : (60 : Int32).toInt = 60 := rfl
    cases hs : sortD s with
    | none =>
      have es : tapeS P (nI t1) s n = (-2, P) := by rw [tapeS, ht, hs]
      rw [es]
      have hin : ¬ (-1 ≤ s.toInt ∧ s.toInt ≤ 4) := fun y => by
        unfold sortD at hs
        by_cases hm : s = -1
        · rw [if_pos hm] at hs; cases hs
        · rw [if_neg hm] at hs
          have z1 := lv_neT hm (a := -1) rfl
          cases hd : dec s 5 with
          | some j => rw [hd] at hs; cases hs
          | none =>
            have q9 := dec_none.mp hd
            omega
      refine r_iload_n dX6_tape_0 rfl ?_
      refine r_iconst (v := 5) dX6_tape_1 (by decide) ?_
      rw [show (5 : Int32) = nI 5 from rfl]
      refine r_callS dX6_tape_2 l_X6_78 o_X6_within s_X6_within rfl (m_X6_within hG (x := nI t1) (m := 5) (by omega)) (by decide) rfl (Nat.le_of_ble_eq_true rfl) (fun r2 h2 hq2 => ?_)
      obtain ⟨rfl, rfl⟩ := hq2
      rw [ht]
      refine r_if_ne (tgt := 10) dX6_tape_5 (by decide) (fun c_5 => ?_) (fun c_5 => ?_)
      · refine r_iload_n dX6_tape_10 rfl ?_
        refine r_iconst (v := -1) dX6_tape_11 (by decide) ?_
        refine r_icmp_lt (tgt := 30) dX6_tape_12 (by decide) (fun c_12 => ?_) (fun c_12 => ?_)
        · refine r_bipush (v := -2) dX6_tape_30 (by decide) ?_
          refine r_ireturn dX6_tape_32 ⟨_, rfl, rfl⟩ ?_
          exact ⟨rfl, H, hP, FrT.rf⟩
        · refine r_iload_n dX6_tape_15 rfl ?_
          refine r_iconst (v := 4) dX6_tape_16 (by decide) ?_
          refine r_icmp_gt (tgt := 30) dX6_tape_17 (by decide) (fun c_17 => ?_) (fun c_17 => ?_)
          · refine r_bipush (v := -2) dX6_tape_30 (by decide) ?_
            refine r_ireturn dX6_tape_32 ⟨_, rfl, rfl⟩ ?_
            exact ⟨rfl, H, hP, FrT.rf⟩
          · exfalso
            have z1 : ¬ s.toInt < -1 := fun y => c_12 (by rw [Int32.lt_iff_toInt_lt, k1]; exact y)
            have z2 : ¬ 4 < s.toInt := fun y => c_17 (by rw [Int32.lt_iff_toInt_lt, k4]; exact y)
            omega
            skip
      · exact absurd c_5 some_t
    | some q =>
      obtain ⟨hq, rfl⟩ := sortD_v hs
      have es : tapeS P (nI t1) (nI q - 1) n = if q = 0 then ((1 : Int32), updP P t1 (0, 0, fun _ => 0)) else if 60 < n.toInt then ((-2 : Int32), P) else if n.toInt < 0 then ((-14 : Int32), P) else ((1 : Int32), updP P t1 (q, n.toInt.toNat, fun _ => 0)) := by rw [tapeS, ht, hs]
      have n12 : ¬ nI q - 1 < -1 := fun y => by
        have := Int32.lt_iff_toInt_lt.mp y
        rw [nI_pred0 (by omega), k1] at this
        omega
      have n17 : ¬ 4 < nI q - 1 := fun y => by
        have := Int32.lt_iff_toInt_lt.mp y
        rw [nI_pred0 (by omega), k4] at this
        omega
      rw [es]
      by_cases h0 : q = 0
      · subst h0
        rw [if_pos rfl]
        refine r_iload_n dX6_tape_0 rfl ?_
        refine r_iconst (v := 5) dX6_tape_1 (by decide) ?_
        rw [show (5 : Int32) = nI 5 from rfl]
        refine r_callS dX6_tape_2 l_X6_78 o_X6_within s_X6_within rfl (m_X6_within hG (x := nI t1) (m := 5) (by omega)) (by decide) rfl (Nat.le_of_ble_eq_true rfl) (fun r2 h2 hq2 => ?_)
        obtain ⟨rfl, rfl⟩ := hq2
        rw [ht]
        refine r_if_ne (tgt := 10) dX6_tape_5 (by decide) (fun c_5 => ?_) (fun c_5 => ?_)
        · refine r_iload_n dX6_tape_10 rfl ?_
          refine r_iconst (v := -1) dX6_tape_11 (by decide) ?_
          refine r_icmp_lt (tgt := 30) dX6_tape_12 (by decide) (fun c_12 => ?_) (fun c_12 => ?_)
          · exact absurd c_12 n12
          · refine r_iload_n dX6_tape_15 rfl ?_
            refine r_iconst (v := 4) dX6_tape_16 (by decide) ?_
            refine r_icmp_gt (tgt := 30) dX6_tape_17 (by decide) (fun c_17 => ?_) (fun c_17 => ?_)
            · exact absurd c_17 n17
            · refine r_iload_n dX6_tape_20 rfl ?_
              refine r_if_lt (tgt := 33) dX6_tape_21 (by decide) (fun c_21 => ?_) (fun c_21 => ?_)
              · refine r_iload_n dX6_tape_33 rfl ?_
                refine r_if_lt (tgt := 44) dX6_tape_34 (by decide) (fun c_34 => ?_) (fun c_34 => ?_)
                · refine r_aload_n dX6_tape_44 rfl ?_
                  refine r_getR (j := 34) dX6_tape_45 k_X6_58 rfl (by decide) rfl rfl ?_
                  refine r_iload_n dX6_tape_48 rfl ?_
                  refine r_aald (t1) dX6_tape_49 rfl (by decide) rfl (show t1 < 6 by omega) ?_
                  rw [s1]
                  refine r_iload_n dX6_tape_50 rfl ?_
                  refine r_iload_n dX6_tape_51 rfl ?_
                  refine r_if_lt (tgt := 59) dX6_tape_52 (by decide) (fun c_52 => ?_) (fun c_52 => ?_)
                  · refine r_iconst (v := 0) dX6_tape_59 (by decide) ?_
                    refine r_callV dX6_tape_60 l_X6_291 o_X5_becomesEmpty v_X5_becomesEmpty (by assumption) (by decide) rfl rfl (m_X5_becomesEmpty hG s2) (by decide) rfl (Nat.le_of_ble_eq_true rfl) (fun r60 h60 hq60 => ?_)
                    obtain ⟨rfl, rfl⟩ := hq60
                    refine r_iconst (v := 1) dX6_tape_63 (by decide) ?_
                    refine r_ireturn dX6_tape_64 ⟨_, rfl, rfl⟩ ?_
                    exact ⟨rfl, tape_P H hP ht1 rfl rfl (by omega) (by omega) (fun _ => rfl)⟩
                  · exact absurd ((sort_lt (by omega)).mpr rfl) c_52
                · exact absurd ((sort_lt (by omega)).mpr rfl) c_34
              · exact absurd ((sort_lt (by omega)).mpr rfl) c_21
        · exact absurd c_5 some_t
      · have c21 : ¬ nI q - 1 < 0 := fun y => h0 ((sort_lt (by omega)).mp y)
        rw [if_neg h0]
        by_cases h60 : 60 < n.toInt
        · rw [if_pos h60]
          refine r_iload_n dX6_tape_0 rfl ?_
          refine r_iconst (v := 5) dX6_tape_1 (by decide) ?_
          rw [show (5 : Int32) = nI 5 from rfl]
          refine r_callS dX6_tape_2 l_X6_78 o_X6_within s_X6_within rfl (m_X6_within hG (x := nI t1) (m := 5) (by omega)) (by decide) rfl (Nat.le_of_ble_eq_true rfl) (fun r2 h2 hq2 => ?_)
          obtain ⟨rfl, rfl⟩ := hq2
          rw [ht]
          refine r_if_ne (tgt := 10) dX6_tape_5 (by decide) (fun c_5 => ?_) (fun c_5 => ?_)
          · refine r_iload_n dX6_tape_10 rfl ?_
            refine r_iconst (v := -1) dX6_tape_11 (by decide) ?_
            refine r_icmp_lt (tgt := 30) dX6_tape_12 (by decide) (fun c_12 => ?_) (fun c_12 => ?_)
            · exact absurd c_12 n12
            · refine r_iload_n dX6_tape_15 rfl ?_
              refine r_iconst (v := 4) dX6_tape_16 (by decide) ?_
              refine r_icmp_gt (tgt := 30) dX6_tape_17 (by decide) (fun c_17 => ?_) (fun c_17 => ?_)
              · exact absurd c_17 n17
              · refine r_iload_n dX6_tape_20 rfl ?_
                refine r_if_lt (tgt := 33) dX6_tape_21 (by decide) (fun c_21 => ?_) (fun c_21 => ?_)
                · exact absurd c_21 c21
                · refine r_iload_n dX6_tape_24 rfl ?_
                  refine r_bipush (v := 60) dX6_tape_25 (by decide) ?_
                  refine r_icmp_le (tgt := 33) dX6_tape_27 (by decide) (fun c_27 => ?_) (fun c_27 => ?_)
                  · exact absurd (Int32.le_iff_toInt_le.mp c_27) (by rw [k60]; omega)
                  · refine r_bipush (v := -2) dX6_tape_30 (by decide) ?_
                    refine r_ireturn dX6_tape_32 ⟨_, rfl, rfl⟩ ?_
                    exact ⟨rfl, H, hP, FrT.rf⟩
          · exact absurd c_5 some_t
        · rw [if_neg h60]
          have c27 : n ≤ 60 := by rw [Int32.le_iff_toInt_le, k60]; omega
          by_cases hn : n.toInt < 0
          · rw [if_pos hn]
            refine r_iload_n dX6_tape_0 rfl ?_
            refine r_iconst (v := 5) dX6_tape_1 (by decide) ?_
            rw [show (5 : Int32) = nI 5 from rfl]
            refine r_callS dX6_tape_2 l_X6_78 o_X6_within s_X6_within rfl (m_X6_within hG (x := nI t1) (m := 5) (by omega)) (by decide) rfl (Nat.le_of_ble_eq_true rfl) (fun r2 h2 hq2 => ?_)
            obtain ⟨rfl, rfl⟩ := hq2
            rw [ht]
            refine r_if_ne (tgt := 10) dX6_tape_5 (by decide) (fun c_5 => ?_) (fun c_5 => ?_)
            · refine r_iload_n dX6_tape_10 rfl ?_
              refine r_iconst (v := -1) dX6_tape_11 (by decide) ?_
              refine r_icmp_lt (tgt := 30) dX6_tape_12 (by decide) (fun c_12 => ?_) (fun c_12 => ?_)
              · exact absurd c_12 n12
              · refine r_iload_n dX6_tape_15 rfl ?_
                refine r_iconst (v := 4) dX6_tape_16 (by decide) ?_
                refine r_icmp_gt (tgt := 30) dX6_tape_17 (by decide) (fun c_17 => ?_) (fun c_17 => ?_)
                · exact absurd c_17 n17
                · refine r_iload_n dX6_tape_20 rfl ?_
                  refine r_if_lt (tgt := 33) dX6_tape_21 (by decide) (fun c_21 => ?_) (fun c_21 => ?_)
                  · exact absurd c_21 c21
                  · refine r_iload_n dX6_tape_24 rfl ?_
                    refine r_bipush (v := 60) dX6_tape_25 (by decide) ?_
                    refine r_icmp_le (tgt := 33) dX6_tape_27 (by decide) (fun c_27 => ?_) (fun c_27 => ?_)
                    · refine r_iload_n dX6_tape_33 rfl ?_
                      refine r_if_lt (tgt := 44) dX6_tape_34 (by decide) (fun c_34 => ?_) (fun c_34 => ?_)
                      · exact absurd c_34 c21
                      · refine r_iload_n dX6_tape_37 rfl ?_
                        refine r_if_ge (tgt := 44) dX6_tape_38 (by decide) (fun c_38 => ?_) (fun c_38 => ?_)
                        · exact absurd (Int32.le_iff_toInt_le.mp c_38) (by rw [k0]; omega)
                        · refine r_bipush (v := -14) dX6_tape_41 (by decide) ?_
                          refine r_ireturn dX6_tape_43 ⟨_, rfl, rfl⟩ ?_
                          exact ⟨rfl, H, hP, FrT.rf⟩
                    · exact absurd c27 c_27
            · exact absurd c_5 some_t
          · rw [if_neg hn]
            have c38 : 0 ≤ n := by rw [Int32.le_iff_toInt_le, k0]; omega
            have en : n = nI n.toInt.toNat := by
              apply Int32.toInt_inj.mp
              rw [nI_toInt (by omega)]; omega
            refine r_iload_n dX6_tape_0 rfl ?_
            refine r_iconst (v := 5) dX6_tape_1 (by decide) ?_
            rw [show (5 : Int32) = nI 5 from rfl]
            refine r_callS dX6_tape_2 l_X6_78 o_X6_within s_X6_within rfl (m_X6_within hG (x := nI t1) (m := 5) (by omega)) (by decide) rfl (Nat.le_of_ble_eq_true rfl) (fun r2 h2 hq2 => ?_)
            obtain ⟨rfl, rfl⟩ := hq2
            rw [ht]
            refine r_if_ne (tgt := 10) dX6_tape_5 (by decide) (fun c_5 => ?_) (fun c_5 => ?_)
            · refine r_iload_n dX6_tape_10 rfl ?_
              refine r_iconst (v := -1) dX6_tape_11 (by decide) ?_
              refine r_icmp_lt (tgt := 30) dX6_tape_12 (by decide) (fun c_12 => ?_) (fun c_12 => ?_)
              · exact absurd c_12 n12
              · refine r_iload_n dX6_tape_15 rfl ?_
                refine r_iconst (v := 4) dX6_tape_16 (by decide) ?_
                refine r_icmp_gt (tgt := 30) dX6_tape_17 (by decide) (fun c_17 => ?_) (fun c_17 => ?_)
                · exact absurd c_17 n17
                · refine r_iload_n dX6_tape_20 rfl ?_
                  refine r_if_lt (tgt := 33) dX6_tape_21 (by decide) (fun c_21 => ?_) (fun c_21 => ?_)
                  · exact absurd c_21 c21
                  · refine r_iload_n dX6_tape_24 rfl ?_
                    refine r_bipush (v := 60) dX6_tape_25 (by decide) ?_
                    refine r_icmp_le (tgt := 33) dX6_tape_27 (by decide) (fun c_27 => ?_) (fun c_27 => ?_)
                    · refine r_iload_n dX6_tape_33 rfl ?_
                      refine r_if_lt (tgt := 44) dX6_tape_34 (by decide) (fun c_34 => ?_) (fun c_34 => ?_)
                      · exact absurd c_34 c21
                      · refine r_iload_n dX6_tape_37 rfl ?_
                        refine r_if_ge (tgt := 44) dX6_tape_38 (by decide) (fun c_38 => ?_) (fun c_38 => ?_)
                        · refine r_aload_n dX6_tape_44 rfl ?_
                          refine r_getR (j := 34) dX6_tape_45 k_X6_58 rfl (by decide) rfl rfl ?_
                          refine r_iload_n dX6_tape_48 rfl ?_
                          refine r_aald (t1) dX6_tape_49 rfl (by decide) rfl (show t1 < 6 by omega) ?_
                          rw [s1]
                          refine r_iload_n dX6_tape_50 rfl ?_
                          refine r_iload_n dX6_tape_51 rfl ?_
                          refine r_if_lt (tgt := 59) dX6_tape_52 (by decide) (fun c_52 => ?_) (fun c_52 => ?_)
                          · exact absurd c_52 c21
                          · refine r_iload_n dX6_tape_55 rfl ?_
                            refine r_goto (tgt := 60) dX6_tape_56 (by decide) ?_
                            refine r_callV dX6_tape_60 l_X6_291 o_X5_becomesEmpty v_X5_becomesEmpty (by assumption) (by decide) rfl rfl (m_X5_becomesEmpty hG s2) (by decide) rfl (Nat.le_of_ble_eq_true rfl) (fun r60 h60 hq60 => ?_)
                            obtain ⟨rfl, rfl⟩ := hq60
                            refine r_iconst (v := 1) dX6_tape_63 (by decide) ?_
                            refine r_ireturn dX6_tape_64 ⟨_, rfl, rfl⟩ ?_
                            exact ⟨rfl, tape_P H hP ht1 rfl en hq (by omega) (fun y => absurd y h0)⟩
                        · exact absurd c38 c_38
                    · exact absurd c27 c_27
            · exact absurd c_5 some_t
