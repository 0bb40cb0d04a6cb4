/-! pact, fraction, odds, mean -/
theorem pact_ok {i j E : Nat} (hi : i < E) (hj : j < E) (hij : ¬ i = j) : min i j < E ∧ max i j < E ∧ ¬ min i j = max i j := by omega
set_option maxRecDepth 100000 in
theorem m_X6_pact {G : WT} {l : Launch} (hG : GOK G) {h : Hp} {n q : Nat} {V : Hv} {T : Tb} {x y z : Int32} (C : DIc h n q V T) : Cl G l 7 yX6_pact cX6_pact 5 (some .int) [.ref (gA G 0), .int x, .int y, .int z] h (fun r h' => r = some (.int (pactA V T x y z)) ∧ DIc h' n q V T ∧ Fx asF h h') := by
  refine Cl.of hG (by decide) (Nat.le_of_ble_eq_true rfl) ?_
  show Wp G l 7 RX6 cX6_pact 5 (some .int) 0 [.ref (gA G 0), .int x, .int y, .int z, mk0] [] h _
  have hE5 := C.2.1.1
  cases hx : dec x (T.1 7 0) with
  | none =>
    refine r_aload_n dX6_pact_0 rfl ?_
    refine r_iload_n dX6_pact_1 rfl ?_
    refine r_callV dX6_pact_2 l_X6_89 o_X6_isEater v_X6_isEater rfl (by decide) rfl rfl (m_X6_isEater hG hE5 C.1.1.1) (by decide) rfl (Nat.le_of_ble_eq_true rfl) (fun r2 h2 hq2 => ?_)
    obtain ⟨rfl, rfl⟩ := hq2
    rw [hx]
    refine r_if_eq (tgt := 16) dX6_pact_5 (by decide) (fun c_5 => ?_) (fun c_5 => ?_)
    · refine r_ldc dX6_pact_16 n_X6_93 ?_
      refine r_ireturn dX6_pact_18 ⟨_, rfl, rfl⟩ ?_
      exact ⟨by rw [pactA, hx]; rfl, C, Fx.rf⟩
    · exact absurd none_f c_5
  | some i =>
    obtain ⟨i1, rfl, -⟩ := dec_some.mp hx
    cases hy : dec y (T.1 7 0) with
    | none =>
      refine r_aload_n dX6_pact_0 rfl ?_
      refine r_iload_n dX6_pact_1 rfl ?_
      refine r_callV dX6_pact_2 l_X6_89 o_X6_isEater v_X6_isEater rfl (by decide) rfl rfl (m_X6_isEater hG hE5 C.1.1.1) (by decide) rfl (Nat.le_of_ble_eq_true rfl) (fun r2 h2 hq2 => ?_)
      obtain ⟨rfl, rfl⟩ := hq2
      rw [hx]
      refine r_if_eq (tgt := 16) dX6_pact_5 (by decide) (fun c_5 => ?_) (fun c_5 => ?_)
      · exact absurd c_5 some_t
      · refine r_aload_n dX6_pact_8 rfl ?_
        refine r_iload_n dX6_pact_9 rfl ?_
        refine r_callV dX6_pact_10 l_X6_89 o_X6_isEater v_X6_isEater rfl (by decide) rfl rfl (m_X6_isEater hG hE5 C.1.1.1) (by decide) rfl (Nat.le_of_ble_eq_true rfl) (fun r10 h10 hq10 => ?_)
        obtain ⟨rfl, rfl⟩ := hq10
        rw [hy]
        refine r_if_ne (tgt := 19) dX6_pact_13 (by decide) (fun c_13 => ?_) (fun c_13 => ?_)
        · exact absurd none_f c_13
        · refine r_ldc dX6_pact_16 n_X6_93 ?_
          refine r_ireturn dX6_pact_18 ⟨_, rfl, rfl⟩ ?_
          exact ⟨by rw [pactA, hx, hy]; rfl, C, Fx.rf⟩
    | some j =>
      obtain ⟨j1, rfl, -⟩ := dec_some.mp hy
      by_cases hij : i = j
      · refine r_aload_n dX6_pact_0 rfl ?_
        refine r_iload_n dX6_pact_1 rfl ?_
        refine r_callV dX6_pact_2 l_X6_89 o_X6_isEater v_X6_isEater rfl (by decide) rfl rfl (m_X6_isEater hG hE5 C.1.1.1) (by decide) rfl (Nat.le_of_ble_eq_true rfl) (fun r2 h2 hq2 => ?_)
        obtain ⟨rfl, rfl⟩ := hq2
        rw [hx]
        refine r_if_eq (tgt := 16) dX6_pact_5 (by decide) (fun c_5 => ?_) (fun c_5 => ?_)
        · exact absurd c_5 some_t
        · refine r_aload_n dX6_pact_8 rfl ?_
          refine r_iload_n dX6_pact_9 rfl ?_
          refine r_callV dX6_pact_10 l_X6_89 o_X6_isEater v_X6_isEater rfl (by decide) rfl rfl (m_X6_isEater hG hE5 C.1.1.1) (by decide) rfl (Nat.le_of_ble_eq_true rfl) (fun r10 h10 hq10 => ?_)
          obtain ⟨rfl, rfl⟩ := hq10
          rw [hy]
          refine r_if_ne (tgt := 19) dX6_pact_13 (by decide) (fun c_13 => ?_) (fun c_13 => ?_)
          · refine r_iload_n dX6_pact_19 rfl ?_
            refine r_iload_n dX6_pact_20 rfl ?_
            refine r_icmp_eq (tgt := 33) dX6_pact_21 (by decide) (fun c_21 => ?_) (fun c_21 => ?_)
            · refine r_ldc dX6_pact_33 n_X6_166 ?_
              refine r_ireturn dX6_pact_35 ⟨_, rfl, rfl⟩ ?_
              exact ⟨by rw [pactA, hx, hy]; dsimp only; rw [if_pos hij]; rfl, C, Fx.rf⟩
            · exact absurd (by rw [hij]) c_21
          · exact absurd c_13 some_t
      · cases hz : dec z 61 with
        | none =>
          refine r_aload_n dX6_pact_0 rfl ?_
          refine r_iload_n dX6_pact_1 rfl ?_
          refine r_callV dX6_pact_2 l_X6_89 o_X6_isEater v_X6_isEater rfl (by decide) rfl rfl (m_X6_isEater hG hE5 C.1.1.1) (by decide) rfl (Nat.le_of_ble_eq_true rfl) (fun r2 h2 hq2 => ?_)
          obtain ⟨rfl, rfl⟩ := hq2
          rw [hx]
          refine r_if_eq (tgt := 16) dX6_pact_5 (by decide) (fun c_5 => ?_) (fun c_5 => ?_)
          · exact absurd c_5 some_t
          · refine r_aload_n dX6_pact_8 rfl ?_
            refine r_iload_n dX6_pact_9 rfl ?_
            refine r_callV dX6_pact_10 l_X6_89 o_X6_isEater v_X6_isEater rfl (by decide) rfl rfl (m_X6_isEater hG hE5 C.1.1.1) (by decide) rfl (Nat.le_of_ble_eq_true rfl) (fun r10 h10 hq10 => ?_)
            obtain ⟨rfl, rfl⟩ := hq10
            rw [hy]
            refine r_if_ne (tgt := 19) dX6_pact_13 (by decide) (fun c_13 => ?_) (fun c_13 => ?_)
            · refine r_iload_n dX6_pact_19 rfl ?_
              refine r_iload_n dX6_pact_20 rfl ?_
              refine r_icmp_eq (tgt := 33) dX6_pact_21 (by decide) (fun c_21 => ?_) (fun c_21 => ?_)
              · exact absurd ((nI_eq' (by omega) (by omega)).mp c_21) hij
              · refine r_iload_n dX6_pact_24 rfl ?_
                refine r_bipush (v := 60) dX6_pact_25 (by decide) ?_
                rw [show (60 : Int32) = nI 60 from rfl]
                refine r_callS dX6_pact_27 l_X6_78 o_X6_within s_X6_within rfl (m_X6_within hG (x := z) (m := 60) (by omega)) (by decide) rfl (Nat.le_of_ble_eq_true rfl) (fun r27 h27 hq27 => ?_)
                obtain ⟨rfl, rfl⟩ := hq27
                rw [hz]
                refine r_if_ne (tgt := 36) dX6_pact_30 (by decide) (fun c_30 => ?_) (fun c_30 => ?_)
                · exact absurd none_f c_30
                · refine r_ldc dX6_pact_33 n_X6_166 ?_
                  refine r_ireturn dX6_pact_35 ⟨_, rfl, rfl⟩ ?_
                  exact ⟨by rw [pactA, hx, hy]; dsimp only; rw [if_neg hij, hz]; rfl, C, Fx.rf⟩
            · exact absurd c_13 some_t
        | some k =>
          obtain ⟨k1, rfl, -⟩ := dec_some.mp hz
          obtain ⟨p1, p2, p3⟩ := pact_ok i1 j1 hij
          have m1 : (if nI j < nI i then nI j else nI i) = nI (min i j) := minI (by omega) (by omega)
          have m2 : (if nI i < nI j then nI j else nI i) = nI (max i j) := maxI (by omega) (by omega)
          have F1 : Fx asF h (setI (setI h 37 15 (nI (min i j))) 37 16 (nI (max i j))) := ((Fr.set rfl).tr (Fr.set rfl)).x
          have C1 : DIg (setI (setI h 37 15 (nI (min i j))) 37 16 (nI (max i j))) n q V T none false (some (min i j, max i j)) := C.fx F1 (C.2.2.2.2.2.1.eq (fun f hf => by rw [setI_nj (by omega), setI_nj (by omega)])) ⟨by rw [setI_nj (by decide), setI_at], setI_at, p1, p2, p3⟩ (fun e he => by rw [setI_ne (by decide), setI_ne (by decide)]; exact C.2.2.2.2.2.2.2 e he)
          refine r_aload_n dX6_pact_0 rfl ?_
          refine r_iload_n dX6_pact_1 rfl ?_
          refine r_callV dX6_pact_2 l_X6_89 o_X6_isEater v_X6_isEater rfl (by decide) rfl rfl (m_X6_isEater hG hE5 C.1.1.1) (by decide) rfl (Nat.le_of_ble_eq_true rfl) (fun r2 h2 hq2 => ?_)
          obtain ⟨rfl, rfl⟩ := hq2
          rw [hx]
          refine r_if_eq (tgt := 16) dX6_pact_5 (by decide) (fun c_5 => ?_) (fun c_5 => ?_)
          · exact absurd c_5 some_t
          · refine r_aload_n dX6_pact_8 rfl ?_
            refine r_iload_n dX6_pact_9 rfl ?_
            refine r_callV dX6_pact_10 l_X6_89 o_X6_isEater v_X6_isEater rfl (by decide) rfl rfl (m_X6_isEater hG hE5 C.1.1.1) (by decide) rfl (Nat.le_of_ble_eq_true rfl) (fun r10 h10 hq10 => ?_)
            obtain ⟨rfl, rfl⟩ := hq10
            rw [hy]
            refine r_if_ne (tgt := 19) dX6_pact_13 (by decide) (fun c_13 => ?_) (fun c_13 => ?_)
            · refine r_iload_n dX6_pact_19 rfl ?_
              refine r_iload_n dX6_pact_20 rfl ?_
              refine r_icmp_eq (tgt := 33) dX6_pact_21 (by decide) (fun c_21 => ?_) (fun c_21 => ?_)
              · exact absurd ((nI_eq' (by omega) (by omega)).mp c_21) hij
              · refine r_iload_n dX6_pact_24 rfl ?_
                refine r_bipush (v := 60) dX6_pact_25 (by decide) ?_
                rw [show (60 : Int32) = nI 60 from rfl]
                refine r_callS dX6_pact_27 l_X6_78 o_X6_within s_X6_within rfl (m_X6_within hG (x := nI k) (m := 60) (by omega)) (by decide) rfl (Nat.le_of_ble_eq_true rfl) (fun r27 h27 hq27 => ?_)
                obtain ⟨rfl, rfl⟩ := hq27
                rw [hz]
                refine r_if_ne (tgt := 36) dX6_pact_30 (by decide) (fun c_30 => ?_) (fun c_30 => ?_)
                · refine r_aload_n dX6_pact_36 rfl ?_
                  refine r_getR (j := 37) dX6_pact_37 k_X6_38 rfl (by decide) rfl rfl ?_
                  refine r_iload_n dX6_pact_40 rfl ?_
                  refine r_iload_n dX6_pact_41 rfl ?_
                  refine r_min dX6_pact_42 l_X6_231 o_J9_min_7cf53 rfl s_J9_min_7cf53 (by decide) (Nat.le_of_ble_eq_true rfl) ?_
                  rw [m1]
                  refine r_iload_n dX6_pact_45 rfl ?_
                  refine r_iload_n dX6_pact_46 rfl ?_
                  refine r_max dX6_pact_47 l_X6_236 o_J9_max_7cf53 rfl s_J9_max_7cf53 (by decide) (Nat.le_of_ble_eq_true rfl) ?_
                  rw [m2]
                  refine r_callV dX6_pact_50 l_X6_239 o_X3_agree v_X3_agree rfl (by decide) rfl rfl (m_X3_agree hG) (by decide) rfl (Nat.le_of_ble_eq_true rfl) (fun r50 h50 hq50 => ?_)
                  obtain ⟨rfl, rfl⟩ := hq50
                  refine r_aload_n dX6_pact_53 rfl ?_
                  refine r_iload_n dX6_pact_54 rfl ?_
                  refine r_callV dX6_pact_55 l_X6_170 o_X6_ahead v_X6_ahead rfl (by decide) rfl rfl (m_X6_ahead hG C1 (N := k) (by omega)) (by decide) rfl (Nat.le_of_ble_eq_true rfl) (fun r55 h55 hq55 => ?_)
                  obtain ⟨rfl, A1, A2, A3, A4⟩ := hq55
                  have gA1 := ((A3.2.1 i (by omega)).1 (by rw [supN_E]; exact i1)).2.2.2.2.1
                  have gA2 := ((A3.2.1 j (by omega)).1 (by rw [supN_E]; exact j1)).2.2.2.2.1
                  have F2 : Fx asF h55 (setI (setI h55 37 15 (-1)) 37 16 (-1)) := ((Fr.set rfl).tr (Fr.set rfl)).x
                  have C2 : DIc (setI (setI h55 37 15 (-1)) 37 16 (-1)) n q V T := A1.fx F2 (A1.2.2.2.2.2.1.eq (fun f hf => by rw [setI_nj (by omega), setI_nj (by omega)])) ⟨by rw [setI_nj (by decide), setI_at], setI_at⟩ (fun e he => by rw [setI_ne (by decide), setI_ne (by decide)]; exact A1.2.2.2.2.2.2.2 e he)
                  refine r_aload_n dX6_pact_58 rfl ?_
                  refine r_getR (j := 37) dX6_pact_59 k_X6_38 rfl (by decide) rfl rfl ?_
                  refine r_iconst (v := -1) dX6_pact_62 (by decide) ?_
                  refine r_iconst (v := -1) dX6_pact_63 (by decide) ?_
                  refine r_callV dX6_pact_64 l_X6_239 o_X3_agree v_X3_agree rfl (by decide) rfl rfl (m_X3_agree hG) (by decide) rfl (Nat.le_of_ble_eq_true rfl) (fun r64 h64 hq64 => ?_)
                  obtain ⟨rfl, rfl⟩ := hq64
                  refine r_aload_n dX6_pact_67 rfl ?_
                  refine r_getR (j := 17) dX6_pact_68 k_X6_21 rfl (by decide) rfl rfl ?_
                  refine r_getR (j := 22) dX6_pact_71 k_X6_106 rfl (by decide) rfl rfl ?_
                  refine r_iload_n dX6_pact_74 rfl ?_
                  refine r_iald (i) dX6_pact_75 rfl rfl (show i < 5 by omega) ?_
                  rw [setI_ne (by decide), setI_ne (by decide), gA1]
                  refine r_aload_n dX6_pact_76 rfl ?_
                  refine r_getR (j := 17) dX6_pact_77 k_X6_21 rfl (by decide) rfl rfl ?_
                  refine r_getR (j := 22) dX6_pact_80 k_X6_106 rfl (by decide) rfl rfl ?_
                  refine r_iload_n dX6_pact_83 rfl ?_
                  refine r_iald (j) dX6_pact_84 rfl rfl (show j < 5 by omega) ?_
                  rw [setI_ne (by decide), setI_ne (by decide), gA2]
                  refine r_iadd dX6_pact_85 ?_
                  refine r_istore dX6_pact_86 (by decide) rfl rfl ?_
                  dsimp only [List.set]
                  refine r_aload_n dX6_pact_88 rfl ?_
                  refine r_iload_n dX6_pact_89 rfl ?_
                  refine r_callV dX6_pact_90 l_X6_170 o_X6_ahead v_X6_ahead rfl (by decide) rfl rfl (m_X6_ahead hG C2 (N := k) (by omega)) (by decide) rfl (Nat.le_of_ble_eq_true rfl) (fun r90 h90 hq90 => ?_)
                  obtain ⟨rfl, B1, B2, B3, B4⟩ := hq90
                  have gB1 := ((B3.2.1 i (by omega)).1 (by rw [supN_E]; exact i1)).2.2.2.2.1
                  have gB2 := ((B3.2.1 j (by omega)).1 (by rw [supN_E]; exact j1)).2.2.2.2.1
                  refine r_iload dX6_pact_93 rfl ?_
                  refine r_aload_n dX6_pact_95 rfl ?_
                  refine r_getR (j := 17) dX6_pact_96 k_X6_21 rfl (by decide) rfl rfl ?_
                  refine r_getR (j := 22) dX6_pact_99 k_X6_106 rfl (by decide) rfl rfl ?_
                  refine r_iload_n dX6_pact_102 rfl ?_
                  refine r_iald (i) dX6_pact_103 rfl rfl (show i < 5 by omega) ?_
                  rw [gB1]
                  refine r_isub dX6_pact_104 ?_
                  refine r_aload_n dX6_pact_105 rfl ?_
                  refine r_getR (j := 17) dX6_pact_106 k_X6_21 rfl (by decide) rfl rfl ?_
                  refine r_getR (j := 22) dX6_pact_109 k_X6_106 rfl (by decide) rfl rfl ?_
                  refine r_iload_n dX6_pact_112 rfl ?_
                  refine r_iald (j) dX6_pact_113 rfl rfl (show j < 5 by omega) ?_
                  rw [gB2]
                  refine r_isub dX6_pact_114 ?_
                  refine r_ireturn dX6_pact_115 ⟨_, rfl, rfl⟩ ?_
                  exact ⟨by rw [pactA, hx, hy]; dsimp only; rw [if_neg hij, hz, Int32.sub_sub]; rfl, B1, ((F1.tr A2).tr F2).tr B2⟩
                · exact absurd c_30 some_t
            · exact absurd c_13 some_t
theorem lcmp_le0 {p : Nat} (hp : p < 2 ^ 40) : lg_cmp (lN p) 0 ≤ 0 ↔ p = 0 := by
  constructor
  · intro y
    have y2 : 0 ≤ lg_cmp (lN p) 0 := lcmp_ge.mpr (by
      rw [Int64.le_iff_toInt_le, pk_lT (by omega)]
      show (0 : Int) ≤ _
      omega)
    have y3 : lg_cmp (lN p) 0 = 0 := Int32.le_antisymm y y2
    exact (pk_lEQ (b := 0) (by omega) (by omega)).mp (lcmp_0.mp y3)
  · rintro rfl
    exact Int32.le_of_eq (lcmp_0.mpr rfl)
theorem gcd_half {p q m : Nat} (hq : 0 < q) (hqp : q ≤ p) (h : p * q < 2 ^ (m + 1)) : q * (p % q) < 2 ^ m := by
  have h1 := Nat.mod_lt p hq
  have h2 := Nat.div_add_mod p q
  have h3 : 1 ≤ p / q := Nat.div_pos hqp hq
  have h4 : q * 1 ≤ q * (p / q) := Nat.mul_le_mul_left q h3
  have h5 : 2 * (p % q) ≤ p := by omega
  have h6 : q * (2 * (p % q)) ≤ q * p := Nat.mul_le_mul_left q h5
  have h7 : q * (2 * (p % q)) = 2 * (q * (p % q)) := Nat.mul_left_comm q 2 (p % q)
  have h8 : q * p = p * q := Nat.mul_comm q p
  rw [Nat.pow_succ] at h
  omega
theorem fr_47 {G : WT} {l : Launch} {h : Hp} {a : Int64} {c part p : Nat} {x7 x9 x10 x11 : Value} (hp : 0 < p) (hp2 : p < 2 ^ 40) (hpt : part < 2) (n9 : ∀ v, ¬ x9 = .long v) : Wp G l 2 RX6 cX6_fraction 12 (some .long) 47 [.long a, mk0, .long (lN c), mk0, .int (nI part), .long (lN p), mk0, x7, mk0, x9, x10, x11] [] h (fun r h' => r = some (.long ((if part = 0 then a else lN c) / lN p)) ∧ h' = h) := by
  have em : (if lN p < (1 : Int64) then (1 : Int64) else lN p) = lN p := if_neg (fun y => by
    have := (pk_lLT (a := p) (b := 1) (by omega) (by omega)).mp y
    omega)
  have z : ¬ lN p = 0 := fun y => by
    have := (pk_lEQ (b := 0) (by omega) (by omega)).mp y
    omega
  rcases (show part = 0 ∨ part = 1 by omega) with rfl | rfl
  · refine r_lconst (v := 1) dX6_fraction_47 (by decide) ?_
    refine r_lload dX6_fraction_48 rfl ?_
    refine r_maxL dX6_fraction_50 l_X6_259 o_J9_max_f86c9 rfl s_J9_max_f86c9 (by decide) (Nat.le_of_ble_eq_true rfl) ?_
    rw [em]
    refine r_lstore dX6_fraction_53 (by decide) rfl rfl ?_
    dsimp only [List.set]
    refine r_iload dX6_fraction_55 rfl ?_
    refine r_if_ne (tgt := 64) dX6_fraction_57 (by decide) (fun c_57 => ?_) (fun c_57 => ?_)
    · exact absurd rfl c_57
    · refine r_lload_n dX6_fraction_60 rfl ?_
      refine r_goto (tgt := 65) dX6_fraction_61 (by decide) ?_
      refine r_lload dX6_fraction_65 rfl ?_
      refine r_ldiv dX6_fraction_67 z ?_
      refine r_lreturn dX6_fraction_68 rfl ?_
      exact ⟨rfl, rfl⟩
  · refine r_lconst (v := 1) dX6_fraction_47 (by decide) ?_
    refine r_lload dX6_fraction_48 rfl ?_
    refine r_maxL dX6_fraction_50 l_X6_259 o_J9_max_f86c9 rfl s_J9_max_f86c9 (by decide) (Nat.le_of_ble_eq_true rfl) ?_
    rw [em]
    refine r_lstore dX6_fraction_53 (by decide) rfl rfl ?_
    dsimp only [List.set]
    refine r_iload dX6_fraction_55 rfl ?_
    refine r_if_ne (tgt := 64) dX6_fraction_57 (by decide) (fun c_57 => ?_) (fun c_57 => ?_)
    · refine r_lload_n dX6_fraction_64 rfl ?_
      refine r_lload dX6_fraction_65 rfl ?_
      refine r_ldiv dX6_fraction_67 z ?_
      refine r_lreturn dX6_fraction_68 rfl ?_
      exact ⟨rfl, rfl⟩
    · exact absurd c_57 (by decide)
theorem fr_lp {G : WT} {l : Launch} {h : Hp} {a : Int64} {c part : Nat} (hpt : part < 2) : ∀ (m k p q : Nat) (x10 : Value), k + m + 1 ≤ 100 → q ≤ p → 0 < p → p < 2 ^ 40 → p * q < 2 ^ m → Wp G l 2 RX6 cX6_fraction 12 (some .long) 12 [.long a, mk0, .long (lN c), mk0, .int (nI part), .long (lN p), mk0, .long (lN q), mk0, .int (nI k), x10, mk0] [] h (fun r h' => r = some (.long ((if part = 0 then a else lN c) / lN (Nat.gcd p q))) ∧ h' = h) := by
  intro m
  induction m with
  | zero =>
    intro k p q x10 hk hqp hp hp2 hm
    have q0 : q = 0 := by
      by_cases z : q = 0
      · exact z
      · have := Nat.mul_pos hp (show 0 < q by omega)
        omega
    subst q0
    rw [Nat.gcd_zero_right]
    refine r_iload dX6_fraction_12 rfl ?_
    refine r_bipush (v := 100) dX6_fraction_14 (by decide) ?_
    refine r_icmp_ge (tgt := 47) dX6_fraction_16 (by decide) (fun c_16 => ?_) (fun c_16 => ?_)
    · exact absurd c_16 (nI_ge (a := k) (b := 100) (by omega) (by omega))
    · refine r_lload dX6_fraction_19 rfl ?_
      refine r_lconst (v := 0) dX6_fraction_21 (by decide) ?_
      refine r_lcmp dX6_fraction_22 ?_
      refine r_if_le (tgt := 47) dX6_fraction_23 (by decide) (fun c_23 => ?_) (fun c_23 => ?_)
      · exact fr_47 hp hp2 hpt (fun v y => by cases y)
      · exact absurd ((lcmp_le0 (by omega)).mpr rfl) c_23
  | succ m ih =>
    intro k p q x10 hk hqp hp hp2 hm
    by_cases q0 : q = 0
    · subst q0
      rw [Nat.gcd_zero_right]
      refine r_iload dX6_fraction_12 rfl ?_
      refine r_bipush (v := 100) dX6_fraction_14 (by decide) ?_
      refine r_icmp_ge (tgt := 47) dX6_fraction_16 (by decide) (fun c_16 => ?_) (fun c_16 => ?_)
      · exact absurd c_16 (nI_ge (a := k) (b := 100) (by omega) (by omega))
      · refine r_lload dX6_fraction_19 rfl ?_
        refine r_lconst (v := 0) dX6_fraction_21 (by decide) ?_
        refine r_lcmp dX6_fraction_22 ?_
        refine r_if_le (tgt := 47) dX6_fraction_23 (by decide) (fun c_23 => ?_) (fun c_23 => ?_)
        · exact fr_47 hp hp2 hpt (fun v y => by cases y)
        · exact absurd ((lcmp_le0 (by omega)).mpr rfl) c_23
    · have z : ¬ lN q = 0 := fun y => q0 ((pk_lEQ (b := 0) (by omega) (by omega)).mp y)
      have hr := Nat.mod_lt p (show 0 < q by omega)
      have eg : Nat.gcd p q = Nat.gcd q (p % q) := by rw [Nat.gcd_comm p q, Nat.gcd_rec q p, Nat.gcd_comm]
      have hh := gcd_half (show 0 < q by omega) hqp hm
      rw [eg]
      refine r_iload dX6_fraction_12 rfl ?_
      refine r_bipush (v := 100) dX6_fraction_14 (by decide) ?_
      refine r_icmp_ge (tgt := 47) dX6_fraction_16 (by decide) (fun c_16 => ?_) (fun c_16 => ?_)
      · exact absurd c_16 (nI_ge (a := k) (b := 100) (by omega) (by omega))
      · refine r_lload dX6_fraction_19 rfl ?_
        refine r_lconst (v := 0) dX6_fraction_21 (by decide) ?_
        refine r_lcmp dX6_fraction_22 ?_
        refine r_if_le (tgt := 47) dX6_fraction_23 (by decide) (fun c_23 => ?_) (fun c_23 => ?_)
        · exact absurd ((lcmp_le0 (by omega)).mp c_23) q0
        · refine r_lload dX6_fraction_26 rfl ?_
          refine r_lload dX6_fraction_28 rfl ?_
          refine r_lrem dX6_fraction_30 z ?_
          rw [pk_lRem (by omega) (by omega) (by omega)]
          refine r_lstore dX6_fraction_31 (by decide) rfl rfl ?_
          dsimp only [List.set]
          refine r_lload dX6_fraction_33 rfl ?_
          refine r_lstore dX6_fraction_35 (by decide) rfl rfl ?_
          dsimp only [List.set]
          refine r_lload dX6_fraction_37 rfl ?_
          refine r_lstore dX6_fraction_39 (by decide) rfl rfl ?_
          dsimp only [List.set]
          refine r_iinc dX6_fraction_41 rfl (by first | exact nI_inc _ | rfl) (by decide) rfl rfl ?_
          dsimp only [List.set]
          refine r_goto (tgt := 12) dX6_fraction_44 (by decide) ?_
          exact ih (k + 1) q (p % q) _ (by omega) (by omega) (by omega) (by omega) hh
set_option maxRecDepth 100000 in
theorem m_X6_fraction {G : WT} {l : Launch} (hG : GOK G) {h : Hp} {a : Int64} {c part : Nat} (hc : c < 1000000) (h0 : 0 < c) (hp : part < 2) (ha : -4294967296 ≤ a.toInt ∧ a.toInt ≤ 4294967296) : Cl G l 2 yX6_fraction cX6_fraction 12 (some .long) [.long a, .long (lN c), .int (nI part)] h (fun r h' => r = some (.long (fracA a c part)) ∧ h' = h) := by
  refine Cl.of hG (by decide) (Nat.le_of_ble_eq_true rfl) ?_
  show Wp G l 2 RX6 cX6_fraction 12 (some .long) 0 [.long a, mk0, .long (lN c), mk0, .int (nI part), mk0, mk0, mk0, mk0, mk0, mk0, mk0] [] h _
  have eabs : (if 0 < a then a else -a) = lN a.toInt.natAbs := by
    apply Int64.toInt_inj.mp
    rw [pk_lT (by omega)]
    by_cases z : 0 < a
    · rw [if_pos z]
      have := Int64.lt_iff_toInt_lt.mp z
      have z0 : (0 : Int64).toInt = 0 := rfl
      omega
    · rw [if_neg z, Int64.toInt_neg, Int.bmod_eq_of_le (by omega) (by omega)]
      have := fun y => z (Int64.lt_iff_toInt_lt.mpr y)
      have z0 : (0 : Int64).toInt = 0 := rfl
      have z1 : ¬ (0 : Int64).toInt < a.toInt := this
      omega
  obtain ⟨p, hpe⟩ : ∃ p, p = a.toInt.natAbs := ⟨_, rfl⟩
  rw [← hpe] at eabs
  have z : ¬ lN c = 0 := fun y => by
    have := (pk_lEQ (b := 0) (by omega) (by omega)).mp y
    omega
  have hr := Nat.mod_lt p h0
  have eg : Nat.gcd p c = Nat.gcd c (p % c) := by rw [Nat.gcd_comm p c, Nat.gcd_rec c p, Nat.gcd_comm]
  have hm : c * (p % c) < 2 ^ 50 := by
    have h1 : c * (p % c) ≤ 1000000 * 1000000 := Nat.mul_le_mul (by omega) (by omega)
    omega
  have ef : fracA a c part = (if part = 0 then a else lN c) / lN (Nat.gcd c (p % c)) := by rw [fracA, ← hpe, eg]
  rw [ef]
  refine r_lload_n dX6_fraction_0 rfl ?_
  refine r_absL dX6_fraction_1 l_X6_255 o_J9_abs_067f4 rfl s_J9_abs_067f4 (by decide) (Nat.le_of_ble_eq_true rfl) ?_
  rw [eabs]
  refine r_lstore dX6_fraction_4 (by decide) rfl rfl ?_
  dsimp only [List.set]
  refine r_lload_n dX6_fraction_6 rfl ?_
  refine r_lstore dX6_fraction_7 (by decide) rfl rfl ?_
  dsimp only [List.set]
  refine r_iconst (v := 0) dX6_fraction_9 (by decide) ?_
  refine r_istore dX6_fraction_10 (by decide) rfl rfl ?_
  dsimp only [List.set]
  refine r_iload dX6_fraction_12 rfl ?_
  refine r_bipush (v := 100) dX6_fraction_14 (by decide) ?_
  refine r_icmp_ge (tgt := 47) dX6_fraction_16 (by decide) (fun c_16 => ?_) (fun c_16 => ?_)
  · exact absurd c_16 (by decide)
  · refine r_lload dX6_fraction_19 rfl ?_
    refine r_lconst (v := 0) dX6_fraction_21 (by decide) ?_
    refine r_lcmp dX6_fraction_22 ?_
    refine r_if_le (tgt := 47) dX6_fraction_23 (by decide) (fun c_23 => ?_) (fun c_23 => ?_)
    · exact absurd ((lcmp_le0 (by omega)).mp c_23) (by omega)
    · refine r_lload dX6_fraction_26 rfl ?_
      refine r_lload dX6_fraction_28 rfl ?_
      refine r_lrem dX6_fraction_30 z ?_
      rw [pk_lRem (by omega) (by omega) (by omega)]
      refine r_lstore dX6_fraction_31 (by decide) rfl rfl ?_
      dsimp only [List.set]
      refine r_lload dX6_fraction_33 rfl ?_
      refine r_lstore dX6_fraction_35 (by decide) rfl rfl ?_
      dsimp only [List.set]
      refine r_lload dX6_fraction_37 rfl ?_
      refine r_lstore dX6_fraction_39 (by decide) rfl rfl ?_
      dsimp only [List.set]
      refine r_iinc dX6_fraction_41 rfl (by first | exact nI_inc _ | rfl) (by decide) rfl rfl ?_
      dsimp only [List.set]
      refine r_goto (tgt := 12) dX6_fraction_44 (by decide) ?_
      exact fr_lp hp 50 1 c (p % c) _ (by omega) (by omega) h0 (by omega) hm
set_option maxRecDepth 100000 in
theorem m_X3_isLikeBaker {G : WT} {l : Launch} (hG : GOK G) {h : Hp} {e bk : Nat} {p : Nat → Nat} (he : e < 5) (hb : bk < 5) (h1 : h.1 37 12 = nI bk) (h2 : h.1 41 e = nI (p e)) (h3 : h.1 41 bk = nI (p bk)) (h4 : p e < 1000) (hp5 : p bk < 1000) : Cl G l 1 yX3_isLikeBaker cX3_isLikeBaker 2 (some .boolean) [.ref (gA G 37), .int (nI e)] h (fun r h' => r = some (.int (b01 (decide (p e = p bk)))) ∧ h' = h) := by
  refine Cl.of hG (by decide) (Nat.le_of_ble_eq_true rfl) ?_
  show Wp G l 1 RX3 cX3_isLikeBaker 2 (some .boolean) 0 [.ref (gA G 37), .int (nI e)] [] h _
  refine r_aload_n dX3_isLikeBaker_0 rfl ?_
  refine r_getI dX3_isLikeBaker_1 k_X3_57 rfl (by decide) rfl ?_
  rw [h1]
  refine r_if_lt (tgt := 29) dX3_isLikeBaker_4 (by decide) (fun c_4 => ?_) (fun c_4 => ?_)
  · exact absurd c_4 (fun y => by
      have := Int32.lt_iff_toInt_lt.mp y
      rw [nI_toInt (by omega), show ((0 : Int32)).toInt = 0 from rfl] at this
      omega)
  · refine r_aload_n dX3_isLikeBaker_7 rfl ?_
    refine r_getR (j := 41) dX3_isLikeBaker_8 k_X3_21 rfl (by decide) rfl rfl ?_
    refine r_iload_n dX3_isLikeBaker_11 rfl ?_
    refine r_iald (e) dX3_isLikeBaker_12 rfl rfl (show e < 5 from he) ?_
    rw [h2]
    refine r_aload_n dX3_isLikeBaker_13 rfl ?_
    refine r_getR (j := 41) dX3_isLikeBaker_14 k_X3_21 rfl (by decide) rfl rfl ?_
    refine r_aload_n dX3_isLikeBaker_17 rfl ?_
    refine r_getI dX3_isLikeBaker_18 k_X3_57 rfl (by decide) rfl ?_
    refine r_iald (bk) dX3_isLikeBaker_21 rfl h1 (show bk < 5 from hb) ?_
    rw [h3]
    refine r_icmp_ne (tgt := 29) dX3_isLikeBaker_22 (by decide) (fun c_22 => ?_) (fun c_22 => ?_)
    · refine r_iconst (v := 0) dX3_isLikeBaker_29 (by decide) ?_
      refine r_ireturn dX3_isLikeBaker_30 ⟨_, rfl, rfl⟩ ?_
      exact ⟨by rw [decide_eq_false (fun y => c_22 (by rw [y]))]; rfl, rfl⟩
    · refine r_iconst (v := 1) dX3_isLikeBaker_25 (by decide) ?_
      refine r_goto (tgt := 30) dX3_isLikeBaker_26 (by decide) ?_
      refine r_ireturn dX3_isLikeBaker_30 ⟨_, rfl, rfl⟩ ?_
      exact ⟨by rw [decide_eq_true ((nI_eq' (by omega) (by omega)).mp c_22)]; rfl, rfl⟩
