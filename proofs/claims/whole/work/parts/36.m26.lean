/-! tape, shift, judge -/
theorem tape_loop {G : WT} {l : Launch} {g0 : Hp} {P : Tp} {t q n : Nat} {x2 x3 : Int32} {Q : Option Value → Hp → Prop} (ht : t < 6)
    (k : ∀ g : Hp, (∀ a i, g.1 a i = g0.1 a i) → g.2.2 = g0.2.2 → (∀ a i, g.2.1 a i = if a = 170 ∧ 60 * t ≤ i ∧ i < 60 * t + 60 then 0 else g0.2.1 a i) → Q (some (.int 1)) g) :
    ∀ (m c : Nat) (g : Hp), c + m = 60 → (∀ a i, g.1 a i = g0.1 a i) → g.2.2 = g0.2.2 → (∀ a i, g.2.1 a i = if a = 170 ∧ 60 * t ≤ i ∧ i < 60 * t + c then 0 else g0.2.1 a i) → Wp G l 3 RX7 cX7_tape 5 (some .int) 69 [.ref (gA G 134), .int (nI t), .int x2, .int x3, .int (nI c)] [] g Q := by
  intro m
  induction m with
  | zero =>
    intro c g hc h1 h3 h2
    obtain rfl : c = 60 := by omega
    refine r_iload dX7_tape_69 rfl ?_
    refine r_bipush (v := 60) dX7_tape_71 (by decide) ?_
    refine r_icmp_ge (tgt := 95) dX7_tape_73 (by decide) (fun c_73 => ?_) (fun c_73 => ?_)
    · refine r_iconst (v := 1) dX7_tape_95 (by decide) ?_
      refine r_ireturn dX7_tape_96 ⟨_, rfl, rfl⟩ ?_
      exact k g h1 h3 h2
    · exact absurd (Int32.le_refl _) c_73
  | succ m ih =>
    intro c g hc h1 h3 h2
    refine r_iload dX7_tape_69 rfl ?_
    refine r_bipush (v := 60) dX7_tape_71 (by decide) ?_
    refine r_icmp_ge (tgt := 95) dX7_tape_73 (by decide) (fun c_73 => ?_) (fun c_73 => ?_)
    · exact absurd c_73 (nI_ge (a := c) (b := 60) (by omega) (by omega))
    · refine r_aload_n dX7_tape_76 rfl ?_
      refine r_getR (j := 170) dX7_tape_77 k_X7_205 rfl (by decide) rfl rfl ?_
      refine r_bipush (v := 60) dX7_tape_80 (by decide) ?_
      refine r_iload_n dX7_tape_82 rfl ?_
      refine r_imul dX7_tape_83 ?_
      refine r_iload dX7_tape_84 rfl ?_
      refine r_iadd dX7_tape_86 ?_
      refine r_lconst (v := 0) dX7_tape_87 (by decide) ?_
      refine r_last (60 * t + c) dX7_tape_88 rfl (by rw [show (60 : Int32) = nI 60 from rfl, pk_mul, nI_add]) (show 60 * t + c < 360 by omega) ?_
      refine r_iinc dX7_tape_89 rfl (by first | exact nI_inc _ | rfl) (by decide) rfl rfl ?_
      dsimp only [List.set]
      refine r_goto (tgt := 69) dX7_tape_92 (by decide) ?_
      refine ih (c + 1) _ (by omega) h1 h3 (fun a i => ?_)
      rw [setL_2, h2]
      by_cases q : a = 170 ∧ i = 60 * t + c
      · rw [if_pos q, if_pos (by omega)]
      · rw [if_neg q]
        by_cases q2 : a = 170 ∧ 60 * t ≤ i ∧ i < 60 * t + c
        · rw [if_pos q2, if_pos (by omega)]
        · rw [if_neg q2, if_neg (by omega)]
theorem tape_44 {G : WT} {l : Launch} {h : Hp} {P : Tp} {t q n : Nat} {s z : Int32} (H : RTp h P) (hP : TpOK P) (ht : t < 6) (hq : q ≤ 5) (hs : s = nI q - 1) (hn : n ≤ 60) (hz : (if q = 0 then n = 0 else z = nI n)) : ∀ x4 : Value, Wp G l 3 RX7 cX7_tape 5 (some .int) 44 [.ref (gA G 134), .int (nI t), .int s, .int z, x4] [] h (fun r h' => r = some (.int 1) ∧ RTp h' (updP P t (q, n, fun _ => 0)) ∧ TpOK (updP P t (q, n, fun _ => 0)) ∧ FrL h h') := by
  intro x4
  subst hs
  have fin : ∀ g : Hp, (∀ a i, g.1 a i = (setI (setI h 168 t (nI q - 1)) 169 t (nI n)).1 a i) → g.2.2 = h.2.2 → (∀ a i, g.2.1 a i = if a = 170 ∧ 60 * t ≤ i ∧ i < 60 * t + 60 then 0 else h.2.1 a i) → RTp g (updP P t (q, n, fun _ => 0)) ∧ TpOK (updP P t (q, n, fun _ => 0)) ∧ FrL h g := by
    intro g h1 h3 h2
    refine ⟨fun o ho => ?_, fun o ho => ?_, fun a i y1 y2 => ?_, fun a i y1 y2 => ?_, h3⟩
    · obtain ⟨q1, q2, q3⟩ := H o ho
      unfold updP
      by_cases hot : o = t
      · subst hot
        rw [if_pos rfl]
        exact ⟨by rw [h1, setI_ne (by decide), setI_at], by rw [h1, setI_at], fun k hk => by rw [h2, if_pos (by omega)]⟩
      · rw [if_neg hot]
        exact ⟨by rw [h1, setI_ne (by decide), setI_nj hot]; exact q1, by rw [h1, setI_nj hot, setI_ne (by decide)]; exact q2, fun k hk => by rw [h2, if_neg (by omega)]; exact q3 k hk⟩
    · unfold updP
      by_cases hot : o = t
      · rw [if_pos hot]
        exact ⟨hq, hn, fun y => by have y : q = 0 := y; rw [if_pos y] at hz; exact hz⟩
      · rw [if_neg hot]; exact hP o ho
    · rw [h1, setI_ne y2, setI_ne y1]
    · rw [h2, if_neg (fun y => y1 y.1)]
  by_cases h0 : q = 0
  · rw [if_pos h0] at hz
    have e0 : nI n = 0 := by rw [hz]; rfl
    refine r_aload_n dX7_tape_44 rfl ?_
    refine r_getR (j := 168) dX7_tape_45 k_X7_199 rfl (by decide) rfl rfl ?_
    refine r_iload_n dX7_tape_48 rfl ?_
    refine r_iload_n dX7_tape_49 rfl ?_
    refine r_iast (t) dX7_tape_50 rfl rfl (show t < 6 by omega) ?_
    refine r_aload_n dX7_tape_51 rfl ?_
    refine r_getR (j := 169) dX7_tape_52 k_X7_202 rfl (by decide) rfl rfl ?_
    refine r_iload_n dX7_tape_55 rfl ?_
    refine r_iload_n dX7_tape_56 rfl ?_
    refine r_if_ge (tgt := 64) dX7_tape_57 (by decide) (fun c_57 => ?_) (fun c_57 => ?_)
    · exact absurd h0 ((sort_ge (by omega)).mp c_57)
    · refine r_iconst (v := 0) dX7_tape_60 (by decide) ?_
      refine r_goto (tgt := 65) dX7_tape_61 (by decide) ?_
      refine r_iast (t) dX7_tape_65 rfl rfl (show t < 6 by omega) ?_
      refine r_iconst (v := 0) dX7_tape_66 (by decide) ?_
      refine r_istore dX7_tape_67 (by decide) rfl rfl ?_
      dsimp only [List.set]
      exact tape_loop (P := P) (q := q) (n := n) ht (fun g h1 h3 h2 => ⟨rfl, fin g (fun a i => by rw [e0]; exact h1 a i) h3 h2⟩) 60 0 _ (by omega) (fun _ _ => rfl) rfl (fun a i => by rw [if_neg (by omega)])
  · rw [if_neg h0] at hz
    subst hz
    refine r_aload_n dX7_tape_44 rfl ?_
    refine r_getR (j := 168) dX7_tape_45 k_X7_199 rfl (by decide) rfl rfl ?_
    refine r_iload_n dX7_tape_48 rfl ?_
    refine r_iload_n dX7_tape_49 rfl ?_
    refine r_iast (t) dX7_tape_50 rfl rfl (show t < 6 by omega) ?_
    refine r_aload_n dX7_tape_51 rfl ?_
    refine r_getR (j := 169) dX7_tape_52 k_X7_202 rfl (by decide) rfl rfl ?_
    refine r_iload_n dX7_tape_55 rfl ?_
    refine r_iload_n dX7_tape_56 rfl ?_
    refine r_if_ge (tgt := 64) dX7_tape_57 (by decide) (fun c_57 => ?_) (fun c_57 => ?_)
    · refine r_iload_n dX7_tape_64 rfl ?_
      refine r_iast (t) dX7_tape_65 rfl rfl (show t < 6 by omega) ?_
      refine r_iconst (v := 0) dX7_tape_66 (by decide) ?_
      refine r_istore dX7_tape_67 (by decide) rfl rfl ?_
      dsimp only [List.set]
      exact tape_loop (P := P) (q := q) (n := n) ht (fun g h1 h3 h2 => ⟨rfl, fin g h1 h3 h2⟩) 60 0 _ (by omega) (fun _ _ => rfl) rfl (fun a i => by rw [if_neg (by omega)])
    · exact absurd ((sort_ge (by omega)).mpr h0) c_57
theorem sortD_in {s : Int32} : inP s (-1) 4 = (sortD s).isSome := by
  have h1 := Int32.toInt_lt s
  have h2 := Int32.le_toInt s
  unfold sortD
  by_cases hm : s = -1
  · subst hm; rfl
  · rw [if_neg hm]
    have z1 := lv_neT hm (a := -1) rfl
    cases hd : dec s 5 with
    | some j =>
      obtain ⟨hj, rfl, -⟩ := dec_some.mp hd
      simp only [inP, Bool.and_eq_true, decide_eq_true_eq, Int32.le_iff_toInt_le, Option.isSome]
      rw [show ((-1 : Int32)).toInt = -1 from rfl, show (4 : Int32).toInt = 4 from rfl, nI_toInt (by omega)]
      simp
      omega
    | none =>
      have q := dec_none.mp hd
      simp only [inP, Option.isSome, Int32.le_iff_toInt_le]
      rw [show ((-1 : Int32)).toInt = -1 from rfl, show (4 : Int32).toInt = 4 from rfl]
      simp
      omega
theorem sortD_v {s : Int32} {q : Nat} (h : sortD s = some q) : q ≤ 5 ∧ s = nI q - 1 := by
  unfold sortD at h
  split at h
  · cases h; rename_i hs; exact ⟨by omega, by rw [hs]; rfl⟩
  · cases hd : dec s 5 with
    | none => rw [hd] at h; cases h
    | some j =>
      rw [hd] at h
      obtain ⟨hj, rfl, -⟩ := dec_some.mp hd
      cases h
      exact ⟨by omega, (nI_pred _).symm⟩
set_option maxRecDepth 100000 in
theorem m_X7_tape {G : WT} {l : Launch} (hG : GOK G) {h : Hp} {P : Tp} {t s n : Int32} (H : RTp h P) (hP : TpOK P) : Cl G l 3 yX7_tape cX7_tape 5 (some .int) [.ref (gA G 134), .int t, .int s, .int n] h (fun r h' => r = some (.int (tapeS P t s n).1) ∧ RTp h' (tapeS P t s n).2 ∧ TpOK (tapeS P t s n).2 ∧ FrL h h') := by
  refine Cl.of hG (by decide) (Nat.le_of_ble_eq_true rfl) ?_
  show Wp G l 3 RX7 cX7_tape 5 (some .int) 0 [.ref (gA G 134), .int t, .int s, .int n, mk0] [] h _
  cases ht : dec t 6 with
  | none =>
    refine r_aload_n dX7_tape_0 rfl ?_
    refine r_iload_n dX7_tape_1 rfl ?_
    refine r_callV dX7_tape_2 l_X7_384 o_X7_isTape v_X7_isTape rfl (by decide) rfl rfl (m_X7_isTape hG) (by decide) rfl (Nat.le_of_ble_eq_true rfl) (fun r2 h2 hq2 => ?_)
    obtain ⟨rfl, e2⟩ := hq2
    rw [e2]
    clear e2 h2
    refine r_if_ne (tgt := 10) dX7_tape_5 (by decide) (fun c_5 => ?_) (fun c_5 => ?_)
    · exact absurd (by rw [ht]; rfl) c_5
    · refine r_iconst (v := -1) dX7_tape_8 (by decide) ?_
      refine r_ireturn dX7_tape_9 ⟨_, rfl, rfl⟩ ?_
      rw [tapeS, ht]
      exact ⟨rfl, H, hP, FrL.rf⟩
  | some t1 =>
    obtain ⟨ht1, rfl, -⟩ := dec_some.mp ht
    cases hs : sortD s with
    | none =>
      refine r_aload_n dX7_tape_0 rfl ?_
      refine r_iload_n dX7_tape_1 rfl ?_
      refine r_callV dX7_tape_2 l_X7_384 o_X7_isTape v_X7_isTape rfl (by decide) rfl rfl (m_X7_isTape hG) (by decide) rfl (Nat.le_of_ble_eq_true rfl) (fun r2 h2 hq2 => ?_)
      obtain ⟨rfl, e2⟩ := hq2
      rw [e2]
      clear e2 h2
      refine r_if_ne (tgt := 10) dX7_tape_5 (by decide) (fun c_5 => ?_) (fun c_5 => ?_)
      · refine r_aload_n dX7_tape_10 rfl ?_
        refine r_iload_n dX7_tape_11 rfl ?_
        refine r_iconst (v := -1) dX7_tape_12 (by decide) ?_
        refine r_iconst (v := 4) dX7_tape_13 (by decide) ?_
        refine r_callV dX7_tape_14 l_X7_212 o_X7_in v_X7_in rfl (by decide) rfl rfl (m_X7_in hG) (by decide) rfl (Nat.le_of_ble_eq_true rfl) (fun r14 h14 hq14 => ?_)
        obtain ⟨rfl, e14⟩ := hq14
        rw [e14]
        clear e14 h14
        rw [sortD_in, hs]
        refine r_if_eq (tgt := 30) dX7_tape_17 (by decide) (fun c_17 => ?_) (fun c_17 => ?_)
        · refine r_bipush (v := -2) dX7_tape_30 (by decide) ?_
          refine r_ireturn dX7_tape_32 ⟨_, rfl, rfl⟩ ?_
          rw [tapeS, ht, hs]
          exact ⟨rfl, H, hP, FrL.rf⟩
        · exact absurd rfl c_17
      · exact absurd c_5 (b01_n0.mpr (by rw [ht]; rfl))
    | some q =>
      obtain ⟨hq, rfl⟩ := sortD_v hs
      have es : tapeS P (nI t1) (nI q - 1) n = if q = 0 then ((1 : Int32), updP P t1 (0, 0, fun _ => 0)) else if 60 < n.toInt then ((-2 : Int32), P) else if n.toInt < 0 then ((-14 : Int32), P) else ((1 : Int32), updP P t1 (q, n.toInt.toNat, fun _ => 0)) := by rw [tapeS, ht, hs]
      by_cases h0 : q = 0
      · rw [if_pos h0] at es
        refine r_aload_n dX7_tape_0 rfl ?_
        refine r_iload_n dX7_tape_1 rfl ?_
        refine r_callV dX7_tape_2 l_X7_384 o_X7_isTape v_X7_isTape rfl (by decide) rfl rfl (m_X7_isTape hG) (by decide) rfl (Nat.le_of_ble_eq_true rfl) (fun r2 h2 hq2 => ?_)
        obtain ⟨rfl, e2⟩ := hq2
        rw [e2]
        clear e2 h2
        refine r_if_ne (tgt := 10) dX7_tape_5 (by decide) (fun c_5 => ?_) (fun c_5 => ?_)
        · refine r_aload_n dX7_tape_10 rfl ?_
          refine r_iload_n dX7_tape_11 rfl ?_
          refine r_iconst (v := -1) dX7_tape_12 (by decide) ?_
          refine r_iconst (v := 4) dX7_tape_13 (by decide) ?_
          refine r_callV dX7_tape_14 l_X7_212 o_X7_in v_X7_in rfl (by decide) rfl rfl (m_X7_in hG) (by decide) rfl (Nat.le_of_ble_eq_true rfl) (fun r14 h14 hq14 => ?_)
          obtain ⟨rfl, e14⟩ := hq14
          rw [e14]
          clear e14 h14
          rw [sortD_in, hs]
          refine r_if_eq (tgt := 30) dX7_tape_17 (by decide) (fun c_17 => ?_) (fun c_17 => ?_)
          · exact absurd c_17 (b01_n0.mpr rfl)
          · refine r_iload_n dX7_tape_20 rfl ?_
            refine r_if_lt (tgt := 33) dX7_tape_21 (by decide) (fun c_21 => ?_) (fun c_21 => ?_)
            · refine r_iload_n dX7_tape_33 rfl ?_
              refine r_if_lt (tgt := 44) dX7_tape_34 (by decide) (fun c_34 => ?_) (fun c_34 => ?_)
              · rw [es]
                have q2 := tape_44 (G := G) (l := l) (z := n) H hP ht1 hq rfl (Nat.zero_le 60) (by rw [if_pos h0]) mk0
                rw [h0] at q2 ⊢
                exact q2
              · exact absurd ((sort_lt (by omega)).mpr h0) c_34
            · exact absurd ((sort_lt (by omega)).mpr h0) c_21
        · exact absurd c_5 (b01_n0.mpr (by rw [ht]; rfl))
      · rw [if_neg h0] at es
        refine r_aload_n dX7_tape_0 rfl ?_
        refine r_iload_n dX7_tape_1 rfl ?_
        refine r_callV dX7_tape_2 l_X7_384 o_X7_isTape v_X7_isTape rfl (by decide) rfl rfl (m_X7_isTape hG) (by decide) rfl (Nat.le_of_ble_eq_true rfl) (fun r2 h2 hq2 => ?_)
        obtain ⟨rfl, e2⟩ := hq2
        rw [e2]
        clear e2 h2
        refine r_if_ne (tgt := 10) dX7_tape_5 (by decide) (fun c_5 => ?_) (fun c_5 => ?_)
        · refine r_aload_n dX7_tape_10 rfl ?_
          refine r_iload_n dX7_tape_11 rfl ?_
          refine r_iconst (v := -1) dX7_tape_12 (by decide) ?_
          refine r_iconst (v := 4) dX7_tape_13 (by decide) ?_
          refine r_callV dX7_tape_14 l_X7_212 o_X7_in v_X7_in rfl (by decide) rfl rfl (m_X7_in hG) (by decide) rfl (Nat.le_of_ble_eq_true rfl) (fun r14 h14 hq14 => ?_)
          obtain ⟨rfl, e14⟩ := hq14
          rw [e14]
          clear e14 h14
          rw [sortD_in, hs]
          refine r_if_eq (tgt := 30) dX7_tape_17 (by decide) (fun c_17 => ?_) (fun c_17 => ?_)
          · exact absurd c_17 (b01_n0.mpr rfl)
          · refine r_iload_n dX7_tape_20 rfl ?_
            refine r_if_lt (tgt := 33) dX7_tape_21 (by decide) (fun c_21 => ?_) (fun c_21 => ?_)
            · exact absurd ((sort_lt (by omega)).mp c_21) h0
            · refine r_iload_n dX7_tape_24 rfl ?_
              refine r_bipush (v := 60) dX7_tape_25 (by decide) ?_
              refine r_icmp_le (tgt := 33) dX7_tape_27 (by decide) (fun c_27 => ?_) (fun c_27 => ?_)
              · have y : ¬ 60 < n.toInt := by have := Int32.le_iff_toInt_le.mp c_27; rw [show (60 : Int32).toInt = 60 from rfl] at this; omega
                rw [if_neg y] at es
                refine r_iload_n dX7_tape_33 rfl ?_
                refine r_if_lt (tgt := 44) dX7_tape_34 (by decide) (fun c_34 => ?_) (fun c_34 => ?_)
                · exact absurd ((sort_lt (by omega)).mp c_34) h0
                · refine r_iload_n dX7_tape_37 rfl ?_
                  refine r_if_ge (tgt := 44) dX7_tape_38 (by decide) (fun c_38 => ?_) (fun c_38 => ?_)
                  · have z : ¬ n.toInt < 0 := by have := Int32.le_iff_toInt_le.mp c_38; rw [show (0 : Int32).toInt = 0 from rfl] at this; omega
                    rw [if_neg z] at es
                    rw [es]
                    have en : n = nI n.toInt.toNat := by
                      apply Int32.toInt_inj.mp
                      rw [nI_toInt (by omega)]
                      omega
                    exact tape_44 (G := G) (l := l) (z := n) H hP ht1 hq rfl (show n.toInt.toNat ≤ 60 by omega) (by rw [if_neg h0]; exact en) mk0
                  · have z : n.toInt < 0 := by
                      apply Classical.byContradiction
                      intro q
                      exact c_38 (Int32.le_iff_toInt_le.mpr (by rw [show (0 : Int32).toInt = 0 from rfl]; omega))
                    rw [if_pos z] at es
                    refine r_bipush (v := -14) dX7_tape_41 (by decide) ?_
                    refine r_ireturn dX7_tape_43 ⟨_, rfl, rfl⟩ ?_
                    rw [es]
                    exact ⟨rfl, H, hP, FrL.rf⟩
              · have y : 60 < n.toInt := by
                  apply Classical.byContradiction
                  intro q
                  exact c_27 (Int32.le_iff_toInt_le.mpr (by rw [show (60 : Int32).toInt = 60 from rfl]; omega))
                rw [if_pos y] at es
                refine r_bipush (v := -2) dX7_tape_30 (by decide) ?_
                refine r_ireturn dX7_tape_32 ⟨_, rfl, rfl⟩ ?_
                rw [es]
                exact ⟨rfl, H, hP, FrL.rf⟩
        · exact absurd c_5 (b01_n0.mpr (by rw [ht]; rfl))
theorem aside_l {G : WT} {l : Launch} {h : Hp} {t i n : Nat} {x3 x4 : Int32} {Q : Option Value → Hp → Prop} (ht : t < 6) (hn : i + n ≤ 60)
    (k : ∀ g : Hp, (∀ a x, g.1 a x = h.1 a x) → g.2.2 = h.2.2 → (∀ a x, g.2.1 a x = if a = 171 ∧ x < n then h.2.1 170 (60 * t + i + x) else h.2.1 a x) → ∀ x6 : Value, Wp G l 3 RX7 cX7_shift 7 (some .int) 138 [.ref (gA G 134), .int (nI t), .int (nI i), .int x3, .int x4, .int (nI n), x6] [] g Q) :
    ∀ (m c : Nat) (g : Hp), c + m = n → (∀ a x, g.1 a x = h.1 a x) → g.2.2 = h.2.2 → (∀ a x, g.2.1 a x = if a = 171 ∧ x < c then h.2.1 170 (60 * t + i + x) else h.2.1 a x) → Wp G l 3 RX7 cX7_shift 7 (some .int) 104 [.ref (gA G 134), .int (nI t), .int (nI i), .int x3, .int x4, .int (nI n), .int (nI c)] [] g Q := by
  intro m
  induction m with
  | zero =>
    intro c g hc h1 h3 h2
    obtain rfl : c = n := by omega
    refine r_iload dX7_shift_104 rfl ?_
    refine r_iload dX7_shift_106 rfl ?_
    refine r_icmp_ge (tgt := 138) dX7_shift_108 (by decide) (fun c_108 => ?_) (fun c_108 => ?_)
    · exact k g h1 h3 h2 _
    · exact absurd (Int32.le_refl _) c_108
  | succ m ih =>
    intro c g hc h1 h3 h2
    refine r_iload dX7_shift_104 rfl ?_
    refine r_iload dX7_shift_106 rfl ?_
    refine r_icmp_ge (tgt := 138) dX7_shift_108 (by decide) (fun c_108 => ?_) (fun c_108 => ?_)
    · exact absurd c_108 (nI_ge (by omega) (by omega))
    · refine r_aload_n dX7_shift_111 rfl ?_
      refine r_getR (j := 171) dX7_shift_112 k_X7_209 rfl (by decide) rfl rfl ?_
      refine r_iload dX7_shift_115 rfl ?_
      refine r_aload_n dX7_shift_117 rfl ?_
      refine r_getR (j := 170) dX7_shift_118 k_X7_205 rfl (by decide) rfl rfl ?_
      refine r_bipush (v := 60) dX7_shift_121 (by decide) ?_
      refine r_iload_n dX7_shift_123 rfl ?_
      refine r_imul dX7_shift_124 ?_
      refine r_iload_n dX7_shift_125 rfl ?_
      refine r_iadd dX7_shift_126 ?_
      refine r_iload dX7_shift_127 rfl ?_
      refine r_iadd dX7_shift_129 ?_
      refine r_lald (60 * t + i + c) dX7_shift_130 rfl (by rw [show (60 : Int32) = nI 60 from rfl, pk_mul, nI_add, nI_add]) (show 60 * t + i + c < 360 by omega) ?_
      refine r_last (c) dX7_shift_131 rfl rfl (show c < 60 by omega) ?_
      refine r_iinc dX7_shift_132 rfl (by first | exact nI_inc _ | rfl) (by decide) rfl rfl ?_
      dsimp only [List.set]
      refine r_goto (tgt := 104) dX7_shift_135 (by decide) ?_
      refine ih (c + 1) _ (by omega) h1 h3 (fun a x => ?_)
      rw [setL_2, h2, h2, if_neg (show ¬ (170 = 171 ∧ 60 * t + i + c < c) by omega)]
      by_cases q : a = 171 ∧ x = c
      · rw [if_pos q, if_pos (by omega), q.2]
      · rw [if_neg q]
        by_cases q2 : a = 171 ∧ x < c
        · rw [if_pos q2, if_pos (by omega)]
        · rw [if_neg q2, if_neg (by omega)]
theorem aback_l {G : WT} {l : Launch} {h : Hp} {o j n : Nat} {x1 x2 : Int32} {Q : Option Value → Hp → Prop} (ho : o < 6) (hn : j + n ≤ 60)
    (k : ∀ g : Hp, (∀ a x, g.1 a x = h.1 a x) → g.2.2 = h.2.2 → (∀ a x, g.2.1 a x = if a = 170 ∧ 60 * o + j ≤ x ∧ x < 60 * o + j + n then h.2.1 171 (x - (60 * o + j)) else h.2.1 a x) → Q (some (.int (nI n))) g) :
    ∀ (m c : Nat) (g : Hp), c + m = n → (∀ a x, g.1 a x = h.1 a x) → g.2.2 = h.2.2 → (∀ a x, g.2.1 a x = if a = 170 ∧ 60 * o + j ≤ x ∧ x < 60 * o + j + c then h.2.1 171 (x - (60 * o + j)) else h.2.1 a x) → Wp G l 3 RX7 cX7_shift 7 (some .int) 141 [.ref (gA G 134), .int x1, .int x2, .int (nI o), .int (nI j), .int (nI n), .int (nI c)] [] g Q := by
  intro m
  induction m with
  | zero =>
    intro c g hc h1 h3 h2
    obtain rfl : c = n := by omega
    refine r_iload dX7_shift_141 rfl ?_
    refine r_iload dX7_shift_143 rfl ?_
    refine r_icmp_ge (tgt := 176) dX7_shift_145 (by decide) (fun c_145 => ?_) (fun c_145 => ?_)
    · refine r_iload dX7_shift_176 rfl ?_
      refine r_ireturn dX7_shift_178 ⟨_, rfl, rfl⟩ ?_
      exact k g h1 h3 h2
    · exact absurd (Int32.le_refl _) c_145
  | succ m ih =>
    intro c g hc h1 h3 h2
    refine r_iload dX7_shift_141 rfl ?_
    refine r_iload dX7_shift_143 rfl ?_
    refine r_icmp_ge (tgt := 176) dX7_shift_145 (by decide) (fun c_145 => ?_) (fun c_145 => ?_)
    · exact absurd c_145 (nI_ge (by omega) (by omega))
    · refine r_aload_n dX7_shift_148 rfl ?_
      refine r_getR (j := 170) dX7_shift_149 k_X7_205 rfl (by decide) rfl rfl ?_
      refine r_bipush (v := 60) dX7_shift_152 (by decide) ?_
      refine r_iload_n dX7_shift_154 rfl ?_
      refine r_imul dX7_shift_155 ?_
      refine r_iload dX7_shift_156 rfl ?_
      refine r_iadd dX7_shift_158 ?_
      refine r_iload dX7_shift_159 rfl ?_
      refine r_iadd dX7_shift_161 ?_
      refine r_aload_n dX7_shift_162 rfl ?_
      refine r_getR (j := 171) dX7_shift_163 k_X7_209 rfl (by decide) rfl rfl ?_
      refine r_iload dX7_shift_166 rfl ?_
      refine r_lald (c) dX7_shift_168 rfl rfl (show c < 60 by omega) ?_
      refine r_last (60 * o + j + c) dX7_shift_169 rfl (by rw [show (60 : Int32) = nI 60 from rfl, pk_mul, nI_add, nI_add]) (show 60 * o + j + c < 360 by omega) ?_
      refine r_iinc dX7_shift_170 rfl (by first | exact nI_inc _ | rfl) (by decide) rfl rfl ?_
      dsimp only [List.set]
      refine r_goto (tgt := 141) dX7_shift_173 (by decide) ?_
      refine ih (c + 1) _ (by omega) h1 h3 (fun a x => ?_)
      rw [setL_2, h2, h2, if_neg (show ¬ (171 = 170 ∧ 60 * o + j ≤ c ∧ c < 60 * o + j + c) by omega)]
      by_cases q : a = 170 ∧ x = 60 * o + j + c
      · rw [if_pos q, if_pos (by omega), show x - (60 * o + j) = c by omega]
      · rw [if_neg q]
        by_cases q2 : a = 170 ∧ 60 * o + j ≤ x ∧ x < 60 * o + j + c
        · rw [if_pos q2, if_pos (by omega)]
        · rw [if_neg q2, if_neg (by omega)]
theorem i_lt0 {x : Int32} : x < 0 ↔ x.toInt < 0 := by rw [Int32.lt_iff_toInt_lt, show (0 : Int32).toInt = 0 from rfl]
theorem i_nn {x : Int32} (h : ¬ x.toInt < 0) : x = nI x.toInt.toNat := by
  have := Int32.toInt_lt x
  apply Int32.toInt_inj.mp
  rw [nI_toInt (by omega)]
  omega
theorem len_sub {a : Nat} {n : Int32} (ha : a ≤ 1000) (hn : ¬ n.toInt < 0) : (nI a - n).toInt = (a : Int) - n.toInt := by
  have := Int32.toInt_lt n
  rw [Int32.toInt_sub, nI_toInt (by omega)]
  apply Int.bmod_eq_of_le <;> omega
set_option maxRecDepth 100000 in
theorem m_X7_shift {G : WT} {l : Launch} (hG : GOK G) {h : Hp} {P : Tp} {t i o j n : Int32} (H : RTp h P) (hP : TpOK P) : Cl G l 3 yX7_shift cX7_shift 7 (some .int) [.ref (gA G 134), .int t, .int i, .int o, .int j, .int n] h (fun r h' => r = some (.int (shiftS P t i o j n).1) ∧ RTp h' (shiftS P t i o j n).2 ∧ TpOK (shiftS P t i o j n).2 ∧ FrL h h') := by
  refine Cl.of hG (by decide) (Nat.le_of_ble_eq_true rfl) ?_
  show Wp G l 3 RX7 cX7_shift 7 (some .int) 0 [.ref (gA G 134), .int t, .int i, .int o, .int j, .int n, mk0] [] h _
  cases ht : dec t 6 with
  | none =>
    refine r_aload_n dX7_shift_0 rfl ?_
    refine r_iload_n dX7_shift_1 rfl ?_
    refine r_callV dX7_shift_2 l_X7_384 o_X7_isTape v_X7_isTape rfl (by decide) rfl rfl (m_X7_isTape hG) (by decide) rfl (Nat.le_of_ble_eq_true rfl) (fun r2 h2 hq2 => ?_)
    obtain ⟨rfl, e2⟩ := hq2
    rw [e2]
    clear e2 h2
    refine r_if_eq (tgt := 16) dX7_shift_5 (by decide) (fun c_5 => ?_) (fun c_5 => ?_)
    · refine r_iconst (v := -1) dX7_shift_16 (by decide) ?_
      refine r_ireturn dX7_shift_17 ⟨_, rfl, rfl⟩ ?_
      rw [shiftS, ht]
      exact ⟨rfl, H, hP, FrL.rf⟩
    · exact absurd (by rw [ht]; rfl) c_5
  | some t1 =>
    obtain ⟨ht1, rfl, -⟩ := dec_some.mp ht
    cases ho : dec o 6 with
    | none =>
      refine r_aload_n dX7_shift_0 rfl ?_
      refine r_iload_n dX7_shift_1 rfl ?_
      refine r_callV dX7_shift_2 l_X7_384 o_X7_isTape v_X7_isTape rfl (by decide) rfl rfl (m_X7_isTape hG) (by decide) rfl (Nat.le_of_ble_eq_true rfl) (fun r2 h2 hq2 => ?_)
      obtain ⟨rfl, e2⟩ := hq2
      rw [e2]
      clear e2 h2
      refine r_if_eq (tgt := 16) dX7_shift_5 (by decide) (fun c_5 => ?_) (fun c_5 => ?_)
      · exact absurd c_5 (b01_n0.mpr (by rw [ht]; rfl))
      · refine r_aload_n dX7_shift_8 rfl ?_
        refine r_iload_n dX7_shift_9 rfl ?_
        refine r_callV dX7_shift_10 l_X7_384 o_X7_isTape v_X7_isTape rfl (by decide) rfl rfl (m_X7_isTape hG) (by decide) rfl (Nat.le_of_ble_eq_true rfl) (fun r10 h10 hq10 => ?_)
        obtain ⟨rfl, e10⟩ := hq10
        rw [e10]
        clear e10 h10
        refine r_if_ne (tgt := 18) dX7_shift_13 (by decide) (fun c_13 => ?_) (fun c_13 => ?_)
        · exact absurd (by rw [ho]; rfl) c_13
        · refine r_iconst (v := -1) dX7_shift_16 (by decide) ?_
          refine r_ireturn dX7_shift_17 ⟨_, rfl, rfl⟩ ?_
          rw [shiftS, ht, ho]
          exact ⟨rfl, H, hP, FrL.rf⟩
    | some o1 =>
      obtain ⟨ho1, rfl, -⟩ := dec_some.mp ho
      obtain ⟨p1, p2, p3⟩ := hP t1 ht1
      obtain ⟨q1, q2, q3⟩ := H t1 ht1
      obtain ⟨p4, p5, p6⟩ := hP o1 ho1
      obtain ⟨q4, q5, q6⟩ := H o1 ho1
      have es : shiftS P (nI t1) i (nI o1) j n = if (P t1).1 = 0 ∨ (P o1).1 = 0 then ((-11 : Int32), P) else if (P t1).1 = (P o1).1 then
          (if n.toInt < 0 ∨ i.toInt < 0 ∨ j.toInt < 0 ∨ ((P t1).2.1 : Int) < i.toInt + n.toInt ∨ ((P o1).2.1 : Int) < j.toInt + n.toInt then ((-13 : Int32), P) else
            (n, updP P o1 ((P o1).1, (P o1).2.1, fun x => if j.toInt.toNat ≤ x ∧ x < j.toInt.toNat + n.toInt.toNat then (P t1).2.2 (i.toInt.toNat + (x - j.toInt.toNat)) else (P o1).2.2 x)))
          else ((-12 : Int32), P) := by rw [shiftS, ht, ho]
      have eqs : nI (P t1).1 - 1 = nI (P o1).1 - 1 ↔ (P t1).1 = (P o1).1 := by
        constructor
        · intro y
          have := congrArg Int32.toInt y
          rw [nI_pred0 (by omega), nI_pred0 (by omega)] at this
          omega
        · intro y; rw [y]
      have far : (n.toInt < 0 ∨ i.toInt < 0 ∨ j.toInt < 0 ∨ ((P t1).2.1 : Int) < i.toInt + n.toInt ∨ ((P o1).2.1 : Int) < j.toInt + n.toInt) → ¬ ((P t1).1 = 0 ∨ (P o1).1 = 0) → (P t1).1 = (P o1).1 → (some (Value.int (-13)) = some (Value.int (shiftS P (nI t1) i (nI o1) j n).1) ∧ RTp h (shiftS P (nI t1) i (nI o1) j n).2 ∧ TpOK (shiftS P (nI t1) i (nI o1) j n).2 ∧ FrL h h) := by
        intro y1 y2 y3
        rw [es, if_neg y2, if_pos y3, if_pos y1]
        exact ⟨rfl, H, hP, FrL.rf⟩
      have k98 : (n.toInt < 0 ∨ i.toInt < 0 ∨ j.toInt < 0 ∨ ((P t1).2.1 : Int) < i.toInt + n.toInt ∨ ((P o1).2.1 : Int) < j.toInt + n.toInt) → ¬ ((P t1).1 = 0 ∨ (P o1).1 = 0) → (P t1).1 = (P o1).1 → Wp G l 3 RX7 cX7_shift 7 (some .int) 98 [.ref (gA G 134), .int (nI t1), .int i, .int (nI o1), .int j, .int n, mk0] [] h (fun r h' => r = some (.int (shiftS P (nI t1) i (nI o1) j n).1) ∧ RTp h' (shiftS P (nI t1) i (nI o1) j n).2 ∧ TpOK (shiftS P (nI t1) i (nI o1) j n).2 ∧ FrL h h') := by
        intro y1 y2 y3
        refine r_bipush (v := -13) dX7_shift_98 (by decide) ?_
        refine r_ireturn dX7_shift_100 ⟨_, rfl, rfl⟩ ?_
        exact far y1 y2 y3
      have k101 : ¬ (n.toInt < 0 ∨ i.toInt < 0 ∨ j.toInt < 0 ∨ ((P t1).2.1 : Int) < i.toInt + n.toInt ∨ ((P o1).2.1 : Int) < j.toInt + n.toInt) → ¬ ((P t1).1 = 0 ∨ (P o1).1 = 0) → (P t1).1 = (P o1).1 → Wp G l 3 RX7 cX7_shift 7 (some .int) 101 [.ref (gA G 134), .int (nI t1), .int i, .int (nI o1), .int j, .int n, mk0] [] h (fun r h' => r = some (.int (shiftS P (nI t1) i (nI o1) j n).1) ∧ RTp h' (shiftS P (nI t1) i (nI o1) j n).2 ∧ TpOK (shiftS P (nI t1) i (nI o1) j n).2 ∧ FrL h h') := by
        intro y1 y2 y3
        rw [es, if_neg y2, if_pos y3, if_neg y1]
        obtain ⟨ni, hni⟩ : ∃ x, x = n.toInt.toNat := ⟨_, rfl⟩
        obtain ⟨ii, hii⟩ : ∃ x, x = i.toInt.toNat := ⟨_, rfl⟩
        obtain ⟨ji, hji⟩ : ∃ x, x = j.toInt.toNat := ⟨_, rfl⟩
        have en : n = nI ni := by rw [hni]; exact i_nn (by omega)
        have ei : i = nI ii := by rw [hii]; exact i_nn (by omega)
        have ej : j = nI ji := by rw [hji]; exact i_nn (by omega)
        have b1 : ii + ni ≤ 60 := by omega
        have b2 : ji + ni ≤ 60 := by omega
        rw [← hni, ← hii, ← hji, en, ei, ej]
        refine r_iconst (v := 0) dX7_shift_101 (by decide) ?_
        refine r_istore dX7_shift_102 (by decide) rfl rfl ?_
        dsimp only [List.set]
        refine aside_l (h := h) ht1 b1 (fun g1 z1 z3 z2 x6 => ?_) ni 0 h (by omega) (fun _ _ => rfl) rfl (fun a x => by rw [if_neg (by omega)])
        refine r_iconst (v := 0) dX7_shift_138 (by decide) ?_
        refine r_istore dX7_shift_139 (by decide) rfl rfl ?_
        refine aback_l (h := g1) ho1 b2 (fun g2 w1 w3 w2 => ?_) ni 0 g1 (by omega) (fun _ _ => rfl) rfl (fun a x => by rw [if_neg (by omega)])
        refine ⟨rfl, fun c hc => ?_, fun c hc => ?_, fun a x _ _ => (w1 a x).trans (z1 a x), fun a x u1 u2 => ?_, w3.trans z3⟩
        · obtain ⟨c1, c2, c3⟩ := H c hc
          unfold updP
          by_cases hco : c = o1
          · subst hco
            rw [if_pos rfl]
            refine ⟨by rw [w1, z1]; exact c1, by rw [w1, z1]; exact c2, fun x hx => ?_⟩
            show _ = if ji ≤ x ∧ x < ji + ni then (P t1).2.2 (ii + (x - ji)) else (P c).2.2 x
            rw [w2]
            by_cases hx2 : ji ≤ x ∧ x < ji + ni
            · rw [if_pos (by omega), if_pos hx2, z2, if_pos (by omega), ← q3 (ii + (x - ji)) (by omega), show 60 * t1 + ii + (60 * c + x - (60 * c + ji)) = 60 * t1 + (ii + (x - ji)) by omega]
            · rw [if_neg (by omega), if_neg hx2, z2, if_neg (by omega)]; exact c3 x hx
          · rw [if_neg hco]
            refine ⟨by rw [w1, z1]; exact c1, by rw [w1, z1]; exact c2, fun x hx => ?_⟩
            rw [w2, if_neg (by omega), z2, if_neg (by omega)]; exact c3 x hx
        · unfold updP
          by_cases hco : c = o1
          · rw [if_pos hco]; exact ⟨p4, p5, p6⟩
          · rw [if_neg hco]; exact hP c hc
        · rw [w2, if_neg (by omega), z2, if_neg (by omega)]
      refine r_aload_n dX7_shift_0 rfl ?_
      refine r_iload_n dX7_shift_1 rfl ?_
      refine r_callV dX7_shift_2 l_X7_384 o_X7_isTape v_X7_isTape rfl (by decide) rfl rfl (m_X7_isTape hG) (by decide) rfl (Nat.le_of_ble_eq_true rfl) (fun r2 h2 hq2 => ?_)
      obtain ⟨rfl, e2⟩ := hq2
      rw [e2]
      clear e2 h2
      refine r_if_eq (tgt := 16) dX7_shift_5 (by decide) (fun c_5 => ?_) (fun c_5 => ?_)
      · exact absurd c_5 (b01_n0.mpr (by rw [ht]; rfl))
      · refine r_aload_n dX7_shift_8 rfl ?_
        refine r_iload_n dX7_shift_9 rfl ?_
        refine r_callV dX7_shift_10 l_X7_384 o_X7_isTape v_X7_isTape rfl (by decide) rfl rfl (m_X7_isTape hG) (by decide) rfl (Nat.le_of_ble_eq_true rfl) (fun r10 h10 hq10 => ?_)
        obtain ⟨rfl, e10⟩ := hq10
        rw [e10]
        clear e10 h10
        refine r_if_ne (tgt := 18) dX7_shift_13 (by decide) (fun c_13 => ?_) (fun c_13 => ?_)
        · refine r_aload_n dX7_shift_18 rfl ?_
          refine r_getR (j := 168) dX7_shift_19 k_X7_199 rfl (by decide) rfl rfl ?_
          refine r_iload_n dX7_shift_22 rfl ?_
          refine r_iald (t1) dX7_shift_23 rfl rfl (show t1 < 6 by omega) ?_
          rw [q1]
          refine r_if_lt (tgt := 36) dX7_shift_24 (by decide) (fun c_24 => ?_) (fun c_24 => ?_)
          · have u := (sort_lt (by omega)).mp c_24
            refine r_bipush (v := -11) dX7_shift_36 (by decide) ?_
            refine r_ireturn dX7_shift_38 ⟨_, rfl, rfl⟩ ?_
            rw [es, if_pos (Or.inl u)]
            exact ⟨rfl, H, hP, FrL.rf⟩
          · have u : ¬ (P t1).1 = 0 := fun y => c_24 ((sort_lt (by omega)).mpr y)
            refine r_aload_n dX7_shift_27 rfl ?_
            refine r_getR (j := 168) dX7_shift_28 k_X7_199 rfl (by decide) rfl rfl ?_
            refine r_iload_n dX7_shift_31 rfl ?_
            refine r_iald (o1) dX7_shift_32 rfl rfl (show o1 < 6 by omega) ?_
            rw [q4]
            refine r_if_ge (tgt := 39) dX7_shift_33 (by decide) (fun c_33 => ?_) (fun c_33 => ?_)
            · have w : ¬ (P o1).1 = 0 := (sort_ge (by omega)).mp c_33
              have uw : ¬ ((P t1).1 = 0 ∨ (P o1).1 = 0) := by omega
              refine r_aload_n dX7_shift_39 rfl ?_
              refine r_getR (j := 168) dX7_shift_40 k_X7_199 rfl (by decide) rfl rfl ?_
              refine r_iload_n dX7_shift_43 rfl ?_
              refine r_iald (t1) dX7_shift_44 rfl rfl (show t1 < 6 by omega) ?_
              rw [q1]
              refine r_aload_n dX7_shift_45 rfl ?_
              refine r_getR (j := 168) dX7_shift_46 k_X7_199 rfl (by decide) rfl rfl ?_
              refine r_iload_n dX7_shift_49 rfl ?_
              refine r_iald (o1) dX7_shift_50 rfl rfl (show o1 < 6 by omega) ?_
              rw [q4]
              refine r_icmp_eq (tgt := 57) dX7_shift_51 (by decide) (fun c_51 => ?_) (fun c_51 => ?_)
              · have z := eqs.mp c_51
                refine r_iload dX7_shift_57 rfl ?_
                refine r_if_lt (tgt := 98) dX7_shift_59 (by decide) (fun c_59 => ?_) (fun c_59 => ?_)
                · have n0 := i_lt0.mp c_59
                  exact k98 (by omega) uw z
                · have n0 : ¬ n.toInt < 0 := fun y => c_59 (i_lt0.mpr y)
                  refine r_iload_n dX7_shift_62 rfl ?_
                  refine r_if_lt (tgt := 98) dX7_shift_63 (by decide) (fun c_63 => ?_) (fun c_63 => ?_)
                  · have i0 := i_lt0.mp c_63
                    exact k98 (by omega) uw z
                  · have i0 : ¬ i.toInt < 0 := fun y => c_63 (i_lt0.mpr y)
                    refine r_iload dX7_shift_66 rfl ?_
                    refine r_if_lt (tgt := 98) dX7_shift_68 (by decide) (fun c_68 => ?_) (fun c_68 => ?_)
                    · have j0 := i_lt0.mp c_68
                      exact k98 (by omega) uw z
                    · have j0 : ¬ j.toInt < 0 := fun y => c_68 (i_lt0.mpr y)
                      refine r_iload_n dX7_shift_71 rfl ?_
                      refine r_aload_n dX7_shift_72 rfl ?_
                      refine r_getR (j := 169) dX7_shift_73 k_X7_202 rfl (by decide) rfl rfl ?_
                      refine r_iload_n dX7_shift_76 rfl ?_
                      refine r_iald (t1) dX7_shift_77 rfl rfl (show t1 < 6 by omega) ?_
                      rw [q2]
                      refine r_iload dX7_shift_78 rfl ?_
                      refine r_isub dX7_shift_80 ?_
                      refine r_icmp_gt (tgt := 98) dX7_shift_81 (by decide) (fun c_81 => ?_) (fun c_81 => ?_)
                      · have f1 := Int32.lt_iff_toInt_lt.mp c_81
                        rw [len_sub (by omega) n0] at f1
                        exact k98 (by omega) uw z
                      · have f1 : ¬ (nI (P t1).2.1 - n).toInt < i.toInt := fun y => c_81 (Int32.lt_iff_toInt_lt.mpr y)
                        rw [len_sub (by omega) n0] at f1
                        refine r_iload dX7_shift_84 rfl ?_
                        refine r_aload_n dX7_shift_86 rfl ?_
                        refine r_getR (j := 169) dX7_shift_87 k_X7_202 rfl (by decide) rfl rfl ?_
                        refine r_iload_n dX7_shift_90 rfl ?_
                        refine r_iald (o1) dX7_shift_91 rfl rfl (show o1 < 6 by omega) ?_
                        rw [q5]
                        refine r_iload dX7_shift_92 rfl ?_
                        refine r_isub dX7_shift_94 ?_
                        refine r_icmp_le (tgt := 101) dX7_shift_95 (by decide) (fun c_95 => ?_) (fun c_95 => ?_)
                        · have f2 := Int32.le_iff_toInt_le.mp c_95
                          rw [len_sub (by omega) n0] at f2
                          exact k101 (by omega) uw z
                        · have f2 : ¬ j.toInt ≤ (nI (P o1).2.1 - n).toInt := fun y => c_95 (Int32.le_iff_toInt_le.mpr y)
                          rw [len_sub (by omega) n0] at f2
                          exact k98 (by omega) uw z
              · have z : ¬ (P t1).1 = (P o1).1 := fun y => c_51 (eqs.mpr y)
                refine r_bipush (v := -12) dX7_shift_54 (by decide) ?_
                refine r_ireturn dX7_shift_56 ⟨_, rfl, rfl⟩ ?_
                rw [es, if_neg uw, if_neg z]
                exact ⟨rfl, H, hP, FrL.rf⟩
            · have w : (P o1).1 = 0 := Classical.byContradiction fun y => c_33 ((sort_ge (by omega)).mpr y)
              refine r_bipush (v := -11) dX7_shift_36 (by decide) ?_
              refine r_ireturn dX7_shift_38 ⟨_, rfl, rfl⟩ ?_
              rw [es, if_pos (Or.inr w)]
              exact ⟨rfl, H, hP, FrL.rf⟩
        · exact absurd c_13 (b01_n0.mpr (by rw [ho]; rfl))
