/-! run, round -/
abbrev DIc (h : Hp) (n q : Nat) (V : Hv) (T : Tb) : Prop := DIg h n q V T none false none
theorem dec_off {a b E : Nat} (ha : a < 1000) (hb : b < 1000) : dec (nI a - nI b) E = if b ≤ a ∧ a - b < E then some (a - b) else none := by
  by_cases z : b ≤ a ∧ a - b < E
  · rw [if_pos z, pk_sub z.1]
    exact dec_nI z.2 (by omega)
  · rw [if_neg z]
    refine dec_none.mpr ?_
    rw [pk_sub_toInt (by omega) (by omega)]
    omega
theorem supS_bk {V : Hv} {P : Sup} {T : Tb} (h : 0 < T.1 7 0) : (supS V P T).1 7 3 = bkS V P T (wishP V P T) + 1 := by
  rw [supS, if_neg (by omega)]
  rfl
theorem nI_nz {a : Nat} (h : 0 < a) (h2 : a < 1000000) : ¬ nI a = (0 : Int32) := fun y => absurd ((nI_eq' (b := 0) (by omega) (by omega)).mp y) (by omega)
theorem nI_n1 {a : Nat} (h : 1 < a) (h2 : a < 1000000) : ¬ nI a = (1 : Int32) := fun y => absurd ((nI_eq' (b := 1) (by omega) (by omega)).mp y) (by omega)
theorem b01_no {α : Type} {o : Option α} (h : b01 o.isSome = 0) : o = none := by
  cases o with
  | none => rfl
  | some x => exact absurd h (show ¬ b01 true = 0 by decide)
theorem some_t {α : Type} {x : α} : ¬ b01 (some x).isSome = 0 := show ¬ b01 true = 0 by decide
theorem none_f {α : Type} : b01 (none : Option α).isSome = 0 := rfl
theorem tm_lp {G : WT} {l : Launch} (hG : GOK G) {n q N i : Nat} {V : Hv} {T : Tb} {h0 : Hp} (hN : N ≤ 1000) (hi : i < T.1 7 0) : ∀ (m j : Nat) (g : Hp), j + m = N → AhP h0 g n q V T none false none j → Wp G l 6 RX6 cX6_timesBaker 5 (some .int) 16 [.ref (gA G 0), .int (nI i), .int (nI N), .int (nI (bakeN V (P0 V) T i j)), .int (nI j)] [] g (fun r h' => r = some (.int (nI (bakeN V (P0 V) T i N))) ∧ AhP h0 h' n q V T none false none N) := by
  intro m
  induction m with
  | zero =>
    intro j g hj H
    have e9 : j = N := by omega
    subst e9
    refine r_iload dX6_timesBaker_16 rfl ?_
    refine r_iload_n dX6_timesBaker_18 rfl ?_
    refine r_icmp_ge (tgt := 62) dX6_timesBaker_19 (by decide) (fun c_19 => ?_) (fun c_19 => ?_)
    · refine r_iload_n dX6_timesBaker_62 rfl ?_
      refine r_ireturn dX6_timesBaker_63 ⟨_, rfl, rfl⟩ ?_
      exact ⟨rfl, H⟩
    · exact absurd (nI_le (by omega) (by omega)) c_19
  | succ m ih =>
    intro j g hj H
    obtain ⟨C, F, D, Hd⟩ := H
    have D : DTb g 17 (supN V (P0 V) T j) := D
    have hq := C.ks
    have hd9 := C.2.2.1
    have hE5 := C.2.1.1
    have dy := supN_day (V := V) (P := P0 V) (T := T) j
    have eE := supN_E (V := V) (P := P0 V) (T := T) j
    have hb := bakeS_lt (law := (P0 V).1) (p := prtS V (ateS ((supN V (P0 V) T j).1 7 1) (wishP V (P0 V) (supN V (P0 V) T j)))) (E := (supN V (P0 V) T j).1 7 0) (by omega)
    have hb : bkS V (P0 V) (supN V (P0 V) T j) (wishP V (P0 V) (supN V (P0 V) T j)) < (supN V (P0 V) T j).1 7 0 := hb
    have ebk : bkA ((supS V (P0 V) (supN V (P0 V) T j)).1 7 3) = nI (bkS V (P0 V) (supN V (P0 V) T j) (wishP V (P0 V) (supN V (P0 V) T j))) := by
      rw [supS_bk (by omega), bkA, if_neg (by omega), Nat.add_sub_cancel]
    have nx9 : ∀ (g2 : Hp) (z : Nat), HoldP g g2 17 q V (P0 V) (supN V (P0 V) T j) → z = (if 0 < T.1 7 0 ∧ i = bkS V (P0 V) (supN V (P0 V) T j) (wishP V (P0 V) (supN V (P0 V) T j)) then 1 else 0) → Wp G l 6 RX6 cX6_timesBaker 5 (some .int) 16 [.ref (gA G 0), .int (nI i), .int (nI N), .int (nI (bakeN V (P0 V) T i j) + nI z), .int (nI (j + 1))] [] g2 (fun r h' => r = some (.int (nI (bakeN V (P0 V) T i N))) ∧ AhP h0 h' n q V T none false none N) := by
      intro g2 z HH hz
      rw [nI_add, hz]
      exact ih (j + 1) g2 (by omega) ⟨C.ho HH, F.tr (ho_as HH.1), HH.2.1, fun m9 e9 p9 => by
        rw [← show j = m9 by omega]
        exact HH.2.2.2 (by rw [eE]; exact p9)⟩
    refine r_iload dX6_timesBaker_16 rfl ?_
    refine r_iload_n dX6_timesBaker_18 rfl ?_
    refine r_icmp_ge (tgt := 62) dX6_timesBaker_19 (by decide) (fun c_19 => ?_) (fun c_19 => ?_)
    · exact absurd c_19 (nI_ge (by omega) (by omega))
    · refine r_aload_n dX6_timesBaker_22 rfl ?_
      refine r_getR (j := 37) dX6_timesBaker_23 k_X6_38 rfl (by decide) rfl rfl ?_
      refine r_aload_n dX6_timesBaker_26 rfl ?_
      refine r_getR (j := 17) dX6_timesBaker_27 k_X6_21 rfl (by decide) rfl rfl ?_
      refine r_aload_n dX6_timesBaker_30 rfl ?_
      refine r_callV dX6_timesBaker_31 l_X6_113 o_X6_holding v_X6_holding rfl (by decide) rfl rfl (m_X6_holding hG C.hd) (by decide) rfl (Nat.le_of_ble_eq_true rfl) (fun r31 h31 hq31 => ?_)
      obtain ⟨rfl, e31⟩ := hq31
      rw [e31]
      clear e31 h31
      rw [← C.2.2.2.1.2.2.2]
      refine r_callV dX6_timesBaker_34 l_X6_163 o_X3_hold v_X3_hold rfl (by decide) rfl rfl (m_X3_hold hG (t := 17) (q := q) (pact := none) rfl (Or.inr rfl) hq D (supN_ok C.2.1 j (by omega)) C.2.2.2.2.1 C.2.2.2.2.2.1 C.2.2.2.2.2.2.2 (by rw [eE]; exact C.2.2.2.2.2.2.1) (by omega)) (by decide) rfl (Nat.le_of_ble_eq_true rfl) (fun r34 h34 hq34 => ?_)
      obtain ⟨rfl, HH⟩ := hq34
      have HH : HoldP g h34 17 q V (P0 V) (supN V (P0 V) T j) := HH
      have eb := HH.2.1.1.2.2.2.1
      refine r_iload_n dX6_timesBaker_37 rfl ?_
      refine r_aload_n dX6_timesBaker_38 rfl ?_
      refine r_getR (j := 17) dX6_timesBaker_39 k_X6_21 rfl (by decide) rfl rfl ?_
      refine r_getI dX6_timesBaker_42 k_X6_160 rfl (by decide) rfl ?_
      rw [eb, ebk]
      refine r_iload_n dX6_timesBaker_45 rfl ?_
      refine r_icmp_ne (tgt := 53) dX6_timesBaker_46 (by decide) (fun c_46 => ?_) (fun c_46 => ?_)
      · refine r_iconst (v := 0) dX6_timesBaker_53 (by decide) ?_
        refine r_iadd dX6_timesBaker_54 ?_
        refine r_istore_n dX6_timesBaker_55 (by decide) rfl rfl ?_
        dsimp only [List.set]
        refine r_iinc dX6_timesBaker_56 rfl (by first | exact nI_inc _ | rfl) (by decide) rfl rfl ?_
        dsimp only [List.set]
        refine r_goto (tgt := 16) dX6_timesBaker_59 (by decide) ?_
        exact nx9 _ 0 HH (by rw [if_neg (fun y => c_46 (by rw [← y.2]))])
      · refine r_iconst (v := 1) dX6_timesBaker_49 (by decide) ?_
        refine r_goto (tgt := 54) dX6_timesBaker_50 (by decide) ?_
        refine r_iadd dX6_timesBaker_54 ?_
        refine r_istore_n dX6_timesBaker_55 (by decide) rfl rfl ?_
        dsimp only [List.set]
        refine r_iinc dX6_timesBaker_56 rfl (by first | exact nI_inc _ | rfl) (by decide) rfl rfl ?_
        dsimp only [List.set]
        refine r_goto (tgt := 16) dX6_timesBaker_59 (by decide) ?_
        exact nx9 _ 1 HH (by rw [if_pos ⟨by omega, ((nI_eq' (by omega) (by omega)).mp c_46).symm⟩])
set_option maxRecDepth 100000 in
theorem m_X6_timesBaker {G : WT} {l : Launch} (hG : GOK G) {h : Hp} {n q N i : Nat} {V : Hv} {T : Tb} (C : DIc h n q V T) (hN : N ≤ 1000) (hi : i < T.1 7 0) : Cl G l 6 yX6_timesBaker cX6_timesBaker 5 (some .int) [.ref (gA G 0), .int (nI i), .int (nI N)] h (fun r h' => r = some (.int (nI (bakeN V (P0 V) T i N))) ∧ DIc h' n q V T ∧ Fx asF h h') := by
  refine Cl.of hG (by decide) (Nat.le_of_ble_eq_true rfl) ?_
  show Wp G l 6 RX6 cX6_timesBaker 5 (some .int) 0 [.ref (gA G 0), .int (nI i), .int (nI N), mk0, mk0] [] h _
  refine r_iconst (v := 0) dX6_timesBaker_0 (by decide) ?_
  refine r_istore_n dX6_timesBaker_1 (by decide) rfl rfl ?_
  dsimp only [List.set]
  refine r_aload_n dX6_timesBaker_2 rfl ?_
  refine r_getR (j := 17) dX6_timesBaker_3 k_X6_21 rfl (by decide) rfl rfl ?_
  refine r_aload_n dX6_timesBaker_6 rfl ?_
  refine r_getR (j := 1) dX6_timesBaker_7 k_X6_12 rfl (by decide) rfl rfl ?_
  refine r_callV dX6_timesBaker_10 l_X6_174 o_X4_becomes v_X4_becomes rfl (by decide) rfl rfl (m_X4_becomes hG (t := 17) (o := 1) rfl rfl (by decide)) (by decide) rfl (Nat.le_of_ble_eq_true rfl) (fun r10 h10 hq10 => ?_)
  obtain ⟨rfl, S8, F8⟩ := hq10
  obtain ⟨C8, D8⟩ := C.be S8 F8
  refine r_iconst (v := 0) dX6_timesBaker_13 (by decide) ?_
  refine r_istore dX6_timesBaker_14 (by decide) rfl rfl ?_
  dsimp only [List.set]
  exact Wp.mono (tm_lp hG hN hi N 0 h10 (by omega) ⟨C8, tb_as F8, D8, fun m9 e9 => absurd e9 (by omega)⟩) (fun r h' y => ⟨y.1, y.2.1, y.2.2.1⟩)
theorem run_i {V : Hv} {T : Tb} {x : Int32} {k j : Nat} (hn : dec x 61 = some j) (hk : k < 2) (hE5 : T.1 7 0 ≤ 5) : runA V T x (nI k) = if k = 0 then nI ((supN V (P0 V) T j).1 7 1) else bkA ((supN V (P0 V) T j).1 7 3) := by
  unfold runA
  rw [if_neg (fun y => by rw [dec_nI hk (by omega)] at y; cases y.1), hn]
  rcases (show k = 0 ∨ k = 1 by omega) with rfl | rfl
  · rfl
  · show (if nI 1 = 0 then _ else if nI 1 = 1 then _ else _) = _
    rw [if_neg (by decide), if_pos (show nI 1 = (1 : Int32) from rfl), if_neg (by decide)]
theorem run_ii {V : Hv} {T : Tb} {x : Int32} {i j : Nat} (hn : dec x 61 = some j) (hi : i < T.1 7 0) (hE5 : T.1 7 0 ≤ 5) : runA V T x (nI (10 + i)) = (supN V (P0 V) T j).2 i := by
  have e1 : dec (nI (10 + i) - nI 10) (T.1 7 0) = some i := by rw [dec_off (by omega) (by omega), if_pos (by omega)]; congr 1; omega
  unfold runA
  rw [if_neg (fun y => by rw [e1] at y; cases y.2.1), hn]
  dsimp only
  rw [if_neg (nI_nz (by omega) (by omega)), if_neg (nI_n1 (by omega) (by omega)), e1]
theorem run_iii {V : Hv} {T : Tb} {x : Int32} {i j : Nat} (hn : dec x 61 = some j) (hi : i < T.1 7 0) (hE5 : T.1 7 0 ≤ 5) : runA V T x (nI (20 + i)) = nI (bakeN V (P0 V) T i j) := by
  have e1 : dec (nI (20 + i) - nI 10) (T.1 7 0) = none := by rw [dec_off (by omega) (by omega), if_neg (by omega)]
  have e2 : dec (nI (20 + i) - nI 20) (T.1 7 0) = some i := by rw [dec_off (by omega) (by omega), if_pos (by omega)]; congr 1; omega
  unfold runA
  rw [if_neg (fun y => by rw [e2] at y; cases y.2.2), hn]
  dsimp only
  rw [if_neg (nI_nz (by omega) (by omega)), if_neg (nI_n1 (by omega) (by omega)), e1, e2]
theorem run_bad {V : Hv} {T : Tb} {x w : Int32} (hn : dec x 61 = none) (hw : ¬ (dec w 2 = none ∧ dec (w - nI 10) (T.1 7 0) = none ∧ dec (w - nI 20) (T.1 7 0) = none)) : runA V T x w = farB := by
  unfold runA
  rw [if_neg hw, hn]
theorem run_43 {G : WT} {l : Launch} (hG : GOK G) {n q : Nat} {V : Hv} {T : Tb} {h : Hp} {x w : Int32} {x3 : Value} (C : DIc h n q V T) (hw : ¬ (dec w 2 = none ∧ dec (w - nI 10) (T.1 7 0) = none ∧ dec (w - nI 20) (T.1 7 0) = none)) : Wp G l 7 RX6 cX6_run 4 (some .int) 43 [.ref (gA G 0), .int x, .int w, x3] [] h (fun r h' => r = some (.int (runA V T x w)) ∧ DIc h' n q V T ∧ Fx asF h h') := by
  have hE5 := C.2.1.1
  cases hn : dec x 61 with
  | none =>
    refine r_iload_n dX6_run_43 rfl ?_
    refine r_bipush (v := 60) dX6_run_44 (by decide) ?_
    rw [show (60 : Int32) = nI 60 from rfl]
    refine r_callS dX6_run_46 l_X6_78 o_X6_within s_X6_within rfl (m_X6_within hG (x := x) (m := 60) (by omega)) (by decide) rfl (Nat.le_of_ble_eq_true rfl) (fun r46 h46 hq46 => ?_)
    obtain ⟨rfl, rfl⟩ := hq46
    rw [hn]
    refine r_if_ne (tgt := 55) dX6_run_49 (by decide) (fun c_49 => ?_) (fun c_49 => ?_)
    · exact absurd none_f c_49
    · refine r_ldc dX6_run_52 n_X6_166 ?_
      refine r_ireturn dX6_run_54 ⟨_, rfl, rfl⟩ ?_
      exact ⟨by rw [run_bad hn hw]; rfl, C, Fx.rf⟩
  | some j =>
    obtain ⟨j1, rfl, -⟩ := dec_some.mp hn
    by_cases c1 : dec w 2 = none
    · by_cases c2 : dec (w - nI 20) (T.1 7 0) = none
      · obtain ⟨i, c3⟩ : ∃ i, dec (w - nI 10) (T.1 7 0) = some i := by
          cases c4 : dec (w - nI 10) (T.1 7 0) with
          | none => exact absurd ⟨c1, c4, c2⟩ hw
          | some i => exact ⟨i, rfl⟩
        obtain ⟨i1, rfl⟩ := (dec_sub (a := 10) (by omega) (by omega)).mp c3
        refine r_iload_n dX6_run_43 rfl ?_
        refine r_bipush (v := 60) dX6_run_44 (by decide) ?_
        rw [show (60 : Int32) = nI 60 from rfl]
        refine r_callS dX6_run_46 l_X6_78 o_X6_within s_X6_within rfl (m_X6_within hG (x := nI j) (m := 60) (by omega)) (by decide) rfl (Nat.le_of_ble_eq_true rfl) (fun r46 h46 hq46 => ?_)
        obtain ⟨rfl, rfl⟩ := hq46
        rw [hn]
        refine r_if_ne (tgt := 55) dX6_run_49 (by decide) (fun c_49 => ?_) (fun c_49 => ?_)
        · refine r_aload_n dX6_run_55 rfl ?_
          refine r_iload_n dX6_run_56 rfl ?_
          refine r_bipush (v := 20) dX6_run_57 (by decide) ?_
          refine r_isub dX6_run_59 ?_
          rw [show (20 : Int32) = nI 20 from rfl]
          refine r_callV dX6_run_60 l_X6_89 o_X6_isEater v_X6_isEater rfl (by decide) rfl rfl (m_X6_isEater hG hE5 C.1.1.1) (by decide) rfl (Nat.le_of_ble_eq_true rfl) (fun r60 h60 hq60 => ?_)
          obtain ⟨rfl, rfl⟩ := hq60
          rw [c2]
          refine r_if_eq (tgt := 76) dX6_run_63 (by decide) (fun c_63 => ?_) (fun c_63 => ?_)
          · refine r_aload_n dX6_run_76 rfl ?_
            refine r_iload_n dX6_run_77 rfl ?_
            refine r_callV dX6_run_78 l_X6_170 o_X6_ahead v_X6_ahead rfl (by decide) rfl rfl (m_X6_ahead hG C (N := j) (by omega)) (by decide) rfl (Nat.le_of_ble_eq_true rfl) (fun r78 h78 hq78 => ?_)
            obtain ⟨rfl, A1, A2, A3, A4⟩ := hq78
            have eE := supN_E (V := V) (P := P0 V) (T := T) j
            have gi := ((A3.2.1 i (by omega)).1 (by show i < (supN V (P0 V) T j).1 7 0; omega)).2.2.2.2.1
            refine r_iload_n dX6_run_81 rfl ?_
            refine r_if_ne (tgt := 93) dX6_run_82 (by decide) (fun c_82 => ?_) (fun c_82 => ?_)
            · refine r_iload_n dX6_run_93 rfl ?_
              refine r_iconst (v := 1) dX6_run_94 (by decide) ?_
              refine r_icmp_ne (tgt := 108) dX6_run_95 (by decide) (fun c_95 => ?_) (fun c_95 => ?_)
              · refine r_aload_n dX6_run_108 rfl ?_
                refine r_getR (j := 17) dX6_run_109 k_X6_21 rfl (by decide) rfl rfl ?_
                refine r_getR (j := 22) dX6_run_112 k_X6_106 rfl (by decide) rfl rfl ?_
                refine r_iload_n dX6_run_115 rfl ?_
                refine r_bipush (v := 10) dX6_run_116 (by decide) ?_
                refine r_isub dX6_run_118 ?_
                refine r_iald (i) dX6_run_119 rfl (by rw [show (10 : Int32) = nI 10 from rfl, pk_sub (by omega), Nat.add_sub_cancel_left]) (show i < 5 by omega) ?_
                refine r_ireturn dX6_run_120 ⟨_, rfl, rfl⟩ ?_
                exact ⟨by rw [run_ii hn i1 hE5]; exact congrArg some (congrArg Value.int gi), A1, A2⟩
              · exact absurd ((nI_eq' (b := 1) (by omega) (by omega)).mp c_95) (by omega)
            · exact absurd ((nI_eq' (b := 0) (by omega) (by omega)).mp c_82) (by omega)
          · exact absurd none_f c_63
        · exact absurd c_49 some_t
      · obtain ⟨i, c3⟩ : ∃ i, dec (w - nI 20) (T.1 7 0) = some i := by
          cases c4 : dec (w - nI 20) (T.1 7 0) with
          | none => exact absurd c4 c2
          | some i => exact ⟨i, rfl⟩
        obtain ⟨i1, rfl⟩ := (dec_sub (a := 20) (by omega) (by omega)).mp c3
        refine r_iload_n dX6_run_43 rfl ?_
        refine r_bipush (v := 60) dX6_run_44 (by decide) ?_
        rw [show (60 : Int32) = nI 60 from rfl]
        refine r_callS dX6_run_46 l_X6_78 o_X6_within s_X6_within rfl (m_X6_within hG (x := nI j) (m := 60) (by omega)) (by decide) rfl (Nat.le_of_ble_eq_true rfl) (fun r46 h46 hq46 => ?_)
        obtain ⟨rfl, rfl⟩ := hq46
        rw [hn]
        refine r_if_ne (tgt := 55) dX6_run_49 (by decide) (fun c_49 => ?_) (fun c_49 => ?_)
        · refine r_aload_n dX6_run_55 rfl ?_
          refine r_iload_n dX6_run_56 rfl ?_
          refine r_bipush (v := 20) dX6_run_57 (by decide) ?_
          refine r_isub dX6_run_59 ?_
          rw [show (20 : Int32) = nI 20 from rfl]
          refine r_callV dX6_run_60 l_X6_89 o_X6_isEater v_X6_isEater rfl (by decide) rfl rfl (m_X6_isEater hG hE5 C.1.1.1) (by decide) rfl (Nat.le_of_ble_eq_true rfl) (fun r60 h60 hq60 => ?_)
          obtain ⟨rfl, rfl⟩ := hq60
          rw [c3]
          refine r_if_eq (tgt := 76) dX6_run_63 (by decide) (fun c_63 => ?_) (fun c_63 => ?_)
          · exact absurd c_63 some_t
          · refine r_aload_n dX6_run_66 rfl ?_
            refine r_iload_n dX6_run_67 rfl ?_
            refine r_bipush (v := 20) dX6_run_68 (by decide) ?_
            refine r_isub dX6_run_70 ?_
            refine r_iload_n dX6_run_71 rfl ?_
            rw [show nI (20 + i) - 20 = nI i by rw [show (20 : Int32) = nI 20 from rfl, pk_sub (by omega), Nat.add_sub_cancel_left]]
            refine r_callV dX6_run_72 l_X6_167 o_X6_timesBaker v_X6_timesBaker rfl (by decide) rfl rfl (m_X6_timesBaker hG C (N := j) (by omega) i1) (by decide) rfl (Nat.le_of_ble_eq_true rfl) (fun r72 h72 hq72 => ?_)
            obtain ⟨rfl, A1, A2⟩ := hq72
            refine r_ireturn dX6_run_75 ⟨_, rfl, rfl⟩ ?_
            exact ⟨by rw [run_iii hn i1 hE5], A1, A2⟩
        · exact absurd c_49 some_t
    · obtain ⟨k, c3⟩ : ∃ k, dec w 2 = some k := by
        cases c4 : dec w 2 with
        | none => exact absurd c4 c1
        | some i => exact ⟨i, rfl⟩
      obtain ⟨k1, rfl, -⟩ := dec_some.mp c3
      have e2 : dec (nI k - nI 20) (T.1 7 0) = none := by rw [dec_off (by omega) (by omega), if_neg (by omega)]
      refine r_iload_n dX6_run_43 rfl ?_
      refine r_bipush (v := 60) dX6_run_44 (by decide) ?_
      rw [show (60 : Int32) = nI 60 from rfl]
      refine r_callS dX6_run_46 l_X6_78 o_X6_within s_X6_within rfl (m_X6_within hG (x := nI j) (m := 60) (by omega)) (by decide) rfl (Nat.le_of_ble_eq_true rfl) (fun r46 h46 hq46 => ?_)
      obtain ⟨rfl, rfl⟩ := hq46
      rw [hn]
      refine r_if_ne (tgt := 55) dX6_run_49 (by decide) (fun c_49 => ?_) (fun c_49 => ?_)
      · refine r_aload_n dX6_run_55 rfl ?_
        refine r_iload_n dX6_run_56 rfl ?_
        refine r_bipush (v := 20) dX6_run_57 (by decide) ?_
        refine r_isub dX6_run_59 ?_
        rw [show (20 : Int32) = nI 20 from rfl]
        refine r_callV dX6_run_60 l_X6_89 o_X6_isEater v_X6_isEater rfl (by decide) rfl rfl (m_X6_isEater hG hE5 C.1.1.1) (by decide) rfl (Nat.le_of_ble_eq_true rfl) (fun r60 h60 hq60 => ?_)
        obtain ⟨rfl, rfl⟩ := hq60
        rw [e2]
        refine r_if_eq (tgt := 76) dX6_run_63 (by decide) (fun c_63 => ?_) (fun c_63 => ?_)
        · refine r_aload_n dX6_run_76 rfl ?_
          refine r_iload_n dX6_run_77 rfl ?_
          refine r_callV dX6_run_78 l_X6_170 o_X6_ahead v_X6_ahead rfl (by decide) rfl rfl (m_X6_ahead hG C (N := j) (by omega)) (by decide) rfl (Nat.le_of_ble_eq_true rfl) (fun r78 h78 hq78 => ?_)
          obtain ⟨rfl, A1, A2, A3, A4⟩ := hq78
          refine r_iload_n dX6_run_81 rfl ?_
          refine r_if_ne (tgt := 93) dX6_run_82 (by decide) (fun c_82 => ?_) (fun c_82 => ?_)
          · have k0 : ¬ k = 0 := fun y => c_82 (by rw [y]; rfl)
            refine r_iload_n dX6_run_93 rfl ?_
            refine r_iconst (v := 1) dX6_run_94 (by decide) ?_
            refine r_icmp_ne (tgt := 108) dX6_run_95 (by decide) (fun c_95 => ?_) (fun c_95 => ?_)
            · exact absurd (by rw [show k = 1 by omega]; rfl) c_95
            · refine r_aload_n dX6_run_98 rfl ?_
              refine r_getR (j := 17) dX6_run_99 k_X6_21 rfl (by decide) rfl rfl ?_
              refine r_getI dX6_run_102 k_X6_160 rfl (by decide) rfl ?_
              refine r_goto (tgt := 120) dX6_run_105 (by decide) ?_
              refine r_ireturn dX6_run_120 ⟨_, rfl, rfl⟩ ?_
              exact ⟨by rw [run_i hn k1 hE5, if_neg k0]; exact congrArg some (congrArg Value.int A3.1.2.2.2.1), A1, A2⟩
          · have k0 : k = 0 := (nI_eq' (b := 0) (by omega) (by omega)).mp c_82
            refine r_aload_n dX6_run_85 rfl ?_
            refine r_getR (j := 17) dX6_run_86 k_X6_21 rfl (by decide) rfl rfl ?_
            refine r_getI dX6_run_89 k_X6_131 rfl (by decide) rfl ?_
            refine r_ireturn dX6_run_92 ⟨_, rfl, rfl⟩ ?_
            exact ⟨by rw [run_i hn k1 hE5, if_pos k0]; exact congrArg some (congrArg Value.int A3.1.2.1), A1, A2⟩
        · exact absurd none_f c_63
      · exact absurd c_49 some_t
set_option maxRecDepth 100000 in
theorem m_X6_run {G : WT} {l : Launch} (hG : GOK G) {h : Hp} {n q : Nat} {V : Hv} {T : Tb} {x w : Int32} (C : DIc h n q V T) : Cl G l 7 yX6_run cX6_run 4 (some .int) [.ref (gA G 0), .int x, .int w] h (fun r h' => r = some (.int (runA V T x w)) ∧ DIc h' n q V T ∧ Fx asF h h') := by
  refine Cl.of hG (by decide) (Nat.le_of_ble_eq_true rfl) ?_
  show Wp G l 7 RX6 cX6_run 4 (some .int) 0 [.ref (gA G 0), .int x, .int w, mk0] [] h _
  have hE5 := C.2.1.1
  by_cases hw : dec w 2 = none ∧ dec (w - nI 10) (T.1 7 0) = none ∧ dec (w - nI 20) (T.1 7 0) = none
  · obtain ⟨w1, w2, w3⟩ := hw
    refine r_aload_n dX6_run_0 rfl ?_
    refine r_iload_n dX6_run_1 rfl ?_
    refine r_bipush (v := 10) dX6_run_2 (by decide) ?_
    refine r_isub dX6_run_4 ?_
    rw [show (10 : Int32) = nI 10 from rfl]
    refine r_callV dX6_run_5 l_X6_89 o_X6_isEater v_X6_isEater rfl (by decide) rfl rfl (m_X6_isEater hG hE5 C.1.1.1) (by decide) rfl (Nat.le_of_ble_eq_true rfl) (fun r5 h5 hq5 => ?_)
    obtain ⟨rfl, rfl⟩ := hq5
    rw [w2]
    refine r_if_ne (tgt := 22) dX6_run_8 (by decide) (fun c_8 => ?_) (fun c_8 => ?_)
    · exact absurd none_f c_8
    · refine r_aload_n dX6_run_11 rfl ?_
      refine r_iload_n dX6_run_12 rfl ?_
      refine r_bipush (v := 20) dX6_run_13 (by decide) ?_
      refine r_isub dX6_run_15 ?_
      rw [show (20 : Int32) = nI 20 from rfl]
      refine r_callV dX6_run_16 l_X6_89 o_X6_isEater v_X6_isEater rfl (by decide) rfl rfl (m_X6_isEater hG hE5 C.1.1.1) (by decide) rfl (Nat.le_of_ble_eq_true rfl) (fun r16 h16 hq16 => ?_)
      obtain ⟨rfl, rfl⟩ := hq16
      rw [w3]
      refine r_if_eq (tgt := 26) dX6_run_19 (by decide) (fun c_19 => ?_) (fun c_19 => ?_)
      · refine r_iconst (v := 0) dX6_run_26 (by decide) ?_
        refine r_istore_n dX6_run_27 (by decide) rfl rfl ?_
        dsimp only [List.set]
        refine r_iload_n dX6_run_28 rfl ?_
        refine r_iconst (v := 1) dX6_run_29 (by decide) ?_
        rw [show (1 : Int32) = nI 1 from rfl]
        refine r_callS dX6_run_30 l_X6_78 o_X6_within s_X6_within rfl (m_X6_within hG (x := w) (m := 1) (by omega)) (by decide) rfl (Nat.le_of_ble_eq_true rfl) (fun r30 h30 hq30 => ?_)
        obtain ⟨rfl, rfl⟩ := hq30
        rw [w1]
        refine r_if_ne (tgt := 43) dX6_run_33 (by decide) (fun c_33 => ?_) (fun c_33 => ?_)
        · exact absurd none_f c_33
        · refine r_iload_n dX6_run_36 rfl ?_
          refine r_if_ne (tgt := 43) dX6_run_37 (by decide) (fun c_37 => ?_) (fun c_37 => ?_)
          · exact absurd rfl c_37
          · refine r_ldc dX6_run_40 n_X6_93 ?_
            refine r_ireturn dX6_run_42 ⟨_, rfl, rfl⟩ ?_
            exact ⟨by rw [runA, if_pos ⟨w1, w2, w3⟩]; rfl, C, Fx.rf⟩
      · exact absurd none_f c_19
  · refine r_aload_n dX6_run_0 rfl ?_
    refine r_iload_n dX6_run_1 rfl ?_
    refine r_bipush (v := 10) dX6_run_2 (by decide) ?_
    refine r_isub dX6_run_4 ?_
    rw [show (10 : Int32) = nI 10 from rfl]
    refine r_callV dX6_run_5 l_X6_89 o_X6_isEater v_X6_isEater rfl (by decide) rfl rfl (m_X6_isEater hG hE5 C.1.1.1) (by decide) rfl (Nat.le_of_ble_eq_true rfl) (fun r5 h5 hq5 => ?_)
    obtain ⟨rfl, e5⟩ := hq5
    rw [e5]
    clear e5 h5
    refine r_if_ne (tgt := 22) dX6_run_8 (by decide) (fun c_8 => ?_) (fun c_8 => ?_)
    · refine r_iconst (v := 1) dX6_run_22 (by decide) ?_
      refine r_goto (tgt := 27) dX6_run_23 (by decide) ?_
      refine r_istore_n dX6_run_27 (by decide) rfl rfl ?_
      dsimp only [List.set]
      refine r_iload_n dX6_run_28 rfl ?_
      refine r_iconst (v := 1) dX6_run_29 (by decide) ?_
      rw [show (1 : Int32) = nI 1 from rfl]
      refine r_callS dX6_run_30 l_X6_78 o_X6_within s_X6_within rfl (m_X6_within hG (x := w) (m := 1) (by omega)) (by decide) rfl (Nat.le_of_ble_eq_true rfl) (fun r30 h30 hq30 => ?_)
      obtain ⟨rfl, e30⟩ := hq30
      rw [e30]
      clear e30 h30
      refine r_if_ne (tgt := 43) dX6_run_33 (by decide) (fun c_33 => ?_) (fun c_33 => ?_)
      · exact run_43 hG C hw
      · refine r_iload_n dX6_run_36 rfl ?_
        refine r_if_ne (tgt := 43) dX6_run_37 (by decide) (fun c_37 => ?_) (fun c_37 => ?_)
        · exact run_43 hG C hw
        · refine r_ldc dX6_run_40 n_X6_93 ?_
          refine r_ireturn dX6_run_42 ⟨_, rfl, rfl⟩ ?_
          first
            | exact absurd c_37 (by decide)
            | exact absurd ⟨b01_no c_33, b01_no c_8, b01_no c_19⟩ hw
    · refine r_aload_n dX6_run_11 rfl ?_
      refine r_iload_n dX6_run_12 rfl ?_
      refine r_bipush (v := 20) dX6_run_13 (by decide) ?_
      refine r_isub dX6_run_15 ?_
      rw [show (20 : Int32) = nI 20 from rfl]
      refine r_callV dX6_run_16 l_X6_89 o_X6_isEater v_X6_isEater rfl (by decide) rfl rfl (m_X6_isEater hG hE5 C.1.1.1) (by decide) rfl (Nat.le_of_ble_eq_true rfl) (fun r16 h16 hq16 => ?_)
      obtain ⟨rfl, e16⟩ := hq16
      rw [e16]
      clear e16 h16
      refine r_if_eq (tgt := 26) dX6_run_19 (by decide) (fun c_19 => ?_) (fun c_19 => ?_)
      · refine r_iconst (v := 0) dX6_run_26 (by decide) ?_
        refine r_istore_n dX6_run_27 (by decide) rfl rfl ?_
        dsimp only [List.set]
        refine r_iload_n dX6_run_28 rfl ?_
        refine r_iconst (v := 1) dX6_run_29 (by decide) ?_
        rw [show (1 : Int32) = nI 1 from rfl]
        refine r_callS dX6_run_30 l_X6_78 o_X6_within s_X6_within rfl (m_X6_within hG (x := w) (m := 1) (by omega)) (by decide) rfl (Nat.le_of_ble_eq_true rfl) (fun r30 h30 hq30 => ?_)
        obtain ⟨rfl, e30⟩ := hq30
        rw [e30]
        clear e30 h30
        refine r_if_ne (tgt := 43) dX6_run_33 (by decide) (fun c_33 => ?_) (fun c_33 => ?_)
        · exact run_43 hG C hw
        · refine r_iload_n dX6_run_36 rfl ?_
          refine r_if_ne (tgt := 43) dX6_run_37 (by decide) (fun c_37 => ?_) (fun c_37 => ?_)
          · exact run_43 hG C hw
          · refine r_ldc dX6_run_40 n_X6_93 ?_
            refine r_ireturn dX6_run_42 ⟨_, rfl, rfl⟩ ?_
            first
              | exact absurd c_37 (by decide)
              | exact absurd ⟨b01_no c_33, b01_no c_8, b01_no c_19⟩ hw
      · refine r_iconst (v := 1) dX6_run_22 (by decide) ?_
        refine r_goto (tgt := 27) dX6_run_23 (by decide) ?_
        refine r_istore_n dX6_run_27 (by decide) rfl rfl ?_
        dsimp only [List.set]
        refine r_iload_n dX6_run_28 rfl ?_
        refine r_iconst (v := 1) dX6_run_29 (by decide) ?_
        rw [show (1 : Int32) = nI 1 from rfl]
        refine r_callS dX6_run_30 l_X6_78 o_X6_within s_X6_within rfl (m_X6_within hG (x := w) (m := 1) (by omega)) (by decide) rfl (Nat.le_of_ble_eq_true rfl) (fun r30 h30 hq30 => ?_)
        obtain ⟨rfl, e30⟩ := hq30
        rw [e30]
        clear e30 h30
        refine r_if_ne (tgt := 43) dX6_run_33 (by decide) (fun c_33 => ?_) (fun c_33 => ?_)
        · exact run_43 hG C hw
        · refine r_iload_n dX6_run_36 rfl ?_
          refine r_if_ne (tgt := 43) dX6_run_37 (by decide) (fun c_37 => ?_) (fun c_37 => ?_)
          · exact run_43 hG C hw
          · refine r_ldc dX6_run_40 n_X6_93 ?_
            refine r_ireturn dX6_run_42 ⟨_, rfl, rfl⟩ ?_
            first
              | exact absurd c_37 (by decide)
              | exact absurd ⟨b01_no c_33, b01_no c_8, b01_no c_19⟩ hw
