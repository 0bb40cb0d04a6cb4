theorem what_ok {T : Tb} {x : Int32} (hE5 : T.1 7 0 ≤ 5) (hx : ¬ (¬ x = 0 ∧ dec (x - nI 10) (T.1 7 0) = none)) : x = 0 ∨ ∃ i, i < T.1 7 0 ∧ x = nI (10 + i) := by
  by_cases hw : x = 0
  · exact Or.inl hw
  · cases hd : dec (x - nI 10) (T.1 7 0) with
    | none => exact absurd ⟨hw, hd⟩ hx
    | some j => exact Or.inr ⟨j, (dec_sub (by omega) (by omega)).mp hd⟩
set_option maxRecDepth 100000 in
theorem m_X6_still {G : WT} {l : Launch} (hG : GOK G) {h : Hp} {n q : Nat} {V : Hv} {T : Tb} {x : Int32} (C : DIc h n q V T) : Cl G l 6 yX6_still cX6_still 4 (some .int) [.ref (gA G 0), .int x] h (fun r h' => r = some (.int (stillA V T x)) ∧ DIc h' n q V T ∧ Fx asF h h') := by
  refine Cl.of hG (by decide) (Nat.le_of_ble_eq_true rfl) ?_
  show Wp G l 6 RX6 cX6_still 4 (some .int) 0 [.ref (gA G 0), .int x, mk0, mk0] [] h _
  have hE5 := C.2.1.1
  have k18 : ¬ (¬ x = 0 ∧ dec (x - nI 10) (T.1 7 0) = none) → ∀ (g : Hp), g = h → Wp G l 6 RX6 cX6_still 4 (some .int) 18 [.ref (gA G 0), .int x, mk0, mk0] [] g (fun r h' => r = some (.int (stillA V T x)) ∧ DIc h' n q V T ∧ Fx asF h h') := by
    intro hx g hg
    subst hg
    by_cases h5 : T.1 7 0 = 5
    · refine r_aload_n dX6_still_18 rfl ?_
      refine r_getR (j := 1) dX6_still_19 k_X6_12 rfl (by decide) rfl rfl ?_
      refine r_getI dX6_still_22 k_X6_82 rfl (by decide) rfl ?_
      refine r_iconst (v := 5) dX6_still_25 (by decide) ?_
      rw [C.1.1.1]
      refine r_icmp_lt (tgt := 32) dX6_still_26 (by decide) (fun c_26 => ?_) (fun c_26 => ?_)
      · exact absurd ((nI_lt' (b := 5) (by omega) (by omega)).mp c_26) (by omega)
      · refine r_bipush (v := -9) dX6_still_29 (by decide) ?_
        refine r_ireturn dX6_still_31 ⟨_, rfl, rfl⟩ ?_
        exact ⟨by unfold stillA; rw [if_neg hx, if_pos (by omega)], C, Fx.rf⟩
    · refine r_aload_n dX6_still_18 rfl ?_
      refine r_getR (j := 1) dX6_still_19 k_X6_12 rfl (by decide) rfl rfl ?_
      refine r_getI dX6_still_22 k_X6_82 rfl (by decide) rfl ?_
      refine r_iconst (v := 5) dX6_still_25 (by decide) ?_
      rw [C.1.1.1]
      refine r_icmp_lt (tgt := 32) dX6_still_26 (by decide) (fun c_26 => ?_) (fun c_26 => ?_)
      · refine r_iconst (v := 0) dX6_still_32 (by decide) ?_
        refine r_istore_n dX6_still_33 (by decide) rfl rfl ?_
        dsimp only [List.set]
        refine r_aload_n dX6_still_34 rfl ?_
        refine r_getR (j := 37) dX6_still_35 k_X6_38 rfl (by decide) rfl rfl ?_
        refine r_aload_n dX6_still_38 rfl ?_
        refine r_getR (j := 1) dX6_still_39 k_X6_12 rfl (by decide) rfl rfl ?_
        refine r_aload_n dX6_still_42 rfl ?_
        refine r_callV dX6_still_43 l_X6_113 o_X6_holding v_X6_holding rfl (by decide) rfl rfl (m_X6_holding hG C.hd) (by decide) rfl (Nat.le_of_ble_eq_true rfl) (fun r43 h43 hq43 => ?_)
        obtain ⟨rfl, e43⟩ := hq43
        rw [e43]
        clear e43 h43
        rw [← C.2.2.2.1.2.2.2]
        refine r_callV dX6_still_46 l_X6_117 o_X3_begin v_X3_begin rfl (by decide) rfl rfl (m_X3_begin hG (t := 1) (q := q) rfl (Or.inl rfl) C.ks C.1 C.2.1 C.2.2.2.2.1 C.2.2.2.2.2.1 C.2.2.2.2.2.2.2) (by decide) rfl (Nat.le_of_ble_eq_true rfl) (fun r46 h46 hq46 => ?_)
        obtain ⟨rfl, Ev, F1⟩ := hq46
        have Ev : EvC h46 1 q V T (lawS V) false := Ev
        refine r_iconst (v := 0) dX6_still_49 (by decide) ?_
        refine r_istore_n dX6_still_50 (by decide) rfl rfl ?_
        dsimp only [List.set]
        exact sl_lp hG C F1 (by omega) (what_ok hE5 hx) (4 ^ T.1 7 0) 0 h46 (by omega) Ev (C.1.be rfl F1) Fr.rf (fun y => absurd rfl y)
      · exact absurd (nI_lt (b := 5) (by omega) (by omega)) c_26
  by_cases hx0 : x = 0
  · refine r_iload_n dX6_still_0 rfl ?_
    refine r_if_eq (tgt := 18) dX6_still_1 (by decide) (fun c_1 => ?_) (fun c_1 => ?_)
    · exact k18 (fun y => y.1 hx0) _ rfl
    · exact absurd hx0 c_1
  · cases hd : dec (x - nI 10) (T.1 7 0) with
    | none =>
      refine r_iload_n dX6_still_0 rfl ?_
      refine r_if_eq (tgt := 18) dX6_still_1 (by decide) (fun c_1 => ?_) (fun c_1 => ?_)
      · exact absurd c_1 hx0
      · refine r_aload_n dX6_still_4 rfl ?_
        refine r_iload_n dX6_still_5 rfl ?_
        refine r_bipush (v := 10) dX6_still_6 (by decide) ?_
        refine r_isub dX6_still_8 ?_
        rw [show (10 : Int32) = nI 10 from rfl]
        refine r_callV dX6_still_9 l_X6_89 o_X6_isEater v_X6_isEater rfl (by decide) rfl rfl (m_X6_isEater hG hE5 C.1.1.1) (by decide) rfl (Nat.le_of_ble_eq_true rfl) (fun r9 h9 hq9 => ?_)
        obtain ⟨rfl, rfl⟩ := hq9
        rw [hd]
        refine r_if_ne (tgt := 18) dX6_still_12 (by decide) (fun c_12 => ?_) (fun c_12 => ?_)
        · exact absurd none_f c_12
        · refine r_ldc dX6_still_15 n_X6_93 ?_
          refine r_ireturn dX6_still_17 ⟨_, rfl, rfl⟩ ?_
          exact ⟨by unfold stillA; rw [if_pos ⟨hx0, hd⟩]; rfl, C, Fx.rf⟩
    | some i =>
      refine r_iload_n dX6_still_0 rfl ?_
      refine r_if_eq (tgt := 18) dX6_still_1 (by decide) (fun c_1 => ?_) (fun c_1 => ?_)
      · exact absurd c_1 hx0
      · refine r_aload_n dX6_still_4 rfl ?_
        refine r_iload_n dX6_still_5 rfl ?_
        refine r_bipush (v := 10) dX6_still_6 (by decide) ?_
        refine r_isub dX6_still_8 ?_
        rw [show (10 : Int32) = nI 10 from rfl]
        refine r_callV dX6_still_9 l_X6_89 o_X6_isEater v_X6_isEater rfl (by decide) rfl rfl (m_X6_isEater hG hE5 C.1.1.1) (by decide) rfl (Nat.le_of_ble_eq_true rfl) (fun r9 h9 hq9 => ?_)
        obtain ⟨rfl, rfl⟩ := hq9
        rw [hd]
        refine r_if_ne (tgt := 18) dX6_still_12 (by decide) (fun c_12 => ?_) (fun c_12 => ?_)
        · exact k18 (fun y => by rw [hd] at y; cases y.2) _ rfl
        · exact absurd c_12 some_t
set_option maxRecDepth 100000 in
theorem m_X3_haveTogether {G : WT} {l : Launch} (hG : GOK G) {h : Hp} {q : Nat} {V : Hv} {T : Tb} {w : Nat → Nat} (C : EvC h 1 q V T (lawS V) false) (h9 : ∀ j, w j ≤ 9) (ha : ∀ e, e < T.1 7 0 → h.1 40 e = nI (ateS (T.1 7 1) w e)) (hb : 0 < T.1 7 0 → h.1 37 12 = nI (bkS V (P0 V) T w)) : Cl G l 4 yX3_haveTogether cX3_haveTogether 3 (some .int) [.ref (gA G 37)] h (fun r h' => r = some (.int (zI (allTo V T w (T.1 7 0)))) ∧ EvC h' 1 q V T (lawS V) false ∧ Fr haF h h') := by
  refine Cl.of hG (by decide) (Nat.le_of_ble_eq_true rfl) ?_
  show Wp G l 4 RX3 cX3_haveTogether 3 (some .int) 0 [.ref (gA G 37), mk0, mk0] [] h _
  have lp : ∀ (m j : Nat) (g : Hp), j + m = T.1 7 0 → EvC g 1 q V T (lawS V) false → Fr haF h g → Wp G l 4 RX3 cX3_haveTogether 3 (some .int) 4 [.ref (gA G 37), .int (zI (allTo V T w j)), .int (nI j)] [] g (fun r h' => r = some (.int (zI (allTo V T w (T.1 7 0)))) ∧ EvC h' 1 q V T (lawS V) false ∧ Fr haF h h') := by
    intro m
    induction m with
    | zero =>
      intro j g hj C hF
      have hE5 := C.2.2.1.1
      have r1 := C.1.1
      have r3 := C.1.2.2.1
      refine r_iload_n dX3_haveTogether_4 rfl ?_
      refine r_aload_n dX3_haveTogether_5 rfl ?_
      refine r_getR (j := 1) dX3_haveTogether_6 k_X3_39 rfl (by decide) rfl r1 ?_
      refine r_getI dX3_haveTogether_9 k_X3_86 rfl (by decide) rfl ?_
      rw [C.2.2.2.1.1]
      refine r_icmp_ge (tgt := 29) dX3_haveTogether_12 (by decide) (fun c_12 => ?_) (fun c_12 => ?_)
      · refine r_iload_n dX3_haveTogether_29 rfl ?_
        refine r_ireturn dX3_haveTogether_30 ⟨_, rfl, rfl⟩ ?_
        exact ⟨by rw [show T.1 7 0 = j by omega], C, hF⟩
      · exact absurd (nI_le (by omega) (by omega)) c_12
    | succ m ih =>
      intro j g hj C hF
      have hE5 := C.2.2.1.1
      have r1 := C.1.1
      have r3 := C.1.2.2.1
      refine r_iload_n dX3_haveTogether_4 rfl ?_
      refine r_aload_n dX3_haveTogether_5 rfl ?_
      refine r_getR (j := 1) dX3_haveTogether_6 k_X3_39 rfl (by decide) rfl r1 ?_
      refine r_getI dX3_haveTogether_9 k_X3_86 rfl (by decide) rfl ?_
      rw [C.2.2.2.1.1]
      refine r_icmp_ge (tgt := 29) dX3_haveTogether_12 (by decide) (fun c_12 => ?_) (fun c_12 => ?_)
      · exact absurd c_12 (nI_ge (by omega) (by omega))
      · refine r_iload_n dX3_haveTogether_15 rfl ?_
        refine r_aload_n dX3_haveTogether_16 rfl ?_
        refine r_iload_n dX3_haveTogether_17 rfl ?_
        refine r_callV dX3_haveTogether_18 l_X3_110 o_X3_has v_X3_has rfl (by decide) rfl rfl (has_row hG C (show j < T.1 7 0 by omega) (h9 j) (by rw [hF.1 _ _ rfl]; exact ha j (by omega)) (by rw [hF.1 _ _ rfl]; exact hb (by omega))) (by decide) rfl (Nat.le_of_ble_eq_true rfl) (fun r18 h18 hq18 => ?_)
        obtain ⟨rfl, F2, C2⟩ := hq18
        refine r_iadd dX3_haveTogether_21 ?_
        rw [zI_add]
        refine r_istore_n dX3_haveTogether_22 (by decide) rfl rfl ?_
        dsimp only [List.set]
        refine r_iinc dX3_haveTogether_23 rfl (by first | exact nI_inc _ | rfl) (by decide) rfl rfl ?_
        dsimp only [List.set]
        refine r_goto (tgt := 4) dX3_haveTogether_26 (by decide) ?_
        exact ih (j + 1) h18 (by omega) C2 (hF.tr F2)
  refine r_iconst (v := 0) dX3_haveTogether_0 (by decide) ?_
  refine r_istore_n dX3_haveTogether_1 (by decide) rfl rfl ?_
  dsimp only [List.set]
  refine r_iconst (v := 0) dX3_haveTogether_2 (by decide) ?_
  refine r_istore_n dX3_haveTogether_3 (by decide) rfl rfl ?_
  dsimp only [List.set]
  exact lp (T.1 7 0) 0 _ (by omega) C Fr.rf
theorem allH_bd {V : Hv} {T : Tb} (hV : HvOK V) (hE5 : T.1 7 0 ≤ 5) (c : Nat) : -5000 ≤ allH V T c ∧ allH V T c ≤ 50000 := by
  have := allTo_bd (V := V) (T := T) (w := rowW (T.1 7 0) c) hV (rowW_9) (T.1 7 0)
  unfold allH
  omega
theorem ab_lp {G : WT} {l : Launch} (hG : GOK G) {n q : Nat} {V : Hv} {T : Tb} {x : Int32} {h h1 : Hp} (C : DIc h n q V T) (F1 : Fx beF h h1) (hE4 : T.1 7 0 ≤ 4) (hx : x = 0 ∨ ∃ i, i < T.1 7 0 ∧ x = nI (10 + i)) : ∀ (m c : Nat) (g : Hp) (most : Int32) (x4 x5 : Value), c + m = 4 ^ T.1 7 0 → EvC g 1 q V T (lawS V) false → DTb g 1 T → Fr fiF h1 g → (0 < c → most = zI (allH V T (bestTo (allH V T) (c - 1))) ∧ ∀ j, j < T.1 7 0 → g.1 36 j = nI (rowW (T.1 7 0) (bestTo (allH V T) (c - 1)) j)) → Wp G l 5 RX6 cX6_allBest 6 (some .int) 51 [.ref (gA G 0), .int x, .int most, .int (nI c), x4, x5] [] g (fun r h' => r = some (.int (allBestA V T x)) ∧ DIc h' n q V T ∧ Fx asF h h') := by
  intro m
  have hp4 := pow4 hE4
  have hpp := pow4p (T.1 7 0)
  induction m with
  | zero =>
    intro c g most x4 x5 hc Ev D hF hfi
    obtain ⟨f1, f2⟩ := hfi (by omega)
    have ec : c - 1 = 4 ^ T.1 7 0 - 1 := by omega
    rw [ec] at f1 f2
    obtain ⟨B1, B2⟩ := C.back F1 hF Ev
    rcases hx with rfl | ⟨i, i1, rfl⟩
    · have es : allBestA V T 0 = zI (allH V T (allF V T)) := by
        unfold allBestA
        rw [if_neg (fun y => y.1 rfl), if_neg (by omega), if_pos rfl]
      refine r_iload_n dX6_allBest_51 rfl ?_
      refine r_aload_n dX6_allBest_52 rfl ?_
      refine r_callV dX6_allBest_53 l_X6_182 o_X6_rowsInAll v_X6_rowsInAll rfl (by decide) rfl rfl (m_X6_rowsInAll hG hE4 D.1.1) (by decide) rfl (Nat.le_of_ble_eq_true rfl) (fun r53 h53 hq53 => ?_)
      obtain ⟨rfl, e53⟩ := hq53
      rw [e53]
      clear e53 h53
      refine r_icmp_ge (tgt := 125) dX6_allBest_56 (by decide) (fun c_56 => ?_) (fun c_56 => ?_)
      · refine r_iload_n dX6_allBest_125 rfl ?_
        refine r_if_ne (tgt := 133) dX6_allBest_126 (by decide) (fun c_126 => ?_) (fun c_126 => ?_)
        · exact absurd rfl c_126
        · refine r_iload_n dX6_allBest_129 rfl ?_
          refine r_goto (tgt := 142) dX6_allBest_130 (by decide) ?_
          refine r_ireturn dX6_allBest_142 ⟨_, rfl, rfl⟩ ?_
          exact ⟨by rw [es, f1]; rfl, B1, B2⟩
      · exact absurd (nI_le (by omega) (by omega)) c_56
    · have z0 := nI_nz (a := 10 + i) (by omega) (by omega)
      have ed : dec (nI (10 + i) - nI 10) (T.1 7 0) = some i := by rw [dec_off (by omega) (by omega), if_pos (by omega)]; congr 1; omega
      have e2 : nI (10 + i) - 10 = nI i := by rw [show (10 : Int32) = nI 10 from rfl, pk_sub (by omega)]; congr 1; omega
      have es : allBestA V T (nI (10 + i)) = nI (rowW (T.1 7 0) (allF V T) i) := by
        unfold allBestA
        rw [if_neg (fun y => by rw [ed] at y; cases y.2), if_neg (by omega), if_neg z0, ed]
      refine r_iload_n dX6_allBest_51 rfl ?_
      refine r_aload_n dX6_allBest_52 rfl ?_
      refine r_callV dX6_allBest_53 l_X6_182 o_X6_rowsInAll v_X6_rowsInAll rfl (by decide) rfl rfl (m_X6_rowsInAll hG hE4 D.1.1) (by decide) rfl (Nat.le_of_ble_eq_true rfl) (fun r53 h53 hq53 => ?_)
      obtain ⟨rfl, e53⟩ := hq53
      rw [e53]
      clear e53 h53
      refine r_icmp_ge (tgt := 125) dX6_allBest_56 (by decide) (fun c_56 => ?_) (fun c_56 => ?_)
      · refine r_iload_n dX6_allBest_125 rfl ?_
        refine r_if_ne (tgt := 133) dX6_allBest_126 (by decide) (fun c_126 => ?_) (fun c_126 => ?_)
        · refine r_aload_n dX6_allBest_133 rfl ?_
          refine r_getR (j := 36) dX6_allBest_134 k_X6_66 rfl (by decide) rfl rfl ?_
          refine r_iload_n dX6_allBest_137 rfl ?_
          refine r_bipush (v := 10) dX6_allBest_138 (by decide) ?_
          refine r_isub dX6_allBest_140 ?_
          refine r_iald (i) dX6_allBest_141 rfl e2 (show i < 5 by omega) ?_
          rw [f2 i i1]
          refine r_ireturn dX6_allBest_142 ⟨_, rfl, rfl⟩ ?_
          exact ⟨by rw [es]; rfl, B1, B2⟩
        · exact absurd c_126 z0
      · exact absurd (nI_le (by omega) (by omega)) c_56
  | succ m ih =>
    intro c g most x4 x5 hc Ev D hF hfi
    have hV := Ev.2.1.2.1
    have r9 := rowW_9 (E := T.1 7 0) (c := c)
    have ba := allH_bd (V := V) (T := T) hV (by omega) c
    have bb := allH_bd (V := V) (T := T) hV (by omega) (bestTo (allH V T) (c - 1))
    have tail : ∀ (g2 : Hp) (b : Bool) (mo : Int32) (x6 : Int32), EvC g2 1 q V T (lawS V) false → DTb g2 1 T → Fr fiF h1 g2 → (∀ j, j < T.1 7 0 → g2.1 35 j = nI (rowW (T.1 7 0) c j)) → (∀ j, g2.1 36 j = g.1 36 j) → (b = true → bestTo (allH V T) c = c) → (b = false → 0 < c ∧ bestTo (allH V T) c = bestTo (allH V T) (c - 1)) → (0 < c → mo = zI (allH V T (bestTo (allH V T) (c - 1)))) → Wp G l 5 RX6 cX6_allBest 6 (some .int) 101 [.ref (gA G 0), .int x, .int mo, .int (nI c), .int (zI (allH V T c)), .int (b01 b)] [] g2 (fun r h' => r = some (.int (allBestA V T x)) ∧ DIc h' n q V T ∧ Fx asF h h') := by
      intro g2 b mo x6 Ev4 D4 FF o35 o36 t1 t2 t3
      refine r_aload_n dX6_allBest_101 rfl ?_
      refine r_iload dX6_allBest_102 rfl ?_
      refine r_callV dX6_allBest_104 l_X6_193 o_X6_keepIf v_X6_keepIf rfl (by decide) rfl rfl (m_X6_keepIf hG) (by decide) rfl (Nat.le_of_ble_eq_true rfl) (fun r104 h104 hq104 => ?_)
      obtain ⟨rfl, F5, k1, k2⟩ := hq104
      have Ev5 := Ev4.t35 (Or.inr rfl) F5
      have FF5 := FF.tr (fi_fi F5)
      have D5 := D4.fi (fi_fi F5)
      refine r_iload dX6_allBest_107 rfl ?_
      refine r_if_eq (tgt := 117) dX6_allBest_109 (by decide) (fun c_109 => ?_) (fun c_109 => ?_)
      · have eb : b = false := b01_0.mp c_109
        refine r_iload_n dX6_allBest_117 rfl ?_
        refine r_istore_n dX6_allBest_118 (by decide) rfl rfl ?_
        dsimp only [List.set]
        refine r_iinc dX6_allBest_119 rfl (by first | exact nI_inc _ | rfl) (by decide) rfl rfl ?_
        dsimp only [List.set]
        refine r_goto (tgt := 51) dX6_allBest_122 (by decide) ?_
        obtain ⟨u1, u2⟩ := t2 eb
        refine ih (c + 1) _ _ _ _ (by omega) Ev5 D5 FF5 (fun _ => ⟨by rw [Nat.add_sub_cancel, u2]; exact t3 u1, fun j hj => ?_⟩)
        rw [Nat.add_sub_cancel, u2, k2 eb, o36]
        exact (hfi u1).2 j hj
      · have eb : b = true := b01_n0.mp c_109
        refine r_iload dX6_allBest_112 rfl ?_
        refine r_goto (tgt := 118) dX6_allBest_114 (by decide) ?_
        refine r_istore_n dX6_allBest_118 (by decide) rfl rfl ?_
        dsimp only [List.set]
        refine r_iinc dX6_allBest_119 rfl (by first | exact nI_inc _ | rfl) (by decide) rfl rfl ?_
        dsimp only [List.set]
        refine r_goto (tgt := 51) dX6_allBest_122 (by decide) ?_
        refine ih (c + 1) _ _ _ _ (by omega) Ev5 D5 FF5 (fun _ => ⟨by rw [Nat.add_sub_cancel, t1 eb], fun j hj => ?_⟩)
        rw [Nat.add_sub_cancel, t1 eb, k1 eb j (by omega), o35 j hj]
    refine r_iload_n dX6_allBest_51 rfl ?_
    refine r_aload_n dX6_allBest_52 rfl ?_
    refine r_callV dX6_allBest_53 l_X6_182 o_X6_rowsInAll v_X6_rowsInAll rfl (by decide) rfl rfl (m_X6_rowsInAll hG hE4 D.1.1) (by decide) rfl (Nat.le_of_ble_eq_true rfl) (fun r53 h53 hq53 => ?_)
    obtain ⟨rfl, e53⟩ := hq53
    rw [e53]
    clear e53 h53
    refine r_icmp_ge (tgt := 125) dX6_allBest_56 (by decide) (fun c_56 => ?_) (fun c_56 => ?_)
    · exact absurd c_56 (nI_ge (by omega) (by omega))
    · refine r_aload_n dX6_allBest_59 rfl ?_
      refine r_iload_n dX6_allBest_60 rfl ?_
      refine r_callV dX6_allBest_61 l_X6_186 o_X6_becomesRow v_X6_becomesRow rfl (by decide) rfl rfl (m_X6_becomesRow hG (code := c) hE4 (by omega) D.1.1) (by decide) rfl (Nat.le_of_ble_eq_true rfl) (fun r61 h61 hq61 => ?_)
      obtain ⟨rfl, F2, w2⟩ := hq61
      have Ev2 := Ev.t35 (Or.inl rfl) F2
      have D2 := D.ga (tr_ga F2)
      refine r_aload_n dX6_allBest_64 rfl ?_
      refine r_getR (j := 37) dX6_allBest_65 k_X6_38 rfl (by decide) rfl rfl ?_
      refine r_aload_n dX6_allBest_68 rfl ?_
      refine r_getR (j := 35) dX6_allBest_69 k_X6_62 rfl (by decide) rfl rfl ?_
      refine r_callV dX6_allBest_72 l_X6_197 o_X3_serve v_X3_serve rfl (by decide) rfl rfl (sv_has hG Ev2 D2 (fun j y => ⟨w2 j y, r9 j⟩)) (by decide) rfl (Nat.le_of_ble_eq_true rfl) (fun r72 h72 hq72 => ?_)
      obtain ⟨rfl, F3, Ev3, D3, a3, b3⟩ := hq72
      refine r_aload_n dX6_allBest_75 rfl ?_
      refine r_getR (j := 37) dX6_allBest_76 k_X6_38 rfl (by decide) rfl rfl ?_
      refine r_callV dX6_allBest_79 l_X6_201 o_X3_haveTogether v_X3_haveTogether rfl (by decide) rfl rfl (m_X3_haveTogether hG Ev3 r9 a3 b3) (by decide) rfl (Nat.le_of_ble_eq_true rfl) (fun r79 h79 hq79 => ?_)
      obtain ⟨rfl, Ev4, F4⟩ := hq79
      rw [show allTo V T (rowW (T.1 7 0) c) (T.1 7 0) = allH V T c from rfl]
      have D4 := D3.ga (ha_ga F4)
      have FF := ((hF.tr (ga_fi (tr_ga F2))).tr (ga_fi (sv_ga F3))).tr (ga_fi (ha_ga F4))
      have o36 : ∀ j, h79.1 36 j = g.1 36 j := fun j => by rw [F4.1 _ _ rfl, F3.1 _ _ rfl, F2.1 _ _ rfl]
      have o35 : ∀ j, j < T.1 7 0 → h79.1 35 j = nI (rowW (T.1 7 0) c j) := fun j hj => by rw [F4.1 _ _ rfl, F3.1 _ _ rfl]; exact w2 j hj
      refine r_istore dX6_allBest_82 (by decide) rfl rfl ?_
      dsimp only [List.set]
      refine r_iload_n dX6_allBest_84 rfl ?_
      refine r_if_eq (tgt := 94) dX6_allBest_85 (by decide) (fun c_85 => ?_) (fun c_85 => ?_)
      · have hc0 : c = 0 := (nI_eq' (b := 0) (by omega) (by omega)).mp c_85
        refine r_iconst (v := 1) dX6_allBest_94 (by decide) ?_
        refine r_goto (tgt := 99) dX6_allBest_95 (by decide) ?_
        refine r_istore dX6_allBest_99 (by decide) rfl rfl ?_
        dsimp only [List.set]
        exact tail _ true most 0 Ev4 D4 FF o35 o36 (fun _ => by rw [hc0]; rfl) (fun y => (by cases y)) (fun y => absurd y (by omega))
      · have hc0 : 0 < c := Nat.pos_of_ne_zero (fun y => c_85 (by rw [y]; rfl))
        obtain ⟨f1, f2⟩ := hfi hc0
        rw [f1]
        refine r_iload dX6_allBest_88 rfl ?_
        refine r_iload_n dX6_allBest_90 rfl ?_
        refine r_icmp_le (tgt := 98) dX6_allBest_91 (by decide) (fun c_91 => ?_) (fun c_91 => ?_)
        · refine r_iconst (v := 0) dX6_allBest_98 (by decide) ?_
          refine r_istore dX6_allBest_99 (by decide) rfl rfl ?_
          dsimp only [List.set]
          exact tail _ false _ 0 Ev4 D4 FF o35 o36 (fun y => (by cases y)) (fun _ => ⟨hc0, by
            obtain ⟨c', rfl⟩ : ∃ c', c = c' + 1 := ⟨c - 1, by omega⟩
            show (if _ then _ else _) = _
            rw [if_neg]
            · rfl
            · intro y
              have := (zI_le (by omega) (by omega) (by omega) (by omega)).mp c_91
              rw [Nat.add_sub_cancel] at this
              omega⟩) (fun _ => rfl)
        · refine r_iconst (v := 1) dX6_allBest_94 (by decide) ?_
          refine r_goto (tgt := 99) dX6_allBest_95 (by decide) ?_
          refine r_istore dX6_allBest_99 (by decide) rfl rfl ?_
          dsimp only [List.set]
          exact tail _ true _ 0 Ev4 D4 FF o35 o36 (fun _ => by
            obtain ⟨c', rfl⟩ : ∃ c', c = c' + 1 := ⟨c - 1, by omega⟩
            show (if _ then _ else _) = _
            rw [if_pos]
            have : ¬ allH V T (c' + 1) ≤ allH V T (bestTo (allH V T) (c' + 1 - 1)) := fun y => c_91 ((zI_le (by omega) (by omega) (by omega) (by omega)).mpr y)
            rw [Nat.add_sub_cancel] at this
            omega) (fun y => (by cases y)) (fun _ => rfl)
set_option maxRecDepth 100000 in
theorem m_X6_allBest {G : WT} {l : Launch} (hG : GOK G) {h : Hp} {n q : Nat} {V : Hv} {T : Tb} {x : Int32} (C : DIc h n q V T) : Cl G l 5 yX6_allBest cX6_allBest 6 (some .int) [.ref (gA G 0), .int x] h (fun r h' => r = some (.int (allBestA V T x)) ∧ DIc h' n q V T ∧ Fx asF h h') := by
  refine Cl.of hG (by decide) (Nat.le_of_ble_eq_true rfl) ?_
  show Wp G l 5 RX6 cX6_allBest 6 (some .int) 0 [.ref (gA G 0), .int x, mk0, mk0, mk0, mk0] [] h _
  have hE5 := C.2.1.1
  have k18 : ¬ (¬ x = 0 ∧ dec (x - nI 10) (T.1 7 0) = none) → ∀ (g : Hp), g = h → Wp G l 5 RX6 cX6_allBest 6 (some .int) 18 [.ref (gA G 0), .int x, mk0, mk0, mk0, mk0] [] g (fun r h' => r = some (.int (allBestA V T x)) ∧ DIc h' n q V T ∧ Fx asF h h') := by
    intro hx g hg
    subst hg
    by_cases h5 : T.1 7 0 = 5
    · refine r_aload_n dX6_allBest_18 rfl ?_
      refine r_getR (j := 1) dX6_allBest_19 k_X6_12 rfl (by decide) rfl rfl ?_
      refine r_getI dX6_allBest_22 k_X6_82 rfl (by decide) rfl ?_
      refine r_iconst (v := 5) dX6_allBest_25 (by decide) ?_
      rw [C.1.1.1]
      refine r_icmp_lt (tgt := 32) dX6_allBest_26 (by decide) (fun c_26 => ?_) (fun c_26 => ?_)
      · exact absurd ((nI_lt' (b := 5) (by omega) (by omega)).mp c_26) (by omega)
      · refine r_bipush (v := -9) dX6_allBest_29 (by decide) ?_
        refine r_ireturn dX6_allBest_31 ⟨_, rfl, rfl⟩ ?_
        exact ⟨by unfold allBestA; rw [if_neg hx, if_pos (by omega)], C, Fx.rf⟩
    · refine r_aload_n dX6_allBest_18 rfl ?_
      refine r_getR (j := 1) dX6_allBest_19 k_X6_12 rfl (by decide) rfl rfl ?_
      refine r_getI dX6_allBest_22 k_X6_82 rfl (by decide) rfl ?_
      refine r_iconst (v := 5) dX6_allBest_25 (by decide) ?_
      rw [C.1.1.1]
      refine r_icmp_lt (tgt := 32) dX6_allBest_26 (by decide) (fun c_26 => ?_) (fun c_26 => ?_)
      · refine r_iconst (v := 0) dX6_allBest_32 (by decide) ?_
        refine r_istore_n dX6_allBest_33 (by decide) rfl rfl ?_
        dsimp only [List.set]
        refine r_aload_n dX6_allBest_34 rfl ?_
        refine r_getR (j := 37) dX6_allBest_35 k_X6_38 rfl (by decide) rfl rfl ?_
        refine r_aload_n dX6_allBest_38 rfl ?_
        refine r_getR (j := 1) dX6_allBest_39 k_X6_12 rfl (by decide) rfl rfl ?_
        refine r_aload_n dX6_allBest_42 rfl ?_
        refine r_callV dX6_allBest_43 l_X6_113 o_X6_holding v_X6_holding rfl (by decide) rfl rfl (m_X6_holding hG C.hd) (by decide) rfl (Nat.le_of_ble_eq_true rfl) (fun r43 h43 hq43 => ?_)
        obtain ⟨rfl, e43⟩ := hq43
        rw [e43]
        clear e43 h43
        rw [← C.2.2.2.1.2.2.2]
        refine r_callV dX6_allBest_46 l_X6_117 o_X3_begin v_X3_begin rfl (by decide) rfl rfl (m_X3_begin hG (t := 1) (q := q) rfl (Or.inl rfl) C.ks C.1 C.2.1 C.2.2.2.2.1 C.2.2.2.2.2.1 C.2.2.2.2.2.2.2) (by decide) rfl (Nat.le_of_ble_eq_true rfl) (fun r46 h46 hq46 => ?_)
        obtain ⟨rfl, Ev, F1⟩ := hq46
        have Ev : EvC h46 1 q V T (lawS V) false := Ev
        refine r_iconst (v := 0) dX6_allBest_49 (by decide) ?_
        refine r_istore_n dX6_allBest_50 (by decide) rfl rfl ?_
        dsimp only [List.set]
        exact ab_lp hG C F1 (by omega) (what_ok hE5 hx) (4 ^ T.1 7 0) 0 h46 0 _ _ (by omega) Ev (C.1.be rfl F1) Fr.rf (fun y => absurd y (by omega))
      · exact absurd (nI_lt (b := 5) (by omega) (by omega)) c_26
  by_cases hx0 : x = 0
  · refine r_iload_n dX6_allBest_0 rfl ?_
    refine r_if_eq (tgt := 18) dX6_allBest_1 (by decide) (fun c_1 => ?_) (fun c_1 => ?_)
    · exact k18 (fun y => y.1 hx0) _ rfl
    · exact absurd hx0 c_1
  · cases hd : dec (x - nI 10) (T.1 7 0) with
    | none =>
      refine r_iload_n dX6_allBest_0 rfl ?_
      refine r_if_eq (tgt := 18) dX6_allBest_1 (by decide) (fun c_1 => ?_) (fun c_1 => ?_)
      · exact absurd c_1 hx0
      · refine r_aload_n dX6_allBest_4 rfl ?_
        refine r_iload_n dX6_allBest_5 rfl ?_
        refine r_bipush (v := 10) dX6_allBest_6 (by decide) ?_
        refine r_isub dX6_allBest_8 ?_
        rw [show (10 : Int32) = nI 10 from rfl]
        refine r_callV dX6_allBest_9 l_X6_89 o_X6_isEater v_X6_isEater rfl (by decide) rfl rfl (m_X6_isEater hG hE5 C.1.1.1) (by decide) rfl (Nat.le_of_ble_eq_true rfl) (fun r9 h9 hq9 => ?_)
        obtain ⟨rfl, rfl⟩ := hq9
        rw [hd]
        refine r_if_ne (tgt := 18) dX6_allBest_12 (by decide) (fun c_12 => ?_) (fun c_12 => ?_)
        · exact absurd none_f c_12
        · refine r_ldc dX6_allBest_15 n_X6_93 ?_
          refine r_ireturn dX6_allBest_17 ⟨_, rfl, rfl⟩ ?_
          exact ⟨by unfold allBestA; rw [if_pos ⟨hx0, hd⟩]; rfl, C, Fx.rf⟩
    | some i =>
      refine r_iload_n dX6_allBest_0 rfl ?_
      refine r_if_eq (tgt := 18) dX6_allBest_1 (by decide) (fun c_1 => ?_) (fun c_1 => ?_)
      · exact absurd c_1 hx0
      · refine r_aload_n dX6_allBest_4 rfl ?_
        refine r_iload_n dX6_allBest_5 rfl ?_
        refine r_bipush (v := 10) dX6_allBest_6 (by decide) ?_
        refine r_isub dX6_allBest_8 ?_
        rw [show (10 : Int32) = nI 10 from rfl]
        refine r_callV dX6_allBest_9 l_X6_89 o_X6_isEater v_X6_isEater rfl (by decide) rfl rfl (m_X6_isEater hG hE5 C.1.1.1) (by decide) rfl (Nat.le_of_ble_eq_true rfl) (fun r9 h9 hq9 => ?_)
        obtain ⟨rfl, rfl⟩ := hq9
        rw [hd]
        refine r_if_ne (tgt := 18) dX6_allBest_12 (by decide) (fun c_12 => ?_) (fun c_12 => ?_)
        · exact k18 (fun y => by rw [hd] at y; cases y.2) _ rfl
        · exact absurd c_12 some_t
