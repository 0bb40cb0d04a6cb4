/-! allBest -/
theorem allTo_bd {V : Hv} {T : Tb} {w : Nat → Nat} (hV : HvOK V) (hw : ∀ e, w e ≤ 9) : ∀ n : Nat, -1000 * (n : Int) ≤ allTo V T w n ∧ allTo V T w n ≤ 10000 * (n : Int) := by
  intro n
  induction n with
  | zero => exact ⟨Int.le_refl _, Int.le_refl _⟩
  | succ n ih =>
    have b := hasW_bd (T := T) (w := w) (i := n) hV (hw n)
    show -1000 * ((n + 1 : Nat) : Int) ≤ allTo V T w n + hasW V (P0 V) T w n ∧ allTo V T w n + hasW V (P0 V) T w n ≤ 10000 * ((n + 1 : Nat) : Int)
    omega
theorem allS_loop {G : WT} {l : Launch} {h : Hp} {b : Nat} {V : Hv} {T : Tb} {w : Nat → Nat} {x2 x3 : Int32} {x1 x4 : Int32} {Q : Option Value → Hp → Prop} (C : SC h b V T none false) (hH : ∀ e, e < T.1 7 0 → h.1 153 e = zI (hasW V (P0 V) T w e))
    (k : ∀ x6 : Value, Wp G l 6 RX7 cX7_allBest 7 (some .int) 95 [.ref (gA G 134), .int x1, .int x2, .int x3, .int x4, .int (zI (allTo V T w (T.1 7 0))), x6] [] h Q) :
    ∀ (m i : Nat), i + m = T.1 7 0 → Wp G l 6 RX7 cX7_allBest 7 (some .int) 68 [.ref (gA G 134), .int x1, .int x2, .int x3, .int x4, .int (zI (allTo V T w i)), .int (nI i)] [] h Q := by
  intro m
  induction m with
  | zero =>
    intro i hi
    obtain rfl : i = T.1 7 0 := by omega
    refine r_iload dX7_allBest_68 rfl ?_
    refine r_aload_n dX7_allBest_70 rfl ?_
    refine r_getI dX7_allBest_71 k_X7_7 rfl (by decide) rfl ?_
    rw [C.1.1]
    refine r_icmp_ge (tgt := 95) dX7_allBest_74 (by decide) (fun c_74 => ?_) (fun c_74 => ?_)
    · exact k _
    · exact absurd (Int32.le_refl _) c_74
  | succ m ih =>
    intro i hi
    have hE := C.2.1.1
    refine r_iload dX7_allBest_68 rfl ?_
    refine r_aload_n dX7_allBest_70 rfl ?_
    refine r_getI dX7_allBest_71 k_X7_7 rfl (by decide) rfl ?_
    rw [C.1.1]
    refine r_icmp_ge (tgt := 95) dX7_allBest_74 (by decide) (fun c_74 => ?_) (fun c_74 => ?_)
    · exact absurd c_74 (nI_ge (by omega) (by omega))
    · refine r_iload dX7_allBest_77 rfl ?_
      refine r_aload_n dX7_allBest_79 rfl ?_
      refine r_getR (j := 153) dX7_allBest_80 k_X7_109 rfl (by decide) rfl rfl ?_
      refine r_iload dX7_allBest_83 rfl ?_
      refine r_iald (i) dX7_allBest_85 rfl rfl (show i < 6 by omega) ?_
      rw [hH i (by omega)]
      refine r_iadd dX7_allBest_86 ?_
      rw [zI_add]
      refine r_istore dX7_allBest_87 (by decide) rfl rfl ?_
      dsimp only [List.set]
      refine r_iinc dX7_allBest_89 rfl (by first | exact nI_inc _ | rfl) (by decide) rfl rfl ?_
      dsimp only [List.set]
      refine r_goto (tgt := 68) dX7_allBest_92 (by decide) ?_
      exact ih (i + 1) (by omega)
theorem all_loop {G : WT} {l : Launch} (hG : GOK G) {h : Hp} {b : Nat} {V : Hv} {T : Tb} {what : Int32} {f : Nat → Int} (hf : ∀ c, f c = allH V T c) (C : RIc h b V T) (h4 : T.1 7 0 ≤ 4) (hw : what = 0 ∨ ∃ i, i < T.1 7 0 ∧ what = nI (10 + i)) :
    ∀ (m c : Nat) (g : Hp) (x5 x6 : Value), c + m = 4 ^ T.1 7 0 → Fr stF h g → SC g b V T none false → Wp G l 6 RX7 cX7_allBest 7 (some .int) 43 [.ref (gA G 134), .int what, .int (if c = 0 then -1 else nI (bestTo f (c - 1))), .int (if c = 0 then 0 else zI (f (bestTo f (c - 1)))), .int (nI c), x5, x6] [] g (fun r h' => r = some (.int (if what = 0 then zI (f (bestTo f (4 ^ T.1 7 0 - 1))) else match dec (what - nI 10) (T.1 7 0) with | some i => nI (rowW (T.1 7 0) (bestTo f (4 ^ T.1 7 0 - 1)) i) | none => 0)) ∧ Fr stF h h') := by
  have hp4 := pow4 h4
  have hpp := pow4p (T.1 7 0)
  have hE := C.1.2.1.1
  have W9 : ∀ c e, rowW (T.1 7 0) c e ≤ 9 := fun c e => Nat.le_trans (rowW_le _ _ _) (by omega)
  have bd : ∀ c, -10000 ≤ f c ∧ f c ≤ 100000 := fun c => by
    have := allTo_bd (T := T) C.1.2.2.1.2.1 (W9 c) (T.1 7 0)
    rw [hf, allH]
    omega
  intro m
  induction m with
  | zero =>
    intro c g x5 x6 hc hF D
    obtain rfl : c = 4 ^ T.1 7 0 := by omega
    have hbl := bestTo_le f (4 ^ T.1 7 0 - 1)
    rw [if_neg (show ¬ 4 ^ T.1 7 0 = 0 by omega), if_neg (show ¬ 4 ^ T.1 7 0 = 0 by omega)]
    rcases hw with rfl | ⟨i, hi, rfl⟩
    · refine r_iload dX7_allBest_43 rfl ?_
      refine r_aload_n dX7_allBest_45 rfl ?_
      refine r_callV dX7_allBest_46 l_X7_356 o_X7_rowsNow v_X7_rowsNow rfl (by decide) rfl rfl (m_X7_rowsNow hG hE D.1.1) (by decide) rfl (Nat.le_of_ble_eq_true rfl) (fun r46 h46 hq46 => ?_)
      obtain ⟨rfl, e46⟩ := hq46
      rw [e46]
      clear e46 h46
      refine r_icmp_ge (tgt := 120) dX7_allBest_49 (by decide) (fun c_49 => ?_) (fun c_49 => ?_)
      · refine r_iload_n dX7_allBest_120 rfl ?_
        refine r_if_ne (tgt := 128) dX7_allBest_121 (by decide) (fun c_121 => ?_) (fun c_121 => ?_)
        · exact absurd rfl c_121
        · refine r_iload_n dX7_allBest_124 rfl ?_
          refine r_goto (tgt := 137) dX7_allBest_125 (by decide) ?_
          refine r_ireturn dX7_allBest_137 ⟨_, rfl, rfl⟩ ?_
          exact ⟨by rw [if_pos rfl], hF⟩
      · exact absurd (Int32.le_refl _) c_49
    · have e0 : ¬ nI (10 + i) = 0 := nI_ne0 (by omega) (by omega)
      have ed : dec (nI (10 + i) - nI 10) (T.1 7 0) = some i := (dec_sub (by omega) (by omega)).mpr ⟨hi, rfl⟩
      have e2 : nI (10 + i) - 10 = nI i := by rw [show (10 : Int32) = nI 10 from rfl, pk_sub (by omega)]; congr 1; omega
      refine r_iload dX7_allBest_43 rfl ?_
      refine r_aload_n dX7_allBest_45 rfl ?_
      refine r_callV dX7_allBest_46 l_X7_356 o_X7_rowsNow v_X7_rowsNow rfl (by decide) rfl rfl (m_X7_rowsNow hG hE D.1.1) (by decide) rfl (Nat.le_of_ble_eq_true rfl) (fun r46 h46 hq46 => ?_)
      obtain ⟨rfl, e46⟩ := hq46
      rw [e46]
      clear e46 h46
      refine r_icmp_ge (tgt := 120) dX7_allBest_49 (by decide) (fun c_49 => ?_) (fun c_49 => ?_)
      · refine r_iload_n dX7_allBest_120 rfl ?_
        refine r_if_ne (tgt := 128) dX7_allBest_121 (by decide) (fun c_121 => ?_) (fun c_121 => ?_)
        · refine r_aload_n dX7_allBest_128 rfl ?_
          refine r_iload_n dX7_allBest_129 rfl ?_
          refine r_iload_n dX7_allBest_130 rfl ?_
          refine r_bipush (v := 10) dX7_allBest_131 (by decide) ?_
          refine r_isub dX7_allBest_133 ?_
          rw [e2]
          refine r_callV dX7_allBest_134 l_X7_362 o_X7_digit v_X7_digit rfl (by decide) rfl rfl (m_X7_digit hG hE (show bestTo f (4 ^ T.1 7 0 - 1) < 1000000 by omega) hi D.1.1) (by decide) rfl (Nat.le_of_ble_eq_true rfl) (fun r134 h134 hq134 => ?_)
          obtain ⟨rfl, e134⟩ := hq134
          rw [e134]
          clear e134 h134
          refine r_ireturn dX7_allBest_137 ⟨_, rfl, rfl⟩ ?_
          exact ⟨by rw [if_neg e0, ed], hF⟩
        · exact absurd c_121 e0
      · exact absurd (Int32.le_refl _) c_49
  | succ m ih =>
    intro c g x5 x6 hc hF D
    have cont : ∀ (g2 : Hp) (x y : Int32) (x5 x6 : Value), Fr stF g g2 → SC g2 b V T none false → x = nI (bestTo f c) → y = zI (f (bestTo f c)) → Wp G l 6 RX7 cX7_allBest 7 (some .int) 43 [.ref (gA G 134), .int what, .int x, .int y, .int (nI (c + 1)), x5, x6] [] g2 (fun r h' => r = some (.int (if what = 0 then zI (f (bestTo f (4 ^ T.1 7 0 - 1))) else match dec (what - nI 10) (T.1 7 0) with | some i => nI (rowW (T.1 7 0) (bestTo f (4 ^ T.1 7 0 - 1)) i) | none => 0)) ∧ Fr stF h h') := by
      intro g2 x y x5 x6 F9 D9 hx hy
      have q := ih (c + 1) g2 x5 x6 (by omega) (hF.tr F9) D9
      rw [if_neg (by omega), if_neg (by omega), Nat.add_sub_cancel] at q
      rw [hx, hy]
      exact q
    have hbl := bestTo_le f (c - 1)
    have b1 := bd (bestTo f (c - 1))
    have b2 := bd c
    refine r_iload dX7_allBest_43 rfl ?_
    refine r_aload_n dX7_allBest_45 rfl ?_
    refine r_callV dX7_allBest_46 l_X7_356 o_X7_rowsNow v_X7_rowsNow rfl (by decide) rfl rfl (m_X7_rowsNow hG hE D.1.1) (by decide) rfl (Nat.le_of_ble_eq_true rfl) (fun r46 h46 hq46 => ?_)
    obtain ⟨rfl, e46⟩ := hq46
    rw [e46]
    clear e46 h46
    refine r_icmp_ge (tgt := 120) dX7_allBest_49 (by decide) (fun c_49 => ?_) (fun c_49 => ?_)
    · exact absurd c_49 (nI_ge (by omega) (by omega))
    · refine r_aload_n dX7_allBest_52 rfl ?_
      refine r_iload dX7_allBest_53 rfl ?_
      refine r_callV dX7_allBest_55 l_X7_353 o_X7_layRow v_X7_layRow rfl (by decide) rfl rfl (m_X7_layRow hG hE (show c < 1000000 by omega) D.1.1) (by decide) rfl (Nat.le_of_ble_eq_true rfl) (fun r55 h55 hq55 => ?_)
      obtain ⟨rfl, F2, hw2⟩ := hq55
      have D2 := D.fr (wishF_st F2) bestF_dom
      refine r_aload_n dX7_allBest_58 rfl ?_
      refine r_callV dX7_allBest_59 l_X7_324 o_X7_laySupper v_X7_laySupper rfl (by decide) rfl rfl (m_X7_laySupper hG D2 (w := rowW (T.1 7 0) c) (fun e he => ⟨hw2 e he, W9 c e⟩)) (by decide) rfl (Nat.le_of_ble_eq_true rfl) (fun r59 h59 hq59 => ?_)
      obtain ⟨rfl, hF3, hE3, hB3, hH3⟩ := hq59
      have D3 := D2.fr hF3 supF_dom
      have F9 : Fr stF g h59 := bestF_st ((wishF_st F2).tr (supF_best hF3))
      refine r_iconst (v := 0) dX7_allBest_62 (by decide) ?_
      refine r_istore dX7_allBest_63 (by decide) rfl rfl ?_
      dsimp only [List.set]
      refine r_iconst (v := 0) dX7_allBest_65 (by decide) ?_
      refine r_istore dX7_allBest_66 (by decide) rfl rfl ?_
      dsimp only [List.set]
      refine allS_loop (w := rowW (T.1 7 0) c) D3 hH3 (fun x6 => ?_) (T.1 7 0) 0 (by omega)
      rw [show allTo V T (rowW (T.1 7 0) c) (T.1 7 0) = f c from (hf c).symm]
      by_cases hc0 : c = 0
      · rw [if_pos hc0, if_pos hc0]
        refine r_iload_n dX7_allBest_95 rfl ?_
        refine r_if_lt (tgt := 108) dX7_allBest_96 (by decide) (fun c_96 => ?_) (fun c_96 => absurd (by decide) c_96)
        refine r_iload dX7_allBest_108 rfl ?_
        refine r_istore_n dX7_allBest_110 (by decide) rfl rfl ?_
        refine r_iload dX7_allBest_111 rfl ?_
        refine r_istore_n dX7_allBest_113 (by decide) rfl rfl ?_
        refine r_iinc dX7_allBest_114 rfl (by first | exact nI_inc _ | rfl) (by decide) rfl rfl ?_
        refine r_goto (tgt := 43) dX7_allBest_117 (by decide) ?_
        exact cont _ _ _ _ _ F9 D3 (by rw [hc0]; rfl) (by rw [hc0]; rfl)
      · rw [if_neg hc0, if_neg hc0]
        obtain ⟨c1, hc1⟩ : ∃ n, c = n + 1 := ⟨c - 1, by omega⟩
        have ebs : bestTo f c = if f (bestTo f (c - 1)) < f c then c else bestTo f (c - 1) := by rw [hc1]; rfl
        refine r_iload_n dX7_allBest_95 rfl ?_
        refine r_if_lt (tgt := 108) dX7_allBest_96 (by decide) (fun c_96 => absurd c_96 (nI_pos (by omega))) (fun c_96 => ?_)
        refine r_iload dX7_allBest_99 rfl ?_
        refine r_iload_n dX7_allBest_101 rfl ?_
        refine r_icmp_gt (tgt := 108) dX7_allBest_102 (by decide) (fun c_102 => ?_) (fun c_102 => ?_)
        · have y := (zI_lt (by omega) (by omega) (by omega) (by omega)).mp c_102
          refine r_iload dX7_allBest_108 rfl ?_
          refine r_istore_n dX7_allBest_110 (by decide) rfl rfl ?_
          refine r_iload dX7_allBest_111 rfl ?_
          refine r_istore_n dX7_allBest_113 (by decide) rfl rfl ?_
          refine r_iinc dX7_allBest_114 rfl (by first | exact nI_inc _ | rfl) (by decide) rfl rfl ?_
          refine r_goto (tgt := 43) dX7_allBest_117 (by decide) ?_
          exact cont _ _ _ _ _ F9 D3 (by rw [ebs, if_pos y]) (by rw [ebs, if_pos y])
        · have y : ¬ f (bestTo f (c - 1)) < f c := fun q => c_102 ((zI_lt (by omega) (by omega) (by omega) (by omega)).mpr q)
          refine r_goto (tgt := 114) dX7_allBest_105 (by decide) ?_
          refine r_iinc dX7_allBest_114 rfl (by first | exact nI_inc _ | rfl) (by decide) rfl rfl ?_
          refine r_goto (tgt := 43) dX7_allBest_117 (by decide) ?_
          exact cont _ _ _ _ _ F9 D3 (by rw [ebs, if_neg y]) (by rw [ebs, if_neg y])
set_option maxRecDepth 100000 in
theorem m_X7_allBest {G : WT} {l : Launch} (hG : GOK G) {h : Hp} {b : Nat} {V : Hv} {T : Tb} {what : Int32} (C : RIc h b V T) : Cl G l 6 yX7_allBest cX7_allBest 7 (some .int) [.ref (gA G 134), .int what] h (fun r h' => r = some (.int (allBestA V T what)) ∧ RIc h' b V T ∧ Fr scrF h h') := by
  refine Cl.of hG (by decide) (Nat.le_of_ble_eq_true rfl) ?_
  show Wp G l 6 RX7 cX7_allBest 7 (some .int) 0 [.ref (gA G 134), .int what, mk0, mk0, mk0, mk0, mk0] [] h _
  have hE := C.1.2.1.1
  have hq : ¬ (¬ what = 0 ∧ dec (what - nI 10) (T.1 7 0) = none) → what = 0 ∨ ∃ i, i < T.1 7 0 ∧ what = nI (10 + i) := by
    intro q
    by_cases hw : what = 0
    · exact Or.inl hw
    · cases hd : dec (what - nI 10) (T.1 7 0) with
      | none => exact absurd ⟨hw, hd⟩ q
      | some j => exact Or.inr ⟨j, (dec_sub (by omega) (by omega)).mp hd⟩
  have fin : ¬ (¬ what = 0 ∧ dec (what - nI 10) (T.1 7 0) = none) → Wp G l 6 RX7 cX7_allBest 7 (some .int) 25 [.ref (gA G 134), .int what, mk0, mk0, mk0, mk0, mk0] [] h (fun r h' => r = some (.int (allBestA V T what)) ∧ RIc h' b V T ∧ Fr scrF h h') := by
    intro q
    have hw := hq q
    by_cases h4 : T.1 7 0 ≤ 4
    · refine r_aload_n dX7_allBest_25 rfl ?_
      refine r_getI dX7_allBest_26 k_X7_7 rfl (by decide) rfl ?_
      refine r_iconst (v := 4) dX7_allBest_29 (by decide) ?_
      rw [C.1.1.1]
      refine r_icmp_le (tgt := 36) dX7_allBest_30 (by decide) (fun c_30 => ?_) (fun c_30 => ?_)
      · refine r_iconst (v := -1) dX7_allBest_36 (by decide) ?_
        refine r_istore_n dX7_allBest_37 (by decide) rfl rfl ?_
        dsimp only [List.set]
        refine r_iconst (v := 0) dX7_allBest_38 (by decide) ?_
        refine r_istore_n dX7_allBest_39 (by decide) rfl rfl ?_
        dsimp only [List.set]
        refine r_iconst (v := 0) dX7_allBest_40 (by decide) ?_
        refine r_istore dX7_allBest_41 (by decide) rfl rfl ?_
        dsimp only [List.set]
        refine Wp.mono (all_loop hG (f := allH V T) (fun _ => rfl) C h4 hw (4 ^ T.1 7 0) 0 h _ _ (by omega) Fr.rf C.1) (fun r h' q2 => ?_)
        obtain ⟨q3, q4⟩ := q2
        refine ⟨?_, C.sup (C.1.fr q4 stF_dom) (stF_scr q4) (stF_calm C.calm q4)⟩
        rw [q3, allBestA, if_neg q, if_neg (show ¬ 4 < T.1 7 0 by omega)]
        rfl
      · exact absurd ((nI_le' (b := 4) (by omega) (by omega)).mpr h4) c_30
    · refine r_aload_n dX7_allBest_25 rfl ?_
      refine r_getI dX7_allBest_26 k_X7_7 rfl (by decide) rfl ?_
      refine r_iconst (v := 4) dX7_allBest_29 (by decide) ?_
      rw [C.1.1.1]
      refine r_icmp_le (tgt := 36) dX7_allBest_30 (by decide) (fun c_30 => ?_) (fun c_30 => ?_)
      · exact absurd ((nI_le' (b := 4) (by omega) (by omega)).mp c_30) h4
      · refine r_bipush (v := -9) dX7_allBest_33 (by decide) ?_
        refine r_ireturn dX7_allBest_35 ⟨_, rfl, rfl⟩ ?_
        exact ⟨by rw [allBestA, if_neg q, if_pos (show 4 < T.1 7 0 by omega)], C, Fr.rf⟩
  by_cases hz : what = 0
  · refine r_iload_n dX7_allBest_0 rfl ?_
    refine r_if_eq (tgt := 25) dX7_allBest_1 (by decide) (fun c_1 => ?_) (fun c_1 => ?_)
    · exact fin (fun q => q.1 hz)
    · exact absurd hz c_1
  · refine r_iload_n dX7_allBest_0 rfl ?_
    refine r_if_eq (tgt := 25) dX7_allBest_1 (by decide) (fun c_1 => ?_) (fun c_1 => ?_)
    · exact absurd c_1 hz
    · refine r_aload_n dX7_allBest_4 rfl ?_
      refine r_iload_n dX7_allBest_5 rfl ?_
      refine r_bipush (v := 10) dX7_allBest_6 (by decide) ?_
      refine r_bipush (v := 9) dX7_allBest_8 (by decide) ?_
      refine r_aload_n dX7_allBest_10 rfl ?_
      refine r_getI dX7_allBest_11 k_X7_7 rfl (by decide) rfl ?_
      refine r_iadd dX7_allBest_14 ?_
      rw [C.1.1.1, show (9 : Int32) = nI 9 from rfl, nI_add]
      refine r_callV dX7_allBest_15 l_X7_212 o_X7_in v_X7_in rfl (by decide) rfl rfl (m_X7_in hG) (by decide) rfl (Nat.le_of_ble_eq_true rfl) (fun r15 h15 hq15 => ?_)
      obtain ⟨rfl, e15⟩ := hq15
      rw [e15]
      clear e15 h15
      rw [show inP what 10 (nI (9 + T.1 7 0)) = (dec (what - nI 10) (T.1 7 0)).isSome from inP_dec (a := 10) (by omega) (by omega)]
      refine r_if_ne (tgt := 25) dX7_allBest_18 (by decide) (fun c_18 => ?_) (fun c_18 => ?_)
      · exact fin (fun q => by have := b01_n0.mp c_18; rw [q.2] at this; cases this)
      · refine r_ldcw dX7_allBest_21 n_X7_339 ?_
        refine r_ireturn dX7_allBest_24 ⟨_, rfl, rfl⟩ ?_
        exact ⟨by rw [allBestA, if_pos ⟨hz, isSome_f (b01_0.mp c_18)⟩]; rfl, C, Fr.rf⟩
