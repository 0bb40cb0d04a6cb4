/-! still rows -/
def stF (a i : Nat) : Bool := bestF a i || a == 158
theorem stF_dom (a i : Nat) (hd : supDom a i) : stF a i = false := by
  have h1 := bestF_dom a i hd
  simp only [supDom] at hd
  simp only [stF, h1, Bool.false_or, beq_eq_false_iff_ne]
  omega
theorem bestF_st {h h' : Hp} (H : Fr bestF h h') : Fr stF h h' := H.wk (fun x i q => by simp only [stF, Bool.or_eq_false_iff] at q; exact q.1)
theorem stF_scr {h h' : Hp} (H : Fr stF h h') : Fr scrF h h' := H.wk (fun x i q => by
  simp only [scrF, Bool.or_eq_false_iff, Bool.and_eq_false_iff, beq_eq_false_iff_ne, decide_eq_false_iff_not] at q
  simp only [stF, bestF, supF, Bool.or_eq_false_iff, Bool.and_eq_false_iff, beq_eq_false_iff_ne]
  omega)
theorem wishF_st {h h' : Hp} (H : Fr (fun a _ => a == 151) h h') : Fr bestF h h' := H.wk (fun x i q => by simp only [bestF, Bool.or_eq_false_iff] at q; exact q.2)
theorem rowW_le (E code e : Nat) : rowW E code e ≤ 3 := by
  have := Nat.mod_lt (code / 4 ^ (E - 1 - e)) (show 0 < 4 by omega)
  unfold rowW
  omega
theorem upW_ne {w : Nat → Nat} {i a e : Nat} (h : e ≠ i) : upW w i a e = w e := if_neg h
theorem upW_eq {w : Nat → Nat} {i a : Nat} : upW w i a i = a := if_pos rfl
theorem hasW_bd {V : Hv} {T : Tb} {w : Nat → Nat} {i : Nat} (hV : HvOK V) (hw : w i ≤ 9) : -1000 ≤ hasW V (P0 V) T w i ∧ hasW V (P0 V) T w i ≤ 10000 := hasS_bd hV (Nat.le_trans (ateS_le _ _ _) hw)
theorem stillTo_mono {V : Hv} {T : Tb} {w : Nat → Nat} {n : Nat} (h : stillTo V T w n = false) : ∀ k, stillTo V T w (n + k) = false := by
  intro k
  induction k with
  | zero => exact h
  | succ k ih => show (stillTo V T w (n + k) && _) = false; rw [ih]; rfl
theorem noGain_mono {V : Hv} {T : Tb} {w : Nat → Nat} {i n : Nat} (h : noGain V T w i n = false) : ∀ k, noGain V T w i (n + k) = false := by
  intro k
  induction k with
  | zero => exact h
  | succ k ih => show (noGain V T w i (n + k) && _) = false; rw [ih]; rfl
/-- what lies under the row's loops -/
def StC (h0 h : Hp) (b : Nat) (V : Hv) (T : Tb) (w : Nat → Nat) : Prop := Fr stF h0 h ∧ SC h b V T none false ∧ ∀ e, e < T.1 7 0 → h.1 158 e = zI (hasW V (P0 V) T w e)
theorem gain_loop {G : WT} {l : Launch} (hG : GOK G) {h0 : Hp} {b code i : Nat} {V : Hv} {T : Tb} {w : Nat → Nat} {Q : Option Value → Hp → Prop} (hw : ∀ e, w e ≤ 9) (hi : i < T.1 7 0)
    (kno : stillTo V T w (T.1 7 0) = false → ∀ g : Hp, Fr stF h0 g → Q (some (.int 0)) g)
    (kyes : noGain V T w i 4 = true → ∀ g : Hp, StC h0 g b V T w → WhOK g (T.1 7 0) w → ∀ x3 x4 : Value, Wp G l 6 RX7 cX7_isStill 5 (some .boolean) 39 [.ref (gA G 134), .int (nI code), .int (nI (i + 1)), x3, x4] [] g Q) :
    ∀ (m a : Nat) (g : Hp) (u : Nat → Nat), a + m = 4 → noGain V T w i a = true → StC h0 g b V T w → WhOK g (T.1 7 0) u → (∀ e, e ≠ i → u e = w e) → Wp G l 6 RX7 cX7_isStill 5 (some .boolean) 57 [.ref (gA G 134), .int (nI code), .int (nI i), .int (nI (w i)), .int (nI a)] [] g Q := by
  intro m
  induction m with
  | zero =>
    intro a g u ha hn C hu hne
    obtain rfl : a = 4 := by omega
    have hE := C.2.1.2.1.1
    refine r_iload dX7_isStill_57 rfl ?_
    refine r_iconst (v := 4) dX7_isStill_59 (by decide) ?_
    refine r_icmp_ge (tgt := 98) dX7_isStill_60 (by decide) (fun c_60 => ?_) (fun c_60 => ?_)
    · refine r_aload_n dX7_isStill_98 rfl ?_
      refine r_getR (j := 151) dX7_isStill_99 k_X7_103 rfl (by decide) rfl rfl ?_
      refine r_iload_n dX7_isStill_102 rfl ?_
      refine r_iload_n dX7_isStill_103 rfl ?_
      refine r_iast (i) dX7_isStill_104 rfl rfl (show i < 6 by omega) ?_
      refine r_iinc dX7_isStill_105 rfl (by first | exact nI_inc _ | rfl) (by decide) rfl rfl ?_
      dsimp only [List.set]
      refine r_goto (tgt := 39) dX7_isStill_108 (by decide) ?_
      have F1 : Fr bestF g (setI g 151 i (nI (w i))) := Fr.set rfl
      refine kyes hn _ ⟨C.1.tr (bestF_st F1), C.2.1.fr F1 bestF_dom, fun e he => by rw [F1.1 _ _ rfl]; exact C.2.2 e he⟩ (fun e he => ⟨?_, hw e⟩) _ _
      by_cases hei : e = i
      · rw [hei, setI_at]
      · rw [setI_nj hei, (hu e he).1, hne e hei]
    · exact absurd (Int32.le_refl _) c_60
  | succ m ih =>
    intro a g u ha hn C hu hne
    have hE := C.2.1.2.1.1
    have F1 : Fr bestF g (setI g 151 i (nI a)) := Fr.set rfl
    have W2 : WhOK (setI g 151 i (nI a)) (T.1 7 0) (upW w i a) := fun e he => by
      by_cases hei : e = i
      · rw [hei, setI_at, upW_eq]; exact ⟨rfl, by omega⟩
      · rw [setI_nj hei, upW_ne hei, (hu e he).1, hne e hei]; exact ⟨rfl, hw e⟩
    have C2 := C.2.1.fr F1 bestF_dom
    have b1 := hasW_bd (T := T) (w := upW w i a) (i := i) C.2.1.2.2.1.2.1 (by rw [upW_eq]; omega)
    have b2 := hasW_bd (T := T) (w := w) (i := i) C.2.1.2.2.1.2.1 (hw i)
    refine r_iload dX7_isStill_57 rfl ?_
    refine r_iconst (v := 4) dX7_isStill_59 (by decide) ?_
    refine r_icmp_ge (tgt := 98) dX7_isStill_60 (by decide) (fun c_60 => ?_) (fun c_60 => ?_)
    · exact absurd c_60 (nI_ge (a := a) (b := 4) (by omega) (by omega))
    · refine r_aload_n dX7_isStill_63 rfl ?_
      refine r_getR (j := 151) dX7_isStill_64 k_X7_103 rfl (by decide) rfl rfl ?_
      refine r_iload_n dX7_isStill_67 rfl ?_
      refine r_iload dX7_isStill_68 rfl ?_
      refine r_iast (i) dX7_isStill_70 rfl rfl (show i < 6 by omega) ?_
      refine r_aload_n dX7_isStill_71 rfl ?_
      refine r_callV dX7_isStill_72 l_X7_324 o_X7_laySupper v_X7_laySupper rfl (by decide) rfl rfl (m_X7_laySupper hG C2 W2) (by decide) rfl (Nat.le_of_ble_eq_true rfl) (fun r72 h72 hq72 => ?_)
      obtain ⟨rfl, hF3, hE3, hB3, hH3⟩ := hq72
      have C3 := C2.fr hF3 supF_dom
      have F4 := C.1.tr (bestF_st (F1.tr (supF_best hF3)))
      have e9 : h72.1 153 i = zI (hasW V (P0 V) T (upW w i a) i) := hH3 i hi
      have e8 : ∀ e, e < T.1 7 0 → h72.1 158 e = zI (hasW V (P0 V) T w e) := fun e he => by rw [hF3.1 _ _ rfl, F1.1 _ _ rfl]; exact C.2.2 e he
      refine r_aload_n dX7_isStill_75 rfl ?_
      refine r_getR (j := 153) dX7_isStill_76 k_X7_109 rfl (by decide) rfl rfl ?_
      refine r_iload_n dX7_isStill_79 rfl ?_
      refine r_iald (i) dX7_isStill_80 rfl rfl (show i < 6 by omega) ?_
      rw [e9]
      refine r_aload_n dX7_isStill_81 rfl ?_
      refine r_getR (j := 158) dX7_isStill_82 k_X7_142 rfl (by decide) rfl rfl ?_
      refine r_iload_n dX7_isStill_85 rfl ?_
      refine r_iald (i) dX7_isStill_86 rfl rfl (show i < 6 by omega) ?_
      rw [e8 i hi]
      refine r_icmp_le (tgt := 92) dX7_isStill_87 (by decide) (fun c_87 => ?_) (fun c_87 => ?_)
      · refine r_iinc dX7_isStill_92 rfl (by first | exact nI_inc _ | rfl) (by decide) rfl rfl ?_
        dsimp only [List.set]
        refine r_goto (tgt := 57) dX7_isStill_95 (by decide) ?_
        refine ih (a + 1) _ (upW w i a) (by omega) ?_ ⟨F4, C3, e8⟩ (fun e he => by rw [hF3.1 _ _ rfl]; exact W2 e he) (fun e he => upW_ne he)
        show (noGain V T w i a && decide (¬ hasW V (P0 V) T w i < hasW V (P0 V) T (upW w i a) i)) = true
        rw [hn, show decide (¬ hasW V (P0 V) T w i < hasW V (P0 V) T (upW w i a) i) = true from decide_eq_true (fun q => by have := (zI_le (by omega) (by omega) (by omega) (by omega)).mp c_87; omega)]
        rfl
      · refine r_iconst (v := 0) dX7_isStill_90 (by decide) ?_
        refine r_ireturn dX7_isStill_91 ⟨_, rfl, rfl⟩ ?_
        refine kno ?_ _ F4
        have q0 : noGain V T w i (a + 1) = false := by
          show (noGain V T w i a && decide (¬ hasW V (P0 V) T w i < hasW V (P0 V) T (upW w i a) i)) = false
          rw [show decide (¬ hasW V (P0 V) T w i < hasW V (P0 V) T (upW w i a) i) = false from decide_eq_false (fun q => c_87 ((zI_le (by omega) (by omega) (by omega) (by omega)).mpr (by omega)))]
          simp
        have q1 := noGain_mono q0 m
        rw [show a + 1 + m = 4 by omega] at q1
        have q2 : stillTo V T w (i + 1) = false := by show (stillTo V T w i && noGain V T w i 4) = false; rw [q1]; simp
        have q3 := stillTo_mono q2 (T.1 7 0 - (i + 1))
        rw [show i + 1 + (T.1 7 0 - (i + 1)) = T.1 7 0 by omega] at q3
        exact q3
theorem still_loop {G : WT} {l : Launch} (hG : GOK G) {h0 : Hp} {b code : Nat} {V : Hv} {T : Tb} {w : Nat → Nat} (hw : ∀ e, w e ≤ 9) :
    ∀ (m i : Nat) (g : Hp) (x3 x4 : Value), i + m = T.1 7 0 → stillTo V T w i = true → StC h0 g b V T w → WhOK g (T.1 7 0) w → Wp G l 6 RX7 cX7_isStill 5 (some .boolean) 39 [.ref (gA G 134), .int (nI code), .int (nI i), x3, x4] [] g (fun r h' => r = some (.int (b01 (stillTo V T w (T.1 7 0)))) ∧ Fr stF h0 h') := by
  intro m
  induction m with
  | zero =>
    intro i g x3 x4 hi hs C hu
    have hE := C.2.1.2.1.1
    have h0 := C.2.1.1.1
    obtain rfl : i = T.1 7 0 := by omega
    refine r_iload_n dX7_isStill_39 rfl ?_
    refine r_aload_n dX7_isStill_40 rfl ?_
    refine r_getI dX7_isStill_41 k_X7_7 rfl (by decide) rfl ?_
    rw [h0]
    refine r_icmp_ge (tgt := 111) dX7_isStill_44 (by decide) (fun c_44 => ?_) (fun c_44 => ?_)
    · refine r_iconst (v := 1) dX7_isStill_111 (by decide) ?_
      refine r_ireturn dX7_isStill_112 ⟨_, rfl, rfl⟩ ?_
      exact ⟨by rw [hs]; rfl, C.1⟩
    · exact absurd (Int32.le_refl _) c_44
  | succ m ih =>
    intro i g x3 x4 hi hs C hu
    have hE := C.2.1.2.1.1
    have h0 := C.2.1.1.1
    refine r_iload_n dX7_isStill_39 rfl ?_
    refine r_aload_n dX7_isStill_40 rfl ?_
    refine r_getI dX7_isStill_41 k_X7_7 rfl (by decide) rfl ?_
    rw [h0]
    refine r_icmp_ge (tgt := 111) dX7_isStill_44 (by decide) (fun c_44 => ?_) (fun c_44 => ?_)
    · exact absurd c_44 (nI_ge (by omega) (by omega))
    · refine r_aload_n dX7_isStill_47 rfl ?_
      refine r_getR (j := 151) dX7_isStill_48 k_X7_103 rfl (by decide) rfl rfl ?_
      refine r_iload_n dX7_isStill_51 rfl ?_
      refine r_iald (i) dX7_isStill_52 rfl rfl (show i < 6 by omega) ?_
      rw [(hu i (by omega)).1]
      refine r_istore_n dX7_isStill_53 (by decide) rfl rfl ?_
      dsimp only [List.set]
      refine r_iconst (v := 0) dX7_isStill_54 (by decide) ?_
      refine r_istore dX7_isStill_55 (by decide) rfl rfl ?_
      dsimp only [List.set]
      exact gain_loop hG hw (show i < T.1 7 0 by omega) (fun q g2 F2 => ⟨by rw [q]; rfl, F2⟩) (fun q g2 C2 W2 x y => ih (i + 1) g2 x y (by omega) (by show (stillTo V T w i && noGain V T w i 4) = true; rw [hs, q]; rfl) C2 W2) 4 0 g w (by omega) rfl C hu (fun _ _ => rfl)
theorem rowHas_loop {G : WT} {l : Launch} {h0 h : Hp} {b code : Nat} {V : Hv} {T : Tb} {w : Nat → Nat} {Q : Option Value → Hp → Prop} (C : SC h b V T none false) (hF : Fr stF h0 h) (hH : ∀ e, e < T.1 7 0 → h.1 153 e = zI (hasW V (P0 V) T w e)) (hu : WhOK h (T.1 7 0) w)
    (k : ∀ g : Hp, StC h0 g b V T w → WhOK g (T.1 7 0) w → ∀ x2 x3 x4 : Value, Wp G l 6 RX7 cX7_isStill 5 (some .boolean) 37 [.ref (gA G 134), .int (nI code), x2, x3, x4] [] g Q) :
    ∀ (m i : Nat) (g : Hp) (x3 x4 : Value), i + m = T.1 7 0 → Fr (fun a _ => a == 158) h g → (∀ e, e < i → g.1 158 e = zI (hasW V (P0 V) T w e)) → Wp G l 6 RX7 cX7_isStill 5 (some .boolean) 11 [.ref (gA G 134), .int (nI code), .int (nI i), x3, x4] [] g Q := by
  have stw : ∀ {g g2 : Hp}, Fr (fun a _ => a == 158) g g2 → Fr stF g g2 := fun H => H.wk (fun x i q => by simp only [stF, Bool.or_eq_false_iff] at q; exact q.2)
  intro m
  induction m with
  | zero =>
    intro i g x3 x4 hi F1 hr
    have hE := C.2.1.1
    have h0 := C.1.1
    obtain rfl : i = T.1 7 0 := by omega
    refine r_iload_n dX7_isStill_11 rfl ?_
    refine r_aload_n dX7_isStill_12 rfl ?_
    refine r_getI dX7_isStill_13 k_X7_7 rfl (by decide) rfl ?_
    rw [F1.1 _ _ rfl, h0]
    refine r_icmp_ge (tgt := 37) dX7_isStill_16 (by decide) (fun c_16 => ?_) (fun c_16 => ?_)
    · exact k g ⟨hF.tr (stw F1), C.fr (stw F1) stF_dom, hr⟩ (fun e he => by rw [F1.1 _ _ rfl]; exact hu e he) _ _ _
    · exact absurd (Int32.le_refl _) c_16
  | succ m ih =>
    intro i g x3 x4 hi F1 hr
    have hE := C.2.1.1
    have h0 := C.1.1
    refine r_iload_n dX7_isStill_11 rfl ?_
    refine r_aload_n dX7_isStill_12 rfl ?_
    refine r_getI dX7_isStill_13 k_X7_7 rfl (by decide) rfl ?_
    rw [F1.1 _ _ rfl, h0]
    refine r_icmp_ge (tgt := 37) dX7_isStill_16 (by decide) (fun c_16 => ?_) (fun c_16 => ?_)
    · exact absurd c_16 (nI_ge (by omega) (by omega))
    · refine r_aload_n dX7_isStill_19 rfl ?_
      refine r_getR (j := 158) dX7_isStill_20 k_X7_142 rfl (by decide) rfl rfl ?_
      refine r_iload_n dX7_isStill_23 rfl ?_
      refine r_aload_n dX7_isStill_24 rfl ?_
      refine r_getR (j := 153) dX7_isStill_25 k_X7_109 rfl (by decide) rfl rfl ?_
      refine r_iload_n dX7_isStill_28 rfl ?_
      refine r_iald (i) dX7_isStill_29 rfl rfl (show i < 6 by omega) ?_
      rw [F1.1 _ _ rfl, hH i (by omega)]
      refine r_iast (i) dX7_isStill_30 rfl rfl (show i < 6 by omega) ?_
      refine r_iinc dX7_isStill_31 rfl (by first | exact nI_inc _ | rfl) (by decide) rfl rfl ?_
      dsimp only [List.set]
      refine r_goto (tgt := 11) dX7_isStill_34 (by decide) ?_
      refine ih (i + 1) _ _ _ (by omega) (F1.tr (Fr.set rfl)) (fun e he => ?_)
      by_cases hei : e = i
      · rw [hei, setI_at]
      · rw [setI_nj hei]; exact hr e (by omega)
set_option maxRecDepth 100000 in
theorem m_X7_isStill {G : WT} {l : Launch} (hG : GOK G) {h : Hp} {b code : Nat} {V : Hv} {T : Tb} (hc : code < 1000000) (C : SC h b V T none false) : Cl G l 6 yX7_isStill cX7_isStill 5 (some .boolean) [.ref (gA G 134), .int (nI code)] h (fun r h' => r = some (.int (b01 (stillS V T code))) ∧ Fr stF h h') := by
  refine Cl.of hG (by decide) (Nat.le_of_ble_eq_true rfl) ?_
  show Wp G l 6 RX7 cX7_isStill 5 (some .boolean) 0 [.ref (gA G 134), .int (nI code), mk0, mk0, mk0] [] h _
  have hE := C.2.1.1
  have W9 : ∀ e, rowW (T.1 7 0) code e ≤ 9 := fun e => Nat.le_trans (rowW_le _ _ _) (by omega)
  refine r_aload_n dX7_isStill_0 rfl ?_
  refine r_iload_n dX7_isStill_1 rfl ?_
  refine r_callV dX7_isStill_2 l_X7_353 o_X7_layRow v_X7_layRow rfl (by decide) rfl rfl (m_X7_layRow hG hE hc C.1.1) (by decide) rfl (Nat.le_of_ble_eq_true rfl) (fun r2 h2 hq2 => ?_)
  obtain ⟨rfl, F2, hw2⟩ := hq2
  have C2 := C.fr (wishF_st F2) bestF_dom
  refine r_aload_n dX7_isStill_5 rfl ?_
  refine r_callV dX7_isStill_6 l_X7_324 o_X7_laySupper v_X7_laySupper rfl (by decide) rfl rfl (m_X7_laySupper hG C2 (w := rowW (T.1 7 0) code) (fun e he => ⟨hw2 e he, W9 e⟩)) (by decide) rfl (Nat.le_of_ble_eq_true rfl) (fun r6 h6 hq6 => ?_)
  obtain ⟨rfl, hF3, hE3, hB3, hH3⟩ := hq6
  refine r_iconst (v := 0) dX7_isStill_9 (by decide) ?_
  refine r_istore_n dX7_isStill_10 (by decide) rfl rfl ?_
  dsimp only [List.set]
  refine rowHas_loop (w := rowW (T.1 7 0) code) (C2.fr hF3 supF_dom) (bestF_st ((wishF_st F2).tr (supF_best hF3))) hH3 (fun e he => ⟨by rw [hF3.1 _ _ rfl]; exact hw2 e he, W9 e⟩) (fun g C9 W x2 x3 x4 => ?_) (T.1 7 0) 0 _ _ _ (by omega) Fr.rf (fun e he => absurd he (by omega))
  refine r_iconst (v := 0) dX7_isStill_37 (by decide) ?_
  refine r_istore_n dX7_isStill_38 (by decide) rfl rfl ?_
  exact still_loop hG W9 (T.1 7 0) 0 g _ _ (by omega) rfl C9 W
/-! still, allBest -/
theorem cntTo_0 {q : Nat → Bool} : ∀ n, cntTo q n = 0 → ∀ i, i < n → q i = false := by
  intro n
  induction n with
  | zero => intro _ i hi; omega
  | succ n ih =>
    intro hc i hi
    have e : cntTo q n + (if q n = true then 1 else 0) = 0 := hc
    by_cases hin : i = n
    · rw [hin]
      cases hq : q n with
      | false => rfl
      | true => rw [hq, if_pos rfl] at e; omega
    · exact ih (by omega) i (by omega)
theorem cntTo_pos {q : Nat → Bool} : ∀ n, cntTo q n ≠ 0 → ∃ i, i < n ∧ q i = true := by
  intro n
  induction n with
  | zero => intro q; exact absurd rfl q
  | succ n ih =>
    intro hc
    have e : cntTo q n + (if q n = true then 1 else 0) ≠ 0 := hc
    cases hq : q n with
    | true => exact ⟨n, by omega, hq⟩
    | false =>
      rw [hq, if_neg Bool.false_ne_true] at e
      obtain ⟨i, h1, h2⟩ := ih (by omega)
      exact ⟨i, by omega, h2⟩
def fst1 (q : Nat → Bool) (n : Nat) : Int32 := if cntTo q n = 0 then -1 else nI (firstTo q n)
theorem fst1_no {q : Nat → Bool} {n : Nat} (h : q n = false) : fst1 q (n + 1) = fst1 q n ∧ cntTo q (n + 1) = cntTo q n := by
  have e : cntTo q (n + 1) = cntTo q n := by show cntTo q n + (if q n = true then 1 else 0) = _; rw [h]; rfl
  refine ⟨?_, e⟩
  unfold fst1
  rw [e]
  split
  · rfl
  · rename_i hc
    obtain ⟨q1, q2, q3⟩ := firstTo_ex n (cntTo_pos n hc)
    rw [firstTo_at q3 q2 (n + 1) (by omega)]
theorem fst1_yes {q : Nat → Bool} {n : Nat} (h : q n = true) : fst1 q (n + 1) = (if cntTo q n = 0 then nI n else fst1 q n) ∧ cntTo q (n + 1) = cntTo q n + 1 := by
  have e : cntTo q (n + 1) = cntTo q n + 1 := by show cntTo q n + (if q n = true then 1 else 0) = _; rw [h]; rfl
  refine ⟨?_, e⟩
  unfold fst1
  rw [e, if_neg (by omega)]
  split
  · rename_i hc
    rw [firstTo_at (cntTo_0 n hc) h (n + 1) (by omega)]
  · rename_i hc
    obtain ⟨q1, q2, q3⟩ := firstTo_ex n (cntTo_pos n hc)
    rw [firstTo_at q3 q2 (n + 1) (by omega)]
theorem pow4 {E : Nat} (hE : E ≤ 4) : 4 ^ E ≤ 256 := by
  have := Nat.pow_le_pow_right (n := 4) (by omega) hE
  omega
theorem pow4p (E : Nat) : 0 < 4 ^ E := Nat.pow_pos (by omega)
theorem stills_loop {G : WT} {l : Launch} (hG : GOK G) {h : Hp} {b : Nat} {V : Hv} {T : Tb} {what : Int32} {p : Nat → Bool} (hp : ∀ c, p c = stillS V T c) (C : RIc h b V T) (h4 : T.1 7 0 ≤ 4) (hw : what = 0 ∨ ∃ i, i < T.1 7 0 ∧ what = nI (10 + i)) :
    ∀ (m c : Nat) (g : Hp), c + m = 4 ^ T.1 7 0 → Fr stF h g → SC g b V T none false → Wp G l 7 RX7 cX7_still 5 (some .int) 43 [.ref (gA G 134), .int what, .int (nI (cntTo p c)), .int (fst1 p c), .int (nI c)] [] g (fun r h' => r = some (.int (if what = 0 then nI (cntTo p (4 ^ T.1 7 0)) else if cntTo p (4 ^ T.1 7 0) = 0 then -5 else match dec (what - nI 10) (T.1 7 0) with | some i => nI (rowW (T.1 7 0) (firstTo p (4 ^ T.1 7 0)) i) | none => 0)) ∧ Fr stF h h') := by
  intro m
  have hp4 := pow4 h4
  have hE := C.1.2.1.1
  induction m with
  | zero =>
    intro c g hc hF D
    obtain rfl : c = 4 ^ T.1 7 0 := by omega
    have hcl := cntTo_le (q := p) (4 ^ T.1 7 0)
    rcases hw with rfl | ⟨i, hi, rfl⟩
    · refine r_iload dX7_still_43 rfl ?_
      refine r_aload_n dX7_still_45 rfl ?_
      refine r_callV dX7_still_46 l_X7_356 o_X7_rowsNow v_X7_rowsNow rfl (by decide) rfl rfl (m_X7_rowsNow hG hE D.1.1) (by decide) rfl (Nat.le_of_ble_eq_true rfl) (fun r46 h46 hq46 => ?_)
      obtain ⟨rfl, e46⟩ := hq46
      rw [e46]
      clear e46 h46
      refine r_icmp_ge (tgt := 80) dX7_still_49 (by decide) (fun c_49 => ?_) (fun c_49 => ?_)
      · refine r_iload_n dX7_still_80 rfl ?_
        refine r_if_ne (tgt := 88) dX7_still_81 (by decide) (fun c_81 => ?_) (fun c_81 => ?_)
        · exact absurd rfl c_81
        · refine r_iload_n dX7_still_84 rfl ?_
          refine r_goto (tgt := 106) dX7_still_85 (by decide) ?_
          refine r_ireturn dX7_still_106 ⟨_, rfl, rfl⟩ ?_
          exact ⟨by rw [if_pos rfl], hF⟩
      · exact absurd (Int32.le_refl _) c_49
    · have e0 : ¬ nI (10 + i) = 0 := nI_ne0 (by omega) (by omega)
      have ed : dec (nI (10 + i) - nI 10) (T.1 7 0) = some i := (dec_sub (by omega) (by omega)).mpr ⟨hi, rfl⟩
      have e2 : nI (10 + i) - 10 = nI i := by rw [show (10 : Int32) = nI 10 from rfl, pk_sub (by omega)]; congr 1; omega
      by_cases hz : cntTo p (4 ^ T.1 7 0) = 0
      · have ef : fst1 p (4 ^ T.1 7 0) = -1 := if_pos hz
        refine r_iload dX7_still_43 rfl ?_
        refine r_aload_n dX7_still_45 rfl ?_
        refine r_callV dX7_still_46 l_X7_356 o_X7_rowsNow v_X7_rowsNow rfl (by decide) rfl rfl (m_X7_rowsNow hG hE D.1.1) (by decide) rfl (Nat.le_of_ble_eq_true rfl) (fun r46 h46 hq46 => ?_)
        obtain ⟨rfl, e46⟩ := hq46
        rw [e46]
        clear e46 h46
        refine r_icmp_ge (tgt := 80) dX7_still_49 (by decide) (fun c_49 => ?_) (fun c_49 => ?_)
        · refine r_iload_n dX7_still_80 rfl ?_
          refine r_if_ne (tgt := 88) dX7_still_81 (by decide) (fun c_81 => ?_) (fun c_81 => ?_)
          · refine r_iload_n dX7_still_88 rfl ?_
            rw [ef]
            refine r_if_ge (tgt := 97) dX7_still_89 (by decide) (fun c_89 => ?_) (fun c_89 => ?_)
            · exact absurd c_89 (by decide)
            · refine r_bipush (v := -5) dX7_still_92 (by decide) ?_
              refine r_goto (tgt := 106) dX7_still_94 (by decide) ?_
              refine r_ireturn dX7_still_106 ⟨_, rfl, rfl⟩ ?_
              exact ⟨by rw [if_neg e0, if_pos hz], hF⟩
          · exact absurd c_81 e0
        · exact absurd (Int32.le_refl _) c_49
      · have ef : fst1 p (4 ^ T.1 7 0) = nI (firstTo p (4 ^ T.1 7 0)) := if_neg hz
        obtain ⟨q1, -, -⟩ := firstTo_ex _ (cntTo_pos _ hz)
        refine r_iload dX7_still_43 rfl ?_
        refine r_aload_n dX7_still_45 rfl ?_
        refine r_callV dX7_still_46 l_X7_356 o_X7_rowsNow v_X7_rowsNow rfl (by decide) rfl rfl (m_X7_rowsNow hG hE D.1.1) (by decide) rfl (Nat.le_of_ble_eq_true rfl) (fun r46 h46 hq46 => ?_)
        obtain ⟨rfl, e46⟩ := hq46
        rw [e46]
        clear e46 h46
        refine r_icmp_ge (tgt := 80) dX7_still_49 (by decide) (fun c_49 => ?_) (fun c_49 => ?_)
        · refine r_iload_n dX7_still_80 rfl ?_
          refine r_if_ne (tgt := 88) dX7_still_81 (by decide) (fun c_81 => ?_) (fun c_81 => ?_)
          · refine r_iload_n dX7_still_88 rfl ?_
            rw [ef]
            refine r_if_ge (tgt := 97) dX7_still_89 (by decide) (fun c_89 => ?_) (fun c_89 => ?_)
            · refine r_aload_n dX7_still_97 rfl ?_
              refine r_iload_n dX7_still_98 rfl ?_
              refine r_iload_n dX7_still_99 rfl ?_
              refine r_bipush (v := 10) dX7_still_100 (by decide) ?_
              refine r_isub dX7_still_102 ?_
              rw [e2]
              refine r_callV dX7_still_103 l_X7_362 o_X7_digit v_X7_digit rfl (by decide) rfl rfl (m_X7_digit hG hE (show firstTo p (4 ^ T.1 7 0) < 1000000 by omega) hi D.1.1) (by decide) rfl (Nat.le_of_ble_eq_true rfl) (fun r103 h103 hq103 => ?_)
              obtain ⟨rfl, e103⟩ := hq103
              rw [e103]
              clear e103 h103
              refine r_ireturn dX7_still_106 ⟨_, rfl, rfl⟩ ?_
              exact ⟨by rw [if_neg e0, if_neg hz, ed], hF⟩
            · exact absurd (nI_pos' (by omega)) c_89
          · exact absurd c_81 e0
        · exact absurd (Int32.le_refl _) c_49
  | succ m ih =>
    intro c g hc hF D
    have hcl := cntTo_le (q := p) c
    refine r_iload dX7_still_43 rfl ?_
    refine r_aload_n dX7_still_45 rfl ?_
    refine r_callV dX7_still_46 l_X7_356 o_X7_rowsNow v_X7_rowsNow rfl (by decide) rfl rfl (m_X7_rowsNow hG hE D.1.1) (by decide) rfl (Nat.le_of_ble_eq_true rfl) (fun r46 h46 hq46 => ?_)
    obtain ⟨rfl, e46⟩ := hq46
    rw [e46]
    clear e46 h46
    refine r_icmp_ge (tgt := 80) dX7_still_49 (by decide) (fun c_49 => ?_) (fun c_49 => ?_)
    · exact absurd c_49 (nI_ge (by omega) (by omega))
    · refine r_aload_n dX7_still_52 rfl ?_
      refine r_iload dX7_still_53 rfl ?_
      refine r_callV dX7_still_55 l_X7_359 o_X7_isStill v_X7_isStill rfl (by decide) rfl rfl (m_X7_isStill hG (show c < 1000000 by omega) D) (by decide) rfl (Nat.le_of_ble_eq_true rfl) (fun r55 h55 hq55 => ?_)
      obtain ⟨rfl, hF3⟩ := hq55
      have D3 := D.fr hF3 stF_dom
      refine r_if_ne (tgt := 64) dX7_still_58 (by decide) (fun c_58 => ?_) (fun c_58 => ?_)
      · have y : p c = true := by rw [hp]; exact b01_n0.mp c_58
        obtain ⟨y1, y2⟩ := fst1_yes y
        refine r_iload_n dX7_still_64 rfl ?_
        refine r_if_ne (tgt := 71) dX7_still_65 (by decide) (fun c_65 => ?_) (fun c_65 => ?_)
        · have z : ¬ cntTo p c = 0 := fun q => c_65 (by rw [q]; rfl)
          rw [if_neg z] at y1
          refine r_iinc dX7_still_71 rfl (by first | exact nI_inc _ | rfl) (by decide) rfl rfl ?_
          dsimp only [List.set]
          refine r_iinc dX7_still_74 rfl (by first | exact nI_inc _ | rfl) (by decide) rfl rfl ?_
          dsimp only [List.set]
          refine r_goto (tgt := 43) dX7_still_77 (by decide) ?_
          have q := ih (c + 1) _ (by omega) (hF.tr hF3) D3
          rw [y1, y2] at q
          exact q
        · have z : cntTo p c = 0 := (nI_eq' (b := 0) (by omega) (by omega)).mp c_65
          rw [if_pos z] at y1
          refine r_iload dX7_still_68 rfl ?_
          refine r_istore_n dX7_still_70 (by decide) rfl rfl ?_
          dsimp only [List.set]
          refine r_iinc dX7_still_71 rfl (by first | exact nI_inc _ | rfl) (by decide) rfl rfl ?_
          dsimp only [List.set]
          refine r_iinc dX7_still_74 rfl (by first | exact nI_inc _ | rfl) (by decide) rfl rfl ?_
          dsimp only [List.set]
          refine r_goto (tgt := 43) dX7_still_77 (by decide) ?_
          have q := ih (c + 1) _ (by omega) (hF.tr hF3) D3
          rw [y1, y2] at q
          exact q
      · have y : p c = false := by rw [hp]; exact b01_0.mp c_58
        obtain ⟨y1, y2⟩ := fst1_no y
        refine r_goto (tgt := 74) dX7_still_61 (by decide) ?_
        refine r_iinc dX7_still_74 rfl (by first | exact nI_inc _ | rfl) (by decide) rfl rfl ?_
        dsimp only [List.set]
        refine r_goto (tgt := 43) dX7_still_77 (by decide) ?_
        have q := ih (c + 1) _ (by omega) (hF.tr hF3) D3
        rw [y1, y2] at q
        exact q
theorem RIc.sup {h g : Hp} {b : Nat} {V : Hv} {T : Tb} (C : RIc h b V T) (D : SC g b V T none false) (hF : Fr scrF h g) (hc : Calm g) : RIc g b V T ∧ Fr scrF h g := C.end D.1 C.1.2.1 C.2.2 hF hc
theorem stF_calm {h h' : Hp} (H : Calm h) (hF : Fr stF h h') : Calm h' := ⟨by rw [hF.1 _ _ rfl]; exact H.1, by rw [hF.1 _ _ rfl]; exact H.2.1, by rw [hF.1 _ _ rfl]; exact H.2.2⟩
theorem cnt_first {q : Nat → Bool} (n : Nat) : cntTo q n = 0 ↔ ¬ firstTo q n < n := by
  constructor
  · intro h
    rw [firstTo_none n (cntTo_0 n h)]
    omega
  · intro h
    apply Classical.byContradiction
    intro hc
    exact h (firstTo_ex n (cntTo_pos n hc)).1
set_option maxRecDepth 100000 in
theorem m_X7_still {G : WT} {l : Launch} (hG : GOK G) {h : Hp} {b : Nat} {V : Hv} {T : Tb} {what : Int32} (C : RIc h b V T) : Cl G l 7 yX7_still cX7_still 5 (some .int) [.ref (gA G 134), .int what] h (fun r h' => r = some (.int (stillA V T what)) ∧ RIc h' b V T ∧ Fr scrF h h') := by
  refine Cl.of hG (by decide) (Nat.le_of_ble_eq_true rfl) ?_
  show Wp G l 7 RX7 cX7_still 5 (some .int) 0 [.ref (gA G 134), .int what, mk0, mk0, mk0] [] h _
  have hE := C.1.2.1.1
  have hq : ¬ (¬ what = 0 ∧ dec (what - nI 10) (T.1 7 0) = none) → what = 0 ∨ ∃ i, i < T.1 7 0 ∧ what = nI (10 + i) := by
    intro q
    by_cases hw : what = 0
    · exact Or.inl hw
    · cases hd : dec (what - nI 10) (T.1 7 0) with
      | none => exact absurd ⟨hw, hd⟩ q
      | some j => exact Or.inr ⟨j, (dec_sub (by omega) (by omega)).mp hd⟩
  have fin : ¬ (¬ what = 0 ∧ dec (what - nI 10) (T.1 7 0) = none) → Wp G l 7 RX7 cX7_still 5 (some .int) 25 [.ref (gA G 134), .int what, mk0, mk0, mk0] [] h (fun r h' => r = some (.int (stillA V T what)) ∧ RIc h' b V T ∧ Fr scrF h h') := by
    intro q
    have hw := hq q
    by_cases h4 : T.1 7 0 ≤ 4
    · refine r_aload_n dX7_still_25 rfl ?_
      refine r_getI dX7_still_26 k_X7_7 rfl (by decide) rfl ?_
      refine r_iconst (v := 4) dX7_still_29 (by decide) ?_
      rw [C.1.1.1]
      refine r_icmp_le (tgt := 36) dX7_still_30 (by decide) (fun c_30 => ?_) (fun c_30 => ?_)
      · refine r_iconst (v := 0) dX7_still_36 (by decide) ?_
        refine r_istore_n dX7_still_37 (by decide) rfl rfl ?_
        dsimp only [List.set]
        refine r_iconst (v := -1) dX7_still_38 (by decide) ?_
        refine r_istore_n dX7_still_39 (by decide) rfl rfl ?_
        dsimp only [List.set]
        refine r_iconst (v := 0) dX7_still_40 (by decide) ?_
        refine r_istore dX7_still_41 (by decide) rfl rfl ?_
        dsimp only [List.set]
        refine Wp.mono (stills_loop hG (p := stillS V T) (fun _ => rfl) C h4 hw (4 ^ T.1 7 0) 0 h (by omega) Fr.rf C.1) (fun r h' q2 => ?_)
        obtain ⟨q3, q4⟩ := q2
        refine ⟨?_, C.sup (C.1.fr q4 stF_dom) (stF_scr q4) (stF_calm C.calm q4)⟩
        rw [q3, stillA, if_neg q, if_neg (show ¬ 4 < T.1 7 0 by omega)]
        congr 2
        by_cases hz : cntTo (stillS V T) (4 ^ T.1 7 0) = 0
        · rw [if_pos hz, if_neg ((cnt_first _).mp hz)]
          all_goals rfl
        · rw [if_neg hz, if_pos (Classical.not_not.mp (fun y => hz ((cnt_first _).mpr y)))]
          all_goals rfl
      · exact absurd ((nI_le' (b := 4) (by omega) (by omega)).mpr h4) c_30
    · refine r_aload_n dX7_still_25 rfl ?_
      refine r_getI dX7_still_26 k_X7_7 rfl (by decide) rfl ?_
      refine r_iconst (v := 4) dX7_still_29 (by decide) ?_
      rw [C.1.1.1]
      refine r_icmp_le (tgt := 36) dX7_still_30 (by decide) (fun c_30 => ?_) (fun c_30 => ?_)
      · exact absurd ((nI_le' (b := 4) (by omega) (by omega)).mp c_30) h4
      · refine r_bipush (v := -9) dX7_still_33 (by decide) ?_
        refine r_ireturn dX7_still_35 ⟨_, rfl, rfl⟩ ?_
        exact ⟨by rw [stillA, if_neg q, if_pos (show 4 < T.1 7 0 by omega)], C, Fr.rf⟩
  by_cases hz : what = 0
  · refine r_iload_n dX7_still_0 rfl ?_
    refine r_if_eq (tgt := 25) dX7_still_1 (by decide) (fun c_1 => ?_) (fun c_1 => ?_)
    · exact fin (fun q => q.1 hz)
    · exact absurd hz c_1
  · refine r_iload_n dX7_still_0 rfl ?_
    refine r_if_eq (tgt := 25) dX7_still_1 (by decide) (fun c_1 => ?_) (fun c_1 => ?_)
    · exact absurd c_1 hz
    · refine r_aload_n dX7_still_4 rfl ?_
      refine r_iload_n dX7_still_5 rfl ?_
      refine r_bipush (v := 10) dX7_still_6 (by decide) ?_
      refine r_bipush (v := 9) dX7_still_8 (by decide) ?_
      refine r_aload_n dX7_still_10 rfl ?_
      refine r_getI dX7_still_11 k_X7_7 rfl (by decide) rfl ?_
      refine r_iadd dX7_still_14 ?_
      rw [C.1.1.1, show (9 : Int32) = nI 9 from rfl, nI_add]
      refine r_callV dX7_still_15 l_X7_212 o_X7_in v_X7_in rfl (by decide) rfl rfl (m_X7_in hG) (by decide) rfl (Nat.le_of_ble_eq_true rfl) (fun r15 h15 hq15 => ?_)
      obtain ⟨rfl, e15⟩ := hq15
      rw [e15]
      clear e15 h15
      rw [show inP what 10 (nI (9 + T.1 7 0)) = (dec (what - nI 10) (T.1 7 0)).isSome from inP_dec (a := 10) (by omega) (by omega)]
      refine r_if_ne (tgt := 25) dX7_still_18 (by decide) (fun c_18 => ?_) (fun c_18 => ?_)
      · exact fin (fun q => by have := b01_n0.mp c_18; rw [q.2] at this; cases this)
      · refine r_ldcw dX7_still_21 n_X7_339 ?_
        refine r_ireturn dX7_still_24 ⟨_, rfl, rfl⟩ ?_
        exact ⟨by rw [stillA, if_pos ⟨hz, isSome_f (b01_0.mp c_18)⟩]; rfl, C, Fr.rf⟩
