/-! thin -/
theorem enoughTo_mono {V : Hv} {T : Tb} {n : Nat} (h : enoughTo V T n = false) : ∀ k, enoughTo V T (n + k) = false := by
  intro k
  induction k with
  | zero => exact h
  | succ k ih => show (enoughTo V T (n + k) && _) = false; rw [ih]; rfl
theorem full_loop {G : WT} {l : Launch} {h : Hp} {T : Tb} {V : Hv} {x1 x2 x4 : Int32} {Q : Option Value → Hp → Prop} (hR : RTb h T) (hT : TbOK T) (hA : ∀ j, j < T.1 7 0 → h.1 152 j = nI (ateS (T.1 7 1) (wishS V (P0 V) T) j)) (hW : WhOK h (T.1 7 0) (wishS V (P0 V) T))
    (k : ∀ x5 : Value, Wp G l 10 RX7 cX7_isEnough 6 (some .boolean) 77 [.ref (gA G 134), .int x1, .int x2, .int (b01 (fullS V T)), .int x4, x5] [] h Q) :
    ∀ (m e : Nat), e + m = T.1 7 0 → Wp G l 10 RX7 cX7_isEnough 6 (some .boolean) 35 [.ref (gA G 134), .int x1, .int x2, .int (b01 (fullTo V T e)), .int x4, .int (nI e)] [] h Q := by
  have hE := hT.1
  intro m
  induction m with
  | zero =>
    intro e he
    obtain rfl : e = T.1 7 0 := by omega
    refine r_iload dX7_isEnough_35 rfl ?_
    refine r_aload_n dX7_isEnough_37 rfl ?_
    refine r_getI dX7_isEnough_38 k_X7_7 rfl (by decide) rfl ?_
    rw [hR.1]
    refine r_icmp_ge (tgt := 77) dX7_isEnough_41 (by decide) (fun c_41 => ?_) (fun c_41 => ?_)
    · exact k _
    · exact absurd (Int32.le_refl _) c_41
  | succ m ih =>
    intro e he
    have w9 := (hW e (by omega)).2
    have a9 := ateS_le (T.1 7 1) (wishS V (P0 V) T) e
    have nxt : fullTo V T (e + 1) = (fullTo V T e && decide (ateS (T.1 7 1) (wishS V (P0 V) T) e = wishS V (P0 V) T e)) := rfl
    cases hf : fullTo V T e with
    | false =>
      have q := ih (e + 1) (by omega)
      rw [nxt, hf] at q
      refine r_iload dX7_isEnough_35 rfl ?_
      refine r_aload_n dX7_isEnough_37 rfl ?_
      refine r_getI dX7_isEnough_38 k_X7_7 rfl (by decide) rfl ?_
      rw [hR.1]
      refine r_icmp_ge (tgt := 77) dX7_isEnough_41 (by decide) (fun c_41 => ?_) (fun c_41 => ?_)
      · exact absurd c_41 (nI_ge (by omega) (by omega))
      · refine r_iload_n dX7_isEnough_44 rfl ?_
        refine r_if_eq (tgt := 69) dX7_isEnough_45 (by decide) (fun c_45 => ?_) (fun c_45 => ?_)
        · refine r_iconst (v := 0) dX7_isEnough_69 (by decide) ?_
          refine r_istore_n dX7_isEnough_70 (by decide) rfl rfl ?_
          dsimp only [List.set]
          refine r_iinc dX7_isEnough_71 rfl (by first | exact nI_inc _ | rfl) (by decide) rfl rfl ?_
          dsimp only [List.set]
          refine r_goto (tgt := 35) dX7_isEnough_74 (by decide) ?_
          exact q
        · exact absurd rfl c_45
    | true =>
      have q := ih (e + 1) (by omega)
      rw [nxt, hf, Bool.true_and] at q
      refine r_iload dX7_isEnough_35 rfl ?_
      refine r_aload_n dX7_isEnough_37 rfl ?_
      refine r_getI dX7_isEnough_38 k_X7_7 rfl (by decide) rfl ?_
      rw [hR.1]
      refine r_icmp_ge (tgt := 77) dX7_isEnough_41 (by decide) (fun c_41 => ?_) (fun c_41 => ?_)
      · exact absurd c_41 (nI_ge (by omega) (by omega))
      · refine r_iload_n dX7_isEnough_44 rfl ?_
        refine r_if_eq (tgt := 69) dX7_isEnough_45 (by decide) (fun c_45 => ?_) (fun c_45 => ?_)
        · exact absurd c_45 (by decide)
        · refine r_aload_n dX7_isEnough_48 rfl ?_
          refine r_getR (j := 152) dX7_isEnough_49 k_X7_106 rfl (by decide) rfl rfl ?_
          refine r_iload dX7_isEnough_52 rfl ?_
          refine r_iald (e) dX7_isEnough_54 rfl rfl (show e < 6 by omega) ?_
          refine r_aload_n dX7_isEnough_55 rfl ?_
          refine r_getR (j := 151) dX7_isEnough_56 k_X7_103 rfl (by decide) rfl rfl ?_
          refine r_iload dX7_isEnough_59 rfl ?_
          refine r_iald (e) dX7_isEnough_61 rfl rfl (show e < 6 by omega) ?_
          rw [hA e (by omega), (hW e (by omega)).1]
          refine r_icmp_ne (tgt := 69) dX7_isEnough_62 (by decide) (fun c_62 => ?_) (fun c_62 => ?_)
          · have y : ¬ ateS (T.1 7 1) (wishS V (P0 V) T) e = wishS V (P0 V) T e := fun z => c_62 (by rw [z])
            rw [decide_eq_false y] at q
            refine r_iconst (v := 0) dX7_isEnough_69 (by decide) ?_
            refine r_istore_n dX7_isEnough_70 (by decide) rfl rfl ?_
            dsimp only [List.set]
            refine r_iinc dX7_isEnough_71 rfl (by first | exact nI_inc _ | rfl) (by decide) rfl rfl ?_
            dsimp only [List.set]
            refine r_goto (tgt := 35) dX7_isEnough_74 (by decide) ?_
            exact q
          · have y : ateS (T.1 7 1) (wishS V (P0 V) T) e = wishS V (P0 V) T e := (nI_eq' (by omega) (by omega)).mp c_62
            rw [decide_eq_true y] at q
            refine r_iconst (v := 1) dX7_isEnough_65 (by decide) ?_
            refine r_goto (tgt := 70) dX7_isEnough_66 (by decide) ?_
            refine r_istore_n dX7_isEnough_70 (by decide) rfl rfl ?_
            dsimp only [List.set]
            refine r_iinc dX7_isEnough_71 rfl (by first | exact nI_inc _ | rfl) (by decide) rfl rfl ?_
            dsimp only [List.set]
            refine r_goto (tgt := 35) dX7_isEnough_74 (by decide) ?_
            exact q
theorem enough_loop {G : WT} {l : Launch} (hG : GOK G) {h g1 : Hp} {b : Nat} {V : Hv} {T U : Tb} {s n : Nat} (hU : U = setBin T s) (hn : n ≤ 60) (hs : s ≤ 99) (C : RIc h b V T) (f1 : Fr kpF h g1) (k1 : Kept h g1) :
    ∀ (m k : Nat) (g : Hp) (x5 : Value), k + m = n → Fr goF g1 g → SC g b V (supN V (P0 V) U k) none false → Wp G l 10 RX7 cX7_isEnough 6 (some .boolean) 14 [.ref (gA G 134), .int (nI s), .int (nI n), .int (b01 (enoughTo V U k)), .int (nI k), x5] [] g (fun r h' => r = some (.int (b01 (enoughTo V U n))) ∧ RIc h' b V T ∧ Fr scrF h h') := by
  have U0 : U.1 7 0 = T.1 7 0 := by rw [hU]; rfl
  have U2 : U.1 7 2 = T.1 7 2 := by rw [hU]; rfl
  have hd := C.2.2
  intro m
  induction m with
  | zero =>
    intro k g x5 hk hF D
    obtain rfl : k = n := by omega
    refine r_iload dX7_isEnough_14 rfl ?_
    refine r_iload_n dX7_isEnough_16 rfl ?_
    refine r_icmp_ge (tgt := 87) dX7_isEnough_17 (by decide) (fun c_17 => ?_) (fun c_17 => ?_)
    · refine r_aload_n dX7_isEnough_87 rfl ?_
      refine r_callV dX7_isEnough_88 l_X7_347 o_X7_putBack v_X7_putBack rfl (by decide) rfl rfl (m_X7_putBack hG) (by decide) rfl (Nat.le_of_ble_eq_true rfl) (fun r88 h88 hq88 => ?_)
      obtain ⟨rfl, f3, b3⟩ := hq88
      refine r_iload_n dX7_isEnough_91 rfl ?_
      refine r_ireturn dX7_isEnough_92 ⟨_, rfl, (b01_nar _)⟩ ?_
      exact ⟨rfl, C.back f1 k1 hF f3 b3⟩
    · exact absurd (Int32.le_refl _) c_17
  | succ m ih =>
    intro k g x5 hk hF D
    have hday := supN_day (V := V) (P := P0 V) (T := U) k
    cases he : enoughTo V U k with
    | false =>
      have e2 := enoughTo_mono he (m + 1)
      rw [show k + (m + 1) = n by omega] at e2
      refine r_iload dX7_isEnough_14 rfl ?_
      refine r_iload_n dX7_isEnough_16 rfl ?_
      refine r_icmp_ge (tgt := 87) dX7_isEnough_17 (by decide) (fun c_17 => ?_) (fun c_17 => ?_)
      · exact absurd c_17 (nI_ge (by omega) (by omega))
      · refine r_iload_n dX7_isEnough_20 rfl ?_
        refine r_if_eq (tgt := 87) dX7_isEnough_21 (by decide) (fun c_21 => ?_) (fun c_21 => ?_)
        · refine r_aload_n dX7_isEnough_87 rfl ?_
          refine r_callV dX7_isEnough_88 l_X7_347 o_X7_putBack v_X7_putBack rfl (by decide) rfl rfl (m_X7_putBack hG) (by decide) rfl (Nat.le_of_ble_eq_true rfl) (fun r88 h88 hq88 => ?_)
          obtain ⟨rfl, f3, b3⟩ := hq88
          refine r_iload_n dX7_isEnough_91 rfl ?_
          refine r_ireturn dX7_isEnough_92 ⟨_, rfl, rfl⟩ ?_
          exact ⟨by rw [e2], C.back f1 k1 hF f3 b3⟩
        · exact absurd rfl c_21
    | true =>
      have P2 : RPc g ((supN V (P0 V) U k).1 7 0) none := by rw [supN_E, U0]; exact (C.2.1.fr f1 rfl rfl).fr hF rfl rfl
      have hE : (supN V (P0 V) U k).1 7 0 ≤ 5 := D.2.1.1
      refine r_iload dX7_isEnough_14 rfl ?_
      refine r_iload_n dX7_isEnough_16 rfl ?_
      refine r_icmp_ge (tgt := 87) dX7_isEnough_17 (by decide) (fun c_17 => ?_) (fun c_17 => ?_)
      · exact absurd c_17 (nI_ge (by omega) (by omega))
      · refine r_iload_n dX7_isEnough_20 rfl ?_
        refine r_if_eq (tgt := 87) dX7_isEnough_21 (by decide) (fun c_21 => ?_) (fun c_21 => ?_)
        · exact absurd c_21 (by decide)
        · refine r_aload_n dX7_isEnough_24 rfl ?_
          refine r_callV dX7_isEnough_25 l_X7_333 o_X7_layWishes v_X7_layWishes rfl (by decide) rfl rfl (m_X7_layWishes (pact := none) hG D) (by decide) rfl (Nat.le_of_ble_eq_true rfl) (fun r25 h25 hq25 => ?_)
          obtain ⟨rfl, F2, hW2⟩ := hq25
          have D2 := D.fr F2 wshF_dom
          refine r_aload_n dX7_isEnough_28 rfl ?_
          refine r_callV dX7_isEnough_29 l_X7_324 o_X7_laySupper v_X7_laySupper rfl (by decide) rfl rfl (m_X7_laySupper hG D2 hW2) (by decide) rfl (Nat.le_of_ble_eq_true rfl) (fun r29 h29 hq29 => ?_)
          obtain ⟨rfl, hF3, hE3, hB3, hH3⟩ := hq29
          have D3 := D2.fr hF3 supF_dom
          have hFF := (wshF_go F2).tr (supF_go hF3)
          refine r_iconst (v := 0) dX7_isEnough_32 (by decide) ?_
          refine r_istore dX7_isEnough_33 (by decide) rfl rfl ?_
          dsimp only [List.set]
          refine full_loop (V := V) D3.1 D3.2.1 hE3 (fun e he => by rw [hF3.1 _ _ rfl]; exact hW2 e he) (fun x5 => ?_) ((supN V (P0 V) U k).1 7 0) 0 (by omega)
          refine r_aload_n dX7_isEnough_77 rfl ?_
          refine r_callV dX7_isEnough_78 l_X7_336 o_X7_goSupper v_X7_goSupper rfl (by decide) rfl rfl (m_X7_goSupper (pact := none) hG D3 (P2.fr hFF rfl rfl) (by omega)) (by decide) rfl (Nat.le_of_ble_eq_true rfl) (fun r78 h78 hq78 => ?_)
          obtain ⟨rfl, hR4, hF4, -⟩ := hq78
          have hR4 : RTb h78 (supN V (P0 V) U (k + 1)) := hR4
          have D4 := D3.go hF4 hR4 (supN_ok (by rw [hU]; exact ⟨C.1.2.1.1, hs, C.1.2.1.2.2⟩) (k + 1) (by omega))
          refine r_iinc dX7_isEnough_81 rfl (by first | exact nI_inc _ | rfl) (by decide) rfl rfl ?_
          refine r_goto (tgt := 14) dX7_isEnough_84 (by decide) ?_
          have q := ih (k + 1) h78 x5 (by omega) (hF.tr (hFF.tr hF4)) D4
          rw [show enoughTo V U (k + 1) = (enoughTo V U k && fullS V (supN V (P0 V) U k)) from rfl, he, Bool.true_and] at q
          exact q
set_option maxRecDepth 100000 in
theorem m_X7_isEnough {G : WT} {l : Launch} (hG : GOK G) {h : Hp} {b s n : Nat} {V : Hv} {T : Tb} (hn : n ≤ 60) (hs : s ≤ 99) (C : RIc h b V T) : Cl G l 10 yX7_isEnough cX7_isEnough 6 (some .boolean) [.ref (gA G 134), .int (nI s), .int (nI n)] h (fun r h' => r = some (.int (b01 (enoughTo V (setBin T s) n))) ∧ RIc h' b V T ∧ Fr scrF h h') := by
  refine Cl.of hG (by decide) (Nat.le_of_ble_eq_true rfl) ?_
  show Wp G l 10 RX7 cX7_isEnough 6 (some .boolean) 0 [.ref (gA G 134), .int (nI s), .int (nI n), mk0, mk0, mk0] [] h _
  refine r_aload_n dX7_isEnough_0 rfl ?_
  refine r_callV dX7_isEnough_1 l_X7_341 o_X7_keep v_X7_keep rfl (by decide) rfl rfl (m_X7_keep hG) (by decide) rfl (Nat.le_of_ble_eq_true rfl) (fun r1 h1 hq1 => ?_)
  obtain ⟨rfl, f1, k1, -⟩ := hq1
  refine r_aload_n dX7_isEnough_4 rfl ?_
  refine r_iload_n dX7_isEnough_5 rfl ?_
  refine r_putI dX7_isEnough_6 k_X7_13 rfl (by decide) rfl rfl rfl rfl ?_
  refine r_iconst (v := 1) dX7_isEnough_9 (by decide) ?_
  refine r_istore_n dX7_isEnough_10 (by decide) rfl rfl ?_
  dsimp only [List.set]
  refine r_iconst (v := 0) dX7_isEnough_11 (by decide) ?_
  refine r_istore dX7_isEnough_12 (by decide) rfl rfl ?_
  dsimp only [List.set]
  have F2 : Fr goF h1 (setI h1 134 1 (nI s)) := Fr.set rfl
  have C1 := C.1.fr f1 kpF_dom
  have R2 : RTb (setI h1 134 1 (nI s)) (setBin T s) := by
    obtain ⟨r1, r2, r3, r4, r5⟩ := C1.1
    exact ⟨by rw [setI_nj (by decide)]; exact r1, setI_at, by rw [setI_nj (by decide)]; exact r3, by rw [setI_nj (by decide)]; exact r4, fun e he => r5 e he⟩
  exact enough_loop hG rfl hn hs C f1 k1 n 0 _ _ (by omega) F2 (C1.go F2 R2 ⟨C.1.2.1.1, hs, C.1.2.1.2.2⟩)
theorem thin_loop {G : WT} {l : Launch} (hG : GOK G) {h : Hp} {b n : Nat} {V : Hv} {T : Tb} (hn : n ≤ 8) (C : RIc h b V T) :
    ∀ (m s : Nat) (g : Hp), s + m = 100 → RIc g b V T → Fr scrF h g → (∀ j, j < s → enoughTo V (setBin T j) n = false) → Wp G l 11 RX7 cX7_thin 3 (some .int) 16 [.ref (gA G 134), .int (nI n), .int (nI s)] [] g (fun r h' => r = some (.int (if thinF V T n < 100 then nI (thinF V T n) else -5)) ∧ RIc h' b V T ∧ Fr scrF h h') := by
  intro m
  induction m with
  | zero =>
    intro s g hs D hF hno
    obtain rfl : s = 100 := by omega
    have e : thinF V T n = 100 := firstTo_none 100 hno
    refine r_iload_n dX7_thin_16 rfl ?_
    refine r_bipush (v := 100) dX7_thin_17 (by decide) ?_
    refine r_icmp_ge (tgt := 39) dX7_thin_19 (by decide) (fun c_19 => ?_) (fun c_19 => ?_)
    · refine r_bipush (v := -5) dX7_thin_39 (by decide) ?_
      refine r_ireturn dX7_thin_41 ⟨_, rfl, rfl⟩ ?_
      exact ⟨by rw [e, if_neg (by omega)], D, hF⟩
    · exact absurd (Int32.le_refl _) c_19
  | succ m ih =>
    intro s g hs D hF hno
    refine r_iload_n dX7_thin_16 rfl ?_
    refine r_bipush (v := 100) dX7_thin_17 (by decide) ?_
    refine r_icmp_ge (tgt := 39) dX7_thin_19 (by decide) (fun c_19 => ?_) (fun c_19 => ?_)
    · exact absurd c_19 (nI_ge (a := s) (b := 100) (by omega) (by omega))
    · refine r_aload_n dX7_thin_22 rfl ?_
      refine r_iload_n dX7_thin_23 rfl ?_
      refine r_iload_n dX7_thin_24 rfl ?_
      refine r_callV dX7_thin_25 l_X7_371 o_X7_isEnough v_X7_isEnough rfl (by decide) rfl rfl (m_X7_isEnough hG (show n ≤ 60 by omega) (show s ≤ 99 by omega) D) (by decide) rfl (Nat.le_of_ble_eq_true rfl) (fun r25 h25 hq25 => ?_)
      obtain ⟨rfl, D2, F2⟩ := hq25
      refine r_if_eq (tgt := 33) dX7_thin_28 (by decide) (fun c_28 => ?_) (fun c_28 => ?_)
      · refine r_iinc dX7_thin_33 rfl (by first | exact nI_inc _ | rfl) (by decide) rfl rfl ?_
        dsimp only [List.set]
        refine r_goto (tgt := 16) dX7_thin_36 (by decide) ?_
        refine ih (s + 1) _ (by omega) D2 (hF.tr F2) (fun j hj => ?_)
        by_cases hjs : j = s
        · rw [hjs]; exact b01_0.mp c_28
        · exact hno j (by omega)
      · refine r_iload_n dX7_thin_31 rfl ?_
        refine r_ireturn dX7_thin_32 ⟨_, rfl, rfl⟩ ?_
        have e : thinF V T n = s := firstTo_at (q := fun s => enoughTo V (setBin T s) n) hno (b01_n0.mp c_28) 100 (by omega)
        exact ⟨by rw [e, if_pos (by omega)], D2, hF.tr F2⟩
set_option maxRecDepth 100000 in
theorem m_X7_thin {G : WT} {l : Launch} (hG : GOK G) {h : Hp} {b : Nat} {V : Hv} {T : Tb} {n : Int32} (C : RIc h b V T) : Cl G l 11 yX7_thin cX7_thin 3 (some .int) [.ref (gA G 134), .int n] h (fun r h' => r = some (.int (thinA V T n)) ∧ RIc h' b V T ∧ Fr scrF h h') := by
  refine Cl.of hG (by decide) (Nat.le_of_ble_eq_true rfl) ?_
  show Wp G l 11 RX7 cX7_thin 3 (some .int) 0 [.ref (gA G 134), .int n, mk0] [] h _
  cases hn : dec n 9 with
  | none =>
    refine r_aload_n dX7_thin_0 rfl ?_
    refine r_iload_n dX7_thin_1 rfl ?_
    refine r_iconst (v := 0) dX7_thin_2 (by decide) ?_
    refine r_bipush (v := 8) dX7_thin_3 (by decide) ?_
    refine r_callV dX7_thin_5 l_X7_212 o_X7_in v_X7_in rfl (by decide) rfl rfl (m_X7_in hG) (by decide) rfl (Nat.le_of_ble_eq_true rfl) (fun r5 h5 hq5 => ?_)
    obtain ⟨rfl, e5⟩ := hq5
    rw [e5]
    clear e5 h5
    rw [show inP n 0 8 = (dec n 9).isSome from inP_dec0 (c := 8) (by omega) rfl, hn]
    refine r_if_ne (tgt := 14) dX7_thin_8 (by decide) (fun c_8 => ?_) (fun c_8 => ?_)
    · exact absurd rfl c_8
    · refine r_bipush (v := -2) dX7_thin_11 (by decide) ?_
      refine r_ireturn dX7_thin_13 ⟨_, rfl, rfl⟩ ?_
      exact ⟨by rw [thinA, hn], C, Fr.rf⟩
  | some k =>
    obtain ⟨hk, rfl, -⟩ := dec_some.mp hn
    refine r_aload_n dX7_thin_0 rfl ?_
    refine r_iload_n dX7_thin_1 rfl ?_
    refine r_iconst (v := 0) dX7_thin_2 (by decide) ?_
    refine r_bipush (v := 8) dX7_thin_3 (by decide) ?_
    refine r_callV dX7_thin_5 l_X7_212 o_X7_in v_X7_in rfl (by decide) rfl rfl (m_X7_in hG) (by decide) rfl (Nat.le_of_ble_eq_true rfl) (fun r5 h5 hq5 => ?_)
    obtain ⟨rfl, e5⟩ := hq5
    rw [e5]
    clear e5 h5
    rw [show inP (nI k) 0 8 = (dec (nI k) 9).isSome from inP_dec0 (c := 8) (by omega) rfl, hn]
    refine r_if_ne (tgt := 14) dX7_thin_8 (by decide) (fun c_8 => ?_) (fun c_8 => ?_)
    · refine r_iconst (v := 0) dX7_thin_14 (by decide) ?_
      refine r_istore_n dX7_thin_15 (by decide) rfl rfl ?_
      dsimp only [List.set]
      refine Wp.mono (thin_loop hG (show k ≤ 8 by omega) C 100 0 h (by omega) C Fr.rf (fun j hj => absurd hj (by omega))) (fun r h' q => ⟨by rw [thinA, hn]; exact q.1, q.2⟩)
    · exact absurd c_8 (b01_n0.mpr rfl)
