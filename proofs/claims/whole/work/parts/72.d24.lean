/-! guest, thin -/
theorem addE_ok {T : Tb} {w : Nat} (hT : TbOK T) (hE : T.1 7 0 < 5) (hw : w ≤ 9) : TbOK (addEater T 0 0 w) := addEater_ok hT (by omega) (by omega) (by omega) (by omega)
theorem addE_E {T : Tb} {k v w : Nat} : (addEater T k v w).1 7 0 = T.1 7 0 + 1 := rfl
theorem addE_d {T : Tb} {k v w : Nat} : (addEater T k v w).1 7 2 = T.1 7 2 := rfl
set_option maxRecDepth 100000 in
theorem m_X6_guest {G : WT} {l : Launch} (hG : GOK G) {h : Hp} {n q : Nat} {V : Hv} {T : Tb} {x : Int32} (C : DIc h n q V T) : Cl G l 6 yX6_guest cX6_guest 2 (some .int) [.ref (gA G 0), .int x] h (fun r h' => r = some (.int (guestA V T x)) ∧ DIc h' n q V T ∧ Fx asF h h') := by
  refine Cl.of hG (by decide) (Nat.le_of_ble_eq_true rfl) ?_
  show Wp G l 6 RX6 cX6_guest 2 (some .int) 0 [.ref (gA G 0), .int x] [] h _
  have hE5 := C.2.1.1
  cases hx : dec x 10 with
  | none =>
    refine r_iload_n dX6_guest_0 rfl ?_
    refine r_bipush (v := 9) dX6_guest_1 (by decide) ?_
    rw [show (9 : Int32) = nI 9 from rfl]
    refine r_callS dX6_guest_3 l_X6_78 o_X6_within s_X6_within rfl (m_X6_within hG (x := x) (m := 9) (by omega)) (by decide) rfl (Nat.le_of_ble_eq_true rfl) (fun r3 h3 hq3 => ?_)
    obtain ⟨rfl, rfl⟩ := hq3
    rw [hx]
    refine r_if_ne (tgt := 12) dX6_guest_6 (by decide) (fun c_6 => ?_) (fun c_6 => ?_)
    · exact absurd none_f c_6
    · refine r_bipush (v := -2) dX6_guest_9 (by decide) ?_
      refine r_ireturn dX6_guest_11 ⟨_, rfl, rfl⟩ ?_
      exact ⟨by rw [guestA, hx], C, Fx.rf⟩
  | some k =>
    obtain ⟨k1, rfl, -⟩ := dec_some.mp hx
    by_cases h0 : T.1 7 0 = 5
    · refine r_iload_n dX6_guest_0 rfl ?_
      refine r_bipush (v := 9) dX6_guest_1 (by decide) ?_
      rw [show (9 : Int32) = nI 9 from rfl]
      refine r_callS dX6_guest_3 l_X6_78 o_X6_within s_X6_within rfl (m_X6_within hG (x := nI k) (m := 9) (by omega)) (by decide) rfl (Nat.le_of_ble_eq_true rfl) (fun r3 h3 hq3 => ?_)
      obtain ⟨rfl, rfl⟩ := hq3
      rw [hx]
      refine r_if_ne (tgt := 12) dX6_guest_6 (by decide) (fun c_6 => ?_) (fun c_6 => ?_)
      · refine r_aload_n dX6_guest_12 rfl ?_
        refine r_getR (j := 1) dX6_guest_13 k_X6_12 rfl (by decide) rfl rfl ?_
        refine r_getI dX6_guest_16 k_X6_82 rfl (by decide) rfl ?_
        refine r_iconst (v := 5) dX6_guest_19 (by decide) ?_
        rw [C.1.1.1]
        refine r_icmp_lt (tgt := 26) dX6_guest_20 (by decide) (fun c_20 => ?_) (fun c_20 => ?_)
        · exact absurd ((nI_lt' (b := 5) (by omega) (by omega)).mp c_20) (by omega)
        · refine r_bipush (v := -3) dX6_guest_23 (by decide) ?_
          refine r_ireturn dX6_guest_25 ⟨_, rfl, rfl⟩ ?_
          exact ⟨by rw [guestA, hx]; dsimp only; rw [if_pos h0], C, Fx.rf⟩
      · exact absurd c_6 some_t
    · have ok2 := addE_ok (w := k) C.2.1 (by omega) (by omega)
      have hd9 := C.2.2.1
      have hbk : bkS V (P0 V) (addEater T 0 0 k) (wishP V (P0 V) (addEater T 0 0 k)) < T.1 7 0 + 1 := bakeS_lt (by show 0 < T.1 7 0 + 1; omega)
      refine r_iload_n dX6_guest_0 rfl ?_
      refine r_bipush (v := 9) dX6_guest_1 (by decide) ?_
      rw [show (9 : Int32) = nI 9 from rfl]
      refine r_callS dX6_guest_3 l_X6_78 o_X6_within s_X6_within rfl (m_X6_within hG (x := nI k) (m := 9) (by omega)) (by decide) rfl (Nat.le_of_ble_eq_true rfl) (fun r3 h3 hq3 => ?_)
      obtain ⟨rfl, rfl⟩ := hq3
      rw [hx]
      refine r_if_ne (tgt := 12) dX6_guest_6 (by decide) (fun c_6 => ?_) (fun c_6 => ?_)
      · refine r_aload_n dX6_guest_12 rfl ?_
        refine r_getR (j := 1) dX6_guest_13 k_X6_12 rfl (by decide) rfl rfl ?_
        refine r_getI dX6_guest_16 k_X6_82 rfl (by decide) rfl ?_
        refine r_iconst (v := 5) dX6_guest_19 (by decide) ?_
        rw [C.1.1.1]
        refine r_icmp_lt (tgt := 26) dX6_guest_20 (by decide) (fun c_20 => ?_) (fun c_20 => ?_)
        · refine r_aload_n dX6_guest_26 rfl ?_
          refine r_getR (j := 17) dX6_guest_27 k_X6_21 rfl (by decide) rfl rfl ?_
          refine r_aload_n dX6_guest_30 rfl ?_
          refine r_getR (j := 1) dX6_guest_31 k_X6_12 rfl (by decide) rfl rfl ?_
          refine r_callV dX6_guest_34 l_X6_174 o_X4_becomes v_X4_becomes rfl (by decide) rfl rfl (m_X4_becomes hG (t := 17) (o := 1) rfl rfl (by decide)) (by decide) rfl (Nat.le_of_ble_eq_true rfl) (fun r34 h34 hq34 => ?_)
          obtain ⟨rfl, S8, F8⟩ := hq34
          obtain ⟨C8, D8⟩ := C.be S8 F8
          refine r_aload_n dX6_guest_37 rfl ?_
          refine r_getR (j := 17) dX6_guest_38 k_X6_21 rfl (by decide) rfl rfl ?_
          refine r_iconst (v := 0) dX6_guest_41 (by decide) ?_
          refine r_iconst (v := 0) dX6_guest_42 (by decide) ?_
          refine r_iload_n dX6_guest_43 rfl ?_
          rw [show (0 : Int32) = nI 0 from rfl]
          refine r_callV dX6_guest_44 l_X6_85 o_X4_seat v_X4_seat rfl (by decide) rfl rfl (m_X4_seat hG (t := 17) (k := 0) (v := 0) (w := k) rfl D8 (by omega)) (by decide) rfl (Nat.le_of_ble_eq_true rfl) (fun r44 h44 hq44 => ?_)
          obtain ⟨rfl, D9, F9⟩ := hq44
          have C9 : DIc h44 n q V T := C8.fx (tb_as F9) (C8.2.2.2.2.2.1.eq (fun f hf => F9.1 _ _ (by rcases hf with rfl | rfl <;> rfl))) (C8.2.2.2.2.2.2.1.eq (fun f hf => F9.1 _ _ (by rcases hf with rfl | rfl <;> rfl))) (fun e he => by rw [F9.1 _ _ rfl]; exact C8.2.2.2.2.2.2.2 e he)
          refine r_pop dX6_guest_47 rfl ?_
          refine r_aload_n dX6_guest_48 rfl ?_
          refine r_getR (j := 37) dX6_guest_49 k_X6_38 rfl (by decide) rfl rfl ?_
          refine r_aload_n dX6_guest_52 rfl ?_
          refine r_getR (j := 17) dX6_guest_53 k_X6_21 rfl (by decide) rfl rfl ?_
          refine r_aload_n dX6_guest_56 rfl ?_
          refine r_callV dX6_guest_57 l_X6_113 o_X6_holding v_X6_holding rfl (by decide) rfl rfl (m_X6_holding hG C9.hd) (by decide) rfl (Nat.le_of_ble_eq_true rfl) (fun r57 h57 hq57 => ?_)
          obtain ⟨rfl, e57⟩ := hq57
          rw [e57]
          clear e57 h57
          rw [← C.2.2.2.1.2.2.2]
          refine r_callV dX6_guest_60 l_X6_163 o_X3_hold v_X3_hold rfl (by decide) rfl rfl (m_X3_hold hG (t := 17) (q := q) (pact := none) rfl (Or.inr rfl) C9.ks D9 ok2 C9.2.2.2.2.1 C9.2.2.2.2.2.1 C9.2.2.2.2.2.2.2 C9.2.2.2.2.2.2.1 (by rw [addE_d]; omega)) (by decide) rfl (Nat.le_of_ble_eq_true rfl) (fun r60 h60 hq60 => ?_)
          obtain ⟨rfl, HH⟩ := hq60
          have HH : HoldP h44 h60 17 q V (P0 V) (addEater T 0 0 k) := HH
          have eb := HH.2.1.1.2.2.2.1
          rw [supS_bk (by show 0 < T.1 7 0 + 1; omega), bkA, if_neg (by omega), Nat.add_sub_cancel] at eb
          refine r_aload_n dX6_guest_63 rfl ?_
          refine r_getR (j := 17) dX6_guest_64 k_X6_21 rfl (by decide) rfl rfl ?_
          refine r_getI dX6_guest_67 k_X6_160 rfl (by decide) rfl ?_
          rw [eb]
          refine r_ireturn dX6_guest_70 ⟨_, rfl, rfl⟩ ?_
          exact ⟨by rw [guestA, hx]; dsimp only; rw [if_neg h0]; rfl, C9.ho HH, ((tb_as F8).tr (tb_as F9)).tr (ho_as HH.1)⟩
        · exact absurd (nI_lt (b := 5) (by omega) (by omega)) c_20
      · exact absurd c_6 some_t
/-- the supper's table is now's, then's or its own empty one -/
def EvT (h : Hp) : Prop := (h.2.2 37 8 = 1 ∨ h.2.2 37 8 = 17 ∨ h.2.2 37 8 = 25) ∧ h.1 25 7 = 0
theorem EvT.fx {h h' : Hp} (H : EvT h) (hF : Fx asF h h') : EvT h' := by
  refine ⟨?_, by rw [hF.1 _ _ rfl]; exact H.2⟩
  rcases hF.2.2 with y | y | y
  · rw [y]; exact H.1
  · exact Or.inl y
  · exact Or.inr (Or.inl y)
theorem full_le {V : Hv} {T : Tb} : ∀ n, fullTo V T n = true → ∀ i, i < n → ateS (T.1 7 1) (wishS V (P0 V) T) i = wishS V (P0 V) T i := by
  intro n
  induction n with
  | zero => intro _ i hi; omega
  | succ n ih =>
    intro h i hi
    obtain ⟨h1, h2⟩ := Bool.and_eq_true_iff.mp (show (fullTo V T n && decide (ateS (T.1 7 1) (wishS V (P0 V) T) n = wishS V (P0 V) T n)) = true from h)
    by_cases z : i = n
    · rw [z]; exact of_decide_eq_true h2
    · exact ih h1 i (by omega)
theorem sh_lp {G : WT} {l : Launch} {h : Hp} {t E : Nat} {V : Hv} {T : Tb} (ht : ksh t = 4) (r1 : h.2.2 37 8 = t) (e1 : h.1 t 7 = nI E) (hE5 : E ≤ 5) (hT : TbOK T) (hw : ∀ e, e < E → h.1 40 e = nI (ateS (T.1 7 1) (wishS V (P0 V) T) e) ∧ h.1 38 e = nI (wishS V (P0 V) T e)) : ∀ (m j : Nat), j + m = E → Wp G l 1 RX3 cX3_someoneWentShort 3 (some .boolean) 4 [.ref (gA G 37), .int (b01 (!fullTo V T j)), .int (nI j)] [] h (fun r h' => r = some (.int (b01 (!fullTo V T E))) ∧ h' = h) := by
  intro m
  induction m with
  | zero =>
    intro j hj
    refine r_iload_n dX3_someoneWentShort_4 rfl ?_
    refine r_aload_n dX3_someoneWentShort_5 rfl ?_
    refine r_getR (j := t) dX3_someoneWentShort_6 k_X3_39 rfl (by decide) rfl r1 ?_
    refine r_getI dX3_someoneWentShort_9 k_X3_86 (by assumption) (by decide) rfl ?_
    rw [e1]
    refine r_icmp_ge (tgt := 46) dX3_someoneWentShort_12 (by decide) (fun c_12 => ?_) (fun c_12 => ?_)
    · refine r_iload_n dX3_someoneWentShort_46 rfl ?_
      refine r_ireturn dX3_someoneWentShort_47 ⟨_, rfl, (b01_nar _)⟩ ?_
      exact ⟨by rw [show j = E by omega], rfl⟩
    · exact absurd (nI_le (by omega) (by omega)) c_12
  | succ m ih =>
    intro j hj
    obtain ⟨w1, w2⟩ := hw j (by omega)
    have wl := wishS_le (V := V) (P := P0 V) hT j
    have al := ateS_le (T.1 7 1) (wishS V (P0 V) T) j
    have k9 := ih (j + 1) (by omega)
    have cs : fullTo V T (j + 1) = (fullTo V T j && decide (ateS (T.1 7 1) (wishS V (P0 V) T) j = wishS V (P0 V) T j)) := rfl
    rw [cs] at k9
    cases hf : fullTo V T j with
    | false =>
      rw [hf, Bool.false_and] at k9
      refine r_iload_n dX3_someoneWentShort_4 rfl ?_
      refine r_aload_n dX3_someoneWentShort_5 rfl ?_
      refine r_getR (j := t) dX3_someoneWentShort_6 k_X3_39 rfl (by decide) rfl r1 ?_
      refine r_getI dX3_someoneWentShort_9 k_X3_86 (by assumption) (by decide) rfl ?_
      rw [e1]
      refine r_icmp_ge (tgt := 46) dX3_someoneWentShort_12 (by decide) (fun c_12 => ?_) (fun c_12 => ?_)
      · exact absurd c_12 (nI_ge (by omega) (by omega))
      · refine r_iload_n dX3_someoneWentShort_15 rfl ?_
        refine r_if_ne (tgt := 34) dX3_someoneWentShort_16 (by decide) (fun c_16 => ?_) (fun c_16 => ?_)
        · refine r_iconst (v := 1) dX3_someoneWentShort_34 (by decide) ?_
          refine r_goto (tgt := 39) dX3_someoneWentShort_35 (by decide) ?_
          refine r_istore_n dX3_someoneWentShort_39 (by decide) rfl rfl ?_
          dsimp only [List.set]
          refine r_iinc dX3_someoneWentShort_40 rfl (by first | exact nI_inc _ | rfl) (by decide) rfl rfl ?_
          dsimp only [List.set]
          refine r_goto (tgt := 4) dX3_someoneWentShort_43 (by decide) ?_
          exact k9
        · exact absurd c_16 (by decide)
    | true =>
      rw [hf, Bool.true_and] at k9
      refine r_iload_n dX3_someoneWentShort_4 rfl ?_
      refine r_aload_n dX3_someoneWentShort_5 rfl ?_
      refine r_getR (j := t) dX3_someoneWentShort_6 k_X3_39 rfl (by decide) rfl r1 ?_
      refine r_getI dX3_someoneWentShort_9 k_X3_86 (by assumption) (by decide) rfl ?_
      rw [e1]
      refine r_icmp_ge (tgt := 46) dX3_someoneWentShort_12 (by decide) (fun c_12 => ?_) (fun c_12 => ?_)
      · exact absurd c_12 (nI_ge (by omega) (by omega))
      · refine r_iload_n dX3_someoneWentShort_15 rfl ?_
        refine r_if_ne (tgt := 34) dX3_someoneWentShort_16 (by decide) (fun c_16 => ?_) (fun c_16 => ?_)
        · exact absurd rfl c_16
        · refine r_aload_n dX3_someoneWentShort_19 rfl ?_
          refine r_getR (j := 40) dX3_someoneWentShort_20 k_X3_18 rfl (by decide) rfl rfl ?_
          refine r_iload_n dX3_someoneWentShort_23 rfl ?_
          refine r_iald (j) dX3_someoneWentShort_24 rfl rfl (show j < 5 by omega) ?_
          rw [w1]
          refine r_aload_n dX3_someoneWentShort_25 rfl ?_
          refine r_getR (j := 38) dX3_someoneWentShort_26 k_X3_9 rfl (by decide) rfl rfl ?_
          refine r_iload_n dX3_someoneWentShort_29 rfl ?_
          refine r_iald (j) dX3_someoneWentShort_30 rfl rfl (show j < 5 by omega) ?_
          rw [w2]
          refine r_icmp_ge (tgt := 38) dX3_someoneWentShort_31 (by decide) (fun c_31 => ?_) (fun c_31 => ?_)
          · refine r_iconst (v := 0) dX3_someoneWentShort_38 (by decide) ?_
            refine r_istore_n dX3_someoneWentShort_39 (by decide) rfl rfl ?_
            dsimp only [List.set]
            refine r_iinc dX3_someoneWentShort_40 rfl (by first | exact nI_inc _ | rfl) (by decide) rfl rfl ?_
            dsimp only [List.set]
            refine r_goto (tgt := 4) dX3_someoneWentShort_43 (by decide) ?_
            rw [decide_eq_true (show ateS (T.1 7 1) (wishS V (P0 V) T) j = wishS V (P0 V) T j by have := (nI_le' (by omega) (by omega)).mp c_31; omega)] at k9
            exact k9
          · refine r_iconst (v := 1) dX3_someoneWentShort_34 (by decide) ?_
            refine r_goto (tgt := 39) dX3_someoneWentShort_35 (by decide) ?_
            refine r_istore_n dX3_someoneWentShort_39 (by decide) rfl rfl ?_
            dsimp only [List.set]
            refine r_iinc dX3_someoneWentShort_40 rfl (by first | exact nI_inc _ | rfl) (by decide) rfl rfl ?_
            dsimp only [List.set]
            refine r_goto (tgt := 4) dX3_someoneWentShort_43 (by decide) ?_
            rw [decide_eq_false (show ¬ ateS (T.1 7 1) (wishS V (P0 V) T) j = wishS V (P0 V) T j from fun y => c_31 (by rw [y]; exact Int32.le_refl _))] at k9
            exact k9
set_option maxRecDepth 100000 in
theorem m_X3_someoneWentShort {G : WT} {l : Launch} (hG : GOK G) {h : Hp} {t E : Nat} {V : Hv} {T : Tb} (ht : ksh t = 4) (r1 : h.2.2 37 8 = t) (e1 : h.1 t 7 = nI E) (hE5 : E ≤ 5) (hT : TbOK T) (hw : ∀ e, e < E → h.1 40 e = nI (ateS (T.1 7 1) (wishS V (P0 V) T) e) ∧ h.1 38 e = nI (wishS V (P0 V) T e)) : Cl G l 1 yX3_someoneWentShort cX3_someoneWentShort 3 (some .boolean) [.ref (gA G 37)] h (fun r h' => r = some (.int (b01 (!fullTo V T E))) ∧ h' = h) := by
  refine Cl.of hG (by decide) (Nat.le_of_ble_eq_true rfl) ?_
  show Wp G l 1 RX3 cX3_someoneWentShort 3 (some .boolean) 0 [.ref (gA G 37), mk0, mk0] [] h _
  refine r_iconst (v := 0) dX3_someoneWentShort_0 (by decide) ?_
  refine r_istore_n dX3_someoneWentShort_1 (by decide) rfl rfl ?_
  dsimp only [List.set]
  refine r_iconst (v := 0) dX3_someoneWentShort_2 (by decide) ?_
  refine r_istore_n dX3_someoneWentShort_3 (by decide) rfl rfl ?_
  dsimp only [List.set]
  exact sh_lp (V := V) ht r1 e1 hE5 hT hw E 0 (by omega)
theorem setB_ok {T : Tb} {s : Nat} (hT : TbOK T) (hs : s ≤ 99) : TbOK (setBin T s) := by
  obtain ⟨t1, t2, t3, t4, t5, t6, t7, t8, t9⟩ := hT
  exact ⟨t1, hs, t3, t4, t5, t6, t7, t8, t9⟩
theorem DTb.bin {h : Hp} {t s : Nat} {T : Tb} (H : DTb h t T) : DTb (setI h t 8 (nI s)) t (setBin T s) := by
  obtain ⟨⟨a1, a2, a3, a4, a5, a6⟩, b, c⟩ := H
  refine ⟨⟨by rw [setI_nj (by decide)]; exact a1, by rw [setI_at]; rfl, by rw [setI_nj (by decide)]; exact a3, by rw [setI_nj (by decide)]; exact a4, by rw [setI_nj (by decide)]; exact a5, by rw [setI_nj (by decide)]; exact a6⟩, fun e he => ⟨fun y => ?_, fun y => ?_⟩, fun k hk h12 => ?_⟩
  · obtain ⟨b1, b2, b3, b4, b5, b6⟩ := (b e he).1 y
    rw [setI_ne (by omega), setI_ne (by omega), setI_ne (by omega), setI_ne (by omega), setI_ne (by omega)]
    exact ⟨b1, b2, b3, b4, b5, fun p hp => by rw [setI_ne (by omega)]; exact b6 p hp⟩
  · obtain ⟨b1, b2, b3⟩ := (b e he).2 y
    rw [setI_ne (by omega), setI_ne (by omega)]
    exact ⟨b1, b2, fun p hp => by rw [setI_ne (by omega)]; exact b3 p hp⟩
  · rw [setI_ne (by omega)]; exact c k hk h12
theorem enough_false {V : Hv} {T : Tb} {j : Nat} (h : enoughTo V T j = false) : ∀ n, j ≤ n → enoughTo V T n = false := by
  intro n hn
  induction n with
  | zero => rw [show j = 0 by omega] at h; exact h
  | succ n ih =>
    by_cases e9 : j = n + 1
    · rw [← e9]; exact h
    · show (enoughTo V T n && _) = false
      rw [ih (by omega), Bool.false_and]
theorem ls_lp {G : WT} {l : Launch} (hG : GOK G) {n q N s : Nat} {V : Hv} {T : Tb} {h0 : Hp} (hN : N ≤ 8) (hs : s ≤ 99) : ∀ (m j : Nat) (g : Hp), j + m = N → enoughTo V (setBin T s) j = true → DIc g n q V T → EvT g → Fx asF h0 g → DTb g 17 (supN V (P0 V) (setBin T s) j) → Wp G l 6 RX6 cX6_lasts 4 (some .boolean) 21 [.ref (gA G 0), .int (nI s), .int (nI N), .int (nI j)] [] g (fun r h' => r = some (.int (b01 (enoughTo V (setBin T s) N))) ∧ DIc h' n q V T ∧ Fx asF h0 h') := by
  intro m
  induction m with
  | zero =>
    intro j g hj he C hv hF D
    refine r_iload_n dX6_lasts_21 rfl ?_
    refine r_iload_n dX6_lasts_22 rfl ?_
    refine r_icmp_ge (tgt := 59) dX6_lasts_23 (by decide) (fun c_23 => ?_) (fun c_23 => ?_)
    · refine r_iconst (v := 1) dX6_lasts_59 (by decide) ?_
      refine r_ireturn dX6_lasts_60 ⟨_, rfl, rfl⟩ ?_
      exact ⟨by rw [show N = j by omega, he]; rfl, C, hF⟩
    · exact absurd (nI_le (by omega) (by omega)) c_23
  | succ m ih =>
    intro j g hj he C hv hF D
    have hd9 := C.2.2.1
    have hE5 := C.2.1.1
    have okb := setB_ok C.2.1 hs
    have eE : (supN V (P0 V) (setBin T s) j).1 7 0 = T.1 7 0 := supN_E (V := V) (P := P0 V) (T := setBin T s) j
    have dy := supN_day (V := V) (P := P0 V) (T := setBin T s) j
    have dy2 : (setBin T s).1 7 2 = T.1 7 2 := rfl
    have okj := supN_ok (V := V) (P := P0 V) okb j (by omega)
    have cs : enoughTo V (setBin T s) (j + 1) = fullS V (supN V (P0 V) (setBin T s) j) := by
      show (enoughTo V (setBin T s) j && _) = _
      rw [he, Bool.true_and]
    have sh : ∀ (g2 : Hp), HoldP g g2 17 q V (P0 V) (supN V (P0 V) (setBin T s) j) → EvT g2 → Cl G l 1 yX3_someoneWentShort cX3_someoneWentShort 3 (some .boolean) [.ref (gA G 37)] g2 (fun r h' => r = some (.int (b01 (!fullS V (supN V (P0 V) (setBin T s) j)))) ∧ h' = g2) := by
      intro g2 HH hv2
      by_cases h0 : T.1 7 0 = 0
      · have ef : fullS V (supN V (P0 V) (setBin T s) j) = true := by
          unfold fullS
          rw [eE, h0]
          rfl
        have e17 : g2.1 17 7 = nI 0 := by rw [HH.2.1.1.1, supS_E, eE, h0]
        have e1 : g2.1 1 7 = nI 0 := by rw [HH.1.1 _ _ rfl, C.1.1.1, h0]
        obtain ⟨t, ht⟩ : ∃ t, t = g2.2.2 37 8 := ⟨_, rfl⟩
        have kt : ksh t = 4 ∧ g2.1 t 7 = nI 0 := by
          rcases hv2.1 with y | y | y
          · rw [ht, y]; exact ⟨rfl, e1⟩
          · rw [ht, y]; exact ⟨rfl, e17⟩
          · rw [ht, y]; exact ⟨rfl, hv2.2⟩
        rw [ef]
        exact m_X3_someoneWentShort hG (T := T) (V := V) kt.1 ht.symm kt.2 (by omega) C.2.1 (fun e y => absurd y (by omega))
      · have H9 := HH.2.2.2 (by omega)
        have e17 : g2.1 17 7 = nI ((supN V (P0 V) (setBin T s) j).1 7 0) := by rw [HH.2.1.1.1, supS_E]
        exact m_X3_someoneWentShort hG (t := 17) (V := V) (T := supN V (P0 V) (setBin T s) j) rfl H9.1 e17 (by omega) okj (fun e y => ⟨(H9.2.2.2 e y).1, (H9.2.2.2 e y).2.2⟩)
    refine r_iload_n dX6_lasts_21 rfl ?_
    refine r_iload_n dX6_lasts_22 rfl ?_
    refine r_icmp_ge (tgt := 59) dX6_lasts_23 (by decide) (fun c_23 => ?_) (fun c_23 => ?_)
    · exact absurd c_23 (nI_ge (by omega) (by omega))
    · refine r_aload_n dX6_lasts_26 rfl ?_
      refine r_getR (j := 37) dX6_lasts_27 k_X6_38 rfl (by decide) rfl rfl ?_
      refine r_aload_n dX6_lasts_30 rfl ?_
      refine r_getR (j := 17) dX6_lasts_31 k_X6_21 rfl (by decide) rfl rfl ?_
      refine r_aload_n dX6_lasts_34 rfl ?_
      refine r_callV dX6_lasts_35 l_X6_113 o_X6_holding v_X6_holding rfl (by decide) rfl rfl (m_X6_holding hG C.hd) (by decide) rfl (Nat.le_of_ble_eq_true rfl) (fun r35 h35 hq35 => ?_)
      obtain ⟨rfl, e35⟩ := hq35
      rw [e35]
      clear e35 h35
      rw [← C.2.2.2.1.2.2.2]
      refine r_callV dX6_lasts_38 l_X6_163 o_X3_hold v_X3_hold rfl (by decide) rfl rfl (m_X3_hold hG (t := 17) (q := q) (pact := none) rfl (Or.inr rfl) C.ks D okj C.2.2.2.2.1 C.2.2.2.2.2.1 C.2.2.2.2.2.2.2 (by rw [eE]; exact C.2.2.2.2.2.2.1) (by omega)) (by decide) rfl (Nat.le_of_ble_eq_true rfl) (fun r38 h38 hq38 => ?_)
      obtain ⟨rfl, HH⟩ := hq38
      have HH : HoldP g h38 17 q V (P0 V) (supN V (P0 V) (setBin T s) j) := HH
      have hv2 := hv.fx (ho_as HH.1)
      have C2 := C.ho HH
      refine r_aload_n dX6_lasts_41 rfl ?_
      refine r_getR (j := 37) dX6_lasts_42 k_X6_38 rfl (by decide) rfl rfl ?_
      refine r_callV dX6_lasts_45 l_X6_228 o_X3_someoneWentShort v_X3_someoneWentShort rfl (by decide) rfl rfl (sh h38 HH hv2) (by decide) rfl (Nat.le_of_ble_eq_true rfl) (fun r45 h45 hq45 => ?_)
      obtain ⟨rfl, e45⟩ := hq45
      rw [e45]
      clear e45 h45
      refine r_if_eq (tgt := 53) dX6_lasts_48 (by decide) (fun c_48 => ?_) (fun c_48 => ?_)
      · have ef : fullS V (supN V (P0 V) (setBin T s) j) = true := by
          have := b01_0.mp c_48
          cases hz : fullS V (supN V (P0 V) (setBin T s) j) with
          | true => rfl
          | false => rw [hz] at this; cases this
        refine r_iinc dX6_lasts_53 rfl (by first | exact nI_inc _ | rfl) (by decide) rfl rfl ?_
        dsimp only [List.set]
        refine r_goto (tgt := 21) dX6_lasts_56 (by decide) ?_
        exact ih (j + 1) h38 (by omega) (by rw [cs, ef]) C2 hv2 (hF.tr (ho_as HH.1)) HH.2.1
      · have ef : fullS V (supN V (P0 V) (setBin T s) j) = false := by
          have := b01_n0.mp c_48
          cases hz : fullS V (supN V (P0 V) (setBin T s) j) with
          | false => rfl
          | true => rw [hz] at this; cases this
        refine r_iconst (v := 0) dX6_lasts_51 (by decide) ?_
        refine r_ireturn dX6_lasts_52 ⟨_, rfl, rfl⟩ ?_
        have e9 : enoughTo V (setBin T s) N = false := enough_false (by rw [cs, ef]) N (by omega)
        exact ⟨by rw [e9]; rfl, C2, hF.tr (ho_as HH.1)⟩
set_option maxRecDepth 100000 in
theorem m_X6_lasts {G : WT} {l : Launch} (hG : GOK G) {h : Hp} {n q N s : Nat} {V : Hv} {T : Tb} (C : DIc h n q V T) (hv : EvT h) (hN : N ≤ 8) (hs : s ≤ 99) : Cl G l 6 yX6_lasts cX6_lasts 4 (some .boolean) [.ref (gA G 0), .int (nI s), .int (nI N)] h (fun r h' => r = some (.int (b01 (enoughTo V (setBin T s) N))) ∧ DIc h' n q V T ∧ Fx asF h h') := by
  refine Cl.of hG (by decide) (Nat.le_of_ble_eq_true rfl) ?_
  show Wp G l 6 RX6 cX6_lasts 4 (some .boolean) 0 [.ref (gA G 0), .int (nI s), .int (nI N), mk0] [] h _
  refine r_aload_n dX6_lasts_0 rfl ?_
  refine r_getR (j := 17) dX6_lasts_1 k_X6_21 rfl (by decide) rfl rfl ?_
  refine r_aload_n dX6_lasts_4 rfl ?_
  refine r_getR (j := 1) dX6_lasts_5 k_X6_12 rfl (by decide) rfl rfl ?_
  refine r_callV dX6_lasts_8 l_X6_174 o_X4_becomes v_X4_becomes rfl (by decide) rfl rfl (m_X4_becomes hG (t := 17) (o := 1) rfl rfl (by decide)) (by decide) rfl (Nat.le_of_ble_eq_true rfl) (fun r8 h8 hq8 => ?_)
  obtain ⟨rfl, S8, F8⟩ := hq8
  obtain ⟨C8, D8⟩ := C.be S8 F8
  have F9 : Fr (tbF 17) h8 (setI h8 17 8 (nI s)) := Fr.set rfl
  have C9 : DIc (setI h8 17 8 (nI s)) n q V T := C8.fx (tb_as F9) (C8.2.2.2.2.2.1.eq (fun f hf => F9.1 _ _ (by rcases hf with rfl | rfl <;> rfl))) (C8.2.2.2.2.2.2.1.eq (fun f hf => F9.1 _ _ (by rcases hf with rfl | rfl <;> rfl))) (fun e he => by rw [F9.1 _ _ rfl]; exact C8.2.2.2.2.2.2.2 e he)
  refine r_aload_n dX6_lasts_11 rfl ?_
  refine r_getR (j := 17) dX6_lasts_12 k_X6_21 rfl (by decide) rfl rfl ?_
  refine r_iload_n dX6_lasts_15 rfl ?_
  refine r_putI dX6_lasts_16 k_X6_131 rfl (by decide) rfl rfl rfl rfl ?_
  refine r_iconst (v := 0) dX6_lasts_19 (by decide) ?_
  refine r_istore_n dX6_lasts_20 (by decide) rfl rfl ?_
  dsimp only [List.set]
  exact ls_lp hG hN hs N 0 _ (by omega) rfl C9 (hv.fx ((tb_as F8).tr (tb_as F9))) ((tb_as F8).tr (tb_as F9)) D8.bin
theorem tn_lp {G : WT} {l : Launch} (hG : GOK G) {n q N : Nat} {V : Hv} {T : Tb} {h0 : Hp} (hN : N ≤ 8) : ∀ (m s : Nat) (g : Hp), s + m = 100 → (∀ i, i < s → enoughTo V (setBin T i) N = false) → DIc g n q V T → EvT g → Fx asF h0 g → Wp G l 7 RX6 cX6_thin 3 (some .int) 14 [.ref (gA G 0), .int (nI N), .int (nI s)] [] g (fun r h' => r = some (.int (if thinF V T N < 100 then nI (thinF V T N) else -5)) ∧ DIc h' n q V T ∧ Fx asF h0 h') := by
  intro m
  induction m with
  | zero =>
    intro s g hs hn C hv hF
    have e9 : thinF V T N = 100 := firstTo_none 100 (fun i hi => hn i (by omega))
    refine r_iload_n dX6_thin_14 rfl ?_
    refine r_bipush (v := 99) dX6_thin_15 (by decide) ?_
    refine r_icmp_gt (tgt := 37) dX6_thin_17 (by decide) (fun c_17 => ?_) (fun c_17 => ?_)
    · refine r_bipush (v := -5) dX6_thin_37 (by decide) ?_
      refine r_ireturn dX6_thin_39 ⟨_, rfl, rfl⟩ ?_
      exact ⟨by rw [e9]; rfl, C, hF⟩
    · exact absurd (nI_lt (a := 99) (by omega) (by omega)) c_17
  | succ m ih =>
    intro s g hs hn C hv hF
    refine r_iload_n dX6_thin_14 rfl ?_
    refine r_bipush (v := 99) dX6_thin_15 (by decide) ?_
    refine r_icmp_gt (tgt := 37) dX6_thin_17 (by decide) (fun c_17 => ?_) (fun c_17 => ?_)
    · exact absurd ((nI_lt' (a := 99) (by omega) (by omega)).mp c_17) (by omega)
    · refine r_aload_n dX6_thin_20 rfl ?_
      refine r_iload_n dX6_thin_21 rfl ?_
      refine r_iload_n dX6_thin_22 rfl ?_
      refine r_callV dX6_thin_23 l_X6_225 o_X6_lasts v_X6_lasts rfl (by decide) rfl rfl (m_X6_lasts hG C hv hN (show s ≤ 99 by omega)) (by decide) rfl (Nat.le_of_ble_eq_true rfl) (fun r23 h23 hq23 => ?_)
      obtain ⟨rfl, C2, F2⟩ := hq23
      refine r_if_eq (tgt := 31) dX6_thin_26 (by decide) (fun c_26 => ?_) (fun c_26 => ?_)
      · refine r_iinc dX6_thin_31 rfl (by first | exact nI_inc _ | rfl) (by decide) rfl rfl ?_
        dsimp only [List.set]
        refine r_goto (tgt := 14) dX6_thin_34 (by decide) ?_
        exact ih (s + 1) h23 (by omega) (fun i hi => by
          by_cases z9 : i = s
          · rw [z9]; exact b01_0.mp c_26
          · exact hn i (by omega)) C2 (hv.fx F2) (hF.tr F2)
      · refine r_iload_n dX6_thin_29 rfl ?_
        refine r_ireturn dX6_thin_30 ⟨_, rfl, rfl⟩ ?_
        have e9 : thinF V T N = s := firstTo_at (q := fun s => enoughTo V (setBin T s) N) (k := s) hn (b01_n0.mp c_26) 100 (by omega)
        exact ⟨by rw [e9, if_pos (by omega)], C2, hF.tr F2⟩
set_option maxRecDepth 100000 in
theorem m_X6_thin {G : WT} {l : Launch} (hG : GOK G) {h : Hp} {n q : Nat} {V : Hv} {T : Tb} {x : Int32} (C : DIc h n q V T) (hv : EvT h) : Cl G l 7 yX6_thin cX6_thin 3 (some .int) [.ref (gA G 0), .int x] h (fun r h' => r = some (.int (thinA V T x)) ∧ DIc h' n q V T ∧ Fx asF h h') := by
  refine Cl.of hG (by decide) (Nat.le_of_ble_eq_true rfl) ?_
  show Wp G l 7 RX6 cX6_thin 3 (some .int) 0 [.ref (gA G 0), .int x, mk0] [] h _
  cases hx : dec x 9 with
  | none =>
    refine r_iload_n dX6_thin_0 rfl ?_
    refine r_bipush (v := 8) dX6_thin_1 (by decide) ?_
    rw [show (8 : Int32) = nI 8 from rfl]
    refine r_callS dX6_thin_3 l_X6_78 o_X6_within s_X6_within rfl (m_X6_within hG (x := x) (m := 8) (by omega)) (by decide) rfl (Nat.le_of_ble_eq_true rfl) (fun r3 h3 hq3 => ?_)
    obtain ⟨rfl, rfl⟩ := hq3
    rw [hx]
    refine r_if_ne (tgt := 12) dX6_thin_6 (by decide) (fun c_6 => ?_) (fun c_6 => ?_)
    · exact absurd none_f c_6
    · refine r_bipush (v := -2) dX6_thin_9 (by decide) ?_
      refine r_ireturn dX6_thin_11 ⟨_, rfl, rfl⟩ ?_
      exact ⟨by rw [thinA, hx], C, Fx.rf⟩
  | some k =>
    obtain ⟨k1, rfl, -⟩ := dec_some.mp hx
    refine r_iload_n dX6_thin_0 rfl ?_
    refine r_bipush (v := 8) dX6_thin_1 (by decide) ?_
    rw [show (8 : Int32) = nI 8 from rfl]
    refine r_callS dX6_thin_3 l_X6_78 o_X6_within s_X6_within rfl (m_X6_within hG (x := nI k) (m := 8) (by omega)) (by decide) rfl (Nat.le_of_ble_eq_true rfl) (fun r3 h3 hq3 => ?_)
    obtain ⟨rfl, rfl⟩ := hq3
    rw [hx]
    refine r_if_ne (tgt := 12) dX6_thin_6 (by decide) (fun c_6 => ?_) (fun c_6 => ?_)
    · refine r_iconst (v := 0) dX6_thin_12 (by decide) ?_
      refine r_istore_n dX6_thin_13 (by decide) rfl rfl ?_
      dsimp only [List.set]
      rw [thinA, hx]
      exact tn_lp hG (by omega) 100 0 _ (by omega) (fun i y => absurd y (by omega)) C hv Fx.rf
    · exact absurd c_6 some_t
