/-! calls that change the table -/
def mnF (a i : Nat) : Bool := (decide (1 ≤ a) && decide (a ≤ 8)) || asF a i
def noF (a _i : Nat) : Bool := decide (1 ≤ a) && decide (a ≤ 8)
theorem as_mn {h h' : Hp} (H : Fx asF h h') : Fx mnF h h' := H.wk (fun x i y => by simp only [mnF, Bool.or_eq_false_iff] at y; exact y.2)
theorem no_mn {h h' : Hp} (H : Fr noF h h') : Fx mnF h h' := H.x.wk (fun x i y => by simp only [mnF, Bool.or_eq_false_iff] at y; exact y.1)
theorem ho_mn {h h' : Hp} (H : Fx (hoFd 1) h h') : Fx mnF h h' := H.wk (fun x i y => by
  simp only [hoFd, mnF, asF, Bool.or_eq_false_iff, Bool.and_eq_false_iff, decide_eq_false_iff_not, beq_eq_false_iff_ne, ne_eq] at y ⊢
  omega)
theorem DIg.nw {h h' : Hp} {n q : Nat} {V : Hv} {T T' : Tb} (C : DIg h n q V T none false none) (hF : Fx mnF h h') (hD : DTb h' 1 T') (ok : TbOK T') (hd : T'.1 7 2 ≤ 9999) (hh : T'.1 7 5 = T.1 7 5) (hS : SeC h' none false) (hP : RDp h' (T'.1 7 0) none) (hW : W0 h') : DIg h' n q V T' none false none := by
  have hq := C.ks
  obtain ⟨u, u1, u2⟩ := hs_at hq
  obtain ⟨c1, c2, c3, ⟨c4, c5, c6, c7⟩, c8, -, -, -⟩ := C
  exact ⟨hD, ok, hd, ⟨by rw [hF.1 _ _ rfl]; exact c4, c5, by rw [hh]; exact c6, by rw [hh]; exact c7⟩, c8.eq (fun a y1 y2 => funext fun i => hF.1 a i (by simp [mnF, asF]; omega)), hS, hP, hW⟩
theorem DIg.no {h h' : Hp} {n q : Nat} {V : Hv} {T T' : Tb} (C : DIg h n q V T none false none) (hF : Fr noF h h') (hD : DTb h' 1 T') (ok : TbOK T') (hd : T'.1 7 2 ≤ 9999) (hh : T'.1 7 5 = T.1 7 5) : DIg h' n q V T' none false none :=
  C.nw (no_mn hF) hD ok hd hh (C.2.2.2.2.2.1.eq (fun i hi => hF.1 _ _ rfl)) ⟨by rw [hF.1 _ _ rfl]; exact C.2.2.2.2.2.2.1.1, by rw [hF.1 _ _ rfl]; exact C.2.2.2.2.2.2.1.2⟩ (fun e he => by rw [hF.1 _ _ rfl]; exact C.2.2.2.2.2.2.2 e he)
theorem supS_h {V : Hv} {P : Sup} {T : Tb} : (supS V P T).1 7 5 = T.1 7 5 := by
  unfold supS
  split
  · rfl
  · rfl
set_option maxRecDepth 100000 in
theorem m_X6_supper {G : WT} {l : Launch} (hG : GOK G) {h : Hp} {n q : Nat} {V : Hv} {T : Tb} (C : DIc h n q V T) : Cl G l 6 yX6_supper cX6_supper 1 (some .int) [.ref (gA G 0)] h (fun r h' => r = some (.int (supperA T (supS V (P0 V) T))) ∧ DIc h' n q V (if T.1 7 2 = 9999 then T else supS V (P0 V) T) ∧ Fx mnF h h') := by
  refine Cl.of hG (by decide) (Nat.le_of_ble_eq_true rfl) ?_
  show Wp G l 6 RX6 cX6_supper 1 (some .int) 0 [.ref (gA G 0)] [] h _
  have hd9 := C.2.2.1
  by_cases h0 : T.1 7 2 = 9999
  · rw [if_pos h0]
    refine r_aload_n dX6_supper_0 rfl ?_
    refine r_getR (j := 1) dX6_supper_1 k_X6_12 rfl (by decide) rfl rfl ?_
    refine r_getI dX6_supper_4 k_X6_157 rfl (by decide) rfl ?_
    refine r_sipush (v := 9999) dX6_supper_7 (by decide) ?_
    rw [C.1.1.2.2.1]
    refine r_icmp_lt (tgt := 16) dX6_supper_10 (by decide) (fun c_10 => ?_) (fun c_10 => ?_)
    · exact absurd ((nI_lt' (b := 9999) (by omega) (by omega)).mp c_10) (by omega)
    · refine r_bipush (v := -3) dX6_supper_13 (by decide) ?_
      refine r_ireturn dX6_supper_15 ⟨_, rfl, rfl⟩ ?_
      exact ⟨by rw [supperA, if_pos h0], C, Fx.rf⟩
  · rw [if_neg h0]
    have sd := supS_day (V := V) (P := P0 V) (T := T)
    refine r_aload_n dX6_supper_0 rfl ?_
    refine r_getR (j := 1) dX6_supper_1 k_X6_12 rfl (by decide) rfl rfl ?_
    refine r_getI dX6_supper_4 k_X6_157 rfl (by decide) rfl ?_
    refine r_sipush (v := 9999) dX6_supper_7 (by decide) ?_
    rw [C.1.1.2.2.1]
    refine r_icmp_lt (tgt := 16) dX6_supper_10 (by decide) (fun c_10 => ?_) (fun c_10 => ?_)
    · refine r_aload_n dX6_supper_16 rfl ?_
      refine r_getR (j := 37) dX6_supper_17 k_X6_38 rfl (by decide) rfl rfl ?_
      refine r_aload_n dX6_supper_20 rfl ?_
      refine r_getR (j := 1) dX6_supper_21 k_X6_12 rfl (by decide) rfl rfl ?_
      refine r_aload_n dX6_supper_24 rfl ?_
      refine r_callV dX6_supper_25 l_X6_113 o_X6_holding v_X6_holding rfl (by decide) rfl rfl (m_X6_holding hG C.hd) (by decide) rfl (Nat.le_of_ble_eq_true rfl) (fun r25 h25 hq25 => ?_)
      obtain ⟨rfl, e25⟩ := hq25
      rw [e25]
      clear e25 h25
      rw [← C.2.2.2.1.2.2.2]
      refine r_callV dX6_supper_28 l_X6_163 o_X3_hold v_X3_hold rfl (by decide) rfl rfl (m_X3_hold hG (t := 1) (q := q) (pact := none) rfl (Or.inl rfl) C.ks C.1 C.2.1 C.2.2.2.2.1 C.2.2.2.2.2.1 C.2.2.2.2.2.2.2 C.2.2.2.2.2.2.1 (by omega)) (by decide) rfl (Nat.le_of_ble_eq_true rfl) (fun r28 h28 hq28 => ?_)
      obtain ⟨rfl, HH⟩ := hq28
      have D2 : DTb h28 1 (supS V (P0 V) T) := HH.2.1
      refine r_aload_n dX6_supper_31 rfl ?_
      refine r_getR (j := 1) dX6_supper_32 k_X6_12 rfl (by decide) rfl rfl ?_
      refine r_getI dX6_supper_35 k_X6_160 rfl (by decide) rfl ?_
      rw [D2.1.2.2.2.1]
      refine r_ireturn dX6_supper_38 ⟨_, rfl, rfl⟩ ?_
      exact ⟨by rw [supperA, if_neg h0], C.nw (ho_mn HH.1) D2 (supS_ok C.2.1 (by omega)) (by omega) supS_h (C.2.2.2.2.2.1.eq (fun i hi => HH.1.1 _ _ (by rcases hi with rfl | rfl <;> rfl))) ⟨by rw [HH.1.1 _ _ rfl]; exact C.2.2.2.2.2.2.1.1, by rw [HH.1.1 _ _ rfl]; exact C.2.2.2.2.2.2.1.2⟩ HH.2.2.1, ho_mn HH.1⟩
    · exact absurd (nI_lt (b := 9999) (by omega) (by omega)) c_10
theorem tb_no {h h' : Hp} (H : Fr (tbF 1) h h') : Fr noF h h' := H
set_option maxRecDepth 100000 in
theorem m_X6_eater {G : WT} {l : Launch} (hG : GOK G) {h : Hp} {n q : Nat} {V : Hv} {T : Tb} {k v w : Int32} (C : DIc h n q V T) : Cl G l 2 yX6_eater cX6_eater 4 (some .int) [.ref (gA G 0), .int k, .int v, .int w] h (fun r h' => r = some (.int (eaterS T k v w).1) ∧ DIc h' n q V (eaterS T k v w).2 ∧ Fx mnF h h') := by
  refine Cl.of hG (by decide) (Nat.le_of_ble_eq_true rfl) ?_
  show Wp G l 2 RX6 cX6_eater 4 (some .int) 0 [.ref (gA G 0), .int k, .int v, .int w] [] h _
  have hE5 := C.2.1.1
  cases hk : dec k 7 with
  | none =>
    have es : eaterS T k v w = (-1, T) := by rw [eaterS, hk]
    rw [es]
    refine r_iload_n dX6_eater_0 rfl ?_
    refine r_bipush (v := 6) dX6_eater_1 (by decide) ?_
    rw [show (6 : Int32) = nI 6 from rfl]
    refine r_callS dX6_eater_3 l_X6_78 o_X6_within s_X6_within rfl (m_X6_within hG (x := k) (m := 6) (by omega)) (by decide) rfl (Nat.le_of_ble_eq_true rfl) (fun r3 h3 hq3 => ?_)
    obtain ⟨rfl, rfl⟩ := hq3
    rw [hk]
    refine r_if_ne (tgt := 11) dX6_eater_6 (by decide) (fun c_6 => ?_) (fun c_6 => ?_)
    · exact absurd none_f c_6
    · refine r_iconst (v := -1) dX6_eater_9 (by decide) ?_
      refine r_ireturn dX6_eater_10 ⟨_, rfl, rfl⟩ ?_
      exact ⟨rfl, C, Fx.rf⟩
  | some k1 =>
    obtain ⟨kk1, rfl, -⟩ := dec_some.mp hk
    have k29 : ∀ (g : Hp), g = h → (dec v 10 = none ∨ dec w 10 = none) → Wp G l 2 RX6 cX6_eater 4 (some .int) 29 [.ref (gA G 0), .int (nI k1), .int v, .int w] [] g (fun r h' => r = some (.int (eaterS T (nI k1) v w).1) ∧ DIc h' n q V (eaterS T (nI k1) v w).2 ∧ Fx mnF h h') := by
      intro g hg hb
      subst hg
      have es : eaterS T (nI k1) v w = (-2, T) := by
        rw [eaterS, hk]
        dsimp only
        rcases hb with hb | hb
        · rw [hb]
        · rw [hb]
          cases dec v 10 <;> rfl
      rw [es]
      refine r_bipush (v := -2) dX6_eater_29 (by decide) ?_
      refine r_ireturn dX6_eater_31 ⟨_, rfl, rfl⟩ ?_
      exact ⟨rfl, C, Fx.rf⟩
    cases hv : dec v 10 with
    | none =>
      refine r_iload_n dX6_eater_0 rfl ?_
      refine r_bipush (v := 6) dX6_eater_1 (by decide) ?_
      rw [show (6 : Int32) = nI 6 from rfl]
      refine r_callS dX6_eater_3 l_X6_78 o_X6_within s_X6_within rfl (m_X6_within hG (x := nI k1) (m := 6) (by omega)) (by decide) rfl (Nat.le_of_ble_eq_true rfl) (fun r3 h3 hq3 => ?_)
      obtain ⟨rfl, rfl⟩ := hq3
      rw [hk]
      refine r_if_ne (tgt := 11) dX6_eater_6 (by decide) (fun c_6 => ?_) (fun c_6 => ?_)
      · refine r_iload_n dX6_eater_11 rfl ?_
        refine r_bipush (v := 9) dX6_eater_12 (by decide) ?_
        rw [show (9 : Int32) = nI 9 from rfl]
        refine r_callS dX6_eater_14 l_X6_78 o_X6_within s_X6_within rfl (m_X6_within hG (x := v) (m := 9) (by omega)) (by decide) rfl (Nat.le_of_ble_eq_true rfl) (fun r14 h14 hq14 => ?_)
        obtain ⟨rfl, rfl⟩ := hq14
        rw [hv]
        refine r_if_eq (tgt := 29) dX6_eater_17 (by decide) (fun c_17 => ?_) (fun c_17 => ?_)
        · exact k29 _ rfl (Or.inl hv)
        · exact absurd none_f c_17
      · exact absurd c_6 some_t
    | some v1 =>
      obtain ⟨vv1, rfl, -⟩ := dec_some.mp hv
      cases hw : dec w 10 with
      | none =>
        refine r_iload_n dX6_eater_0 rfl ?_
        refine r_bipush (v := 6) dX6_eater_1 (by decide) ?_
        rw [show (6 : Int32) = nI 6 from rfl]
        refine r_callS dX6_eater_3 l_X6_78 o_X6_within s_X6_within rfl (m_X6_within hG (x := nI k1) (m := 6) (by omega)) (by decide) rfl (Nat.le_of_ble_eq_true rfl) (fun r3 h3 hq3 => ?_)
        obtain ⟨rfl, rfl⟩ := hq3
        rw [hk]
        refine r_if_ne (tgt := 11) dX6_eater_6 (by decide) (fun c_6 => ?_) (fun c_6 => ?_)
        · refine r_iload_n dX6_eater_11 rfl ?_
          refine r_bipush (v := 9) dX6_eater_12 (by decide) ?_
          rw [show (9 : Int32) = nI 9 from rfl]
          refine r_callS dX6_eater_14 l_X6_78 o_X6_within s_X6_within rfl (m_X6_within hG (x := nI v1) (m := 9) (by omega)) (by decide) rfl (Nat.le_of_ble_eq_true rfl) (fun r14 h14 hq14 => ?_)
          obtain ⟨rfl, rfl⟩ := hq14
          rw [hv]
          refine r_if_eq (tgt := 29) dX6_eater_17 (by decide) (fun c_17 => ?_) (fun c_17 => ?_)
          · exact absurd c_17 some_t
          · refine r_iload_n dX6_eater_20 rfl ?_
            refine r_bipush (v := 9) dX6_eater_21 (by decide) ?_
            rw [show (9 : Int32) = nI 9 from rfl]
            refine r_callS dX6_eater_23 l_X6_78 o_X6_within s_X6_within rfl (m_X6_within hG (x := w) (m := 9) (by omega)) (by decide) rfl (Nat.le_of_ble_eq_true rfl) (fun r23 h23 hq23 => ?_)
            obtain ⟨rfl, rfl⟩ := hq23
            rw [hw]
            refine r_if_ne (tgt := 32) dX6_eater_26 (by decide) (fun c_26 => ?_) (fun c_26 => ?_)
            · exact absurd none_f c_26
            · exact k29 _ rfl (Or.inr hw)
        · exact absurd c_6 some_t
      | some w1 =>
        obtain ⟨ww1, rfl, -⟩ := dec_some.mp hw
        by_cases h5 : T.1 7 0 = 5
        · have es : eaterS T (nI k1) (nI v1) (nI w1) = (-4, T) := by
            rw [eaterS, hk]
            dsimp only
            rw [hv, hw]
            dsimp only
            rw [if_pos h5]
          rw [es]
          refine r_iload_n dX6_eater_0 rfl ?_
          refine r_bipush (v := 6) dX6_eater_1 (by decide) ?_
          rw [show (6 : Int32) = nI 6 from rfl]
          refine r_callS dX6_eater_3 l_X6_78 o_X6_within s_X6_within rfl (m_X6_within hG (x := nI k1) (m := 6) (by omega)) (by decide) rfl (Nat.le_of_ble_eq_true rfl) (fun r3 h3 hq3 => ?_)
          obtain ⟨rfl, rfl⟩ := hq3
          rw [hk]
          refine r_if_ne (tgt := 11) dX6_eater_6 (by decide) (fun c_6 => ?_) (fun c_6 => ?_)
          · refine r_iload_n dX6_eater_11 rfl ?_
            refine r_bipush (v := 9) dX6_eater_12 (by decide) ?_
            rw [show (9 : Int32) = nI 9 from rfl]
            refine r_callS dX6_eater_14 l_X6_78 o_X6_within s_X6_within rfl (m_X6_within hG (x := nI v1) (m := 9) (by omega)) (by decide) rfl (Nat.le_of_ble_eq_true rfl) (fun r14 h14 hq14 => ?_)
            obtain ⟨rfl, rfl⟩ := hq14
            rw [hv]
            refine r_if_eq (tgt := 29) dX6_eater_17 (by decide) (fun c_17 => ?_) (fun c_17 => ?_)
            · exact absurd c_17 some_t
            · refine r_iload_n dX6_eater_20 rfl ?_
              refine r_bipush (v := 9) dX6_eater_21 (by decide) ?_
              rw [show (9 : Int32) = nI 9 from rfl]
              refine r_callS dX6_eater_23 l_X6_78 o_X6_within s_X6_within rfl (m_X6_within hG (x := nI w1) (m := 9) (by omega)) (by decide) rfl (Nat.le_of_ble_eq_true rfl) (fun r23 h23 hq23 => ?_)
              obtain ⟨rfl, rfl⟩ := hq23
              rw [hw]
              refine r_if_ne (tgt := 32) dX6_eater_26 (by decide) (fun c_26 => ?_) (fun c_26 => ?_)
              · refine r_aload_n dX6_eater_32 rfl ?_
                refine r_getR (j := 1) dX6_eater_33 k_X6_12 rfl (by decide) rfl rfl ?_
                refine r_getI dX6_eater_36 k_X6_82 rfl (by decide) rfl ?_
                refine r_iconst (v := 5) dX6_eater_39 (by decide) ?_
                rw [C.1.1.1]
                refine r_icmp_lt (tgt := 46) dX6_eater_40 (by decide) (fun c_40 => ?_) (fun c_40 => ?_)
                · exact absurd ((nI_lt' (b := 5) (by omega) (by omega)).mp c_40) (by omega)
                · refine r_bipush (v := -4) dX6_eater_43 (by decide) ?_
                  refine r_ireturn dX6_eater_45 ⟨_, rfl, rfl⟩ ?_
                  exact ⟨rfl, C, Fx.rf⟩
              · exact absurd c_26 some_t
          · exact absurd c_6 some_t
        · have es : eaterS T (nI k1) (nI v1) (nI w1) = (nI (T.1 7 0), addEater T k1 v1 w1) := by
            rw [eaterS, hk]
            dsimp only
            rw [hv, hw]
            dsimp only
            rw [if_neg h5]
          rw [es]
          refine r_iload_n dX6_eater_0 rfl ?_
          refine r_bipush (v := 6) dX6_eater_1 (by decide) ?_
          rw [show (6 : Int32) = nI 6 from rfl]
          refine r_callS dX6_eater_3 l_X6_78 o_X6_within s_X6_within rfl (m_X6_within hG (x := nI k1) (m := 6) (by omega)) (by decide) rfl (Nat.le_of_ble_eq_true rfl) (fun r3 h3 hq3 => ?_)
          obtain ⟨rfl, rfl⟩ := hq3
          rw [hk]
          refine r_if_ne (tgt := 11) dX6_eater_6 (by decide) (fun c_6 => ?_) (fun c_6 => ?_)
          · refine r_iload_n dX6_eater_11 rfl ?_
            refine r_bipush (v := 9) dX6_eater_12 (by decide) ?_
            rw [show (9 : Int32) = nI 9 from rfl]
            refine r_callS dX6_eater_14 l_X6_78 o_X6_within s_X6_within rfl (m_X6_within hG (x := nI v1) (m := 9) (by omega)) (by decide) rfl (Nat.le_of_ble_eq_true rfl) (fun r14 h14 hq14 => ?_)
            obtain ⟨rfl, rfl⟩ := hq14
            rw [hv]
            refine r_if_eq (tgt := 29) dX6_eater_17 (by decide) (fun c_17 => ?_) (fun c_17 => ?_)
            · exact absurd c_17 some_t
            · refine r_iload_n dX6_eater_20 rfl ?_
              refine r_bipush (v := 9) dX6_eater_21 (by decide) ?_
              rw [show (9 : Int32) = nI 9 from rfl]
              refine r_callS dX6_eater_23 l_X6_78 o_X6_within s_X6_within rfl (m_X6_within hG (x := nI w1) (m := 9) (by omega)) (by decide) rfl (Nat.le_of_ble_eq_true rfl) (fun r23 h23 hq23 => ?_)
              obtain ⟨rfl, rfl⟩ := hq23
              rw [hw]
              refine r_if_ne (tgt := 32) dX6_eater_26 (by decide) (fun c_26 => ?_) (fun c_26 => ?_)
              · refine r_aload_n dX6_eater_32 rfl ?_
                refine r_getR (j := 1) dX6_eater_33 k_X6_12 rfl (by decide) rfl rfl ?_
                refine r_getI dX6_eater_36 k_X6_82 rfl (by decide) rfl ?_
                refine r_iconst (v := 5) dX6_eater_39 (by decide) ?_
                rw [C.1.1.1]
                refine r_icmp_lt (tgt := 46) dX6_eater_40 (by decide) (fun c_40 => ?_) (fun c_40 => ?_)
                · refine r_aload_n dX6_eater_46 rfl ?_
                  refine r_getR (j := 1) dX6_eater_47 k_X6_12 rfl (by decide) rfl rfl ?_
                  refine r_iload_n dX6_eater_50 rfl ?_
                  refine r_iload_n dX6_eater_51 rfl ?_
                  refine r_iload_n dX6_eater_52 rfl ?_
                  refine r_callV dX6_eater_53 l_X6_85 o_X4_seat v_X4_seat rfl (by decide) rfl rfl (m_X4_seat hG (t := 1) (k := k1) (v := v1) (w := w1) rfl C.1 (by omega)) (by decide) rfl (Nat.le_of_ble_eq_true rfl) (fun r53 h53 hq53 => ?_)
                  obtain ⟨rfl, D2, F2⟩ := hq53
                  refine r_ireturn dX6_eater_56 ⟨_, rfl, rfl⟩ ?_
                  exact ⟨rfl, C.no F2 D2 (addEater_ok C.2.1 h5 kk1 vv1 ww1) C.2.2.1 rfl, no_mn F2⟩
                · exact absurd (nI_lt (b := 5) (by omega) (by omega)) c_40
              · exact absurd c_26 some_t
          · exact absurd c_6 some_t
set_option maxRecDepth 100000 in
theorem m_X6_told {G : WT} {l : Launch} (hG : GOK G) {h : Hp} {n q : Nat} {V : Hv} {T : Tb} {x : Int32} (C : DIc h n q V T) : Cl G l 3 yX6_told cX6_told 2 (some .int) [.ref (gA G 0), .int x] h (fun r h' => r = some (.int (toldA V T x)) ∧ h' = h) := by
  refine Cl.of hG (by decide) (Nat.le_of_ble_eq_true rfl) ?_
  show Wp G l 3 RX6 cX6_told 2 (some .int) 0 [.ref (gA G 0), .int x] [] h _
  have hq := C.ks
  have e1 : h.1 (hcell (T.1 7 5)) 9 = nI (loafS V) := by rw [← C.2.2.2.1.2.2.2]; exact C.2.2.2.2.1.2.2.2.2.1
  have e2 : h.1 (hcell (T.1 7 5)) 10 = nI (lawS V) := by rw [← C.2.2.2.1.2.2.2]; exact C.2.2.2.2.1.2.2.2.2.2.1
  have e3 : h.1 (hcell (T.1 7 5)) 11 = nI (scaleS V) := by rw [← C.2.2.2.1.2.2.2]; exact C.2.2.2.2.1.2.2.2.2.2.2
  have kh : ksh (hcell (T.1 7 5)) = 1 := by rw [← C.2.2.2.1.2.2.2]; exact hq
  by_cases x0 : x = 0
  · subst x0
    refine r_iload_n dX6_told_0 rfl ?_
    · refine r_tsw 40 dX6_told_1 rfl (by decide) rfl ?_
      refine r_aload_n dX6_told_40 rfl ?_
      refine r_callV dX6_told_41 l_X6_113 o_X6_holding v_X6_holding rfl (by decide) rfl rfl (m_X6_holding hG C.hd) (by decide) rfl (Nat.le_of_ble_eq_true rfl) (fun r41 h41 hq41 => ?_)
      obtain ⟨rfl, e41⟩ := hq41
      rw [e41]
      clear e41 h41
      refine r_getI dX6_told_44 k_X6_148 (by assumption) (by decide) rfl ?_
      rw [e1]
      refine r_ireturn dX6_told_47 ⟨_, rfl, rfl⟩ ?_
      exact ⟨rfl, rfl⟩
  · by_cases x1 : x = 1
    · subst x1
      refine r_iload_n dX6_told_0 rfl ?_
      · refine r_tsw 48 dX6_told_1 rfl (by decide) rfl ?_
        refine r_aload_n dX6_told_48 rfl ?_
        refine r_callV dX6_told_49 l_X6_113 o_X6_holding v_X6_holding rfl (by decide) rfl rfl (m_X6_holding hG C.hd) (by decide) rfl (Nat.le_of_ble_eq_true rfl) (fun r49 h49 hq49 => ?_)
        obtain ⟨rfl, e49⟩ := hq49
        rw [e49]
        clear e49 h49
        refine r_getI dX6_told_52 k_X6_151 (by assumption) (by decide) rfl ?_
        rw [e2]
        refine r_ireturn dX6_told_55 ⟨_, rfl, rfl⟩ ?_
        exact ⟨rfl, rfl⟩
    · by_cases x2 : x = 2
      · subst x2
        refine r_iload_n dX6_told_0 rfl ?_
        · refine r_tsw 56 dX6_told_1 rfl (by decide) rfl ?_
          refine r_aload_n dX6_told_56 rfl ?_
          refine r_callV dX6_told_57 l_X6_113 o_X6_holding v_X6_holding rfl (by decide) rfl rfl (m_X6_holding hG C.hd) (by decide) rfl (Nat.le_of_ble_eq_true rfl) (fun r57 h57 hq57 => ?_)
          obtain ⟨rfl, e57⟩ := hq57
          rw [e57]
          clear e57 h57
          refine r_getI dX6_told_60 k_X6_154 (by assumption) (by decide) rfl ?_
          rw [e3]
          refine r_ireturn dX6_told_63 ⟨_, rfl, rfl⟩ ?_
          exact ⟨rfl, rfl⟩
      · by_cases x3 : x = 3
        · subst x3
          refine r_iload_n dX6_told_0 rfl ?_
          · refine r_tsw 64 dX6_told_1 rfl (by decide) rfl ?_
            refine r_aload_n dX6_told_64 rfl ?_
            refine r_getR (j := 1) dX6_told_65 k_X6_12 rfl (by decide) rfl rfl ?_
            refine r_getI dX6_told_68 k_X6_131 rfl (by decide) rfl ?_
            rw [C.1.1.2.1]
            refine r_ireturn dX6_told_71 ⟨_, rfl, rfl⟩ ?_
            exact ⟨rfl, rfl⟩
        · by_cases x4 : x = 4
          · subst x4
            refine r_iload_n dX6_told_0 rfl ?_
            · refine r_tsw 72 dX6_told_1 rfl (by decide) rfl ?_
              refine r_aload_n dX6_told_72 rfl ?_
              refine r_getR (j := 1) dX6_told_73 k_X6_12 rfl (by decide) rfl rfl ?_
              refine r_getI dX6_told_76 k_X6_157 rfl (by decide) rfl ?_
              rw [C.1.1.2.2.1]
              refine r_ireturn dX6_told_79 ⟨_, rfl, rfl⟩ ?_
              exact ⟨rfl, rfl⟩
          · by_cases x5 : x = 5
            · subst x5
              refine r_iload_n dX6_told_0 rfl ?_
              · refine r_tsw 80 dX6_told_1 rfl (by decide) rfl ?_
                refine r_aload_n dX6_told_80 rfl ?_
                refine r_getR (j := 1) dX6_told_81 k_X6_12 rfl (by decide) rfl rfl ?_
                refine r_getI dX6_told_84 k_X6_160 rfl (by decide) rfl ?_
                rw [C.1.1.2.2.2.1]
                refine r_ireturn dX6_told_87 ⟨_, rfl, rfl⟩ ?_
                exact ⟨rfl, rfl⟩
            · have far : tswT 87 0 5 #[39, 47, 55, 63, 71, 79].toList 1 x.toInt = 88 := by
                have i0 : ¬ x.toInt = 0 := fun y => x0 (Int32.toInt_inj.mp y)
                have i1 : ¬ x.toInt = 1 := fun y => x1 (Int32.toInt_inj.mp y)
                have i2 : ¬ x.toInt = 2 := fun y => x2 (Int32.toInt_inj.mp y)
                have i3 : ¬ x.toInt = 3 := fun y => x3 (Int32.toInt_inj.mp y)
                have i4 : ¬ x.toInt = 4 := fun y => x4 (Int32.toInt_inj.mp y)
                have i5 : ¬ x.toInt = 5 := fun y => x5 (Int32.toInt_inj.mp y)
                unfold tswT
                rw [if_pos (by omega)]
                rfl
              refine r_iload_n dX6_told_0 rfl ?_
              · refine r_tsw 88 dX6_told_1 rfl (by decide) far ?_
                refine r_iconst (v := -1) dX6_told_88 (by decide) ?_
                refine r_ireturn dX6_told_89 ⟨_, rfl, rfl⟩ ?_
                exact ⟨by rw [toldA, if_neg x0, if_neg x1, if_neg x2, if_neg x3, if_neg x4, if_neg x5], rfl⟩
