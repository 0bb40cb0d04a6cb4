/-! feed, house, count, trace, taken -/
theorem nar_c : ∀ v, v < 128 → vp_nar .char (nI v) = nI v := by decide +kernel
theorem i2c_n {v : Nat} (hv : v < 128) : ((nI v).toUInt32 % 65536).toInt32 = nI v := by
  rw [pk_char, pk_tn (by omega), Nat.mod_eq_of_lt (by omega)]
set_option maxRecDepth 100000 in
theorem m_X2_append {G : WT} {l : Launch} (hG : GOK G) {h : Hp} {X : Tx} {v : Nat} (HX : DTx h X) (hX : TxOK X) (h9 : X.1 < 100) (hv : v < 128) : Cl G l 1 yX2_append cX2_append 2 (some .int) [.ref (gA G 46), .int (nI v)] h (fun r h' => r = some (.int (nI (X.1 + 1))) ∧ h' = setI (setI h 47 X.1 (nI v)) 46 1 (nI (X.1 + 1))) := by
  refine Cl.of hG (by decide) (Nat.le_of_ble_eq_true rfl) ?_
  show Wp G l 1 RX2 cX2_append 2 (some .int) 0 [.ref (gA G 46), .int (nI v)] [] h _
  refine r_aload_n dX2_append_0 rfl ?_
  refine r_getI dX2_append_1 k_X2_15 rfl (by decide) rfl ?_
  refine r_bipush (v := 100) dX2_append_4 (by decide) ?_
  rw [HX.1]
  refine r_icmp_ge (tgt := 29) dX2_append_6 (by decide) (fun c_6 => ?_) (fun c_6 => ?_)
  · exact absurd c_6 (nI_ge (a := X.1) (b := 100) (by omega) (by omega))
  · refine r_aload_n dX2_append_9 rfl ?_
    refine r_getR (j := 47) dX2_append_10 k_X2_9 rfl (by decide) rfl rfl ?_
    refine r_aload_n dX2_append_13 rfl ?_
    refine r_getI dX2_append_14 k_X2_15 rfl (by decide) rfl ?_
    refine r_iload_n dX2_append_17 rfl ?_
    refine r_cast (X.1) dX2_append_18 rfl HX.1 (show X.1 < 100 from h9) ?_
    rw [nar_c v hv]
    refine r_aload_n dX2_append_19 rfl ?_
    refine r_dup dX2_append_20 rfl ?_
    refine r_getI dX2_append_21 k_X2_15 rfl (by decide) rfl ?_
    refine r_iconst (v := 1) dX2_append_24 (by decide) ?_
    refine r_iadd dX2_append_25 ?_
    rw [setI_ne (by decide), HX.1, nI_1]
    refine r_putI dX2_append_26 k_X2_15 rfl (by decide) rfl rfl rfl rfl ?_
    refine r_aload_n dX2_append_29 rfl ?_
    refine r_getI dX2_append_30 k_X2_15 rfl (by decide) rfl ?_
    rw [setI_at]
    refine r_ireturn dX2_append_33 ⟨_, rfl, rfl⟩ ?_
    exact ⟨rfl, rfl⟩
def rdF (a i : Nat) : Bool := a == 47 || (a == 46 && i == 1)
set_option maxRecDepth 100000 in
theorem m_X6_feed {G : WT} {l : Launch} (hG : GOK G) {h : Hp} {X : Tx} {c : Int32} (H : DTx h X) (hX : TxOK X) : Cl G l 2 yX6_feed cX6_feed 2 (some .int) [.ref (gA G 0), .int c] h (fun r h' => r = some (.int (feedS X c).1) ∧ DTx h' (feedS X c).2 ∧ TxOK (feedS X c).2 ∧ Fr rdF h h') := by
  refine Cl.of hG (by decide) (Nat.le_of_ble_eq_true rfl) ?_
  show Wp G l 2 RX6 cX6_feed 2 (some .int) 0 [.ref (gA G 0), .int c] [] h _
  have h100 := hX.1
  cases hc : dec c 128 with
  | none =>
    have es : feedS X c = (-2, X) := by rw [feedS, hc]
    rw [es]
    refine r_iload_n dX6_feed_0 rfl ?_
    refine r_bipush (v := 127) dX6_feed_1 (by decide) ?_
    rw [show (127 : Int32) = nI 127 from rfl]
    refine r_callS dX6_feed_3 l_X6_78 o_X6_within s_X6_within rfl (m_X6_within hG (x := c) (m := 127) (by omega)) (by decide) rfl (Nat.le_of_ble_eq_true rfl) (fun r3 h3 hq3 => ?_)
    obtain ⟨rfl, rfl⟩ := hq3
    rw [hc]
    refine r_if_ne (tgt := 12) dX6_feed_6 (by decide) (fun c_6 => ?_) (fun c_6 => ?_)
    · exact absurd none_f c_6
    · refine r_bipush (v := -2) dX6_feed_9 (by decide) ?_
      refine r_ireturn dX6_feed_11 ⟨_, rfl, rfl⟩ ?_
      exact ⟨rfl, H, hX, Fr.rf⟩
  | some c1 =>
    obtain ⟨hc1, rfl, -⟩ := dec_some.mp hc
    by_cases y : X.1 = 100
    · have es : feedS X (nI c1) = (-4, X) := by rw [feedS, hc]; dsimp only; rw [if_pos y]
      rw [es]
      refine r_iload_n dX6_feed_0 rfl ?_
      refine r_bipush (v := 127) dX6_feed_1 (by decide) ?_
      rw [show (127 : Int32) = nI 127 from rfl]
      refine r_callS dX6_feed_3 l_X6_78 o_X6_within s_X6_within rfl (m_X6_within hG (x := nI c1) (m := 127) (by omega)) (by decide) rfl (Nat.le_of_ble_eq_true rfl) (fun r3 h3 hq3 => ?_)
      obtain ⟨rfl, rfl⟩ := hq3
      rw [hc]
      refine r_if_ne (tgt := 12) dX6_feed_6 (by decide) (fun c_6 => ?_) (fun c_6 => ?_)
      · refine r_aload_n dX6_feed_12 rfl ?_
        refine r_getR (j := 46) dX6_feed_13 k_X6_45 rfl (by decide) rfl rfl ?_
        refine r_getI dX6_feed_16 k_X6_134 rfl (by decide) rfl ?_
        refine r_bipush (v := 100) dX6_feed_19 (by decide) ?_
        rw [H.1]
        refine r_icmp_lt (tgt := 27) dX6_feed_21 (by decide) (fun c_21 => ?_) (fun c_21 => ?_)
        · exact absurd ((nI_lt' (b := 100) (by omega) (by omega)).mp c_21) (by omega)
        · refine r_bipush (v := -4) dX6_feed_24 (by decide) ?_
          refine r_ireturn dX6_feed_26 ⟨_, rfl, rfl⟩ ?_
          exact ⟨rfl, H, hX, Fr.rf⟩
      · exact absurd c_6 some_t
    · have es : feedS X (nI c1) = (nI (X.1 + 1), X.1 + 1, fun j => if j = X.1 then c1 else X.2 j) := by rw [feedS, hc]; dsimp only; rw [if_neg y]
      rw [es]
      refine r_iload_n dX6_feed_0 rfl ?_
      refine r_bipush (v := 127) dX6_feed_1 (by decide) ?_
      rw [show (127 : Int32) = nI 127 from rfl]
      refine r_callS dX6_feed_3 l_X6_78 o_X6_within s_X6_within rfl (m_X6_within hG (x := nI c1) (m := 127) (by omega)) (by decide) rfl (Nat.le_of_ble_eq_true rfl) (fun r3 h3 hq3 => ?_)
      obtain ⟨rfl, rfl⟩ := hq3
      rw [hc]
      refine r_if_ne (tgt := 12) dX6_feed_6 (by decide) (fun c_6 => ?_) (fun c_6 => ?_)
      · refine r_aload_n dX6_feed_12 rfl ?_
        refine r_getR (j := 46) dX6_feed_13 k_X6_45 rfl (by decide) rfl rfl ?_
        refine r_getI dX6_feed_16 k_X6_134 rfl (by decide) rfl ?_
        refine r_bipush (v := 100) dX6_feed_19 (by decide) ?_
        rw [H.1]
        refine r_icmp_lt (tgt := 27) dX6_feed_21 (by decide) (fun c_21 => ?_) (fun c_21 => ?_)
        · refine r_aload_n dX6_feed_27 rfl ?_
          refine r_getR (j := 46) dX6_feed_28 k_X6_45 rfl (by decide) rfl rfl ?_
          refine r_iload_n dX6_feed_31 rfl ?_
          refine r_i2c dX6_feed_32 ?_
          rw [i2c_n hc1]
          refine r_callV dX6_feed_33 l_X6_137 o_X2_append v_X2_append rfl (by decide) rfl rfl (m_X2_append hG H hX (by omega) hc1) (by decide) rfl (Nat.le_of_ble_eq_true rfl) (fun r33 h33 hq33 => ?_)
          obtain ⟨rfl, rfl⟩ := hq33
          refine r_ireturn dX6_feed_36 ⟨_, rfl, rfl⟩ ?_
          refine ⟨rfl, ⟨setI_at, fun j hj => ?_⟩, ⟨by show X.1 + 1 ≤ 100; omega, fun j hj => ?_⟩, (Fr.set rfl).tr (Fr.set rfl)⟩
          · have hj1 : j < X.1 + 1 := hj
            show _ = nI (if j = X.1 then c1 else X.2 j)
            rw [setI_ne (by decide), setI_1]
            by_cases hjx : j = X.1
            · rw [if_pos ⟨rfl, hjx⟩, if_pos hjx]
            · rw [if_neg (fun y => hjx y.2), if_neg hjx]; exact H.2 j (by omega)
          · have hj1 : j < X.1 + 1 := hj
            show (if j = X.1 then c1 else X.2 j) < 128
            split
            · exact hc1
            · exact hX.2 j (by omega)
        · exact absurd (nI_lt (b := 100) (by omega) (by omega)) c_21
      · exact absurd c_6 some_t
theorem hcell_s {n : Nat} (hn : n < 6) : rfx 33 n = 50 + 8 * n ∧ ksh (50 + 8 * n) = 1 := by
  have key : ∀ n, n < 6 → rfx 33 n = 50 + 8 * n ∧ ksh (50 + 8 * n) = 1 := by decide
  exact key n hn
set_option maxRecDepth 100000 in
theorem m_X6_house {G : WT} {l : Launch} (hG : GOK G) {h : Hp} {X : Tx} {n : Nat} (hn : n ≤ 6) (HX : DTx h X) (hX : TxOK X) (h0 : h.1 0 11 = nI n) : Cl G l 26 yX6_house cX6_house 2 (some .int) [.ref (gA G 0)] h (fun r h' => (n = 6 → r = some (.int (-4)) ∧ h' = h) ∧ (n < 6 → (∀ b, houseT X = (none, b) → r = some (.int (-10 - nI b)) ∧ h'.1 0 11 = nI n ∧ h'.1 1 12 = h.1 1 12) ∧ (∀ L b, houseT X = (some L, b) → r = some (.int (nI n)) ∧ h'.1 0 11 = nI (n + 1) ∧ h'.1 1 12 = nI n ∧ DHs h' (50 + 8 * n) (hvOf L) ∧ 0 < L.length ∧ L.length ≤ 10) ∧ h'.1 46 1 = 0 ∧ (∀ a i, dcF (50 + 8 * n) a i = false → ¬ (a = 46 ∧ i = 1) → ¬ (a = 0 ∧ i = 11) → ¬ (a = 1 ∧ i = 12) → h'.1 a i = h.1 a i) ∧ h'.2.1 = h.2.1 ∧ h'.2.2 37 8 = h.2.2 37 8)) := by
  refine Cl.of hG (by decide) (Nat.le_of_ble_eq_true rfl) ?_
  show Wp G l 26 RX6 cX6_house 2 (some .int) 0 [.ref (gA G 0), mk0] [] h _
  by_cases h6 : n = 6
  · subst h6
    refine r_aload_n dX6_house_0 rfl ?_
    refine r_getI dX6_house_1 k_X6_69 rfl (by decide) rfl ?_
    refine r_bipush (v := 6) dX6_house_4 (by decide) ?_
    rw [h0]
    refine r_icmp_lt (tgt := 12) dX6_house_6 (by decide) (fun c_6 => ?_) (fun c_6 => ?_)
    · exact absurd c_6 (by decide)
    · refine r_bipush (v := -4) dX6_house_9 (by decide) ?_
      refine r_ireturn dX6_house_11 ⟨_, rfl, rfl⟩ ?_
      exact ⟨fun _ => ⟨rfl, rfl⟩, fun y => absurd y (by omega)⟩
  · obtain ⟨s1, s2⟩ := hcell_s (show n < 6 by omega)
    have n1 : ∀ i, dcF (50 + 8 * n) 0 i = false := fun i => by simp [dcF, dsF, dbF, dnF, daF]; omega
    have n2 : ∀ i, dcF (50 + 8 * n) 1 i = false := fun i => by simp [dcF, dsF, dbF, dnF, daF]; omega
    cases ht : houseT X with
    | mk o b =>
      cases o with
      | none =>
        refine r_aload_n dX6_house_0 rfl ?_
        refine r_getI dX6_house_1 k_X6_69 rfl (by decide) rfl ?_
        refine r_bipush (v := 6) dX6_house_4 (by decide) ?_
        rw [h0]
        refine r_icmp_lt (tgt := 12) dX6_house_6 (by decide) (fun c_6 => ?_) (fun c_6 => ?_)
        · refine r_aload_n dX6_house_12 rfl ?_
          refine r_getR (j := 46) dX6_house_13 k_X6_45 rfl (by decide) rfl rfl ?_
          refine r_aload_n dX6_house_16 rfl ?_
          refine r_getR (j := 33) dX6_house_17 k_X6_31 rfl (by decide) rfl rfl ?_
          refine r_aload_n dX6_house_20 rfl ?_
          refine r_getI dX6_house_21 k_X6_69 rfl (by decide) rfl ?_
          refine r_aald (n) dX6_house_24 rfl (by decide) h0 (show n < 6 by omega) ?_
          rw [s1]
          refine r_callV dX6_house_25 l_X6_141 o_X2_faultOf v_X2_faultOf rfl (by decide) rfl rfl (m_X2_faultOf hG s2 HX hX) (by decide) rfl (Nat.le_of_ble_eq_true rfl) (fun r25 h25 hq25 => ?_)
          obtain ⟨y1, y2, y3⟩ := hq25
          obtain ⟨rfl, yb⟩ := y1 b ht
          refine r_istore_n dX6_house_28 (by decide) rfl rfl ?_
          dsimp only [List.set]
          refine r_aload_n dX6_house_29 rfl ?_
          refine r_getR (j := 46) dX6_house_30 k_X6_45 rfl (by decide) rfl rfl ?_
          refine r_iconst (v := 0) dX6_house_33 (by decide) ?_
          refine r_putI dX6_house_34 k_X6_134 rfl (by decide) rfl rfl rfl rfl ?_
          refine r_iload_n dX6_house_37 rfl ?_
          refine r_if_lt (tgt := 46) dX6_house_38 (by decide) (fun c_38 => ?_) (fun c_38 => ?_)
          · exact absurd c_38 (fun y => by
              have := Int32.lt_iff_toInt_lt.mp y
              rw [nI_toInt (by omega), show ((0 : Int32)).toInt = 0 from rfl] at this
              omega)
          · refine r_bipush (v := -10) dX6_house_41 (by decide) ?_
            refine r_iload_n dX6_house_43 rfl ?_
            refine r_isub dX6_house_44 ?_
            refine r_ireturn dX6_house_45 ⟨_, rfl, rfl⟩ ?_
            refine ⟨fun y => absurd y h6, fun _ => ⟨fun b2 y => ?_, fun L b2 y => (by cases y), setI_at, fun a i z1 z2 z3 z4 => ?_, y3.2.1, y3.2.2⟩⟩
            · cases y
              exact ⟨rfl, by rw [setI_ne (by decide), y3.1 _ _ (n1 _)]; exact h0, by rw [setI_ne (by decide), y3.1 _ _ (n2 _)]⟩
            · rw [setI_1, if_neg z2, y3.1 _ _ z1]
        · exact absurd (nI_lt (b := 6) (by omega) (by omega)) c_6
      | some L =>
        refine r_aload_n dX6_house_0 rfl ?_
        refine r_getI dX6_house_1 k_X6_69 rfl (by decide) rfl ?_
        refine r_bipush (v := 6) dX6_house_4 (by decide) ?_
        rw [h0]
        refine r_icmp_lt (tgt := 12) dX6_house_6 (by decide) (fun c_6 => ?_) (fun c_6 => ?_)
        · refine r_aload_n dX6_house_12 rfl ?_
          refine r_getR (j := 46) dX6_house_13 k_X6_45 rfl (by decide) rfl rfl ?_
          refine r_aload_n dX6_house_16 rfl ?_
          refine r_getR (j := 33) dX6_house_17 k_X6_31 rfl (by decide) rfl rfl ?_
          refine r_aload_n dX6_house_20 rfl ?_
          refine r_getI dX6_house_21 k_X6_69 rfl (by decide) rfl ?_
          refine r_aald (n) dX6_house_24 rfl (by decide) h0 (show n < 6 by omega) ?_
          rw [s1]
          refine r_callV dX6_house_25 l_X6_141 o_X2_faultOf v_X2_faultOf rfl (by decide) rfl rfl (m_X2_faultOf hG s2 HX hX) (by decide) rfl (Nat.le_of_ble_eq_true rfl) (fun r25 h25 hq25 => ?_)
          obtain ⟨y1, y2, y3⟩ := hq25
          obtain ⟨rfl, yD, yl, ym⟩ := y2 L b ht
          have k0 : h25.1 0 11 = nI n := (y3.1 _ _ (n1 _)).trans h0
          refine r_istore_n dX6_house_28 (by decide) rfl rfl ?_
          dsimp only [List.set]
          refine r_aload_n dX6_house_29 rfl ?_
          refine r_getR (j := 46) dX6_house_30 k_X6_45 rfl (by decide) rfl rfl ?_
          refine r_iconst (v := 0) dX6_house_33 (by decide) ?_
          refine r_putI dX6_house_34 k_X6_134 rfl (by decide) rfl rfl rfl rfl ?_
          refine r_iload_n dX6_house_37 rfl ?_
          refine r_if_lt (tgt := 46) dX6_house_38 (by decide) (fun c_38 => ?_) (fun c_38 => ?_)
          · refine r_aload_n dX6_house_46 rfl ?_
            refine r_getR (j := 1) dX6_house_47 k_X6_12 rfl (by decide) rfl rfl ?_
            refine r_aload_n dX6_house_50 rfl ?_
            refine r_getI dX6_house_51 k_X6_69 rfl (by decide) rfl ?_
            rw [setI_ne (by decide), k0]
            refine r_putI dX6_house_54 k_X6_145 rfl (by decide) rfl rfl rfl rfl ?_
            refine r_aload_n dX6_house_57 rfl ?_
            refine r_dup dX6_house_58 rfl ?_
            refine r_getI dX6_house_59 k_X6_69 rfl (by decide) rfl ?_
            rw [setI_ne (by decide), setI_ne (by decide), k0]
            refine r_iconst (v := 1) dX6_house_62 (by decide) ?_
            refine r_iadd dX6_house_63 ?_
            rw [nI_1]
            refine r_putI dX6_house_64 k_X6_69 rfl (by decide) rfl rfl rfl rfl ?_
            refine r_aload_n dX6_house_67 rfl ?_
            refine r_getR (j := 1) dX6_house_68 k_X6_12 rfl (by decide) rfl rfl ?_
            refine r_getI dX6_house_71 k_X6_145 rfl (by decide) rfl ?_
            rw [setI_ne (by decide), setI_at]
            refine r_ireturn dX6_house_74 ⟨_, rfl, rfl⟩ ?_
            refine ⟨fun y => absurd y h6, fun _ => ⟨fun b2 y => (by cases y), fun L2 b2 y => ?_, ?_, fun a i z1 z2 z3 z4 => ?_, y3.2.1, y3.2.2⟩⟩
            · cases y
              refine ⟨rfl, setI_at, by rw [setI_ne (by decide), setI_at], DHs.eq yD (fun a z1 z2 => funext fun i => ?_), yl, ym⟩
              rw [setI_ne (by omega), setI_ne (by omega), setI_ne (by omega)]
            · rw [setI_ne (by decide), setI_ne (by decide), setI_at]
            · rw [setI_1, if_neg z3, setI_1, if_neg z4, setI_1, if_neg z2, y3.1 _ _ z1]
          · exact absurd (by decide) c_38
        · exact absurd (nI_lt (b := 6) (by omega) (by omega)) c_6
