theorem tX_none_at {X : Tx} {a b : Nat} (ha : a ≤ X.1) (h : tX X a = (none, b)) : a ≤ b ∧ b ≤ X.1 := by
  unfold tX at h
  split at h
  · cases h; omega
  · rename_i f9 hf9
    have := nx_in2 (X := X) (a := a) (plc_lt hf9).1
    split at h
    · rename_i q9
      have := nx_in2 (X := X) (a := a + 1) (by omega)
      split at h
      · cases h; omega
      · cases h
    · cases h; omega
theorem one_56 {G : WT} {l : Launch} (hG : GOK G) {d k b : Nat} {g : Hp} {X : Tx} {x2 x3 : Value} {Q : Option Value → Hp → Prop} (hd : 9 ≤ d) (D : DAt g X b) (k1 : nx X b = 41 → Q (some (.int 1)) (setI g 46 2 (nI (b + 1)))) (k2 : ¬ nx X b = 41 → Q (some (.int 0)) g) : Wp G l d RX2 cX2_readOne 4 (some .boolean) 56 [.ref (gA G 46), .int (nI k), x2, x3] [] g Q := by
  by_cases h41 : nx X b = 41
  · refine r_aload_n dX2_readOne_56 rfl ?_
    refine r_bipush (v := 41) dX2_readOne_57 (by decide) ?_
    rw [show (41 : Int32) = nI 41 from rfl]
    refine r_callV dX2_readOne_59 l_X2_47 o_X2_takes v_X2_takes rfl (by decide) rfl rfl (m_X2_takes hG D (c := 41) (by omega)) (by omega) rfl (Nat.le_of_ble_eq_true rfl) (fun r59 h59 hq59 => ?_)
    obtain ⟨rfl, rfl⟩ := hq59.1 h41
    refine r_if_eq (tgt := 69) dX2_readOne_62 (by decide) (fun c_62 => ?_) (fun c_62 => ?_)
    · exact absurd c_62 (by decide)
    · refine r_iconst (v := 1) dX2_readOne_65 (by decide) ?_
      refine r_goto (tgt := 70) dX2_readOne_66 (by decide) ?_
      refine r_ireturn dX2_readOne_70 ⟨_, rfl, rfl⟩ ?_
      exact k1 h41
  · refine r_aload_n dX2_readOne_56 rfl ?_
    refine r_bipush (v := 41) dX2_readOne_57 (by decide) ?_
    rw [show (41 : Int32) = nI 41 from rfl]
    refine r_callV dX2_readOne_59 l_X2_47 o_X2_takes v_X2_takes rfl (by decide) rfl rfl (m_X2_takes hG D (c := 41) (by omega)) (by omega) rfl (Nat.le_of_ble_eq_true rfl) (fun r59 h59 hq59 => ?_)
    obtain ⟨rfl, rfl⟩ := hq59.2 h41
    refine r_if_eq (tgt := 69) dX2_readOne_62 (by decide) (fun c_62 => ?_) (fun c_62 => ?_)
    · refine r_iconst (v := 0) dX2_readOne_69 (by decide) ?_
      refine r_ireturn dX2_readOne_70 ⟨_, rfl, rfl⟩ ?_
      exact k2 h41
    · exact absurd rfl c_62
theorem one_c {G : WT} {l : Launch} (hG : GOK G) {q d m k : Nat} (hq : ksh q = 1) (hk : m + k = 4) (hd : 9 ≤ d) (hO : 0 < m → ∃ e, e < d ∧ OneC G l q e (k + 1)) (hE : 0 < m → ∃ e, e < d ∧ EithC G l q e (k + 1)) : OneC G l q d k := by
  intro h X a acc hh H HB hl
  have hX := H.2.1.1
  have ha := H.2.2.2
  refine Cl.of hG (by decide) (Nat.le_of_ble_eq_true rfl) ?_
  show Wp G l d RX2 cX2_readOne 4 (some .boolean) 0 [.ref (gA G 46), .int (nI k), mk0, mk0] [] h _
  have N0 : ∃ n, n ≤ 100 ∧ h.1 q 8 = nI n := ⟨_, by omega, HB.1⟩
  have deep : ∀ (b : Bool) (x3 : Value), (nx X a = 33 ∨ nx X a = 40) → m = 0 → Wp G l d RX2 cX2_readOne 4 (some .boolean) 25 [.ref (gA G 46), .int (nI k), .int (b01 b), x3] [] h (fun r h' => QPost X q k a acc h r h') := by
    intro b x3 ho hm
    refine r_iload_n dX2_readOne_25 rfl ?_
    refine r_iconst (v := 4) dX2_readOne_26 (by decide) ?_
    refine r_icmp_lt (tgt := 32) dX2_readOne_27 (by decide) (fun c_27 => ?_) (fun c_27 => ?_)
    · exact absurd ((nI_lt' (b := 4) (by omega) (by omega)).mp c_27) (by omega)
    · refine r_iconst (v := 0) dX2_readOne_30 (by decide) ?_
      refine r_ireturn dX2_readOne_31 ⟨_, rfl, rfl⟩ ?_
      exact ⟨false, a, rfl, H, Nat.le_refl _, Fr.rf, N0, fun _ K ac e1 => stp_deep ho (by omega), fun e => (by cases e)⟩
  by_cases h33 : nx X a = 33
  · by_cases hm : m = 0
    · refine r_aload_n dX2_readOne_0 rfl ?_
      refine r_bipush (v := 33) dX2_readOne_1 (by decide) ?_
      rw [show (33 : Int32) = nI 33 from rfl]
      refine r_callV dX2_readOne_3 l_X2_39 o_X2_sees v_X2_sees rfl (by decide) rfl rfl (m_X2_sees hG H (c := 33) (by omega)) (by omega) rfl (Nat.le_of_ble_eq_true rfl) (fun r3 h3 hq3 => ?_)
      obtain ⟨rfl, rfl⟩ := hq3
      rw [decide_eq_true h33]
      refine r_istore_n dX2_readOne_6 (by decide) rfl rfl ?_
      dsimp only [List.set]
      refine r_iload_n dX2_readOne_7 rfl ?_
      refine r_if_ne (tgt := 25) dX2_readOne_8 (by decide) (fun c_8 => ?_) (fun c_8 => ?_)
      · exact deep true _ (Or.inl h33) hm
      · exact absurd c_8 (by decide)
    · obtain ⟨e, he, hC⟩ := hO (by omega)
      have a1 := nx_in2 (X := X) (a := a) (by omega)
      have H1 := H.mv (b := a + 1) a1
      have F1 : Fr dnF h (setI h 46 2 (nI (a + 1))) := Fr.set rfl
      have B1 := HB.dn hq F1
      have k1 := hC (setI h 46 2 (nI (a + 1))) X (a + 1) acc hh H1 B1 (by omega)
      refine r_aload_n dX2_readOne_0 rfl ?_
      refine r_bipush (v := 33) dX2_readOne_1 (by decide) ?_
      rw [show (33 : Int32) = nI 33 from rfl]
      refine r_callV dX2_readOne_3 l_X2_39 o_X2_sees v_X2_sees rfl (by decide) rfl rfl (m_X2_sees hG H (c := 33) (by omega)) (by omega) rfl (Nat.le_of_ble_eq_true rfl) (fun r3 h3 hq3 => ?_)
      obtain ⟨rfl, rfl⟩ := hq3
      rw [decide_eq_true h33]
      refine r_istore_n dX2_readOne_6 (by decide) rfl rfl ?_
      dsimp only [List.set]
      refine r_iload_n dX2_readOne_7 rfl ?_
      refine r_if_ne (tgt := 25) dX2_readOne_8 (by decide) (fun c_8 => ?_) (fun c_8 => ?_)
      · refine r_iload_n dX2_readOne_25 rfl ?_
        refine r_iconst (v := 4) dX2_readOne_26 (by decide) ?_
        refine r_icmp_lt (tgt := 32) dX2_readOne_27 (by decide) (fun c_27 => ?_) (fun c_27 => ?_)
        · refine r_aload_n dX2_readOne_32 rfl ?_
          refine r_dup dX2_readOne_33 rfl ?_
          refine r_getI dX2_readOne_34 k_X2_19 rfl (by decide) rfl ?_
          refine r_iconst (v := 1) dX2_readOne_37 (by decide) ?_
          refine r_iadd dX2_readOne_38 ?_
          rw [H.2.2.1, nI_1]
          refine r_putI dX2_readOne_39 k_X2_19 rfl (by decide) rfl rfl rfl rfl ?_
          refine r_iload_n dX2_readOne_42 rfl ?_
          refine r_if_ne (tgt := 71) dX2_readOne_43 (by decide) (fun c_43 => ?_) (fun c_43 => ?_)
          · refine r_aload_n dX2_readOne_71 rfl ?_
            refine r_iload_n dX2_readOne_72 rfl ?_
            refine r_iconst (v := 1) dX2_readOne_73 (by decide) ?_
            refine r_iadd dX2_readOne_74 ?_
            rw [nI_1]
            refine r_callV dX2_readOne_75 l_X2_100 o_X2_readOne v_X2_readOne rfl (by decide) rfl rfl (k1) (by omega) rfl (Nat.le_of_ble_eq_true rfl) (fun r75 h75 hq75 => ?_)
            obtain ⟨good, b, rfl, H2, hab, F2, ⟨n, hn, n2⟩, f2, g2⟩ := hq75
            have hh2 : h75.2.2 46 4 = q := by rw [F2.2]; exact hh
            have hb9 := H2.2.2.2
            refine r_istore_n dX2_readOne_78 (by decide) rfl rfl ?_
            dsimp only [List.set]
            refine r_aload_n dX2_readOne_79 rfl ?_
            refine r_getR (j := q) dX2_readOne_80 k_X2_28 rfl (by decide) rfl hh2 ?_
            refine r_iconst (v := 1) dX2_readOne_83 (by decide) ?_
            refine r_callV dX2_readOne_84 l_X2_96 o_X1_addSign v_X1_addSign (by assumption) (by decide) rfl rfl (m_X1_addSign hG hq hn n2) (by omega) rfl (Nat.le_of_ble_eq_true rfl) (fun r84 h84 hq84 => ?_)
            obtain ⟨rfl, rfl⟩ := hq84
            have F3 : Fr (dbF q) h75 (if n < 100 then setI (setI h75 (q + 4) n 1) q 8 (nI (n + 1)) else h75) := add_F
            have H3 := H2.db hq F3
            have F4 := ((dn_ds F1).tr F2).tr (db_ds F3)
            have N3 := add_n (s := 1) hn n2
            refine r_iload_n dX2_readOne_87 rfl ?_
            refine r_ireturn dX2_readOne_88 ⟨_, rfl, (b01_nar _)⟩ ?_
            refine ⟨good, b, rfl, H3, by omega, F4, N3, fun e9 K ac e1 => ?_, fun e9 => ?_⟩
            · rw [stp_open (Or.inl h33) (by omega), h33]
              exact f2 e9 (33 :: K) ac (by rw [opn_cons, if_pos (Or.inl rfl), e1])
            · obtain ⟨cs, z1, z2, z3⟩ := g2 e9
              have el : (acc ++ cs).length = n := by
                have := z1.1
                rw [n2] at this
                exact ((nI_eq' (by omega) (by rw [List.length_append]; omega)).mp this).symm
              have z5 := z1.add (t := -33) (by rw [List.length_append]; omega) (Or.inl rfl)
              rw [el] at z5
              refine ⟨cs ++ [-33], by rw [← List.append_assoc]; exact z5, by rw [List.length_append]; show cs.length + 1 + a ≤ b; omega, fun K ac e1 => ?_⟩
              rw [stp_open (Or.inl h33) (by omega), h33, z3 (33 :: K) ac (by rw [opn_cons, if_pos (Or.inl rfl), e1]), whS_eq, List.append_assoc]
          · exact absurd c_43 (by decide)
        · exact absurd (nI_lt (b := 4) (by omega) (by omega)) c_27
      · exact absurd c_8 (by decide)
  · by_cases h40 : nx X a = 40
    · by_cases hm : m = 0
      · refine r_aload_n dX2_readOne_0 rfl ?_
        refine r_bipush (v := 33) dX2_readOne_1 (by decide) ?_
        rw [show (33 : Int32) = nI 33 from rfl]
        refine r_callV dX2_readOne_3 l_X2_39 o_X2_sees v_X2_sees rfl (by decide) rfl rfl (m_X2_sees hG H (c := 33) (by omega)) (by omega) rfl (Nat.le_of_ble_eq_true rfl) (fun r3 h3 hq3 => ?_)
        obtain ⟨rfl, rfl⟩ := hq3
        rw [decide_eq_false h33]
        refine r_istore_n dX2_readOne_6 (by decide) rfl rfl ?_
        dsimp only [List.set]
        refine r_iload_n dX2_readOne_7 rfl ?_
        refine r_if_ne (tgt := 25) dX2_readOne_8 (by decide) (fun c_8 => ?_) (fun c_8 => ?_)
        · exact absurd rfl c_8
        · refine r_aload_n dX2_readOne_11 rfl ?_
          refine r_bipush (v := 40) dX2_readOne_12 (by decide) ?_
          rw [show (40 : Int32) = nI 40 from rfl]
          refine r_callV dX2_readOne_14 l_X2_39 o_X2_sees v_X2_sees rfl (by decide) rfl rfl (m_X2_sees hG H (c := 40) (by omega)) (by omega) rfl (Nat.le_of_ble_eq_true rfl) (fun r14 h14 hq14 => ?_)
          obtain ⟨rfl, rfl⟩ := hq14
          rw [decide_eq_true h40]
          refine r_if_ne (tgt := 25) dX2_readOne_17 (by decide) (fun c_17 => ?_) (fun c_17 => ?_)
          · exact deep false _ (Or.inr h40) hm
          · exact absurd c_17 (by decide)
      · obtain ⟨e, he, hC⟩ := hE (by omega)
        have a1 := nx_in2 (X := X) (a := a) (by omega)
        have H1 := H.mv (b := a + 1) a1
        have F1 : Fr dnF h (setI h 46 2 (nI (a + 1))) := Fr.set rfl
        have B1 := HB.dn hq F1
        have k1 := hC (setI h 46 2 (nI (a + 1))) X (a + 1) acc hh H1 B1 (by omega)
        refine r_aload_n dX2_readOne_0 rfl ?_
        refine r_bipush (v := 33) dX2_readOne_1 (by decide) ?_
        rw [show (33 : Int32) = nI 33 from rfl]
        refine r_callV dX2_readOne_3 l_X2_39 o_X2_sees v_X2_sees rfl (by decide) rfl rfl (m_X2_sees hG H (c := 33) (by omega)) (by omega) rfl (Nat.le_of_ble_eq_true rfl) (fun r3 h3 hq3 => ?_)
        obtain ⟨rfl, rfl⟩ := hq3
        rw [decide_eq_false h33]
        refine r_istore_n dX2_readOne_6 (by decide) rfl rfl ?_
        dsimp only [List.set]
        refine r_iload_n dX2_readOne_7 rfl ?_
        refine r_if_ne (tgt := 25) dX2_readOne_8 (by decide) (fun c_8 => ?_) (fun c_8 => ?_)
        · exact absurd rfl c_8
        · refine r_aload_n dX2_readOne_11 rfl ?_
          refine r_bipush (v := 40) dX2_readOne_12 (by decide) ?_
          rw [show (40 : Int32) = nI 40 from rfl]
          refine r_callV dX2_readOne_14 l_X2_39 o_X2_sees v_X2_sees rfl (by decide) rfl rfl (m_X2_sees hG H (c := 40) (by omega)) (by omega) rfl (Nat.le_of_ble_eq_true rfl) (fun r14 h14 hq14 => ?_)
          obtain ⟨rfl, rfl⟩ := hq14
          rw [decide_eq_true h40]
          refine r_if_ne (tgt := 25) dX2_readOne_17 (by decide) (fun c_17 => ?_) (fun c_17 => ?_)
          · refine r_iload_n dX2_readOne_25 rfl ?_
            refine r_iconst (v := 4) dX2_readOne_26 (by decide) ?_
            refine r_icmp_lt (tgt := 32) dX2_readOne_27 (by decide) (fun c_27 => ?_) (fun c_27 => ?_)
            · refine r_aload_n dX2_readOne_32 rfl ?_
              refine r_dup dX2_readOne_33 rfl ?_
              refine r_getI dX2_readOne_34 k_X2_19 rfl (by decide) rfl ?_
              refine r_iconst (v := 1) dX2_readOne_37 (by decide) ?_
              refine r_iadd dX2_readOne_38 ?_
              rw [H.2.2.1, nI_1]
              refine r_putI dX2_readOne_39 k_X2_19 rfl (by decide) rfl rfl rfl rfl ?_
              refine r_iload_n dX2_readOne_42 rfl ?_
              refine r_if_ne (tgt := 71) dX2_readOne_43 (by decide) (fun c_43 => ?_) (fun c_43 => ?_)
              · exact absurd rfl c_43
              · refine r_aload_n dX2_readOne_46 rfl ?_
                refine r_iload_n dX2_readOne_47 rfl ?_
                refine r_iconst (v := 1) dX2_readOne_48 (by decide) ?_
                refine r_iadd dX2_readOne_49 ?_
                rw [nI_1]
                refine r_callV dX2_readOne_50 l_X2_53 o_X2_readEither v_X2_readEither rfl (by decide) rfl rfl (k1) (by omega) rfl (Nat.le_of_ble_eq_true rfl) (fun r50 h50 hq50 => ?_)
                obtain ⟨good, b, rfl, H2, hab, F2, N2, f2, g2⟩ := hq50
                have hb9 := H2.2.2.2
                refine r_if_eq (tgt := 69) dX2_readOne_53 (by decide) (fun c_53 => ?_) (fun c_53 => ?_)
                · have e9 : good = false := b01_0.mp c_53
                  refine r_iconst (v := 0) dX2_readOne_69 (by decide) ?_
                  refine r_ireturn dX2_readOne_70 ⟨_, rfl, rfl⟩ ?_
                  refine ⟨false, b, rfl, H2, by omega, (dn_ds F1).tr F2, N2, fun _ K ac e1 => ?_, fun e => (by cases e)⟩
                  rw [stp_open (Or.inr h40) (by omega), h40]
                  exact f2 e9 (40 :: K) ac (by rw [opn_cons, if_pos (Or.inr rfl), e1]) rfl
                · have e9 : good = true := b01_n0.mp c_53
                  obtain ⟨cs, z1, z2, z3, z4⟩ := g2 e9
                  refine one_56 hG hd H2 (fun h41 => ?_) (fun h41 => ?_)
                  · have b1 := nx_in2 (X := X) (a := b) (by omega)
                    have F3 : Fr dnF h50 (setI h50 46 2 (nI (b + 1))) := Fr.set rfl
                    refine ⟨true, b + 1, rfl, H2.mv b1, by omega, ((dn_ds F1).tr F2).tr (dn_ds F3), ?_, fun e => (by cases e), fun _ => ⟨cs, z1.dn hq F3, by omega, fun K ac e1 => ?_⟩⟩
                    · obtain ⟨n, hn, n2⟩ := N2
                      exact ⟨n, hn, by rw [len_dn hq F3]; exact n2⟩
                    · rw [stp_open (Or.inr h40) (by omega), h40, z4 (40 :: K) ac (by rw [opn_cons, if_pos (Or.inr rfl), e1]) rfl]
                      exact (stp_close (d := 40) (K2 := K) h41 (by rw [stS_keep (by decide)])).trans (by rw [stS_keep (by decide)])
                  · refine ⟨false, b, rfl, H2, by omega, (dn_ds F1).tr F2, N2, fun _ K ac e1 => ?_, fun e => (by cases e)⟩
                    rw [stp_open (Or.inr h40) (by omega), h40, z4 (40 :: K) ac (by rw [opn_cons, if_pos (Or.inr rfl), e1]) rfl]
                    exact stp_left (d := 40) (K2 := K) (by omega) h41 (by rw [stS_keep (by decide)])
            · exact absurd (nI_lt (b := 4) (by omega) (by omega)) c_27
          · exact absurd c_17 (by decide)
    · have ho : ¬ (nx X a = 33 ∨ nx X a = 40) := by omega
      refine r_aload_n dX2_readOne_0 rfl ?_
      refine r_bipush (v := 33) dX2_readOne_1 (by decide) ?_
      rw [show (33 : Int32) = nI 33 from rfl]
      refine r_callV dX2_readOne_3 l_X2_39 o_X2_sees v_X2_sees rfl (by decide) rfl rfl (m_X2_sees hG H (c := 33) (by omega)) (by omega) rfl (Nat.le_of_ble_eq_true rfl) (fun r3 h3 hq3 => ?_)
      obtain ⟨rfl, rfl⟩ := hq3
      rw [decide_eq_false h33]
      refine r_istore_n dX2_readOne_6 (by decide) rfl rfl ?_
      dsimp only [List.set]
      refine r_iload_n dX2_readOne_7 rfl ?_
      refine r_if_ne (tgt := 25) dX2_readOne_8 (by decide) (fun c_8 => ?_) (fun c_8 => ?_)
      · exact absurd rfl c_8
      · refine r_aload_n dX2_readOne_11 rfl ?_
        refine r_bipush (v := 40) dX2_readOne_12 (by decide) ?_
        rw [show (40 : Int32) = nI 40 from rfl]
        refine r_callV dX2_readOne_14 l_X2_39 o_X2_sees v_X2_sees rfl (by decide) rfl rfl (m_X2_sees hG H (c := 40) (by omega)) (by omega) rfl (Nat.le_of_ble_eq_true rfl) (fun r14 h14 hq14 => ?_)
        obtain ⟨rfl, rfl⟩ := hq14
        rw [decide_eq_false h40]
        refine r_if_ne (tgt := 25) dX2_readOne_17 (by decide) (fun c_17 => ?_) (fun c_17 => ?_)
        · exact absurd rfl c_17
        · refine r_aload_n dX2_readOne_20 rfl ?_
          refine r_callV dX2_readOne_21 l_X2_103 o_X2_readTest v_X2_readTest rfl (by decide) rfl rfl (m_X2_readTest hG hq hh H HB (by omega)) (by omega) rfl (Nat.le_of_ble_eq_true rfl) (fun r21 h21 hq21 => ?_)
          obtain ⟨t1, t2, t3, t4⟩ := hq21
          cases ht : tX X a with
          | mk o b =>
            cases o with
            | none =>
              obtain ⟨rfl, D1, D2⟩ := t1 b ht
              refine r_ireturn dX2_readOne_24 ⟨_, rfl, rfl⟩ ?_
              have := tX_none_at ha ht
              exact ⟨false, b, rfl, D1, by omega, t3, ⟨_, by omega, D2.1⟩, fun _ K ac e1 => stp_fail ho ht, fun e => (by cases e)⟩
            | some t =>
              obtain ⟨rfl, D1, D2⟩ := t2 t b ht
              have tb := tX_at ht
              refine r_ireturn dX2_readOne_24 ⟨_, rfl, rfl⟩ ?_
              exact ⟨true, b, rfl, D1, by omega, t3, ⟨_, (by rw [List.length_append]; show acc.length + 1 ≤ 100; omega), D2.1⟩, fun e => (by cases e), fun _ => ⟨[t], D2, by show 1 + a ≤ b; omega, fun K ac e1 => stp_test ho ht⟩⟩
theorem rec_c {G : WT} {l : Launch} (hG : GOK G) {q : Nat} (hq : ksh q = 1) : ∀ (m k : Nat), m + k = 4 → OneC G l q (3 * m + 9) k ∧ EithC G l q (3 * m + 9 + 1 + 1) k := by
  intro m
  induction m with
  | zero =>
    intro k hk
    have h1 : OneC G l q (3 * 0 + 9) k := one_c hG hq hk (by omega) (fun y => absurd y (by omega)) (fun y => absurd y (by omega))
    exact ⟨h1, eith_c hG hq (by omega) (both_c hG hq (by omega) h1.u)⟩
  | succ m ih =>
    intro k hk
    obtain ⟨i1, i2⟩ := ih (k + 1) (by omega)
    have h1 : OneC G l q (3 * (m + 1) + 9) k := one_c hG hq hk (by omega) (fun _ => ⟨_, by omega, i1⟩) (fun _ => ⟨_, by omega, i2⟩)
    exact ⟨h1, eith_c hG hq (by omega) (both_c hG hq (by omega) h1.u)⟩
theorem m_X2_readEither {G : WT} {l : Launch} (hG : GOK G) {q a : Nat} {h : Hp} {X : Tx} {acc : List Int} (hq : ksh q = 1) (hh : h.2.2 46 4 = q) (H : DAt h X a) (HB : DBl h q acc) (hl : acc.length < a) : Cl G l 23 yX2_readEither cX2_readEither 4 (some .boolean) [.ref (gA G 46), .int (nI 0)] h (fun r h' => RPost X q 0 a acc (fun K => hdS K = 40) (fun c => ¬ c = 38 ∧ ¬ c = 124) h r h') := (rec_c hG hq 4 0 rfl).2 h X a acc hh H HB hl
