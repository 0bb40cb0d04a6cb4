/-! a test, and what is joined of tests -/
theorem ix_let : ∀ c, c < 128 → ixF (nI c) (bytS.getD 5 []) 0 = (match plcS c with | some f => nI f | none => -1) := by decide +kernel
theorem ix_rel : ∀ c, c < 128 → ixF (nI c) (bytS.getD 6 []) 0 = (if 60 ≤ c ∧ c ≤ 62 then nI (c - 60) else -1) := by decide +kernel
def dsF (q a i : Nat) : Bool := dbF q a i || dnF a i
theorem dn_ds {q : Nat} {h h' : Hp} (H : Fr dnF h h') : Fr (dsF q) h h' := H.wk (fun x i y => by simp only [dsF, Bool.or_eq_false_iff] at y; exact y.2)
theorem db_ds {q : Nat} {h h' : Hp} (H : Fr (dbF q) h h') : Fr (dsF q) h h' := H.wk (fun x i y => by simp only [dsF, Bool.or_eq_false_iff] at y; exact y.1)
theorem DAt.db {q a : Nat} {X : Tx} {h h' : Hp} (hq : ksh q = 1) (H : DAt h X a) (hF : Fr (dbF q) h h') : DAt h' X a := by
  obtain ⟨k, k1, rfl⟩ := hs_at hq
  exact H.fr hF (by simp [dbF]; omega) (fun _ => by simp [dbF]; omega) (by simp [dbF]; omega)
theorem DBl.dn {q : Nat} {acc : List Int} {h h' : Hp} (hq : ksh q = 1) (H : DBl h q acc) (hF : Fr dnF h h') : DBl h' q acc := by
  obtain ⟨k, k1, rfl⟩ := hs_at hq
  refine ⟨by rw [hF.1 _ _ (by simp [dnF])]; exact H.1, fun j t e => (H.2 j t e).eq (fun a h1 h2 => ?_)⟩
  rw [hF.1 _ _ (by simp [dnF]; omega)]
theorem ds_n {q a i : Nat} (h : dsF q a i = false) : True := trivial
theorem len_dn {q : Nat} {h h' : Hp} (hq : ksh q = 1) (hF : Fr dnF h h') : h'.1 q 8 = h.1 q 8 := by
  obtain ⟨k, k1, rfl⟩ := hs_at hq
  exact hF.1 _ _ (by simp [dnF])
/-- what a test's reading leaves -/
def TPost (X : Tx) (q a : Nat) (acc : List Int) (h : Hp) (r : Option Value) (h' : Hp) : Prop := (∀ b, tX X a = (none, b) → r = some (.int 0) ∧ DAt h' X b ∧ DBl h' q acc) ∧ (∀ t b, tX X a = (some t, b) → r = some (.int 1) ∧ DAt h' X b ∧ DBl h' q (acc ++ [t])) ∧ Fr (dsF q) h h' ∧ h'.2 = h.2
set_option maxRecDepth 100000 in
theorem m_X2_readTest {G : WT} {l : Launch} (hG : GOK G) {h : Hp} {X : Tx} {a q : Nat} {acc : List Int} (hq : ksh q = 1) (hh : h.2.2 46 4 = q) (H : DAt h X a) (HB : DBl h q acc) (hl : acc.length < 100) : Cl G l 8 yX2_readTest cX2_readTest 3 (some .boolean) [.ref (gA G 46)] h (fun r h' => TPost X q a acc h r h') := by
  refine Cl.of hG (by decide) (Nat.le_of_ble_eq_true rfl) ?_
  show Wp G l 8 RX2 cX2_readTest 3 (some .boolean) 0 [.ref (gA G 46), mk0, mk0] [] h _
  have hX := H.2.1.1
  have ha := H.2.2.2
  have at36 : ∀ (f : Nat), plcS (nx X a) = some f → Wp G l 8 RX2 cX2_readTest 3 (some .boolean) 36 [.ref (gA G 46), .int (nI f), mk0] [] h (TPost X q a acc h) := by
    intro f hf
    obtain ⟨hc1, hf5⟩ := plc_lt hf
    have a1 := nx_in2 (X := X) (a := a) hc1
    have H1 := H.mv (b := a + 1) a1
    have F1 : Fr dnF h (setI h 46 2 (nI (a + 1))) := Fr.set rfl
    have B1 := HB.dn hq F1
    have e := tX_s hf
    have fail : ∀ (g : Hp) (b : Nat), tX X a = (none, b) → DAt g X b → DBl g q acc → Fr (dsF q) h g → TPost X q a acc h (some (.int 0)) g := fun g b e1 D1 D2 F => ⟨fun b2 y => (by rw [e1] at y; cases y; exact ⟨rfl, D1, D2⟩), fun t b2 y => (by rw [e1] at y; cases y), F, F.2⟩
    by_cases hr : 60 ≤ nx X (a + 1) ∧ nx X (a + 1) ≤ 62
    · rw [if_pos hr] at e
      have a2 := nx_in2 (X := X) (a := a + 1) (by omega)
      have en : nx X (a + 1) = X.2 (a + 1) := by rw [nx, if_pos a2]
      have H2 := H1.mv (b := a + 2) a2
      have F2 : Fr dnF (setI h 46 2 (nI (a + 1))) (setI (setI h 46 2 (nI (a + 1))) 46 2 (nI (a + 2))) := Fr.set rfl
      have B2 := B1.dn hq F2
      cases hn : numS X (a + 2) with
      | none =>
        rw [hn] at e
        refine r_aload_n dX2_readTest_36 rfl ?_
        refine r_dup dX2_readTest_37 rfl ?_
        refine r_getI dX2_readTest_38 k_X2_19 rfl (by decide) rfl ?_
        refine r_iconst (v := 1) dX2_readTest_41 (by decide) ?_
        refine r_iadd dX2_readTest_42 ?_
        rw [H.2.2.1, nI_1]
        refine r_putI dX2_readTest_43 k_X2_19 rfl (by decide) rfl rfl rfl rfl ?_
        refine r_aload_n dX2_readTest_46 rfl ?_
        refine r_getI dX2_readTest_47 k_X2_19 rfl (by decide) rfl ?_
        refine r_aload_n dX2_readTest_50 rfl ?_
        refine r_getI dX2_readTest_51 k_X2_15 rfl (by decide) rfl ?_
        rw [H1.2.2.1, H1.1.1]
        refine r_icmp_ge (tgt := 74) dX2_readTest_54 (by decide) (fun c_54 => ?_) (fun c_54 => ?_)
        · exact absurd c_54 (nI_ge (by omega) (by omega))
        · refine r_ldcS 6 dX2_readTest_57 rfl (by decide) rfl ?_
          refine r_aload_n dX2_readTest_59 rfl ?_
          refine r_getR (j := 47) dX2_readTest_60 k_X2_9 rfl (by decide) rfl rfl ?_
          refine r_aload_n dX2_readTest_63 rfl ?_
          refine r_getI dX2_readTest_64 k_X2_19 rfl (by decide) rfl ?_
          refine r_cald (a + 1) dX2_readTest_67 rfl H1.2.2.1 (show a + 1 < 100 by omega) ?_
          rw [H1.1.2 (a + 1) a2, ← en]
          refine r_callT dX2_readTest_68 l_X2_108 o_J0_indexOf_0f7a4 v_J0_indexOf_0f7a4 (by first | decide | assumption) rfl rfl (m_J0_indexOf_0f7a4 hG (i := 6) (n := nx X (a + 1)) (by decide) (by omega)) (by decide) rfl (Nat.le_of_ble_eq_true rfl) (fun r68 h68 hq68 => ?_)
          obtain ⟨rfl, rfl⟩ := hq68
          rw [ix_rel _ (by omega), if_pos hr]
          refine r_goto (tgt := 75) dX2_readTest_71 (by decide) ?_
          refine r_istore_n dX2_readTest_75 (by decide) rfl rfl ?_
          dsimp only [List.set]
          refine r_iload_n dX2_readTest_76 rfl ?_
          refine r_if_ge (tgt := 82) dX2_readTest_77 (by decide) (fun c_77 => ?_) (fun c_77 => ?_)
          · refine r_aload_n dX2_readTest_82 rfl ?_
            refine r_dup dX2_readTest_83 rfl ?_
            refine r_getI dX2_readTest_84 k_X2_19 rfl (by decide) rfl ?_
            refine r_iconst (v := 1) dX2_readTest_87 (by decide) ?_
            refine r_iadd dX2_readTest_88 ?_
            rw [H1.2.2.1, nI_1]
            refine r_putI dX2_readTest_89 k_X2_19 rfl (by decide) rfl rfl rfl rfl ?_
            refine r_aload_n dX2_readTest_92 rfl ?_
            refine r_callV dX2_readTest_93 l_X2_50 o_X2_readNumber v_X2_readNumber rfl (by decide) rfl rfl (m_X2_readNumber hG H2) (by decide) rfl (Nat.le_of_ble_eq_true rfl) (fun r93 h93 hq93 => ?_)
            obtain ⟨y1, y2, y3⟩ := hq93
            obtain ⟨rfl, D3⟩ := y1 hn
            refine r_if_ne (tgt := 101) dX2_readTest_96 (by decide) (fun c_96 => ?_) (fun c_96 => ?_)
            · exact absurd rfl c_96
            · refine r_iconst (v := 0) dX2_readTest_99 (by decide) ?_
              refine r_ireturn dX2_readTest_100 ⟨_, rfl, rfl⟩ ?_
              exact fail _ _ e D3 (B2.dn hq y3) (dn_ds ((F1.tr F2).tr y3))
          · exact absurd (nI_pos' (by omega)) c_77
      | some bv =>
        obtain ⟨b, v⟩ := bv
        rw [hn] at e
        have hv := num_at hn
        refine r_aload_n dX2_readTest_36 rfl ?_
        refine r_dup dX2_readTest_37 rfl ?_
        refine r_getI dX2_readTest_38 k_X2_19 rfl (by decide) rfl ?_
        refine r_iconst (v := 1) dX2_readTest_41 (by decide) ?_
        refine r_iadd dX2_readTest_42 ?_
        rw [H.2.2.1, nI_1]
        refine r_putI dX2_readTest_43 k_X2_19 rfl (by decide) rfl rfl rfl rfl ?_
        refine r_aload_n dX2_readTest_46 rfl ?_
        refine r_getI dX2_readTest_47 k_X2_19 rfl (by decide) rfl ?_
        refine r_aload_n dX2_readTest_50 rfl ?_
        refine r_getI dX2_readTest_51 k_X2_15 rfl (by decide) rfl ?_
        rw [H1.2.2.1, H1.1.1]
        refine r_icmp_ge (tgt := 74) dX2_readTest_54 (by decide) (fun c_54 => ?_) (fun c_54 => ?_)
        · exact absurd c_54 (nI_ge (by omega) (by omega))
        · refine r_ldcS 6 dX2_readTest_57 rfl (by decide) rfl ?_
          refine r_aload_n dX2_readTest_59 rfl ?_
          refine r_getR (j := 47) dX2_readTest_60 k_X2_9 rfl (by decide) rfl rfl ?_
          refine r_aload_n dX2_readTest_63 rfl ?_
          refine r_getI dX2_readTest_64 k_X2_19 rfl (by decide) rfl ?_
          refine r_cald (a + 1) dX2_readTest_67 rfl H1.2.2.1 (show a + 1 < 100 by omega) ?_
          rw [H1.1.2 (a + 1) a2, ← en]
          refine r_callT dX2_readTest_68 l_X2_108 o_J0_indexOf_0f7a4 v_J0_indexOf_0f7a4 (by first | decide | assumption) rfl rfl (m_J0_indexOf_0f7a4 hG (i := 6) (n := nx X (a + 1)) (by decide) (by omega)) (by decide) rfl (Nat.le_of_ble_eq_true rfl) (fun r68 h68 hq68 => ?_)
          obtain ⟨rfl, rfl⟩ := hq68
          rw [ix_rel _ (by omega), if_pos hr]
          refine r_goto (tgt := 75) dX2_readTest_71 (by decide) ?_
          refine r_istore_n dX2_readTest_75 (by decide) rfl rfl ?_
          dsimp only [List.set]
          refine r_iload_n dX2_readTest_76 rfl ?_
          refine r_if_ge (tgt := 82) dX2_readTest_77 (by decide) (fun c_77 => ?_) (fun c_77 => ?_)
          · refine r_aload_n dX2_readTest_82 rfl ?_
            refine r_dup dX2_readTest_83 rfl ?_
            refine r_getI dX2_readTest_84 k_X2_19 rfl (by decide) rfl ?_
            refine r_iconst (v := 1) dX2_readTest_87 (by decide) ?_
            refine r_iadd dX2_readTest_88 ?_
            rw [H1.2.2.1, nI_1]
            refine r_putI dX2_readTest_89 k_X2_19 rfl (by decide) rfl rfl rfl rfl ?_
            refine r_aload_n dX2_readTest_92 rfl ?_
            refine r_callV dX2_readTest_93 l_X2_50 o_X2_readNumber v_X2_readNumber rfl (by decide) rfl rfl (m_X2_readNumber hG H2) (by decide) rfl (Nat.le_of_ble_eq_true rfl) (fun r93 h93 hq93 => ?_)
            obtain ⟨y1, y2, y3⟩ := hq93
            obtain ⟨rfl, D3, v3⟩ := y2 b v hn
            have B3 := B2.dn hq y3
            have hh3 : h93.2.2 46 4 = q := by rw [y3.2]; exact hh
            refine r_if_ne (tgt := 101) dX2_readTest_96 (by decide) (fun c_96 => ?_) (fun c_96 => ?_)
            · refine r_aload_n dX2_readTest_101 rfl ?_
              refine r_getR (j := q) dX2_readTest_102 k_X2_28 rfl (by decide) rfl hh3 ?_
              refine r_iload_n dX2_readTest_105 rfl ?_
              refine r_iload_n dX2_readTest_106 rfl ?_
              refine r_aload_n dX2_readTest_107 rfl ?_
              refine r_getI dX2_readTest_108 k_X2_22 rfl (by decide) rfl ?_
              rw [v3]
              refine r_callV dX2_readTest_111 l_X2_114 o_X1_addTest v_X1_addTest (by assumption) (by decide) rfl rfl (m_X1_addTest hG hq hl (by omega) B3.1) (by decide) rfl (Nat.le_of_ble_eq_true rfl) (fun r111 h111 hq111 => ?_)
              obtain ⟨rfl, rfl⟩ := hq111
              have B4 := B3.test (f := f) (w := nx X (a + 1) - 60) (v := v) hl (by omega) hv.2.2.1
              have F4 : Fr (dbF q) h93 (setI (setI (setI (setI (setI h93 (q + 5) acc.length (nI f)) (q + 6) acc.length (lvS (nx X (a + 1) - 60) v)) (q + 7) acc.length (mvS (nx X (a + 1) - 60) v)) (q + 4) acc.length 0) q 8 (nI (acc.length + 1))) := ((((Fr.set (by simp [dbF])).tr (Fr.set (by simp [dbF]))).tr (Fr.set (by simp [dbF]))).tr (Fr.set (by simp [dbF]))).tr (Fr.set (by simp [dbF]))
              have F5 := (dn_ds (q := q) ((F1.tr F2).tr y3)).tr (db_ds F4)
              refine r_iconst (v := 1) dX2_readTest_114 (by decide) ?_
              refine r_ireturn dX2_readTest_115 ⟨_, rfl, rfl⟩ ?_
              exact ⟨fun b2 y => (by rw [e] at y; cases y), fun t b2 y => (by rw [e] at y; cases y; exact ⟨rfl, D3.db hq F4, B4⟩), F5, F5.2⟩
            · exact absurd c_96 (by decide)
          · exact absurd (nI_pos' (by omega)) c_77
    · rw [if_neg hr] at e
      by_cases a2 : a + 1 < X.1
      · have en : nx X (a + 1) = X.2 (a + 1) := by rw [nx, if_pos a2]
        have h128 := H.2.1.2 (a + 1) a2
        refine r_aload_n dX2_readTest_36 rfl ?_
        refine r_dup dX2_readTest_37 rfl ?_
        refine r_getI dX2_readTest_38 k_X2_19 rfl (by decide) rfl ?_
        refine r_iconst (v := 1) dX2_readTest_41 (by decide) ?_
        refine r_iadd dX2_readTest_42 ?_
        rw [H.2.2.1, nI_1]
        refine r_putI dX2_readTest_43 k_X2_19 rfl (by decide) rfl rfl rfl rfl ?_
        refine r_aload_n dX2_readTest_46 rfl ?_
        refine r_getI dX2_readTest_47 k_X2_19 rfl (by decide) rfl ?_
        refine r_aload_n dX2_readTest_50 rfl ?_
        refine r_getI dX2_readTest_51 k_X2_15 rfl (by decide) rfl ?_
        rw [H1.2.2.1, H1.1.1]
        refine r_icmp_ge (tgt := 74) dX2_readTest_54 (by decide) (fun c_54 => ?_) (fun c_54 => ?_)
        · exact absurd c_54 (nI_ge (by omega) (by omega))
        · refine r_ldcS 6 dX2_readTest_57 rfl (by decide) rfl ?_
          refine r_aload_n dX2_readTest_59 rfl ?_
          refine r_getR (j := 47) dX2_readTest_60 k_X2_9 rfl (by decide) rfl rfl ?_
          refine r_aload_n dX2_readTest_63 rfl ?_
          refine r_getI dX2_readTest_64 k_X2_19 rfl (by decide) rfl ?_
          refine r_cald (a + 1) dX2_readTest_67 rfl H1.2.2.1 (show a + 1 < 100 by omega) ?_
          rw [H1.1.2 (a + 1) a2, ← en]
          refine r_callT dX2_readTest_68 l_X2_108 o_J0_indexOf_0f7a4 v_J0_indexOf_0f7a4 (by first | decide | assumption) rfl rfl (m_J0_indexOf_0f7a4 hG (i := 6) (n := nx X (a + 1)) (by decide) (by omega)) (by decide) rfl (Nat.le_of_ble_eq_true rfl) (fun r68 h68 hq68 => ?_)
          obtain ⟨rfl, rfl⟩ := hq68
          rw [ix_rel _ (by omega), if_neg hr]
          refine r_goto (tgt := 75) dX2_readTest_71 (by decide) ?_
          refine r_istore_n dX2_readTest_75 (by decide) rfl rfl ?_
          dsimp only [List.set]
          refine r_iload_n dX2_readTest_76 rfl ?_
          refine r_if_ge (tgt := 82) dX2_readTest_77 (by decide) (fun c_77 => ?_) (fun c_77 => ?_)
          · exact absurd c_77 (by decide)
          · refine r_iconst (v := 0) dX2_readTest_80 (by decide) ?_
            refine r_ireturn dX2_readTest_81 ⟨_, rfl, rfl⟩ ?_
            exact fail _ _ e H1 B1 (dn_ds F1)
      · refine r_aload_n dX2_readTest_36 rfl ?_
        refine r_dup dX2_readTest_37 rfl ?_
        refine r_getI dX2_readTest_38 k_X2_19 rfl (by decide) rfl ?_
        refine r_iconst (v := 1) dX2_readTest_41 (by decide) ?_
        refine r_iadd dX2_readTest_42 ?_
        rw [H.2.2.1, nI_1]
        refine r_putI dX2_readTest_43 k_X2_19 rfl (by decide) rfl rfl rfl rfl ?_
        refine r_aload_n dX2_readTest_46 rfl ?_
        refine r_getI dX2_readTest_47 k_X2_19 rfl (by decide) rfl ?_
        refine r_aload_n dX2_readTest_50 rfl ?_
        refine r_getI dX2_readTest_51 k_X2_15 rfl (by decide) rfl ?_
        rw [H1.2.2.1, H1.1.1]
        refine r_icmp_ge (tgt := 74) dX2_readTest_54 (by decide) (fun c_54 => ?_) (fun c_54 => ?_)
        · refine r_iconst (v := -1) dX2_readTest_74 (by decide) ?_
          refine r_istore_n dX2_readTest_75 (by decide) rfl rfl ?_
          dsimp only [List.set]
          refine r_iload_n dX2_readTest_76 rfl ?_
          refine r_if_ge (tgt := 82) dX2_readTest_77 (by decide) (fun c_77 => ?_) (fun c_77 => ?_)
          · exact absurd c_77 (by decide)
          · refine r_iconst (v := 0) dX2_readTest_80 (by decide) ?_
            refine r_ireturn dX2_readTest_81 ⟨_, rfl, rfl⟩ ?_
            exact fail _ _ e H1 B1 (dn_ds F1)
        · exact absurd (nI_le (by omega) (by omega)) c_54
  have bad : plcS (nx X a) = none → TPost X q a acc h (some (.int 0)) h := fun hf => ⟨fun b2 y => (by rw [tX_f hf] at y; cases y; exact ⟨rfl, H, HB⟩), fun t b2 y => (by rw [tX_f hf] at y; cases y), Fr.rf, rfl⟩
  by_cases h1 : a < X.1
  · have en : nx X a = X.2 a := by rw [nx, if_pos h1]
    have h128 := H.2.1.2 a h1
    cases hf : plcS (nx X a) with
    | none =>
      refine r_aload_n dX2_readTest_0 rfl ?_
      refine r_getI dX2_readTest_1 k_X2_19 rfl (by decide) rfl ?_
      refine r_aload_n dX2_readTest_4 rfl ?_
      refine r_getI dX2_readTest_5 k_X2_15 rfl (by decide) rfl ?_
      rw [H.2.2.1, H.1.1]
      refine r_icmp_ge (tgt := 28) dX2_readTest_8 (by decide) (fun c_8 => ?_) (fun c_8 => ?_)
      · exact absurd c_8 (nI_ge (by omega) (by omega))
      · refine r_ldcS 5 dX2_readTest_11 rfl (by decide) rfl ?_
        refine r_aload_n dX2_readTest_13 rfl ?_
        refine r_getR (j := 47) dX2_readTest_14 k_X2_9 rfl (by decide) rfl rfl ?_
        refine r_aload_n dX2_readTest_17 rfl ?_
        refine r_getI dX2_readTest_18 k_X2_19 rfl (by decide) rfl ?_
        refine r_cald (a) dX2_readTest_21 rfl H.2.2.1 (show a < 100 by omega) ?_
        rw [H.1.2 a h1, ← en]
        refine r_callT dX2_readTest_22 l_X2_108 o_J0_indexOf_0f7a4 v_J0_indexOf_0f7a4 (by first | decide | assumption) rfl rfl (m_J0_indexOf_0f7a4 hG (i := 5) (n := nx X a) (by decide) (by omega)) (by decide) rfl (Nat.le_of_ble_eq_true rfl) (fun r22 h22 hq22 => ?_)
        obtain ⟨rfl, rfl⟩ := hq22
        rw [ix_let _ (by omega), hf]
        refine r_goto (tgt := 29) dX2_readTest_25 (by decide) ?_
        refine r_istore_n dX2_readTest_29 (by decide) rfl rfl ?_
        dsimp only [List.set]
        refine r_iload_n dX2_readTest_30 rfl ?_
        refine r_if_ge (tgt := 36) dX2_readTest_31 (by decide) (fun c_31 => ?_) (fun c_31 => ?_)
        · exact absurd c_31 (by decide)
        · refine r_iconst (v := 0) dX2_readTest_34 (by decide) ?_
          refine r_ireturn dX2_readTest_35 ⟨_, rfl, rfl⟩ ?_
          exact bad hf
    | some f =>
      have hf5 := plc_lt hf
      refine r_aload_n dX2_readTest_0 rfl ?_
      refine r_getI dX2_readTest_1 k_X2_19 rfl (by decide) rfl ?_
      refine r_aload_n dX2_readTest_4 rfl ?_
      refine r_getI dX2_readTest_5 k_X2_15 rfl (by decide) rfl ?_
      rw [H.2.2.1, H.1.1]
      refine r_icmp_ge (tgt := 28) dX2_readTest_8 (by decide) (fun c_8 => ?_) (fun c_8 => ?_)
      · exact absurd c_8 (nI_ge (by omega) (by omega))
      · refine r_ldcS 5 dX2_readTest_11 rfl (by decide) rfl ?_
        refine r_aload_n dX2_readTest_13 rfl ?_
        refine r_getR (j := 47) dX2_readTest_14 k_X2_9 rfl (by decide) rfl rfl ?_
        refine r_aload_n dX2_readTest_17 rfl ?_
        refine r_getI dX2_readTest_18 k_X2_19 rfl (by decide) rfl ?_
        refine r_cald (a) dX2_readTest_21 rfl H.2.2.1 (show a < 100 by omega) ?_
        rw [H.1.2 a h1, ← en]
        refine r_callT dX2_readTest_22 l_X2_108 o_J0_indexOf_0f7a4 v_J0_indexOf_0f7a4 (by first | decide | assumption) rfl rfl (m_J0_indexOf_0f7a4 hG (i := 5) (n := nx X a) (by decide) (by omega)) (by decide) rfl (Nat.le_of_ble_eq_true rfl) (fun r22 h22 hq22 => ?_)
        obtain ⟨rfl, rfl⟩ := hq22
        rw [ix_let _ (by omega), hf]
        refine r_goto (tgt := 29) dX2_readTest_25 (by decide) ?_
        refine r_istore_n dX2_readTest_29 (by decide) rfl rfl ?_
        dsimp only [List.set]
        refine r_iload_n dX2_readTest_30 rfl ?_
        refine r_if_ge (tgt := 36) dX2_readTest_31 (by decide) (fun c_31 => ?_) (fun c_31 => ?_)
        · exact at36 f hf
        · exact absurd (nI_pos' (by omega)) c_31
  · have hf : plcS (nx X a) = none := by rw [nx, if_neg h1]; rfl
    refine r_aload_n dX2_readTest_0 rfl ?_
    refine r_getI dX2_readTest_1 k_X2_19 rfl (by decide) rfl ?_
    refine r_aload_n dX2_readTest_4 rfl ?_
    refine r_getI dX2_readTest_5 k_X2_15 rfl (by decide) rfl ?_
    rw [H.2.2.1, H.1.1]
    refine r_icmp_ge (tgt := 28) dX2_readTest_8 (by decide) (fun c_8 => ?_) (fun c_8 => ?_)
    · refine r_iconst (v := -1) dX2_readTest_28 (by decide) ?_
      refine r_istore_n dX2_readTest_29 (by decide) rfl rfl ?_
      dsimp only [List.set]
      refine r_iload_n dX2_readTest_30 rfl ?_
      refine r_if_ge (tgt := 36) dX2_readTest_31 (by decide) (fun c_31 => ?_) (fun c_31 => ?_)
      · exact absurd c_31 (by decide)
      · refine r_iconst (v := 0) dX2_readTest_34 (by decide) ?_
        refine r_ireturn dX2_readTest_35 ⟨_, rfl, rfl⟩ ?_
        exact bad hf
    · exact absurd (nI_le (by omega) (by omega)) c_8
