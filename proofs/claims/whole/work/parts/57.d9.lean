/-! a clause, a text read by the developers' reader -/
def dcF (q a i : Nat) : Bool := dsF q a i || daF q a i
theorem ds_dc {q : Nat} {h h' : Hp} (H : Fr (dsF q) h h') : Fr (dcF q) h h' := H.wk (fun x i y => by simp only [dcF, Bool.or_eq_false_iff] at y; exact y.1)
theorem da_dc {q : Nat} {h h' : Hp} (H : Fr (daF q) h h') : Fr (dcF q) h h' := H.wk (fun x i y => by simp only [dcF, Bool.or_eq_false_iff] at y; exact y.2)
theorem DAt.da {q a : Nat} {X : Tx} {h h' : Hp} (hq : ksh q = 1) (H : DAt h X a) (hF : Fr (daF q) h h') : DAt h' X a := by
  obtain ⟨k, k1, rfl⟩ := hs_at hq
  exact H.fr hF (by simp [daF]; omega) (fun _ => by simp [daF]; omega) (by simp [daF]; omega)
theorem DBl.da {q : Nat} {acc : List Int} {h h' : Hp} (hq : ksh q = 1) (H : DBl h q acc) (hF : Fr (daF q) h h') : DBl h' q acc := by
  refine ⟨by rw [hF.1 _ _ (by simp [daF])]; exact H.1, fun j t e => (H.2 j t e).eq (fun a h1 h2 => ?_)⟩
  rw [hF.1 _ _ (by simp [daF]; omega)]
def CPost (X : Tx) (q a : Nat) (L : List Cz) (acc : List Int) (h : Hp) (r : Option Value) (h' : Hp) : Prop := (∀ b, clauseS X a = (none, b) → r = some (.int 0) ∧ DAt h' X b) ∧ (∀ z b, clauseS X a = (some z, b) → r = some (.int 1) ∧ DAt h' X b ∧ DBl h' q (acc ++ z.2.2) ∧ HC h' q (L ++ [z])) ∧ Fr (dcF q) h h'
theorem cl_26 {G : WT} {l : Launch} (hG : GOK G) {x1 x2 x3 : Value} {h : Hp} {Q : Option Value → Hp → Prop} (c : Q (some (.int 0)) h) : Wp G l 24 RX2 cX2_readClause 4 (some .boolean) 26 [.ref (gA G 46), x1, x2, x3] [] h Q := by
  refine r_iconst (v := 0) dX2_readClause_26 (by decide) ?_
  refine r_ireturn dX2_readClause_27 ⟨_, rfl, rfl⟩ ?_
  exact c
theorem cl_69 {G : WT} {l : Launch} (hG : GOK G) {x1 x2 x3 : Value} {h : Hp} {Q : Option Value → Hp → Prop} (c : Q (some (.int 0)) h) : Wp G l 24 RX2 cX2_readClause 4 (some .boolean) 69 [.ref (gA G 46), x1, x2, x3] [] h Q := by
  refine r_iconst (v := 0) dX2_readClause_69 (by decide) ?_
  refine r_ireturn dX2_readClause_70 ⟨_, rfl, rfl⟩ ?_
  exact c
theorem cl_28 {G : WT} {l : Launch} (hG : GOK G) {X : Tx} {q a b w v : Nat} {L : List Cz} {acc : List Int} {h g : Hp} {x2 x3 : Value} (hq : ksh q = 1) (hh : g.2.2 46 4 = q) (H : DAt g X b) (HB : DBl g q acc) (HL : HC g q L) (hl : L.length < 10) (hfl : acc.length = enS (hvOf L) L.length) (hab : acc.length < b) (hw : w ≤ 4) (hv : v ≤ 99) (hval : g.1 46 3 = nI v) (hF : Fr (dcF q) h g) (hS : clauseS X a = exprS X w v b) : Wp G l 24 RX2 cX2_readClause 4 (some .boolean) 28 [.ref (gA G 46), .int (nI w), x2, x3] [] g (CPost X q a L acc h) := by
  have hX := H.2.1.1
  have hb := H.2.2.2
  have fin : ∀ (g2 : Hp) (cs : List Int) (b2 : Nat) (y3 : Value), g2.2.2 46 4 = q → DAt g2 X b2 → DBl g2 q (acc ++ cs) → HC g2 q L → Fr (dcF q) h g2 → clauseS X a = (some (w, v, cs), b2) → Wp G l 24 RX2 cX2_readClause 4 (some .boolean) 71 [.ref (gA G 46), .int (nI w), .int (nI v), y3] [] g2 (CPost X q a L acc h) := by
    intro g2 cs b2 y3 hh2 D2 B2 C2 F2 e
    refine r_aload_n dX2_readClause_71 rfl ?_
    refine r_getR (j := q) dX2_readClause_72 k_X2_28 rfl (by decide) rfl hh2 ?_
    refine r_iload_n dX2_readClause_75 rfl ?_
    refine r_iload_n dX2_readClause_76 rfl ?_
    refine r_callV dX2_readClause_77 l_X2_57 o_X1_addClause v_X1_addClause (by assumption) (by decide) rfl rfl (m_X1_addClause hG hq C2 hl hw hv B2.1 (cs := cs) (by rw [List.length_append, hfl])) (by decide) rfl (Nat.le_of_ble_eq_true rfl) (fun r77 h77 hq77 => ?_)
    obtain ⟨rfl, C3, F3⟩ := hq77
    refine r_iconst (v := 1) dX2_readClause_80 (by decide) ?_
    refine r_ireturn dX2_readClause_81 ⟨_, rfl, rfl⟩ ?_
    refine ⟨fun b9 y => (by rw [e] at y; cases y), fun z b9 y => ?_, F2.tr (da_dc F3)⟩
    rw [e] at y
    cases y
    exact ⟨rfl, D2.da hq F3, B2.da hq F3, C3⟩
  by_cases hw1 : 1 < w
  · have e : exprS X w v b = (some (w, v, []), b) := by rw [exprS, if_pos hw1]
    refine r_aload_n dX2_readClause_28 rfl ?_
    refine r_getI dX2_readClause_29 k_X2_22 rfl (by decide) rfl ?_
    rw [hval]
    refine r_istore_n dX2_readClause_32 (by decide) rfl rfl ?_
    dsimp only [List.set]
    refine r_iload_n dX2_readClause_33 rfl ?_
    refine r_if_eq (tgt := 42) dX2_readClause_34 (by decide) (fun c_34 => ?_) (fun c_34 => ?_)
    · exact absurd ((nI_eq' (b := 0) (by omega) (by omega)).mp c_34) (by omega)
    · refine r_iload_n dX2_readClause_37 rfl ?_
      refine r_iconst (v := 1) dX2_readClause_38 (by decide) ?_
      refine r_icmp_ne (tgt := 46) dX2_readClause_39 (by decide) (fun c_39 => ?_) (fun c_39 => ?_)
      · refine r_iconst (v := 0) dX2_readClause_46 (by decide) ?_
        refine r_istore_n dX2_readClause_47 (by decide) rfl rfl ?_
        dsimp only [List.set]
        refine r_iload_n dX2_readClause_48 rfl ?_
        refine r_if_eq (tgt := 71) dX2_readClause_49 (by decide) (fun c_49 => ?_) (fun c_49 => ?_)
        · exact fin g [] b _ hh H (by rw [List.append_nil]; exact HB) HL hF (by rw [hS, e])
        · exact absurd rfl c_49
      · exact absurd ((nI_eq' (b := 1) (by omega) (by omega)).mp c_39) (by omega)
  · have w01 : w = 0 ∨ w = 1 := by omega
    have k52 : Wp G l 24 RX2 cX2_readClause 4 (some .boolean) 52 [.ref (gA G 46), .int (nI w), .int (nI v), .int 1] [] g (CPost X q a L acc h) := by
      by_cases h32 : nx X b = 32
      · have b1 := nx_in2 (X := X) (a := b) (by omega)
        have H1 := H.mv (b := b + 1) b1
        have F1 : Fr dnF g (setI g 46 2 (nI (b + 1))) := Fr.set rfl
        have B1 := HB.dn hq F1
        refine r_aload_n dX2_readClause_52 rfl ?_
        refine r_bipush (v := 32) dX2_readClause_53 (by decide) ?_
        rw [show (32 : Int32) = nI 32 from rfl]
        refine r_callV dX2_readClause_55 l_X2_47 o_X2_takes v_X2_takes rfl (by decide) rfl rfl (m_X2_takes hG H (c := 32) (by omega)) (by decide) rfl (Nat.le_of_ble_eq_true rfl) (fun r55 h55 hq55 => ?_)
        obtain ⟨rfl, rfl⟩ := hq55.1 h32
        refine r_if_eq (tgt := 69) dX2_readClause_58 (by decide) (fun c_58 => ?_) (fun c_58 => ?_)
        · exact absurd c_58 (by decide)
        · refine r_aload_n dX2_readClause_61 rfl ?_
          refine r_iconst (v := 0) dX2_readClause_62 (by decide) ?_
          rw [show (0 : Int32) = nI 0 from rfl]
          refine r_callV dX2_readClause_63 l_X2_53 o_X2_readEither v_X2_readEither rfl (by decide) rfl rfl (m_X2_readEither hG hq hh H1 B1 (by omega)) (by decide) rfl (Nat.le_of_ble_eq_true rfl) (fun r63 h63 hq63 => ?_)
          obtain ⟨good, b2, rfl, H2, hb2, F2, N2, f2, g2⟩ := hq63
          have F3 := hF.tr (ds_dc ((dn_ds F1).tr F2))
          have C2 := (HL.ds hq (dn_ds F1)).ds hq F2
          refine r_if_ne (tgt := 71) dX2_readClause_66 (by decide) (fun c_66 => ?_) (fun c_66 => ?_)
          · have e9 : good = true := b01_n0.mp c_66
            obtain ⟨cs, z1, z2, z3, z4⟩ := g2 e9
            have e8 := z4 [] [] rfl rfl
            rw [stp_done (by omega) rfl] at e8
            exact fin h63 cs b2 _ (by rw [F2.2]; exact hh) H2 z1 C2 F3 (by rw [hS, exprS, if_neg hw1, if_pos h32, e8]; rfl)
          · have e9 : good = false := b01_0.mp c_66
            have e8 := f2 e9 [] [] rfl rfl
            refine cl_69 hG ⟨fun b9 y => ?_, fun z b9 y => ?_, F3⟩
            · rw [hS, exprS, if_neg hw1, if_pos h32, e8] at y
              cases y
              exact ⟨rfl, H2⟩
            · rw [hS, exprS, if_neg hw1, if_pos h32, e8] at y
              cases y
      · refine r_aload_n dX2_readClause_52 rfl ?_
        refine r_bipush (v := 32) dX2_readClause_53 (by decide) ?_
        rw [show (32 : Int32) = nI 32 from rfl]
        refine r_callV dX2_readClause_55 l_X2_47 o_X2_takes v_X2_takes rfl (by decide) rfl rfl (m_X2_takes hG H (c := 32) (by omega)) (by decide) rfl (Nat.le_of_ble_eq_true rfl) (fun r55 h55 hq55 => ?_)
        obtain ⟨rfl, rfl⟩ := hq55.2 h32
        refine r_if_eq (tgt := 69) dX2_readClause_58 (by decide) (fun c_58 => ?_) (fun c_58 => ?_)
        · refine cl_69 hG ⟨fun b9 y => ?_, fun z b9 y => ?_, hF⟩
          · rw [hS, exprS, if_neg hw1, if_neg h32] at y
            cases y
            exact ⟨rfl, H⟩
          · rw [hS, exprS, if_neg hw1, if_neg h32] at y
            cases y
        · exact absurd rfl c_58
    rcases w01 with rfl | rfl
    · refine r_aload_n dX2_readClause_28 rfl ?_
      refine r_getI dX2_readClause_29 k_X2_22 rfl (by decide) rfl ?_
      rw [hval]
      refine r_istore_n dX2_readClause_32 (by decide) rfl rfl ?_
      dsimp only [List.set]
      refine r_iload_n dX2_readClause_33 rfl ?_
      refine r_if_eq (tgt := 42) dX2_readClause_34 (by decide) (fun c_34 => ?_) (fun c_34 => ?_)
      · refine r_iconst (v := 1) dX2_readClause_42 (by decide) ?_
        refine r_goto (tgt := 47) dX2_readClause_43 (by decide) ?_
        refine r_istore_n dX2_readClause_47 (by decide) rfl rfl ?_
        dsimp only [List.set]
        refine r_iload_n dX2_readClause_48 rfl ?_
        refine r_if_eq (tgt := 71) dX2_readClause_49 (by decide) (fun c_49 => ?_) (fun c_49 => ?_)
        · exact absurd c_49 (by decide)
        · exact k52
      · exact absurd rfl c_34
    · refine r_aload_n dX2_readClause_28 rfl ?_
      refine r_getI dX2_readClause_29 k_X2_22 rfl (by decide) rfl ?_
      rw [hval]
      refine r_istore_n dX2_readClause_32 (by decide) rfl rfl ?_
      dsimp only [List.set]
      refine r_iload_n dX2_readClause_33 rfl ?_
      refine r_if_eq (tgt := 42) dX2_readClause_34 (by decide) (fun c_34 => ?_) (fun c_34 => ?_)
      · exact absurd c_34 (by decide)
      · refine r_iload_n dX2_readClause_37 rfl ?_
        refine r_iconst (v := 1) dX2_readClause_38 (by decide) ?_
        refine r_icmp_ne (tgt := 46) dX2_readClause_39 (by decide) (fun c_39 => ?_) (fun c_39 => ?_)
        · exact absurd rfl c_39
        · refine r_iconst (v := 1) dX2_readClause_42 (by decide) ?_
          refine r_goto (tgt := 47) dX2_readClause_43 (by decide) ?_
          refine r_istore_n dX2_readClause_47 (by decide) rfl rfl ?_
          dsimp only [List.set]
          refine r_iload_n dX2_readClause_48 rfl ?_
          refine r_if_eq (tgt := 71) dX2_readClause_49 (by decide) (fun c_49 => ?_) (fun c_49 => ?_)
          · exact absurd c_49 (by decide)
          · exact k52
set_option maxRecDepth 100000 in
theorem m_X2_readClause {G : WT} {l : Launch} (hG : GOK G) {h : Hp} {X : Tx} {q a : Nat} {L : List Cz} {acc : List Int} (hq : ksh q = 1) (hh : h.2.2 46 4 = q) (H : DAt h X a) (HB : DBl h q acc) (HL : HC h q L) (hl : L.length < 10) (hfl : acc.length = enS (hvOf L) L.length) (hab : acc.length ≤ a) : Cl G l 24 yX2_readClause cX2_readClause 4 (some .boolean) [.ref (gA G 46)] h (fun r h' => CPost X q a L acc h r h') := by
  refine Cl.of hG (by decide) (Nat.le_of_ble_eq_true rfl) ?_
  show Wp G l 24 RX2 cX2_readClause 4 (some .boolean) 0 [.ref (gA G 46), mk0, mk0, mk0] [] h _
  have hX := H.2.1.1
  have ha := H.2.2.2
  have hh9 := headS_ok X a
  have wa := wordS_at (headS X a).2 a hh9.2 ha
  have wk := wordS_alk (X := X) (headS X a).2 a
  have rw9 := rwS_head X a
  have al := alk_le (X := X) (headS X a).2 a hh9.2 ha
  by_cases q1 : alkS X a (headS X a).2 = (headS X a).2.length
  · rw [if_pos q1] at wk rw9
    have H1 := H.mv (b := a + (headS X a).2.length) (by omega)
    have F1 : Fr dnF h (setI h 46 2 (nI (a + (headS X a).2.length))) := Fr.set rfl
    have e1 : ¬ nI (headS X a).1 = -1 := fun y => by
      have := congrArg Int32.toInt y
      rw [nI_toInt (by have := hh9.1; omega), show ((-1 : Int32)).toInt = -1 from rfl] at this
      omega
    by_cases q2 : nx X (a + (headS X a).2.length) = 32
    · rw [if_pos q2] at wk
      have b1 := nx_in2 (X := X) (a := a + (headS X a).2.length) (by omega)
      have H2 := H1.mv (b := a + (headS X a).2.length + 1) b1
      have F2 : Fr dnF (setI h 46 2 (nI (a + (headS X a).2.length))) (setI (setI h 46 2 (nI (a + (headS X a).2.length))) 46 2 (nI (a + (headS X a).2.length + 1))) := Fr.set rfl
      have wt : (wordS X a (headS X a).2).1 = true := by rw [wk]
      cases hn : numS X (wordS X a (headS X a).2).2 with
      | none =>
        have e := clauseS_nn wt hn
        have hn2 := hn
        rw [wk] at hn2
        refine r_aload_n dX2_readClause_0 rfl ?_
        refine r_callV dX2_readClause_1 l_X2_43 o_X2_readWord v_X2_readWord rfl (by decide) rfl rfl (m_X2_readWord hG H) (by decide) rfl (Nat.le_of_ble_eq_true rfl) (fun r1 h1 hq1 => ?_)
        obtain ⟨rfl, rfl⟩ := hq1
        rw [rw9]
        refine r_istore_n dX2_readClause_4 (by decide) rfl rfl ?_
        dsimp only [List.set]
        refine r_iload_n dX2_readClause_5 rfl ?_
        refine r_iconst (v := -1) dX2_readClause_6 (by decide) ?_
        refine r_icmp_eq (tgt := 26) dX2_readClause_7 (by decide) (fun c_7 => ?_) (fun c_7 => ?_)
        · exact absurd c_7 e1
        · refine r_aload_n dX2_readClause_10 rfl ?_
          refine r_bipush (v := 32) dX2_readClause_11 (by decide) ?_
          rw [show (32 : Int32) = nI 32 from rfl]
          refine r_callV dX2_readClause_13 l_X2_47 o_X2_takes v_X2_takes rfl (by decide) rfl rfl (m_X2_takes hG H1 (c := 32) (by omega)) (by decide) rfl (Nat.le_of_ble_eq_true rfl) (fun r13 h13 hq13 => ?_)
          obtain ⟨rfl, rfl⟩ := hq13.1 q2
          refine r_if_eq (tgt := 26) dX2_readClause_16 (by decide) (fun c_16 => ?_) (fun c_16 => ?_)
          · exact absurd c_16 (by decide)
          · refine r_aload_n dX2_readClause_19 rfl ?_
            refine r_callV dX2_readClause_20 l_X2_50 o_X2_readNumber v_X2_readNumber rfl (by decide) rfl rfl (m_X2_readNumber hG H2) (by decide) rfl (Nat.le_of_ble_eq_true rfl) (fun r20 h20 hq20 => ?_)
            obtain ⟨y1, y2, y3⟩ := hq20
            obtain ⟨rfl, D3⟩ := y1 hn2
            refine r_if_ne (tgt := 28) dX2_readClause_23 (by decide) (fun c_23 => ?_) (fun c_23 => ?_)
            · exact absurd rfl c_23
            · refine cl_26 hG ⟨fun b9 y => ?_, fun z b9 y => ?_, ds_dc (dn_ds ((F1.tr F2).tr y3))⟩
              · rw [e, wk] at y
                cases y
                exact ⟨rfl, D3⟩
              · rw [e] at y
                cases y
      | some bn =>
        obtain ⟨b, v⟩ := bn
        have e := clauseS_go wt hn
        have hn2 := hn
        rw [wk] at hn2
        have z9 := num_at hn2
        refine r_aload_n dX2_readClause_0 rfl ?_
        refine r_callV dX2_readClause_1 l_X2_43 o_X2_readWord v_X2_readWord rfl (by decide) rfl rfl (m_X2_readWord hG H) (by decide) rfl (Nat.le_of_ble_eq_true rfl) (fun r1 h1 hq1 => ?_)
        obtain ⟨rfl, rfl⟩ := hq1
        rw [rw9]
        refine r_istore_n dX2_readClause_4 (by decide) rfl rfl ?_
        dsimp only [List.set]
        refine r_iload_n dX2_readClause_5 rfl ?_
        refine r_iconst (v := -1) dX2_readClause_6 (by decide) ?_
        refine r_icmp_eq (tgt := 26) dX2_readClause_7 (by decide) (fun c_7 => ?_) (fun c_7 => ?_)
        · exact absurd c_7 e1
        · refine r_aload_n dX2_readClause_10 rfl ?_
          refine r_bipush (v := 32) dX2_readClause_11 (by decide) ?_
          rw [show (32 : Int32) = nI 32 from rfl]
          refine r_callV dX2_readClause_13 l_X2_47 o_X2_takes v_X2_takes rfl (by decide) rfl rfl (m_X2_takes hG H1 (c := 32) (by omega)) (by decide) rfl (Nat.le_of_ble_eq_true rfl) (fun r13 h13 hq13 => ?_)
          obtain ⟨rfl, rfl⟩ := hq13.1 q2
          refine r_if_eq (tgt := 26) dX2_readClause_16 (by decide) (fun c_16 => ?_) (fun c_16 => ?_)
          · exact absurd c_16 (by decide)
          · refine r_aload_n dX2_readClause_19 rfl ?_
            refine r_callV dX2_readClause_20 l_X2_50 o_X2_readNumber v_X2_readNumber rfl (by decide) rfl rfl (m_X2_readNumber hG H2) (by decide) rfl (Nat.le_of_ble_eq_true rfl) (fun r20 h20 hq20 => ?_)
            obtain ⟨y1, y2, y3⟩ := hq20
            obtain ⟨rfl, D3, v3⟩ := y2 b v hn2
            have FF := (F1.tr F2).tr y3
            refine r_if_ne (tgt := 28) dX2_readClause_23 (by decide) (fun c_23 => ?_) (fun c_23 => ?_)
            · exact cl_28 hG hq (by rw [y3.2]; exact hh) D3 (HB.dn hq FF) (HL.ds hq (dn_ds FF)) hl hfl (by omega) hh9.1 z9.2.2.1 v3 (ds_dc (dn_ds FF)) e
            · exact absurd c_23 (by decide)
    · rw [if_neg q2] at wk
      have e := clauseS_no (X := X) (a := a) (by rw [wk])
      refine r_aload_n dX2_readClause_0 rfl ?_
      refine r_callV dX2_readClause_1 l_X2_43 o_X2_readWord v_X2_readWord rfl (by decide) rfl rfl (m_X2_readWord hG H) (by decide) rfl (Nat.le_of_ble_eq_true rfl) (fun r1 h1 hq1 => ?_)
      obtain ⟨rfl, rfl⟩ := hq1
      rw [rw9]
      refine r_istore_n dX2_readClause_4 (by decide) rfl rfl ?_
      dsimp only [List.set]
      refine r_iload_n dX2_readClause_5 rfl ?_
      refine r_iconst (v := -1) dX2_readClause_6 (by decide) ?_
      refine r_icmp_eq (tgt := 26) dX2_readClause_7 (by decide) (fun c_7 => ?_) (fun c_7 => ?_)
      · exact absurd c_7 e1
      · refine r_aload_n dX2_readClause_10 rfl ?_
        refine r_bipush (v := 32) dX2_readClause_11 (by decide) ?_
        rw [show (32 : Int32) = nI 32 from rfl]
        refine r_callV dX2_readClause_13 l_X2_47 o_X2_takes v_X2_takes rfl (by decide) rfl rfl (m_X2_takes hG H1 (c := 32) (by omega)) (by decide) rfl (Nat.le_of_ble_eq_true rfl) (fun r13 h13 hq13 => ?_)
        obtain ⟨rfl, rfl⟩ := hq13.2 q2
        refine r_if_eq (tgt := 26) dX2_readClause_16 (by decide) (fun c_16 => ?_) (fun c_16 => ?_)
        · refine cl_26 hG ⟨fun b9 y => ?_, fun z b9 y => ?_, ds_dc (dn_ds F1)⟩
          · rw [e, wk] at y
            cases y
            exact ⟨rfl, H1⟩
          · rw [e] at y
            cases y
        · exact absurd rfl c_16
  · rw [if_neg q1] at wk rw9
    have H1 := H.mv (b := a + alkS X a (headS X a).2) (by omega)
    have F1 : Fr dnF h (setI h 46 2 (nI (a + alkS X a (headS X a).2))) := Fr.set rfl
    have e := clauseS_no (X := X) (a := a) (by rw [wk])
    refine r_aload_n dX2_readClause_0 rfl ?_
    refine r_callV dX2_readClause_1 l_X2_43 o_X2_readWord v_X2_readWord rfl (by decide) rfl rfl (m_X2_readWord hG H) (by decide) rfl (Nat.le_of_ble_eq_true rfl) (fun r1 h1 hq1 => ?_)
    obtain ⟨rfl, rfl⟩ := hq1
    rw [rw9]
    refine r_istore_n dX2_readClause_4 (by decide) rfl rfl ?_
    dsimp only [List.set]
    refine r_iload_n dX2_readClause_5 rfl ?_
    refine r_iconst (v := -1) dX2_readClause_6 (by decide) ?_
    refine r_icmp_eq (tgt := 26) dX2_readClause_7 (by decide) (fun c_7 => ?_) (fun c_7 => ?_)
    · refine cl_26 hG ⟨fun b9 y => ?_, fun z b9 y => ?_, ds_dc (dn_ds F1)⟩
      · rw [e, wk] at y
        cases y
        exact ⟨rfl, H1⟩
      · rw [e] at y
        cases y
    · exact absurd rfl c_7
