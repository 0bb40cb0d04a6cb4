/-! takesE whole -/
theorem takesE_loop {G : WT} {l : Launch} (hG : GOK G) {X : Tx} {s0 c : Nat} {h0 : Hp} {z0 : Nat} (hc : c < 60) (hs : s0 ≤ 500 + z0) : ∀ (m a : Nat) (w : Bool) (K : List Nat) (acc : List Int) (g : Hp) (x3 : Value), X.1 + 1 ≤ m + a → RAt g X a → RK g K → RG g s0 acc → z0 + (acc.length + K.length) ≤ a → StkOK K → Fr (eF s0 c) h0 g → Wp G l 5 RX7 cX7_takesE 4 (some .boolean) 22 [.ref (gA G 134), .int (nI c), .int (b01 w), x3] [] g (EPost X s0 c h0 (evE X (a, w, K, acc))) := by
  intro m
  induction m with
  | zero =>
    intro a w K acc g x3 hm H
    have := H.2.2.2
    omega
  | succ m ih =>
    intro a w K acc g x3 hm H HK HG hl hKs hF
    have hX := H.2.1.1
    have ha := H.2.2.2
    have hXX := H.2.1
    cases w with
    | true =>
      by_cases ho : nx X a = 33 ∨ nx X a = 40
      · obtain ⟨b, hb⟩ : ∃ b, b = nx X a := ⟨_, rfl⟩
        have a1 := nx_in2 (X := X) (a := a) (by omega)
        have en : nxI X a = nI b := (nxI_eq hXX (by omega)).mpr hb.symm
        have k := takesE_open (c := c) (l := l) hG hb (by omega) H HK HG hl hF (fun g2 x3 H2 K2 G2 F2 => ih (a + 1) true (b :: K) acc g2 x3 (by omega) H2 K2 G2 (by show z0 + (acc.length + (K.length + 1)) ≤ a + 1; omega) (fun x q => by
          rcases List.mem_cons.mp q with rfl | q
          · omega
          · exact hKs x q) F2)
        refine r_aload_n dX7_takesE_22 rfl ?_
        refine r_callV dX7_takesE_23 l_X7_224 o_X7_next v_X7_next rfl (by decide) rfl rfl (m_X7_next hG H) (by decide) rfl (Nat.le_of_ble_eq_true rfl) (fun r23 h23 hq23 => ?_)
        obtain ⟨rfl, e23⟩ := hq23
        rw [e23]
        clear e23 h23
        rw [en]
        refine r_istore_n dX7_takesE_26 (by decide) rfl rfl ?_
        dsimp only [List.set]
        refine r_iload_n dX7_takesE_27 rfl ?_
        refine r_if_eq (tgt := 110) dX7_takesE_28 (by decide) (fun c_28 => ?_) (fun c_28 => ?_)
        · exact absurd c_28 (by decide)
        · refine r_iload_n dX7_takesE_31 rfl ?_
          refine r_bipush (v := 33) dX7_takesE_32 (by decide) ?_
          refine r_icmp_eq (tgt := 43) dX7_takesE_34 (by decide) (fun c_34 => ?_) (fun c_34 => ?_)
          · exact k
          · refine r_iload_n dX7_takesE_37 rfl ?_
            refine r_bipush (v := 40) dX7_takesE_38 (by decide) ?_
            refine r_icmp_ne (tgt := 96) dX7_takesE_40 (by decide) (fun c_40 => ?_) (fun c_40 => ?_)
            · exfalso
              rcases (show b = 33 ∨ b = 40 by omega) with rfl | rfl
              · exact c_34 rfl
              · exact c_40 rfl
            · exact k
      · have n33 : ¬ nxI X a = 33 := fun q => ho (Or.inl ((nxI_eq (c := 33) hXX (by omega)).mp q))
        have n40 : ¬ nxI X a = 40 := fun q => ho (Or.inr ((nxI_eq (c := 40) hXX (by omega)).mp q))
        refine r_aload_n dX7_takesE_22 rfl ?_
        refine r_callV dX7_takesE_23 l_X7_224 o_X7_next v_X7_next rfl (by decide) rfl rfl (m_X7_next hG H) (by decide) rfl (Nat.le_of_ble_eq_true rfl) (fun r23 h23 hq23 => ?_)
        obtain ⟨rfl, e23⟩ := hq23
        rw [e23]
        clear e23 h23
        refine r_istore_n dX7_takesE_26 (by decide) rfl rfl ?_
        dsimp only [List.set]
        refine r_iload_n dX7_takesE_27 rfl ?_
        refine r_if_eq (tgt := 110) dX7_takesE_28 (by decide) (fun c_28 => ?_) (fun c_28 => ?_)
        · exact absurd c_28 (by decide)
        · refine r_iload_n dX7_takesE_31 rfl ?_
          refine r_bipush (v := 33) dX7_takesE_32 (by decide) ?_
          refine r_icmp_eq (tgt := 43) dX7_takesE_34 (by decide) (fun c_34 => ?_) (fun c_34 => ?_)
          · exact absurd c_34 n33
          · refine r_iload_n dX7_takesE_37 rfl ?_
            refine r_bipush (v := 40) dX7_takesE_38 (by decide) ?_
            refine r_icmp_ne (tgt := 96) dX7_takesE_40 (by decide) (fun c_40 => ?_) (fun c_40 => ?_)
            · refine r_aload_n dX7_takesE_96 rfl ?_
              refine r_callV dX7_takesE_97 l_X7_249 o_X7_takesTest v_X7_takesTest rfl (by decide) rfl rfl (m_X7_takesTest hG H HK HG (by omega) (by omega)) (by decide) rfl (Nat.le_of_ble_eq_true rfl) (fun r97 h97 hq97 => ?_)
              obtain ⟨y1, y2⟩ := hq97
              cases ht : tX X a with
              | mk o b =>
                cases o with
                | none =>
                  obtain ⟨rfl, H2, F2⟩ := y1 b ht
                  refine r_if_eq (tgt := 108) dX7_takesE_100 (by decide) (fun c_100 => ?_) (fun c_100 => absurd rfl c_100)
                  refine r_iconst (v := 0) dX7_takesE_108 (by decide) ?_
                  refine r_ireturn dX7_takesE_109 ⟨_, rfl, rfl⟩ ?_
                  exact EPost.no (stp_fail ho ht) H2 (hF.tr (teF_e F2))
                | some t =>
                  obtain ⟨rfl, H2, K2, G2, F2⟩ := y2 t b ht
                  have tb := tX_at ht
                  have wl := whS_len K (acc ++ [t])
                  rw [List.length_append, show [t].length = 1 from rfl] at wl
                  refine r_if_eq (tgt := 108) dX7_takesE_100 (by decide) (fun c_100 => absurd c_100 (by decide)) (fun c_100 => ?_)
                  refine r_iconst (v := 0) dX7_takesE_103 (by decide) ?_
                  refine r_istore_n dX7_takesE_104 (by decide) rfl rfl ?_
                  refine r_goto (tgt := 22) dX7_takesE_105 (by decide) ?_
                  rw [stp_test ho ht]
                  exact ih b false _ _ _ _ (by omega) H2 K2 G2 (by omega) (fun x q => hKs x (whS_sub K _ x q)) (hF.tr (teF_e F2))
            · exact absurd c_40 n40
    | false =>
      by_cases hj : nx X a = 38 ∨ nx X a = 124
      · obtain ⟨b, hb⟩ : ∃ b, b = nx X a := ⟨_, rfl⟩
        have a1 := nx_in2 (X := X) (a := a) (by omega)
        have en : nxI X a = nI b := (nxI_eq hXX (by omega)).mpr hb.symm
        have k := takesE_join (c := c) (l := l) hG hs hb (by omega) H HK HG hl hKs hF (fun g2 x3 K2 acc2 k2 hl2 H2 R2 G2 F2 => ih (a + 1) true K2 acc2 g2 x3 (by omega) H2 R2 G2 hl2 k2 F2)
        refine r_aload_n dX7_takesE_22 rfl ?_
        refine r_callV dX7_takesE_23 l_X7_224 o_X7_next v_X7_next rfl (by decide) rfl rfl (m_X7_next hG H) (by decide) rfl (Nat.le_of_ble_eq_true rfl) (fun r23 h23 hq23 => ?_)
        obtain ⟨rfl, e23⟩ := hq23
        rw [e23]
        clear e23 h23
        rw [en]
        refine r_istore_n dX7_takesE_26 (by decide) rfl rfl ?_
        dsimp only [List.set]
        refine r_iload_n dX7_takesE_27 rfl ?_
        refine r_if_eq (tgt := 110) dX7_takesE_28 (by decide) (fun c_28 => ?_) (fun c_28 => ?_)
        · refine r_iload_n dX7_takesE_110 rfl ?_
          refine r_bipush (v := 38) dX7_takesE_111 (by decide) ?_
          refine r_icmp_eq (tgt := 122) dX7_takesE_113 (by decide) (fun c_113 => ?_) (fun c_113 => ?_)
          · exact k
          · refine r_iload_n dX7_takesE_116 rfl ?_
            refine r_bipush (v := 124) dX7_takesE_117 (by decide) ?_
            refine r_icmp_ne (tgt := 162) dX7_takesE_119 (by decide) (fun c_119 => ?_) (fun c_119 => ?_)
            · exfalso
              rcases (show b = 38 ∨ b = 124 by omega) with rfl | rfl
              · exact c_113 rfl
              · exact c_119 rfl
            · exact k
        · exact absurd rfl c_28
      · have n38 : ¬ nxI X a = 38 := fun q => hj (Or.inl ((nxI_eq (c := 38) hXX (by omega)).mp q))
        have n124 : ¬ nxI X a = 124 := fun q => hj (Or.inr ((nxI_eq (c := 124) hXX (by omega)).mp q))
        refine r_aload_n dX7_takesE_22 rfl ?_
        refine r_callV dX7_takesE_23 l_X7_224 o_X7_next v_X7_next rfl (by decide) rfl rfl (m_X7_next hG H) (by decide) rfl (Nat.le_of_ble_eq_true rfl) (fun r23 h23 hq23 => ?_)
        obtain ⟨rfl, e23⟩ := hq23
        rw [e23]
        clear e23 h23
        refine r_istore_n dX7_takesE_26 (by decide) rfl rfl ?_
        dsimp only [List.set]
        refine r_iload_n dX7_takesE_27 rfl ?_
        refine r_if_eq (tgt := 110) dX7_takesE_28 (by decide) (fun c_28 => ?_) (fun c_28 => ?_)
        · refine r_iload_n dX7_takesE_110 rfl ?_
          refine r_bipush (v := 38) dX7_takesE_111 (by decide) ?_
          refine r_icmp_eq (tgt := 122) dX7_takesE_113 (by decide) (fun c_113 => ?_) (fun c_113 => ?_)
          · exact absurd c_113 n38
          · refine r_iload_n dX7_takesE_116 rfl ?_
            refine r_bipush (v := 124) dX7_takesE_117 (by decide) ?_
            refine r_icmp_ne (tgt := 162) dX7_takesE_119 (by decide) (fun c_119 => ?_) (fun c_119 => ?_)
            · exact takesE_rest hG hc hs hj H HK HG hl hKs hF (fun g2 x3 K2 acc2 k2 a1 hl2 H2 R2 G2 F2 => ih (a + 1) false K2 acc2 g2 x3 (by omega) H2 R2 G2 hl2 k2 F2)
            · exact absurd c_119 n124
        · exact absurd rfl c_28
def tkF (s0 c a i : Nat) : Bool := eF s0 c a i || (a == 145 && i == c)
set_option maxRecDepth 100000 in
theorem m_X7_takesE {G : WT} {l : Launch} (hG : GOK G) {h : Hp} {X : Tx} {a c s0 z0 : Nat} (hc : c < 60) (hs : s0 ≤ 500 + z0) (hz : z0 ≤ a) (H : RAt h X a) (hg : h.1 134 23 = nI s0) : Cl G l 5 yX7_takesE cX7_takesE 4 (some .boolean) [.ref (gA G 134), .int (nI c)] h (fun r h' => EPost X s0 c (setI h 145 c (nI s0)) (evE X (a, true, [], [])) r h' ∧ h'.1 145 c = nI s0 ∧ Fr (tkF s0 c) h h') := by
  refine Cl.of hG (by decide) (Nat.le_of_ble_eq_true rfl) ?_
  show Wp G l 5 RX7 cX7_takesE 4 (some .boolean) 0 [.ref (gA G 134), .int (nI c), mk0, mk0] [] h _
  have F1 : Fr (eF s0 c) (setI h 145 c (nI s0)) (setI (setI (setI h 134 24 0) 134 25 0) 145 c (nI s0)) := by
    refine ⟨fun x j q => ?_, rfl⟩
    rw [setI_1, setI_1 h]
    by_cases e : x = 145 ∧ j = c
    · rw [if_pos e, if_pos e]
    · rw [if_neg e, if_neg e, setI_1, setI_1, if_neg, if_neg]
      · rintro ⟨rfl, rfl⟩
        simp [eF, teF, whF] at q
      · rintro ⟨rfl, rfl⟩
        simp [eF, teF, whF] at q
  refine r_aload_n dX7_takesE_0 rfl ?_
  refine r_iconst (v := 0) dX7_takesE_1 (by decide) ?_
  refine r_putI dX7_takesE_2 k_X7_83 rfl (by decide) rfl rfl rfl rfl ?_
  refine r_aload_n dX7_takesE_5 rfl ?_
  refine r_iconst (v := 0) dX7_takesE_6 (by decide) ?_
  refine r_putI dX7_takesE_7 k_X7_86 rfl (by decide) rfl rfl rfl rfl ?_
  refine r_aload_n dX7_takesE_10 rfl ?_
  refine r_getR (j := 145) dX7_takesE_11 k_X7_68 rfl (by decide) rfl rfl ?_
  refine r_iload_n dX7_takesE_14 rfl ?_
  refine r_aload_n dX7_takesE_15 rfl ?_
  refine r_getI dX7_takesE_16 k_X7_80 rfl (by decide) rfl ?_
  rw [setI_nj (by decide), setI_nj (by decide), hg]
  refine r_iast (c) dX7_takesE_19 rfl rfl (show c < 60 by omega) ?_
  refine r_iconst (v := 1) dX7_takesE_20 (by decide) ?_
  refine r_istore_n dX7_takesE_21 (by decide) rfl rfl ?_
  dsimp only [List.set]
  refine Wp.mono (takesE_loop hG (X := X) hc hs (X.1 + 1) a true [] [] _ _ (by omega) ?_ ?_ ?_ (by show z0 + (0 + 0) ≤ a; omega) (fun x q => absurd q List.not_mem_nil) F1) (fun r h' q => ?_)
  · exact ((H.fr (Fr.set (S := fun a i => a == 134 && i == 24) rfl) rfl (fun _ => rfl) rfl).fr (Fr.set (S := fun a i => a == 134 && i == 25) rfl) rfl (fun _ => rfl) rfl).fr (Fr.set (S := fun a i => a == 145) rfl) rfl (fun _ => rfl) rfl
  · refine ⟨?_, ?_, fun j d q => (by cases q)⟩
    · rw [setI_ne (by decide), setI_nj (by decide), setI_at]; rfl
    · rw [setI_ne (by decide), setI_at]; rfl
  · refine ⟨?_, fun j d q => (by cases q)⟩
    rw [setI_ne (by decide), setI_nj (by decide), setI_nj (by decide), hg]; rfl
  · refine ⟨q, ?_, ?_⟩
    · rw [q.2.2.1 145 c (by simp [eF, teF, whF, nuF, puF]), setI_at]
    · refine Fr.tr (h1 := setI h 145 c (nI s0)) (Fr.set (by simp [tkF])) (q.2.2.wk (fun x i z => ?_))
      simp only [tkF, Bool.or_eq_false_iff] at z
      exact z.1
