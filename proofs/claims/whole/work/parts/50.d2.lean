/-! a house's tests -/
theorem DCd.t {h : Hp} {q i : Nat} {t : Int} (H : DCd h q i t) (ht : 0 ≤ t) : h.1 (q + 4) i = 0 ∧ h.1 (q + 5) i = nI (t.toNat / 1000) ∧ h.1 (q + 6) i = leastS t.toNat ∧ h.1 (q + 7) i = mostS t.toNat := by
  unfold DCd at H
  rw [if_neg (by omega), if_neg (by omega), if_neg (by omega)] at H
  exact H.2
theorem DCd.n {h : Hp} {q i : Nat} (H : DCd h q i (-33)) : h.1 (q + 4) i = 1 := H
theorem DCd.a {h : Hp} {q i : Nat} (H : DCd h q i (-38)) : h.1 (q + 4) i = 2 := H
theorem DCd.o {h : Hp} {q i : Nat} (H : DCd h q i (-124)) : h.1 (q + 4) i = 3 := H
def LtOK (h : Hp) (lt : Nat → Nat) : Prop := ∀ f, f < 6 → h.1 42 f = nI (lt f) ∧ lt f < 100
theorem dholds_loop {G : WT} {l : Launch} (hG : GOK G) {q c e0 : Nat} {lt : Nat → Nat} {h : Hp} {code : List Int} (hq : ksh q = 1) (hc : c < 10) (hen : h.1 (q + 3) c = nI (e0 + code.length)) (he : e0 + code.length ≤ 100) (hcd : DCs h q e0 code) (hlt : LtOK h lt) : ∀ (m j : Nat) (st : List Bool) (x5 : Value), j + m = code.length → st.length ≤ 20 → dpL st.length (code.drop j) = some 1 → Wp G l 1 RX1 cX1_holds 6 (some .boolean) 20 [.ref (gA G q), .int (nI c), .ref (gA G 42), .int (nI (nS st)), .int (nI (e0 + j)), x5] [] h (fun r h' => r = some (.int (b01 ((evL lt st (code.drop j)).headD false))) ∧ h' = h) := by
  intro m
  induction m with
  | zero =>
    intro j st x5 hj hs hd
    rw [List.drop_eq_nil_of_le (by omega)] at hd ⊢
    have e1 : st.length = 1 := Option.some.inj hd
    obtain ⟨b, rfl⟩ : ∃ b, st = [b] := by
      match st, e1 with
      | [b], _ => exact ⟨b, rfl⟩
    show Wp G l _ _ _ _ _ _ _ _ _ (fun r h' => r = some (.int (b01 b)) ∧ h' = h)
    refine r_iload dX1_holds_20 rfl ?_
    refine r_aload_n dX1_holds_22 rfl ?_
    refine r_getR (j := q + 3) dX1_holds_23 k_X1_18 (by assumption) (by decide) rfl (rf_H (by assumption) (by decide)) ?_
    refine r_iload_n dX1_holds_26 rfl ?_
    refine r_iald (c) dX1_holds_27 (ks_H (by assumption) (by decide)) rfl (bH1 2 hq (by decide) hc) ?_
    rw [hen]
    refine r_icmp_ge (tgt := 145) dX1_holds_28 (by decide) (fun c_28 => ?_) (fun c_28 => ?_)
    · refine r_iload_n dX1_holds_145 rfl ?_
      refine r_iconst (v := 1) dX1_holds_146 (by decide) ?_
      refine r_iand dX1_holds_147 ?_
      refine r_iconst (v := 1) dX1_holds_148 (by decide) ?_
      rw [st_one]
      refine r_icmp_ne (tgt := 156) dX1_holds_149 (by decide) (fun c_149 => ?_) (fun c_149 => ?_)
      · have e : b = false := by cases b <;> first | rfl | exact absurd rfl c_149
        refine r_iconst (v := 0) dX1_holds_156 (by decide) ?_
        refine r_ireturn dX1_holds_157 ⟨_, rfl, rfl⟩ ?_
        exact ⟨by rw [e]; rfl, rfl⟩
      · have e : b = true := by cases b <;> first | rfl | exact absurd c_149 (by decide)
        refine r_iconst (v := 1) dX1_holds_152 (by decide) ?_
        refine r_goto (tgt := 157) dX1_holds_153 (by decide) ?_
        refine r_ireturn dX1_holds_157 ⟨_, rfl, rfl⟩ ?_
        exact ⟨by rw [e]; rfl, rfl⟩
    · exact absurd (nI_le (by omega) (by omega)) c_28
  | succ m ih =>
    intro j st x5 hj hs hd
    have hjl : j < code.length := by omega
    obtain ⟨t, ht⟩ : ∃ t, t = code[j] := ⟨_, rfl⟩
    have ed : code.drop j = t :: code.drop (j + 1) := by rw [ht]; exact List.drop_eq_getElem_cons hjl
    have cd := hcd j t (by rw [ht]; exact List.getElem?_eq_getElem hjl)
    rw [ed] at hd ⊢
    have hd2 : (match dpS st.length t with | some e => dpL e (code.drop (j + 1)) | none => none) = some 1 := hd
    cases hds : dpS st.length t with
    | none => rw [hds] at hd2; cases hd2
    | some e =>
      rw [hds] at hd2
      have hd2 : dpL e (code.drop (j + 1)) = some 1 := hd2
      have hel := dpS_lt hds hs
      have hsl := evS_len (lt := lt) hds
      show Wp G l _ _ _ _ _ _ _ _ _ (fun r h' => r = some (.int (b01 ((evL lt (evS lt st t) (code.drop (j + 1))).headD false))) ∧ h' = h)
      have nxt : ∀ (y5 : Value) (z : Int32), z = nI (nS (evS lt st t)) → Wp G l 1 RX1 cX1_holds 6 (some .boolean) 20 [.ref (gA G q), .int (nI c), .ref (gA G 42), .int z, .int (nI (e0 + j + 1)), y5] [] h (fun r h' => r = some (.int (b01 ((evL lt (evS lt st t) (code.drop (j + 1))).headD false))) ∧ h' = h) := by
        intro y5 z hz
        subst hz
        rw [Nat.add_assoc]
        exact ih (j + 1) (evS lt st t) y5 (by omega) (by omega) (by rw [hsl]; exact hd2)
      by_cases h33 : t = -33
      · subst h33
        have d1 : 1 ≤ st.length := by
          unfold dpS at hds
          rw [if_pos rfl] at hds
          split at hds
          · rename_i q9; exact q9
          · cases hds
        obtain ⟨b, s, rfl⟩ : ∃ b s, st = b :: s := by
          match st, d1 with
          | b :: s, _ => exact ⟨b, s, rfl⟩
        refine r_iload dX1_holds_20 rfl ?_
        refine r_aload_n dX1_holds_22 rfl ?_
        refine r_getR (j := q + 3) dX1_holds_23 k_X1_18 (by assumption) (by decide) rfl (rf_H (by assumption) (by decide)) ?_
        refine r_iload_n dX1_holds_26 rfl ?_
        refine r_iald (c) dX1_holds_27 (ks_H (by assumption) (by decide)) rfl (bH1 2 hq (by decide) hc) ?_
        rw [hen]
        refine r_icmp_ge (tgt := 145) dX1_holds_28 (by decide) (fun c_28 => ?_) (fun c_28 => ?_)
        · exact absurd c_28 (nI_ge (by omega) (by omega))
        · refine r_aload_n dX1_holds_31 rfl ?_
          refine r_getR (j := q + 4) dX1_holds_32 k_X1_21 (by assumption) (by decide) rfl (rf_H (by assumption) (by decide)) ?_
          refine r_iload dX1_holds_35 rfl ?_
          refine r_iald (e0 + j) dX1_holds_37 (ks_H (by assumption) (by decide)) rfl (bH2 3 hq (by decide) (by decide) (by omega)) ?_
          rw [cd.n]
          · refine r_tsw 64 dX1_holds_38 rfl (by decide) rfl ?_
            refine r_iload_n dX1_holds_64 rfl ?_
            refine r_iconst (v := 1) dX1_holds_65 (by decide) ?_
            refine r_ixor dX1_holds_66 ?_
            refine r_istore_n dX1_holds_67 (by decide) rfl rfl ?_
            dsimp only [List.set]
            refine r_goto (tgt := 139) dX1_holds_68 (by decide) ?_
            refine r_iinc dX1_holds_139 rfl (by first | exact nI_inc _ | rfl) (by decide) rfl rfl ?_
            dsimp only [List.set]
            refine r_goto (tgt := 20) dX1_holds_142 (by decide) ?_
            exact nxt _ _ (st_not b s)
      · by_cases hng : t < 0
        · obtain ⟨d2, h3⟩ := dpS_bin hds hng h33
          obtain ⟨b, a, s, rfl⟩ : ∃ b a s, st = b :: a :: s := by
            match st, d2 with
            | b :: a :: s, _ => exact ⟨b, a, s, rfl⟩
          have hs18 : s.length ≤ 18 := by
            have : s.length + 1 + 1 ≤ 20 := hs
            omega
          rcases h3 with rfl | rfl
          · refine r_iload dX1_holds_20 rfl ?_
            refine r_aload_n dX1_holds_22 rfl ?_
            refine r_getR (j := q + 3) dX1_holds_23 k_X1_18 (by assumption) (by decide) rfl (rf_H (by assumption) (by decide)) ?_
            refine r_iload_n dX1_holds_26 rfl ?_
            refine r_iald (c) dX1_holds_27 (ks_H (by assumption) (by decide)) rfl (bH1 2 hq (by decide) hc) ?_
            rw [hen]
            refine r_icmp_ge (tgt := 145) dX1_holds_28 (by decide) (fun c_28 => ?_) (fun c_28 => ?_)
            · exact absurd c_28 (nI_ge (by omega) (by omega))
            · refine r_aload_n dX1_holds_31 rfl ?_
              refine r_getR (j := q + 4) dX1_holds_32 k_X1_21 (by assumption) (by decide) rfl (rf_H (by assumption) (by decide)) ?_
              refine r_iload dX1_holds_35 rfl ?_
              refine r_iald (e0 + j) dX1_holds_37 (ks_H (by assumption) (by decide)) rfl (bH2 3 hq (by decide) (by decide) (by omega)) ?_
              rw [cd.a]
              · refine r_tsw 71 dX1_holds_38 rfl (by decide) rfl ?_
                refine r_iload_n dX1_holds_71 rfl ?_
                refine r_iconst (v := 1) dX1_holds_72 (by decide) ?_
                refine r_ishr dX1_holds_73 ?_
                refine r_iload_n dX1_holds_74 rfl ?_
                refine r_bipush (v := -2) dX1_holds_75 (by decide) ?_
                refine r_ior dX1_holds_77 ?_
                refine r_iand dX1_holds_78 ?_
                refine r_istore_n dX1_holds_79 (by decide) rfl rfl ?_
                dsimp only [List.set]
                refine r_goto (tgt := 139) dX1_holds_80 (by decide) ?_
                refine r_iinc dX1_holds_139 rfl (by first | exact nI_inc _ | rfl) (by decide) rfl rfl ?_
                dsimp only [List.set]
                refine r_goto (tgt := 20) dX1_holds_142 (by decide) ?_
                exact nxt _ _ (st_and a b hs18)
          · refine r_iload dX1_holds_20 rfl ?_
            refine r_aload_n dX1_holds_22 rfl ?_
            refine r_getR (j := q + 3) dX1_holds_23 k_X1_18 (by assumption) (by decide) rfl (rf_H (by assumption) (by decide)) ?_
            refine r_iload_n dX1_holds_26 rfl ?_
            refine r_iald (c) dX1_holds_27 (ks_H (by assumption) (by decide)) rfl (bH1 2 hq (by decide) hc) ?_
            rw [hen]
            refine r_icmp_ge (tgt := 145) dX1_holds_28 (by decide) (fun c_28 => ?_) (fun c_28 => ?_)
            · exact absurd c_28 (nI_ge (by omega) (by omega))
            · refine r_aload_n dX1_holds_31 rfl ?_
              refine r_getR (j := q + 4) dX1_holds_32 k_X1_21 (by assumption) (by decide) rfl (rf_H (by assumption) (by decide)) ?_
              refine r_iload dX1_holds_35 rfl ?_
              refine r_iald (e0 + j) dX1_holds_37 (ks_H (by assumption) (by decide)) rfl (bH2 3 hq (by decide) (by decide) (by omega)) ?_
              rw [cd.o]
              · refine r_tsw 83 dX1_holds_38 rfl (by decide) rfl ?_
                refine r_iload_n dX1_holds_83 rfl ?_
                refine r_iconst (v := 1) dX1_holds_84 (by decide) ?_
                refine r_ishr dX1_holds_85 ?_
                refine r_iload_n dX1_holds_86 rfl ?_
                refine r_iconst (v := 1) dX1_holds_87 (by decide) ?_
                refine r_iand dX1_holds_88 ?_
                refine r_ior dX1_holds_89 ?_
                refine r_istore_n dX1_holds_90 (by decide) rfl rfl ?_
                dsimp only [List.set]
                refine r_goto (tgt := 139) dX1_holds_91 (by decide) ?_
                refine r_iinc dX1_holds_139 rfl (by first | exact nI_inc _ | rfl) (by decide) rfl rfl ?_
                dsimp only [List.set]
                refine r_goto (tgt := 20) dX1_holds_142 (by decide) ?_
                exact nxt _ _ (st_or a b hs18)
        · have h0 : 0 ≤ t := by omega
          obtain ⟨c1, c2, c3, c4⟩ := cd.t h0
          have hcn : st.length < 20 ∧ t < 5300 ∧ t.toNat / 100 % 10 < 3 := by
            unfold dpS at hds
            rw [if_neg h33, if_neg hng] at hds
            split at hds
            · rename_i q9; exact q9
            · cases hds
          have hf : t.toNat / 1000 < 6 := by omega
          obtain ⟨l1, l2⟩ := hlt _ hf
          have hev : evS lt st t = tstS t.toNat lt :: st := by unfold evS; rw [if_neg h33, if_neg hng]
          have cmp := tst_cmp hcn.2.2 l2 lt rfl
          have pu : ∀ (y5 : Value) (b : Bool), b = tstS t.toNat lt → Wp G l 1 RX1 cX1_holds 6 (some .boolean) 20 [.ref (gA G q), .int (nI c), .ref (gA G 42), .int ((nI (nS st) <<< ((1 : Int32) &&& 31)) ||| b01 b), .int (nI (e0 + j + 1)), y5] [] h (fun r h' => r = some (.int (b01 ((evL lt (evS lt st t) (code.drop (j + 1))).headD false))) ∧ h' = h) := fun y5 b hb => nxt y5 _ (by rw [st_push b hs, hev, hb])
          refine r_iload dX1_holds_20 rfl ?_
          refine r_aload_n dX1_holds_22 rfl ?_
          refine r_getR (j := q + 3) dX1_holds_23 k_X1_18 (by assumption) (by decide) rfl (rf_H (by assumption) (by decide)) ?_
          refine r_iload_n dX1_holds_26 rfl ?_
          refine r_iald (c) dX1_holds_27 (ks_H (by assumption) (by decide)) rfl (bH1 2 hq (by decide) hc) ?_
          rw [hen]
          refine r_icmp_ge (tgt := 145) dX1_holds_28 (by decide) (fun c_28 => ?_) (fun c_28 => ?_)
          · exact absurd c_28 (nI_ge (by omega) (by omega))
          · refine r_aload_n dX1_holds_31 rfl ?_
            refine r_getR (j := q + 4) dX1_holds_32 k_X1_21 (by assumption) (by decide) rfl (rf_H (by assumption) (by decide)) ?_
            refine r_iload dX1_holds_35 rfl ?_
            refine r_iald (e0 + j) dX1_holds_37 (ks_H (by assumption) (by decide)) rfl (bH2 3 hq (by decide) (by decide) (by omega)) ?_
            rw [c1]
            · refine r_tsw 94 dX1_holds_38 rfl (by decide) rfl ?_
              refine r_aload_n dX1_holds_94 rfl ?_
              refine r_aload_n dX1_holds_95 rfl ?_
              refine r_getR (j := q + 5) dX1_holds_96 k_X1_24 (by assumption) (by decide) rfl (rf_H (by assumption) (by decide)) ?_
              refine r_iload dX1_holds_99 rfl ?_
              refine r_iald (e0 + j) dX1_holds_101 (ks_H (by assumption) (by decide)) rfl (bH2 4 hq (by decide) (by decide) (by omega)) ?_
              refine r_iald (t.toNat / 1000) dX1_holds_102 rfl c2 hf ?_
              rw [l1]
              refine r_istore dX1_holds_103 (by decide) rfl rfl ?_
              dsimp only [List.set]
              refine r_iload_n dX1_holds_105 rfl ?_
              refine r_iconst (v := 1) dX1_holds_106 (by decide) ?_
              refine r_ishl dX1_holds_107 ?_
              refine r_iload dX1_holds_108 rfl ?_
              refine r_aload_n dX1_holds_110 rfl ?_
              refine r_getR (j := q + 6) dX1_holds_111 k_X1_27 (by assumption) (by decide) rfl (rf_H (by assumption) (by decide)) ?_
              refine r_iload dX1_holds_114 rfl ?_
              refine r_iald (e0 + j) dX1_holds_116 (ks_H (by assumption) (by decide)) rfl (bH2 5 hq (by decide) (by decide) (by omega)) ?_
              rw [c3]
              refine r_icmp_lt (tgt := 136) dX1_holds_117 (by decide) (fun c_117 => ?_) (fun c_117 => ?_)
              · refine r_iconst (v := 0) dX1_holds_136 (by decide) ?_
                refine r_ior dX1_holds_137 ?_
                refine r_istore_n dX1_holds_138 (by decide) rfl rfl ?_
                dsimp only [List.set]
                refine r_iinc dX1_holds_139 rfl (by first | exact nI_inc _ | rfl) (by decide) rfl rfl ?_
                dsimp only [List.set]
                refine r_goto (tgt := 20) dX1_holds_142 (by decide) ?_
                exact pu _ false (by rw [cmp]; exact (decide_eq_false (fun q9 => absurd c_117 (Int32.not_lt.mpr q9.1))).symm)
              · refine r_iload dX1_holds_120 rfl ?_
                refine r_aload_n dX1_holds_122 rfl ?_
                refine r_getR (j := q + 7) dX1_holds_123 k_X1_30 (by assumption) (by decide) rfl (rf_H (by assumption) (by decide)) ?_
                refine r_iload dX1_holds_126 rfl ?_
                refine r_iald (e0 + j) dX1_holds_128 (ks_H (by assumption) (by decide)) rfl (bH2 6 hq (by decide) (by decide) (by omega)) ?_
                rw [c4]
                refine r_icmp_gt (tgt := 136) dX1_holds_129 (by decide) (fun c_129 => ?_) (fun c_129 => ?_)
                · refine r_iconst (v := 0) dX1_holds_136 (by decide) ?_
                  refine r_ior dX1_holds_137 ?_
                  refine r_istore_n dX1_holds_138 (by decide) rfl rfl ?_
                  dsimp only [List.set]
                  refine r_iinc dX1_holds_139 rfl (by first | exact nI_inc _ | rfl) (by decide) rfl rfl ?_
                  dsimp only [List.set]
                  refine r_goto (tgt := 20) dX1_holds_142 (by decide) ?_
                  exact pu _ false (by rw [cmp]; exact (decide_eq_false (fun q9 => absurd c_129 (Int32.not_lt.mpr q9.2))).symm)
                · refine r_iconst (v := 1) dX1_holds_132 (by decide) ?_
                  refine r_goto (tgt := 137) dX1_holds_133 (by decide) ?_
                  refine r_ior dX1_holds_137 ?_
                  refine r_istore_n dX1_holds_138 (by decide) rfl rfl ?_
                  dsimp only [List.set]
                  refine r_iinc dX1_holds_139 rfl (by first | exact nI_inc _ | rfl) (by decide) rfl rfl ?_
                  dsimp only [List.set]
                  refine r_goto (tgt := 20) dX1_holds_142 (by decide) ?_
                  exact pu _ true (by rw [cmp]; exact (decide_eq_true ⟨Int32.not_lt.mp c_117, Int32.not_lt.mp c_129⟩).symm)
set_option maxRecDepth 100000 in
theorem m_X1_holds {G : WT} {l : Launch} (hG : GOK G) {h : Hp} {q c : Nat} {V : Hv} {lt : Nat → Nat} (hq : ksh q = 1) (H : DHs h q V) (hc : c < V.1) (hs : V.2.1 c ≤ 1) (hlt : LtOK h lt) : Cl G l 1 yX1_holds cX1_holds 6 (some .boolean) [.ref (gA G q), .int (nI c), .ref (gA G 42)] h (fun r h' => r = some (.int (b01 (holdsS (V.2.2.2 c) lt))) ∧ h' = h) := by
  refine Cl.of hG (by decide) (Nat.le_of_ble_eq_true rfl) ?_
  show Wp G l 1 RX1 cX1_holds 6 (some .boolean) 0 [.ref (gA G q), .int (nI c), .ref (gA G 42), mk0, mk0, mk0] [] h _
  obtain ⟨h1, h2, h3, h4, -⟩ := H
  have h10 := h2.1
  obtain ⟨a1, a2, a3, a4, a5⟩ := h4 c hc
  have m1 := enS_mono V (a := c + 1) V.1 (by omega)
  have me : enS V (c + 1) = enS V c + (V.2.2.2 c).length := rfl
  have k := dholds_loop (l := l) hG hq (c := c) (e0 := enS V c) (code := V.2.2.2 c) (lt := lt) (by omega) (by rw [a3, me]) (by omega) a4 hlt (V.2.2.2 c).length 0 [] mk0 (by omega) (by decide) (a5 hs)
  by_cases h0 : c = 0
  · subst h0
    refine r_iconst (v := 0) dX1_holds_0 (by decide) ?_
    refine r_istore_n dX1_holds_1 (by decide) rfl rfl ?_
    dsimp only [List.set]
    refine r_iload_n dX1_holds_2 rfl ?_
    refine r_if_le (tgt := 17) dX1_holds_3 (by decide) (fun c_3 => ?_) (fun c_3 => ?_)
    · refine r_iconst (v := 0) dX1_holds_17 (by decide) ?_
      refine r_istore dX1_holds_18 (by decide) rfl rfl ?_
      dsimp only [List.set]
      exact k
    · exact absurd (Int32.le_refl _) c_3
  · have b1 : h.1 (q + 3) (c - 1) = nI (enS V c) := by
      have := (h4 (c - 1) (by omega)).2.2.1
      rwa [show c - 1 + 1 = c by omega] at this
    refine r_iconst (v := 0) dX1_holds_0 (by decide) ?_
    refine r_istore_n dX1_holds_1 (by decide) rfl rfl ?_
    dsimp only [List.set]
    refine r_iload_n dX1_holds_2 rfl ?_
    refine r_if_le (tgt := 17) dX1_holds_3 (by decide) (fun c_3 => ?_) (fun c_3 => ?_)
    · exact absurd c_3 (nI_ge (a := 0) (by omega) (by omega))
    · refine r_aload_n dX1_holds_6 rfl ?_
      refine r_getR (j := q + 3) dX1_holds_7 k_X1_18 (by assumption) (by decide) rfl (rf_H (by assumption) (by decide)) ?_
      refine r_iload_n dX1_holds_10 rfl ?_
      refine r_iconst (v := 1) dX1_holds_11 (by decide) ?_
      refine r_isub dX1_holds_12 ?_
      refine r_iald (c - 1) dX1_holds_13 (ks_H (by assumption) (by decide)) (by rw [show (1 : Int32) = nI 1 from rfl, pk_sub (by omega)]) (bH1 2 hq (by decide) (show c - 1 < 10 by omega)) ?_
      rw [b1]
      refine r_goto (tgt := 18) dX1_holds_14 (by decide) ?_
      refine r_istore dX1_holds_18 (by decide) rfl rfl ?_
      dsimp only [List.set]
      exact k
theorem dtogether_loop {G : WT} {l : Launch} (hG : GOK G) {q w : Nat} {V : Hv} {lt : Nat → Nat} {h : Hp} (hq : ksh q = 1) (H : DHs h q V) (hw : w ≤ 1) (hlt : LtOK h lt) : ∀ (m c : Nat), c + m = V.1 → Wp G l 2 RX1 cX1_together 6 (some .int) 8 [.ref (gA G q), .int (nI w), .ref (gA G 42), .int (b01 (anyTo (isS V w) c)), .int (nI (sumTo (smF V w lt) c)), .int (nI c)] [] h (fun r h' => r = some (.int (if anyS V w = true then nI (sumS V w lt) else if w = 0 then 1 else 5)) ∧ h' = h) := by
  have h10 := H.2.1.1
  intro m
  induction m with
  | zero =>
    intro c hc
    have e : c = V.1 := by omega
    subst e
    refine r_iload dX1_together_8 rfl ?_
    refine r_aload_n dX1_together_10 rfl ?_
    refine r_getI dX1_together_11 k_X1_33 (by assumption) (by decide) rfl ?_
    rw [H.1]
    refine r_icmp_ge (tgt := 62) dX1_together_14 (by decide) (fun c_14 => ?_) (fun c_14 => ?_)
    · refine r_iload_n dX1_together_62 rfl ?_
      refine r_if_eq (tgt := 69) dX1_together_63 (by decide) (fun c_63 => ?_) (fun c_63 => ?_)
      · refine r_iload_n dX1_together_69 rfl ?_
        refine r_if_ne (tgt := 77) dX1_together_70 (by decide) (fun c_70 => ?_) (fun c_70 => ?_)
        · refine r_iconst (v := 5) dX1_together_77 (by decide) ?_
          refine r_ireturn dX1_together_78 ⟨_, rfl, rfl⟩ ?_
          exact ⟨by rw [show anyS V w = false from b01_0.mp c_63, if_neg Bool.false_ne_true, if_neg (fun y => c_70 (by rw [y]; rfl))], rfl⟩
        · refine r_iconst (v := 1) dX1_together_73 (by decide) ?_
          refine r_goto (tgt := 78) dX1_together_74 (by decide) ?_
          refine r_ireturn dX1_together_78 ⟨_, rfl, rfl⟩ ?_
          exact ⟨by rw [show anyS V w = false from b01_0.mp c_63, if_neg Bool.false_ne_true, if_pos ((nI_eq' (b := 0) (by omega) (by omega)).mp c_70)], rfl⟩
      · refine r_iload dX1_together_66 rfl ?_
        refine r_ireturn dX1_together_68 ⟨_, rfl, rfl⟩ ?_
        exact ⟨by rw [show anyS V w = true from b01_n0.mp c_63, if_pos rfl]; rfl, rfl⟩
    · exact absurd (nI_le (by omega) (by omega)) c_14
  | succ m ih =>
    intro c hc
    obtain ⟨a1, a2, a3, a4, a5⟩ := H.2.2.2.1 c (by omega)
    have a6 := H.2.1.2 c (by omega)
    have nxt : ∀ (b : Bool) (z : Nat), b = anyTo (isS V w) (c + 1) → z = smF V w lt c → Wp G l 2 RX1 cX1_together 6 (some .int) 8 [.ref (gA G q), .int (nI w), .ref (gA G 42), .int (b01 b), .int (nI (sumTo (smF V w lt) c) + nI z), .int (nI (c + 1))] [] h (fun r h' => r = some (.int (if anyS V w = true then nI (sumS V w lt) else if w = 0 then 1 else 5)) ∧ h' = h) := by
      intro b z hb hz
      subst hb hz
      rw [nI_add]
      exact ih (c + 1) (by omega)
    by_cases hs : V.2.1 c = w
    · have i1 : isS V w c = true := by simp [isS, hs]
      have n1 : true = anyTo (isS V w) (c + 1) := by show true = (anyTo (isS V w) c || isS V w c); rw [i1, Bool.or_true]
      refine r_iload dX1_together_8 rfl ?_
      refine r_aload_n dX1_together_10 rfl ?_
      refine r_getI dX1_together_11 k_X1_33 (by assumption) (by decide) rfl ?_
      rw [H.1]
      refine r_icmp_ge (tgt := 62) dX1_together_14 (by decide) (fun c_14 => ?_) (fun c_14 => ?_)
      · exact absurd c_14 (nI_ge (by omega) (by omega))
      · refine r_aload_n dX1_together_17 rfl ?_
        refine r_getR (j := q + 1) dX1_together_18 k_X1_9 (by assumption) (by decide) rfl (rf_H (by assumption) (by decide)) ?_
        refine r_iload dX1_together_21 rfl ?_
        refine r_iald (c) dX1_together_23 (ks_H (by assumption) (by decide)) rfl (bH1 0 hq (by decide) (show c < 10 by omega)) ?_
        refine r_iload_n dX1_together_24 rfl ?_
        rw [a1]
        refine r_icmp_ne (tgt := 56) dX1_together_25 (by decide) (fun c_25 => ?_) (fun c_25 => ?_)
        · exact absurd (by rw [hs]) c_25
        · refine r_iconst (v := 1) dX1_together_28 (by decide) ?_
          refine r_istore_n dX1_together_29 (by decide) rfl rfl ?_
          dsimp only [List.set]
          refine r_iload dX1_together_30 rfl ?_
          refine r_aload_n dX1_together_32 rfl ?_
          refine r_iload dX1_together_33 rfl ?_
          refine r_aload_n dX1_together_35 rfl ?_
          refine r_callV dX1_together_36 l_X1_55 o_X1_holds v_X1_holds (by assumption) (by decide) rfl rfl (m_X1_holds hG hq H (show c < V.1 by omega) (by omega) hlt) (by decide) rfl (Nat.le_of_ble_eq_true rfl) (fun r36 h36 hq36 => ?_)
          obtain ⟨rfl, e36⟩ := hq36
          rw [e36]
          clear e36 h36
          refine r_if_eq (tgt := 52) dX1_together_39 (by decide) (fun c_39 => ?_) (fun c_39 => ?_)
          · have hz : 0 = smF V w lt c := by rw [smF, b01_0.mp c_39]; simp
            refine r_iconst (v := 0) dX1_together_52 (by decide) ?_
            refine r_iadd dX1_together_53 ?_
            refine r_istore dX1_together_54 (by decide) rfl rfl ?_
            dsimp only [List.set]
            refine r_iinc dX1_together_56 rfl (by first | exact nI_inc _ | rfl) (by decide) rfl rfl ?_
            dsimp only [List.set]
            refine r_goto (tgt := 8) dX1_together_59 (by decide) ?_
            exact nxt true _ n1 hz
          · have hz : V.2.2.1 c = smF V w lt c := by rw [smF, b01_n0.mp c_39, i1]; rfl
            refine r_aload_n dX1_together_42 rfl ?_
            refine r_getR (j := q + 2) dX1_together_43 k_X1_15 (by assumption) (by decide) rfl (rf_H (by assumption) (by decide)) ?_
            refine r_iload dX1_together_46 rfl ?_
            refine r_iald (c) dX1_together_48 (ks_H (by assumption) (by decide)) rfl (bH1 1 hq (by decide) (show c < 10 by omega)) ?_
            rw [a2]
            refine r_goto (tgt := 53) dX1_together_49 (by decide) ?_
            refine r_iadd dX1_together_53 ?_
            refine r_istore dX1_together_54 (by decide) rfl rfl ?_
            dsimp only [List.set]
            refine r_iinc dX1_together_56 rfl (by first | exact nI_inc _ | rfl) (by decide) rfl rfl ?_
            dsimp only [List.set]
            refine r_goto (tgt := 8) dX1_together_59 (by decide) ?_
            exact nxt true _ n1 hz
    · have i1 : isS V w c = false := by simp [isS, hs]
      have n1 : anyTo (isS V w) c = anyTo (isS V w) (c + 1) := by show _ = (anyTo (isS V w) c || isS V w c); rw [i1, Bool.or_false]
      have hz : 0 = smF V w lt c := by rw [smF, i1]; rfl
      have k := nxt _ 0 n1 hz
      rw [nI_add, Nat.add_zero] at k
      refine r_iload dX1_together_8 rfl ?_
      refine r_aload_n dX1_together_10 rfl ?_
      refine r_getI dX1_together_11 k_X1_33 (by assumption) (by decide) rfl ?_
      rw [H.1]
      refine r_icmp_ge (tgt := 62) dX1_together_14 (by decide) (fun c_14 => ?_) (fun c_14 => ?_)
      · exact absurd c_14 (nI_ge (by omega) (by omega))
      · refine r_aload_n dX1_together_17 rfl ?_
        refine r_getR (j := q + 1) dX1_together_18 k_X1_9 (by assumption) (by decide) rfl (rf_H (by assumption) (by decide)) ?_
        refine r_iload dX1_together_21 rfl ?_
        refine r_iald (c) dX1_together_23 (ks_H (by assumption) (by decide)) rfl (bH1 0 hq (by decide) (show c < 10 by omega)) ?_
        refine r_iload_n dX1_together_24 rfl ?_
        rw [a1]
        refine r_icmp_ne (tgt := 56) dX1_together_25 (by decide) (fun c_25 => ?_) (fun c_25 => ?_)
        · refine r_iinc dX1_together_56 rfl (by first | exact nI_inc _ | rfl) (by decide) rfl rfl ?_
          dsimp only [List.set]
          refine r_goto (tgt := 8) dX1_together_59 (by decide) ?_
          exact k
        · exact absurd ((nI_eq' (by omega) (by omega)).mp c_25) hs
set_option maxRecDepth 100000 in
theorem m_X1_together {G : WT} {l : Launch} (hG : GOK G) {h : Hp} {q w : Nat} {V : Hv} {lt : Nat → Nat} (hq : ksh q = 1) (H : DHs h q V) (hw : w ≤ 1) (hlt : LtOK h lt) : Cl G l 2 yX1_together cX1_together 6 (some .int) [.ref (gA G q), .int (nI w), .ref (gA G 42)] h (fun r h' => r = some (.int (nI (if w = 0 then worthS V lt else costS V lt))) ∧ h' = h) := by
  refine Cl.of hG (by decide) (Nat.le_of_ble_eq_true rfl) ?_
  show Wp G l 2 RX1 cX1_together 6 (some .int) 0 [.ref (gA G q), .int (nI w), .ref (gA G 42), mk0, mk0, mk0] [] h _
  have e : nI (if w = 0 then worthS V lt else costS V lt) = if anyS V w = true then nI (sumS V w lt) else if w = 0 then 1 else 5 := by
    rcases (show w = 0 ∨ w = 1 by omega) with rfl | rfl
    · show nI (worthS V lt) = _
      unfold worthS
      cases anyS V 0 <;> rfl
    · show nI (costS V lt) = _
      unfold costS
      cases anyS V 1 <;> rfl
  rw [e]
  refine r_iconst (v := 0) dX1_together_0 (by decide) ?_
  refine r_istore_n dX1_together_1 (by decide) rfl rfl ?_
  dsimp only [List.set]
  refine r_iconst (v := 0) dX1_together_2 (by decide) ?_
  refine r_istore dX1_together_3 (by decide) rfl rfl ?_
  dsimp only [List.set]
  refine r_iconst (v := 0) dX1_together_5 (by decide) ?_
  refine r_istore dX1_together_6 (by decide) rfl rfl ?_
  dsimp only [List.set]
  exact dtogether_loop hG hq H hw hlt V.1 0 (by omega)
