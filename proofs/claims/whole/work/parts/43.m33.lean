/-! takesE -/
theorem RAt.e {s0 a : Nat} {X : Tx} {h h' : Hp} (H : RAt h X a) (hF : Fr (whF s0) h h') : RAt h' X a := H.fr hF (by simp [whF, puF]) (fun _ => by simp [whF, puF]) (by simp [whF, puF])
theorem RG.ne {s0 : Nat} {acc : List Int} {h : Hp} {a i : Nat} {v : Int32} (H : RG h s0 acc) (h1 : ¬ a = 147) (h2 : ¬ (a = 134 ∧ i = 23)) : RG (setI h a i v) s0 acc := ⟨by rw [setI_1, if_neg (fun q => h2 ⟨q.1.symm, q.2.symm⟩)]; exact H.1, fun j t q => by rw [setI_ne (fun q => h1 q.symm)]; exact H.2 j t q⟩
theorem takesE_open {G : WT} {l : Launch} (hG : GOK G) {X : Tx} {s0 c a b : Nat} {K : List Nat} {acc : List Int} {h0 g : Hp} (hb : b = nx X a) (hb2 : b = 33 ∨ b = 40) (H : RAt g X a) (HK : RK g K) (HG : RG g s0 acc) {z0 : Nat} (hl : z0 + (acc.length + K.length) ≤ a) (hF : Fr (eF s0 c) h0 g)
    (ih : ∀ (g2 : Hp) (x3 : Value), RAt g2 X (a + 1) → RK g2 (b :: K) → RG g2 s0 acc → Fr (eF s0 c) h0 g2 → Wp G l 5 RX7 cX7_takesE 4 (some .boolean) 22 [.ref (gA G 134), .int (nI c), .int 1, x3] [] g2 (EPost X s0 c h0 (evE X (a + 1, true, b :: K, acc)))) :
    Wp G l 5 RX7 cX7_takesE 4 (some .boolean) 43 [.ref (gA G 134), .int (nI c), .int 1, .int (nI b)] [] g (EPost X s0 c h0 (evE X (a, true, K, acc))) := by
  have hX := H.2.1.1
  have a1 := nx_in2 (X := X) (a := a) (by omega)
  have ol := opn_le K
  by_cases h4 : opn K = 4
  · have e := stp_deep (X := X) (a := a) (K := K) (acc := acc) (by omega) h4
    refine r_aload_n dX7_takesE_43 rfl ?_
    refine r_getI dX7_takesE_44 k_X7_86 rfl (by decide) rfl ?_
    rw [HK.2.1]
    refine r_iconst (v := 4) dX7_takesE_47 (by decide) ?_
    refine r_icmp_ne (tgt := 53) dX7_takesE_48 (by decide) (fun c_48 => ?_) (fun c_48 => ?_)
    · exact absurd (by rw [h4]; rfl) c_48
    · refine r_iconst (v := 0) dX7_takesE_51 (by decide) ?_
      refine r_ireturn dX7_takesE_52 ⟨_, rfl, rfl⟩ ?_
      exact EPost.no e H hF
  · have e := stp_open (X := X) (a := a) (K := K) (acc := acc) (by omega) h4
    rw [← hb] at e
    have eo : opn (b :: K) = opn K + 1 := by show opn K + (if b = 33 ∨ b = 40 then 1 else 0) = _; rw [if_pos hb2]
    rw [e]
    refine r_aload_n dX7_takesE_43 rfl ?_
    refine r_getI dX7_takesE_44 k_X7_86 rfl (by decide) rfl ?_
    rw [HK.2.1]
    refine r_iconst (v := 4) dX7_takesE_47 (by decide) ?_
    refine r_icmp_ne (tgt := 53) dX7_takesE_48 (by decide) (fun c_48 => ?_) (fun c_48 => ?_)
    · refine r_aload_n dX7_takesE_53 rfl ?_
      refine r_dup dX7_takesE_54 rfl ?_
      refine r_getI dX7_takesE_55 k_X7_86 rfl (by decide) rfl ?_
      refine r_iconst (v := 1) dX7_takesE_58 (by decide) ?_
      refine r_iadd dX7_takesE_59 ?_
      rw [HK.2.1, nI_1, ← eo]
      refine r_putI dX7_takesE_60 k_X7_86 rfl (by decide) rfl rfl rfl rfl ?_
      refine r_aload_n dX7_takesE_63 rfl ?_
      refine r_getR (j := 148) dX7_takesE_64 k_X7_77 rfl (by decide) rfl rfl ?_
      refine r_aload_n dX7_takesE_67 rfl ?_
      refine r_getI dX7_takesE_68 k_X7_83 rfl (by decide) rfl ?_
      refine r_iload_n dX7_takesE_71 rfl ?_
      refine r_iast (K.length) dX7_takesE_72 rfl (by rw [setI_nj (by decide), HK.1]) (show K.length < 101 by omega) ?_
      refine r_aload_n dX7_takesE_73 rfl ?_
      refine r_dup dX7_takesE_74 rfl ?_
      refine r_getI dX7_takesE_75 k_X7_83 rfl (by decide) rfl ?_
      rw [setI_ne (by decide), setI_nj (by decide), HK.1]
      refine r_iconst (v := 1) dX7_takesE_78 (by decide) ?_
      refine r_iadd dX7_takesE_79 ?_
      rw [nI_1, show K.length + 1 = (b :: K).length from rfl]
      refine r_putI dX7_takesE_80 k_X7_83 rfl (by decide) rfl rfl rfl rfl ?_
      refine r_aload_n dX7_takesE_83 rfl ?_
      refine r_dup dX7_takesE_84 rfl ?_
      refine r_getI dX7_takesE_85 k_X7_50 rfl (by decide) rfl ?_
      refine r_iconst (v := 1) dX7_takesE_88 (by decide) ?_
      refine r_iadd dX7_takesE_89 ?_
      rw [setI_nj (by decide), setI_ne (by decide), setI_nj (by decide), H.2.2.1, nI_1]
      refine r_putI dX7_takesE_90 k_X7_50 rfl (by decide) rfl rfl rfl rfl ?_
      refine r_goto (tgt := 22) dX7_takesE_93 (by decide) ?_
      have KP := HK.push (c := b) (by omega) (n := nI (opn (b :: K))) rfl
      have F9 : Fr (eF s0 c) g (setI (setI (setI (setI g 134 25 (nI (opn (b :: K)))) 148 K.length (nI b)) 134 24 (nI (b :: K).length)) 134 13 (nI (a + 1))) := (((Fr.set (by simp [eF, teF, whF])).tr (Fr.set (by simp [eF]))).tr (Fr.set (by simp [eF, teF, whF]))).tr (Fr.set (by simp [eF, teF, nuF]))
      refine ih _ _ ?_ (KP.nu (Fr.set rfl)) (((((HG.ne (by omega) (by omega)).ne (by omega) (by omega)).ne (by omega) (by omega)).ne (by omega) (by omega))) (hF.tr F9)
      exact ((((H.fr (Fr.set (S := fun a i => a == 134 && i == 25) rfl) rfl (fun _ => rfl) rfl).fr (Fr.set (S := fun a i => a == 148) rfl) rfl (fun _ => rfl) rfl).fr (Fr.set (S := fun a i => a == 134 && i == 24) rfl) rfl (fun _ => rfl) rfl).mv a1)
    · exact absurd ((nI_eq' (b := 4) (by omega) (by omega)).mp c_48) h4
theorem opn_join {c : Nat} {K : List Nat} (h : c = 38 ∨ c = 124) : opn (c :: K) = opn K := by show opn K + (if c = 33 ∨ c = 40 then 1 else 0) = _; rw [if_neg (by omega)]; rfl
def StkOK (K : List Nat) : Prop := ∀ c ∈ K, c = 33 ∨ c = 40 ∨ c = 38 ∨ c = 124
theorem stS_sub {s : Nat} : ∀ (K : List Nat) (acc : List Int) (c : Nat), c ∈ (stS s K acc).1 → c ∈ K := by
  intro K
  induction K with
  | nil => intro acc c h; exact h
  | cons d K ih =>
    intro acc c h
    by_cases q : d = 38 ∨ (d = 124 ∧ s ≠ 38)
    · rw [stS_pop q] at h; exact List.mem_cons_of_mem _ (ih _ c h)
    · rw [stS_keep q] at h; exact h
theorem whS_sub : ∀ (K : List Nat) (acc : List Int) (c : Nat), c ∈ (whS K acc).1 → c ∈ K := by
  intro K
  induction K with
  | nil => intro acc c h; exact h
  | cons d K ih =>
    intro acc c h
    by_cases q : d = 33
    · subst q; rw [whS_eq] at h; exact List.mem_cons_of_mem _ (ih _ c h)
    · rw [whS_ne q] at h; exact h
theorem stS_hd : ∀ (K : List Nat) (acc : List Int) (d : Nat) (K2 : List Nat), (stS 124 K acc).1 = d :: K2 → ¬ (d = 38 ∨ d = 124) := by
  intro K
  induction K with
  | nil => intro acc d K2 h; cases h
  | cons c K ih =>
    intro acc d K2 h
    by_cases q : c = 38 ∨ (c = 124 ∧ 124 ≠ 38)
    · rw [stS_pop q] at h; exact ih _ d K2 h
    · rw [stS_keep q] at h
      have : c = d := (List.cons.inj h).1
      omega
theorem takesE_join {G : WT} {l : Launch} (hG : GOK G) {X : Tx} {s0 c a b : Nat} {K : List Nat} {acc : List Int} {h0 g : Hp} {z0 : Nat} (hs : s0 ≤ 500 + z0) (hb : b = nx X a) (hb2 : b = 38 ∨ b = 124) (H : RAt g X a) (HK : RK g K) (HG : RG g s0 acc) (hl : z0 + (acc.length + K.length) ≤ a) (hKs : StkOK K) (hF : Fr (eF s0 c) h0 g)
    (ih : ∀ (g2 : Hp) (x3 : Value) (K2 : List Nat) (acc2 : List Int), StkOK K2 → z0 + (acc2.length + K2.length) ≤ a + 1 → RAt g2 X (a + 1) → RK g2 K2 → RG g2 s0 acc2 → Fr (eF s0 c) h0 g2 → Wp G l 5 RX7 cX7_takesE 4 (some .boolean) 22 [.ref (gA G 134), .int (nI c), .int 1, x3] [] g2 (EPost X s0 c h0 (evE X (a + 1, true, K2, acc2)))) :
    Wp G l 5 RX7 cX7_takesE 4 (some .boolean) 122 [.ref (gA G 134), .int (nI c), .int 0, .int (nI b)] [] g (EPost X s0 c h0 (evE X (a, false, K, acc))) := by
  have hX := H.2.1.1
  have a1 := nx_in2 (X := X) (a := a) (by omega)
  have e := stp_join (X := X) (a := a) (K := K) (acc := acc) (by omega)
  rw [← hb] at e
  have sl := stS_len (s := b) K acc
  rw [e]
  obtain ⟨K1, hK1⟩ : ∃ x, x = (stS b K acc).1 := ⟨_, rfl⟩
  obtain ⟨c1, hc1⟩ : ∃ x, x = (stS b K acc).2 := ⟨_, rfl⟩
  rw [← hK1, ← hc1] at sl ⊢
  have lb : (b :: K1).length = K1.length + 1 := rfl
  have hK9 : StkOK (b :: K1) := fun c q => by
    rcases List.mem_cons.mp q with rfl | q
    · omega
    · exact hKs c (stS_sub K acc c (by rw [← hK1]; exact q))
  refine r_aload_n dX7_takesE_122 rfl ?_
  refine r_iload_n dX7_takesE_123 rfl ?_
  refine r_callV dX7_takesE_124 l_X7_252 o_X7_settle v_X7_settle rfl (by decide) rfl rfl (m_X7_settle hG hb2 HK HG (by omega) (by omega)) (by decide) rfl (Nat.le_of_ble_eq_true rfl) (fun r124 h124 hq124 => ?_)
  obtain ⟨rfl, K3, G3, F3⟩ := hq124
  rw [← hK1] at K3
  rw [← hc1] at G3
  have H3 := H.e F3
  refine r_aload_n dX7_takesE_127 rfl ?_
  refine r_getR (j := 148) dX7_takesE_128 k_X7_77 rfl (by decide) rfl rfl ?_
  refine r_aload_n dX7_takesE_131 rfl ?_
  refine r_getI dX7_takesE_132 k_X7_83 rfl (by decide) rfl ?_
  refine r_iload_n dX7_takesE_135 rfl ?_
  refine r_iast (K1.length) dX7_takesE_136 rfl K3.1 (show K1.length < 101 by omega) ?_
  refine r_aload_n dX7_takesE_137 rfl ?_
  refine r_dup dX7_takesE_138 rfl ?_
  refine r_getI dX7_takesE_139 k_X7_83 rfl (by decide) rfl ?_
  rw [setI_ne (by decide), K3.1]
  refine r_iconst (v := 1) dX7_takesE_142 (by decide) ?_
  refine r_iadd dX7_takesE_143 ?_
  rw [nI_1, ← lb]
  refine r_putI dX7_takesE_144 k_X7_83 rfl (by decide) rfl rfl rfl rfl ?_
  refine r_iconst (v := 1) dX7_takesE_147 (by decide) ?_
  refine r_istore_n dX7_takesE_148 (by decide) rfl rfl ?_
  dsimp only [List.set]
  refine r_aload_n dX7_takesE_149 rfl ?_
  refine r_dup dX7_takesE_150 rfl ?_
  refine r_getI dX7_takesE_151 k_X7_50 rfl (by decide) rfl ?_
  refine r_iconst (v := 1) dX7_takesE_154 (by decide) ?_
  refine r_iadd dX7_takesE_155 ?_
  rw [setI_nj (by decide), setI_ne (by decide), H3.2.2.1, nI_1]
  refine r_putI dX7_takesE_156 k_X7_50 rfl (by decide) rfl rfl rfl rfl ?_
  refine r_goto (tgt := 22) dX7_takesE_159 (by decide) ?_
  have KP := K3.join (c := b) (by omega) (opn_join hb2)
  have F9 : Fr (eF s0 c) h124 (setI (setI (setI h124 148 K1.length (nI b)) 134 24 (nI (b :: K1).length)) 134 13 (nI (a + 1))) := ((Fr.set (by simp [eF])).tr (Fr.set (by simp [eF, teF, whF]))).tr (Fr.set (by simp [eF, teF, nuF]))
  refine ih _ _ (b :: K1) c1 hK9 (by omega) ?_ (KP.nu (Fr.set rfl)) ((((G3.ne (by omega) (by omega)).ne (by omega) (by omega)).ne (by omega) (by omega))) ((hF.tr (whF_e F3)).tr F9)
  exact (((H3.fr (Fr.set (S := fun a i => a == 148) rfl) rfl (fun _ => rfl) rfl).fr (Fr.set (S := fun a i => a == 134 && i == 24) rfl) rfl (fun _ => rfl) rfl).mv a1)
theorem takesE_rest {G : WT} {l : Launch} (hG : GOK G) {X : Tx} {s0 c a : Nat} {K : List Nat} {acc : List Int} {h0 g : Hp} (hc : c < 60) {z0 : Nat} (hs : s0 ≤ 500 + z0) (hb2 : ¬ (nx X a = 38 ∨ nx X a = 124)) (H : RAt g X a) (HK : RK g K) (HG : RG g s0 acc) (hl : z0 + (acc.length + K.length) ≤ a) (hKs : StkOK K) (hF : Fr (eF s0 c) h0 g)
    (ih : ∀ (g2 : Hp) (x3 : Value) (K2 : List Nat) (acc2 : List Int), StkOK K2 → a < X.1 → z0 + (acc2.length + K2.length) ≤ a + 1 → RAt g2 X (a + 1) → RK g2 K2 → RG g2 s0 acc2 → Fr (eF s0 c) h0 g2 → Wp G l 5 RX7 cX7_takesE 4 (some .boolean) 22 [.ref (gA G 134), .int (nI c), .int 0, x3] [] g2 (EPost X s0 c h0 (evE X (a + 1, false, K2, acc2)))) :
    Wp G l 5 RX7 cX7_takesE 4 (some .boolean) 162 [.ref (gA G 134), .int (nI c), .int 0, .int (nxI X a)] [] g (EPost X s0 c h0 (evE X (a, false, K, acc))) := by
  have hX := H.2.1.1
  have ha := H.2.2.2
  have sl := stS_len (s := 124) K acc
  obtain ⟨K1, hK1⟩ : ∃ x, x = (stS 124 K acc).1 := ⟨_, rfl⟩
  obtain ⟨c1, hc1⟩ : ∃ x, x = (stS 124 K acc).2 := ⟨_, rfl⟩
  rw [← hK1, ← hc1] at sl
  cases hk : K1 with
  | nil =>
    have e := stp_done (X := X) (a := a) (K := K) (acc := acc) hb2 (by rw [← hK1, hk])
    rw [← hc1] at e
    refine r_aload_n dX7_takesE_162 rfl ?_
    refine r_bipush (v := 124) dX7_takesE_163 (by decide) ?_
    rw [show (124 : Int32) = nI 124 from rfl]
    refine r_callV dX7_takesE_165 l_X7_252 o_X7_settle v_X7_settle rfl (by decide) rfl rfl (m_X7_settle hG (Or.inr rfl) HK HG (by omega) (by omega)) (by decide) rfl (Nat.le_of_ble_eq_true rfl) (fun r165 h165 hq165 => ?_)
    obtain ⟨rfl, K3, G3, F3⟩ := hq165
    rw [← hK1, hk] at K3
    rw [← hc1] at G3
    have H3 := H.e F3
    refine r_aload_n dX7_takesE_168 rfl ?_
    refine r_getR (j := 146) dX7_takesE_169 k_X7_71 rfl (by decide) rfl rfl ?_
    refine r_iload_n dX7_takesE_172 rfl ?_
    refine r_aload_n dX7_takesE_173 rfl ?_
    refine r_getI dX7_takesE_174 k_X7_80 rfl (by decide) rfl ?_
    rw [G3.1]
    refine r_iast (c) dX7_takesE_177 rfl rfl (show c < 60 by omega) ?_
    refine r_aload_n dX7_takesE_178 rfl ?_
    refine r_getI dX7_takesE_179 k_X7_83 rfl (by decide) rfl ?_
    rw [setI_ne (by decide), K3.1]
    refine r_if_ne (tgt := 187) dX7_takesE_182 (by decide) (fun c_182 => ?_) (fun c_182 => ?_)
    · exact absurd rfl c_182
    · refine r_iconst (v := 1) dX7_takesE_185 (by decide) ?_
      refine r_ireturn dX7_takesE_186 ⟨_, rfl, rfl⟩ ?_
      refine EPost.yes e ?_ (G3.ne (by omega) (by omega)) setI_at ((hF.tr (whF_e F3)).tr (Fr.set (by simp [eF])))
      exact H3.fr (Fr.set (S := fun a i => a == 146) rfl) rfl (fun _ => rfl) rfl
  | cons d K2 =>
    have dl : (d :: K2).length = K2.length + 1 := rfl
    have d2 := stS_hd K acc d K2 (by rw [← hK1, hk])
    have dm : d = 33 ∨ d = 40 := by
      have := hKs d (stS_sub K acc d (by rw [← hK1, hk]; exact List.mem_cons_self))
      omega
    have hK9 : StkOK K2 := fun x q => hKs x (stS_sub K acc x (by rw [← hK1, hk]; exact List.mem_cons_of_mem _ q))
    have eo : opn (d :: K2) = opn K2 + 1 := by show opn K2 + (if d = 33 ∨ d = 40 then 1 else 0) = _; rw [if_pos dm]
    rw [hk, dl] at sl
    by_cases h41 : nx X a = 41
    · have a1 := nx_in2 (X := X) (a := a) (by omega)
      have e := stp_close (X := X) (a := a) (K := K) (acc := acc) (d := d) (K2 := K2) h41 (by rw [← hK1, hk])
      rw [← hc1] at e
      rw [e]
      have wl := whS_len K2 c1
      refine r_aload_n dX7_takesE_162 rfl ?_
      refine r_bipush (v := 124) dX7_takesE_163 (by decide) ?_
      rw [show (124 : Int32) = nI 124 from rfl]
      refine r_callV dX7_takesE_165 l_X7_252 o_X7_settle v_X7_settle rfl (by decide) rfl rfl (m_X7_settle hG (Or.inr rfl) HK HG (by omega) (by omega)) (by decide) rfl (Nat.le_of_ble_eq_true rfl) (fun r165 h165 hq165 => ?_)
      obtain ⟨rfl, K3, G3, F3⟩ := hq165
      rw [← hK1, hk] at K3
      rw [← hc1] at G3
      have H3 := H.e F3
      refine r_aload_n dX7_takesE_168 rfl ?_
      refine r_getR (j := 146) dX7_takesE_169 k_X7_71 rfl (by decide) rfl rfl ?_
      refine r_iload_n dX7_takesE_172 rfl ?_
      refine r_aload_n dX7_takesE_173 rfl ?_
      refine r_getI dX7_takesE_174 k_X7_80 rfl (by decide) rfl ?_
      rw [G3.1]
      refine r_iast (c) dX7_takesE_177 rfl rfl (show c < 60 by omega) ?_
      refine r_aload_n dX7_takesE_178 rfl ?_
      refine r_getI dX7_takesE_179 k_X7_83 rfl (by decide) rfl ?_
      rw [setI_ne (by decide), K3.1, dl]
      refine r_if_ne (tgt := 187) dX7_takesE_182 (by decide) (fun c_182 => ?_) (fun c_182 => ?_)
      · refine r_iload_n dX7_takesE_187 rfl ?_
        refine r_bipush (v := 41) dX7_takesE_188 (by decide) ?_
        refine r_icmp_eq (tgt := 195) dX7_takesE_190 (by decide) (fun c_190 => ?_) (fun c_190 => ?_)
        · refine r_aload_n dX7_takesE_195 rfl ?_
          refine r_dup dX7_takesE_196 rfl ?_
          refine r_getI dX7_takesE_197 k_X7_83 rfl (by decide) rfl ?_
          refine r_iconst (v := 1) dX7_takesE_200 (by decide) ?_
          refine r_isub dX7_takesE_201 ?_
          rw [setI_ne (by decide), K3.1, dl, nI_pred]
          refine r_putI dX7_takesE_202 k_X7_83 rfl (by decide) rfl rfl rfl rfl ?_
          refine r_aload_n dX7_takesE_205 rfl ?_
          refine r_dup dX7_takesE_206 rfl ?_
          refine r_getI dX7_takesE_207 k_X7_86 rfl (by decide) rfl ?_
          refine r_iconst (v := 1) dX7_takesE_210 (by decide) ?_
          refine r_isub dX7_takesE_211 ?_
          rw [setI_nj (by decide), setI_ne (by decide), K3.2.1, eo, nI_pred]
          refine r_putI dX7_takesE_212 k_X7_86 rfl (by decide) rfl rfl rfl rfl ?_
          refine r_aload_n dX7_takesE_215 rfl ?_
          refine r_dup dX7_takesE_216 rfl ?_
          refine r_getI dX7_takesE_217 k_X7_50 rfl (by decide) rfl ?_
          refine r_iconst (v := 1) dX7_takesE_220 (by decide) ?_
          refine r_iadd dX7_takesE_221 ?_
          rw [setI_nj (by decide), setI_nj (by decide), setI_ne (by decide), H3.2.2.1, nI_1]
          have F9 : Fr (eF s0 c) h165 (setI (setI (setI (setI h165 146 c (nI (s0 + c1.length))) 134 24 (nI K2.length)) 134 25 (nI (opn K2))) 134 13 (nI (a + 1))) := (((Fr.set (by simp [eF])).tr (Fr.set (by simp [eF, teF, whF]))).tr (Fr.set (by simp [eF, teF, whF]))).tr (Fr.set (by simp [eF, teF, nuF]))
          have G9 := ((((G3.ne (a := 146) (i := c) (v := nI (s0 + c1.length)) (by omega) (by omega)).ne (a := 134) (i := 24) (v := nI K2.length) (by omega) (by omega)).ne (a := 134) (i := 25) (v := nI (opn K2)) (by omega) (by omega)).ne (a := 134) (i := 13) (v := nI (a + 1)) (by omega) (by omega))
          have H9 : RAt (setI (setI (setI (setI h165 146 c (nI (s0 + c1.length))) 134 24 (nI K2.length)) 134 25 (nI (opn K2))) 134 13 (nI (a + 1))) X (a + 1) := (((H3.fr (Fr.set (S := fun a i => a == 146) rfl) rfl (fun _ => rfl) rfl).fr (Fr.set (S := fun a i => a == 134 && i == 24) rfl) rfl (fun _ => rfl) rfl).fr (Fr.set (S := fun a i => a == 134 && i == 25) rfl) rfl (fun _ => rfl) rfl).mv a1
          have K9 : RK (setI (setI (setI (setI h165 146 c (nI (s0 + c1.length))) 134 24 (nI K2.length)) 134 25 (nI (opn K2))) 134 13 (nI (a + 1))) K2 := by
            refine ⟨by rw [setI_nj (by decide), setI_nj (by decide), setI_at], by rw [setI_nj (by decide), setI_at], fun j x q => ?_⟩
            have q2 := K3.2.2 (j + 1) x q
            refine ⟨?_, q2.2⟩
            rw [setI_ne (by decide), setI_ne (by decide), setI_ne (by decide), setI_ne (by decide), ← q2.1, show (d :: K2).length - 1 - (j + 1) = K2.length - 1 - j by omega]
          refine r_putI dX7_takesE_222 k_X7_50 rfl (by decide) rfl rfl rfl rfl ?_
          refine r_aload_n dX7_takesE_225 rfl ?_
          refine r_callV dX7_takesE_226 l_X7_246 o_X7_whole v_X7_whole rfl (by decide) rfl rfl (m_X7_whole hG K9 G9 (by omega) (by omega)) (by decide) rfl (Nat.le_of_ble_eq_true rfl) (fun r226 h226 hq226 => ?_)
          obtain ⟨rfl, K4, G4, F4⟩ := hq226
          refine r_goto (tgt := 22) dX7_takesE_229 (by decide) ?_
          exact ih _ _ _ _ (fun x q => hK9 x (whS_sub K2 c1 x q)) a1 (by omega) (H9.e F4) K4 G4 (((hF.tr (whF_e F3)).tr F9).tr (whF_e F4))
        · exact absurd ((nxI_eq (c := 41) H.2.1 (by omega)).mpr h41) c_190
      · exact absurd ((nI_eq' (b := 0) (by omega) (by omega)).mp c_182) (by omega)
    · have e := stp_left (X := X) (a := a) (K := K) (acc := acc) (d := d) (K2 := K2) hb2 h41 (by rw [← hK1, hk])
      refine r_aload_n dX7_takesE_162 rfl ?_
      refine r_bipush (v := 124) dX7_takesE_163 (by decide) ?_
      rw [show (124 : Int32) = nI 124 from rfl]
      refine r_callV dX7_takesE_165 l_X7_252 o_X7_settle v_X7_settle rfl (by decide) rfl rfl (m_X7_settle hG (Or.inr rfl) HK HG (by omega) (by omega)) (by decide) rfl (Nat.le_of_ble_eq_true rfl) (fun r165 h165 hq165 => ?_)
      obtain ⟨rfl, K3, G3, F3⟩ := hq165
      rw [← hK1, hk] at K3
      rw [← hc1] at G3
      have H3 := H.e F3
      refine r_aload_n dX7_takesE_168 rfl ?_
      refine r_getR (j := 146) dX7_takesE_169 k_X7_71 rfl (by decide) rfl rfl ?_
      refine r_iload_n dX7_takesE_172 rfl ?_
      refine r_aload_n dX7_takesE_173 rfl ?_
      refine r_getI dX7_takesE_174 k_X7_80 rfl (by decide) rfl ?_
      rw [G3.1]
      refine r_iast (c) dX7_takesE_177 rfl rfl (show c < 60 by omega) ?_
      refine r_aload_n dX7_takesE_178 rfl ?_
      refine r_getI dX7_takesE_179 k_X7_83 rfl (by decide) rfl ?_
      rw [setI_ne (by decide), K3.1, dl]
      refine r_if_ne (tgt := 187) dX7_takesE_182 (by decide) (fun c_182 => ?_) (fun c_182 => ?_)
      · refine r_iload_n dX7_takesE_187 rfl ?_
        refine r_bipush (v := 41) dX7_takesE_188 (by decide) ?_
        refine r_icmp_eq (tgt := 195) dX7_takesE_190 (by decide) (fun c_190 => ?_) (fun c_190 => ?_)
        · exact absurd ((nxI_eq (c := 41) H.2.1 (by omega)).mp c_190) h41
        · refine r_iconst (v := 0) dX7_takesE_193 (by decide) ?_
          refine r_ireturn dX7_takesE_194 ⟨_, rfl, rfl⟩ ?_
          exact EPost.no e (H3.fr (Fr.set (S := fun a i => a == 146) rfl) rfl (fun _ => rfl) rfl) ((hF.tr (whF_e F3)).tr (Fr.set (by simp [eF])))
      · exact absurd ((nI_eq' (b := 0) (by omega) (by omega)).mp c_182) (by omega)
