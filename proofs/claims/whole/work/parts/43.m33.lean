/-! takesE -/
theorem RAt.e {s0 c a : Nat} {X : Tx} {h h' : Hp} (H : RAt h X a) (hF : Fr (whF s0) h h') : RAt h' X a := H.fr hF (by simp [whF, puF]) (fun _ => by simp [whF, puF]) (by simp [whF, puF])
theorem RG.ne {s0 : Nat} {acc : List Int} {h : Hp} {a i : Nat} {v : Int32} (H : RG h s0 acc) (h1 : ¬ a = 147) (h2 : ¬ (a = 134 ∧ i = 23)) : RG (setI h a i v) s0 acc := ⟨by rw [setI_1, if_neg (fun q => h2 ⟨q.1.symm, q.2.symm⟩)]; exact H.1, fun j t q => by rw [setI_ne (fun q => h1 q.symm)]; exact H.2 j t q⟩
theorem takesE_open {G : WT} {l : Launch} (hG : GOK G) {X : Tx} {s0 c a b : Nat} {K : List Nat} {acc : List Int} {h0 g : Hp} (hb : b = nx X a) (hb2 : b = 33 ∨ b = 40) (H : RAt g X a) (HK : RK g K) (HG : RG g s0 acc) (hl : acc.length + K.length ≤ a) (hF : Fr (eF s0 c) h0 g)
    (ih : ∀ (g2 : Hp) (x3 : Value), RAt g2 X (a + 1) → RK g2 (b :: K) → RG g2 s0 acc → Fr (eF s0 c) h0 g2 → Wp G l 5 RX7 cX7_takesE 4 (some .boolean) 22 [.ref (gA G 134), .int (nI c), .int 1, x3] [] g2 (EPost X s0 c h0 (evE X (a + 1, true, b :: K, acc)))) :
    Wp G l 5 RX7 cX7_takesE 4 (some .boolean) 43 [.ref (gA G 134), .int (nI c), .int 1, .int (nI b)] [] g (EPost X s0 c h0 (evE X (a, true, K, acc))) := by
  have hX := H.2.1.1
  have a1 := nx_in2 (X := X) (a := a) (by omega)
  have ol := opn_le K
  by_cases h4 : opn K = 4
  · have e := stp_deep (X := X) (a := a) (K := K) (acc := acc) (by omega) h4
    refine r_aload_n dX7_takesE_43 rfl ?_
    refine r_getI dX7_takesE_44 k_X7_86 rfl (by decide) rfl ?_
    rw [HK.2.1]
    refine r_iconst (v := 4) dX7_takesE_47 (by decide) ?_
    refine r_icmp_ne (tgt := 53) dX7_takesE_48 (by decide) (fun c_48 => ?_) (fun c_48 => ?_)
    · exact absurd (by rw [h4]; rfl) c_48
    · refine r_iconst (v := 0) dX7_takesE_51 (by decide) ?_
      refine r_ireturn dX7_takesE_52 ⟨_, rfl, rfl⟩ ?_
      exact EPost.no e H hF
  · have e := stp_open (X := X) (a := a) (K := K) (acc := acc) (by omega) h4
    rw [← hb] at e
    have eo : opn (b :: K) = opn K + 1 := by show opn K + (if b = 33 ∨ b = 40 then 1 else 0) = _; rw [if_pos hb2]
    rw [e]
    refine r_aload_n dX7_takesE_43 rfl ?_
    refine r_getI dX7_takesE_44 k_X7_86 rfl (by decide) rfl ?_
    rw [HK.2.1]
    refine r_iconst (v := 4) dX7_takesE_47 (by decide) ?_
    refine r_icmp_ne (tgt := 53) dX7_takesE_48 (by decide) (fun c_48 => ?_) (fun c_48 => ?_)
    · refine r_aload_n dX7_takesE_53 rfl ?_
      refine r_dup dX7_takesE_54 rfl ?_
      refine r_getI dX7_takesE_55 k_X7_86 rfl (by decide) rfl ?_
      refine r_iconst (v := 1) dX7_takesE_58 (by decide) ?_
      refine r_iadd dX7_takesE_59 ?_
      rw [HK.2.1, nI_1, ← eo]
      refine r_putI dX7_takesE_60 k_X7_86 rfl (by decide) rfl rfl rfl rfl ?_
      refine r_aload_n dX7_takesE_63 rfl ?_
      refine r_getR (j := 148) dX7_takesE_64 k_X7_77 rfl (by decide) rfl rfl ?_
      refine r_aload_n dX7_takesE_67 rfl ?_
      refine r_getI dX7_takesE_68 k_X7_83 rfl (by decide) rfl ?_
      refine r_iload_n dX7_takesE_71 rfl ?_
      refine r_iast (K.length) dX7_takesE_72 rfl (by rw [setI_nj (by decide), HK.1]) (show K.length < 101 by omega) ?_
      refine r_aload_n dX7_takesE_73 rfl ?_
      refine r_dup dX7_takesE_74 rfl ?_
      refine r_getI dX7_takesE_75 k_X7_83 rfl (by decide) rfl ?_
      rw [setI_ne (by decide), setI_nj (by decide), HK.1]
      refine r_iconst (v := 1) dX7_takesE_78 (by decide) ?_
      refine r_iadd dX7_takesE_79 ?_
      rw [nI_1, show K.length + 1 = (b :: K).length from rfl]
      refine r_putI dX7_takesE_80 k_X7_83 rfl (by decide) rfl rfl rfl rfl ?_
      refine r_aload_n dX7_takesE_83 rfl ?_
      refine r_dup dX7_takesE_84 rfl ?_
      refine r_getI dX7_takesE_85 k_X7_50 rfl (by decide) rfl ?_
      refine r_iconst (v := 1) dX7_takesE_88 (by decide) ?_
      refine r_iadd dX7_takesE_89 ?_
      rw [setI_nj (by decide), setI_ne (by decide), setI_nj (by decide), H.2.2.1, nI_1]
      refine r_putI dX7_takesE_90 k_X7_50 rfl (by decide) rfl rfl rfl rfl ?_
      refine r_goto (tgt := 22) dX7_takesE_93 (by decide) ?_
      have KP := HK.push (c := b) (by omega) (n := nI (opn (b :: K))) rfl
      have F9 : Fr (eF s0 c) g (setI (setI (setI (setI g 134 25 (nI (opn (b :: K)))) 148 K.length (nI b)) 134 24 (nI (b :: K).length)) 134 13 (nI (a + 1))) := (((Fr.set (by simp [eF, teF, whF])).tr (Fr.set (by simp [eF]))).tr (Fr.set (by simp [eF, teF, whF]))).tr (Fr.set (by simp [eF, teF, nuF]))
      refine ih _ _ ?_ (KP.nu (Fr.set rfl)) (((((HG.ne (by omega) (by omega)).ne (by omega) (by omega)).ne (by omega) (by omega)).ne (by omega) (by omega))) (hF.tr F9)
      exact ((((H.fr (Fr.set (S := fun a i => a == 134 && i == 25) rfl) rfl (fun _ => rfl) rfl).fr (Fr.set (S := fun a i => a == 148) rfl) rfl (fun _ => rfl) rfl).fr (Fr.set (S := fun a i => a == 134 && i == 24) rfl) rfl (fun _ => rfl) rfl).mv a1)
    · exact absurd ((nI_eq' (b := 4) (by omega) (by omega)).mp c_48) h4
