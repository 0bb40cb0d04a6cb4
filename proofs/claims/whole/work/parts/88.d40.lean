/-! the acts: the bodies by their numbers -/
def dkF (a i : Nat) : Bool := a == 49 || (a == 48 && i == 1)
theorem DAc.put {h : Hp} {tr : List Nat} {c : Nat} (H : DAc h tr) : DAc (setI (if tr.length < 20 then setI h 49 tr.length (nI c) else h) 48 1 (nI (tr.length + 1))) (tr ++ [c]) := by
  refine ⟨by rw [setI_at, List.length_append]; rfl, fun j b hj hb => ?_⟩
  rw [setI_ne (by decide)]
  by_cases hl : j < tr.length
  · rw [List.getElem?_append_left hl] at hb
    by_cases h20 : tr.length < 20
    · rw [if_pos h20, setI_nj (by omega)]; exact H.2 j b hj hb
    · rw [if_neg h20]; exact H.2 j b hj hb
  · by_cases he : j = tr.length
    · subst he
      rw [List.getElem?_append_right (Nat.le_refl _), Nat.sub_self] at hb
      have : c = b := Option.some.inj hb
      rw [if_pos hj, setI_at, this]
    · rw [List.getElem?_eq_none (by rw [List.length_append]; show tr.length + 1 ≤ j; omega)] at hb
      cases hb
def ActD (h : Hp) (tr : List Nat) (k i v : Nat) : Prop := DAc h tr ∧ i < 6 ∧ k ≤ 6 ∧ h.1 48 2 = nI k ∧ h.1 48 3 = nI i ∧ h.1 48 4 = nI v
theorem ActD.nx {h h' : Hp} {tr tr' : List Nat} {k i v : Nat} (C : ActD h tr k i v) (H : DAc h' tr') (hF : Fr dkF h h') : ActD h' tr' k i v := ⟨H, C.2.1, C.2.2.1, by rw [hF.1 _ _ rfl]; exact C.2.2.2.1, by rw [hF.1 _ _ rfl]; exact C.2.2.2.2.1, by rw [hF.1 _ _ rfl]; exact C.2.2.2.2.2⟩
def RunC (G : WT) (l : Launch) (m b k i v : Nat) (f : Int32 → Int32 × List Nat) : Prop := ∀ (d : Nat), 25 ≤ d + m → ∀ (h : Hp) (tr : List Nat) (x : Int32) (e : Nat), e ≤ m → tr.length ≤ 100 * m → ActD h tr k i v → Cl G l d yX0_runs cX0_runs 4 (some .int) [.ref (gA G 48), .int (nI b), .int x, .int (nI e)] h (fun r h' => r = some (.int (f x).1) ∧ ActD h' (tr ++ (f x).2) k i v ∧ Fr dkF h h')
def OwnC (G : WT) (l : Launch) (m a k i v : Nat) (f : Int32 → Int32 × List Nat) : Prop := ∀ (d : Nat), 25 ≤ d + m → ∀ (h : Hp) (tr : List Nat) (x : Int32) (e : Nat), e ≤ m → tr.length ≤ 100 * m → ActD h tr k i v → Cl G l d yX0_own cX0_own 4 (some .int) [.ref (gA G 48), .int (nI a), .int x, .int (nI e)] h (fun r h' => r = some (.int (f x).1) ∧ ActD h' (tr ++ (f x).2) k i v ∧ Fr dkF h h')
def AbvC (G : WT) (l : Launch) (m b a k i v : Nat) (f : Int32 → Int32 × List Nat) : Prop := ∀ (d : Nat), 25 ≤ d + m → ∀ (h : Hp) (tr : List Nat) (x : Int32) (e : Nat), e ≤ m → tr.length ≤ 100 * m → ActD h tr k i v → Cl G l d yX0_above cX0_above 6 (some .int) [.ref (gA G 48), .int (nI b), .int (nI a), .int x, .int (nI e)] h (fun r h' => r = some (.int (f x).1) ∧ ActD h' (tr ++ (f x).2) k i v ∧ Fr dkF h h')
theorem RunC.le {G : WT} {l : Launch} {m m' b k i v : Nat} {f : Int32 → Int32 × List Nat} (H : RunC G l m b k i v f) (hm : m' ≤ m) : RunC G l m' b k i v f := fun d hd h tr x e he ht C => H d (by omega) h tr x e (by omega) (by omega) C
theorem OwnC.le {G : WT} {l : Launch} {m m' b k i v : Nat} {f : Int32 → Int32 × List Nat} (H : OwnC G l m b k i v f) (hm : m' ≤ m) : OwnC G l m' b k i v f := fun d hd h tr x e he ht C => H d (by omega) h tr x e (by omega) (by omega) C
theorem AbvC.le {G : WT} {l : Launch} {m m' b a k i v : Nat} {f : Int32 → Int32 × List Nat} (H : AbvC G l m b a k i v f) (hm : m' ≤ m) : AbvC G l m' b a k i v f := fun d hd h tr x e he ht C => H d (by omega) h tr x e (by omega) (by omega) C
theorem own_c {G : WT} {l : Launch} (hG : GOK G) {m a b k i v : Nat} {f : Int32 → Int32 × List Nat} (hm : m < 25) (ha : a < 3) (hb : tabB.getD (k * 3 + a) 0 = nI b) (R : RunC G l (m + 1) b k i v f) : OwnC G l m a k i v f := by
  intro d hd h tr x e he ht C
  have hk := C.2.2.1
  refine Cl.of hG (by decide) (Nat.le_of_ble_eq_true rfl) ?_
  show Wp G l d RX0 cX0_own 4 (some .int) 0 [.ref (gA G 48), .int (nI a), .int x, .int (nI e)] [] h _
  obtain ⟨d1, rfl⟩ : ∃ d1, d = d1 + 1 := ⟨d - 1, by omega⟩
  refine r_aload_n dX0_own_0 rfl ?_
  refine r_getB dX0_own_1 k_X0_35 ?_
  refine r_aload_n dX0_own_4 rfl ?_
  refine r_getI dX0_own_5 k_X0_19 rfl (by decide) rfl ?_
  refine r_iconst (v := 3) dX0_own_8 (by decide) ?_
  rw [C.2.2.2.1, show (3 : Int32) = nI 3 from rfl]
  refine r_imul dX0_own_9 ?_
  rw [pk_mul]
  refine r_iload_n dX0_own_10 rfl ?_
  refine r_iadd dX0_own_11 ?_
  rw [nI_add]
  refine r_aldB (k * 3 + a) dX0_own_12  rfl (show k * 3 + a < 21 by omega) ?_
  refine r_iload_n dX0_own_13 rfl ?_
  refine r_iload_n dX0_own_14 rfl ?_
  refine r_iconst (v := 1) dX0_own_15 (by decide) ?_
  refine r_iadd dX0_own_16 ?_
  rw [hb, nI_1]
  refine r_callV dX0_own_17 l_X0_38 o_X0_runs v_X0_runs rfl (by decide) rfl rfl (R d1 (by omega) h tr x (e + 1) (by omega) (by omega) C) (by omega) rfl (Nat.le_of_ble_eq_true rfl) (fun r17 h17 hq17 => ?_)
  obtain ⟨rfl, H1, F1⟩ := hq17
  refine r_ireturn dX0_own_20 ⟨_, rfl, rfl⟩ ?_
  exact ⟨rfl, H1, F1⟩
theorem abv_c {G : WT} {l : Launch} (hG : GOK G) {m a b u b2 k i v : Nat} {f : Int32 → Int32 × List Nat} (hm : m < 24) (ha : a < 3) (hb : 10 ≤ b ∧ b < 80) (hu : u ≤ 6) (hA : (if 0 < tabA.getD (b / 10 - 1) 0 then tabA.getD (b / 10 - 1) 0 else 0) = nI u) (hB : tabB.getD (u * 3 + a) 0 = nI b2) (R : RunC G l (m + 1) b2 k i v f) : AbvC G l m b a k i v f := by
  intro d hd h tr x e he ht C
  refine Cl.of hG (by decide) (Nat.le_of_ble_eq_true rfl) ?_
  show Wp G l d RX0 cX0_above 6 (some .int) 0 [.ref (gA G 48), .int (nI b), .int (nI a), .int x, .int (nI e), mk0] [] h _
  obtain ⟨d1, rfl⟩ : ∃ d1, d = d1 + 1 := ⟨d - 1, by omega⟩
  refine r_iconst (v := 0) dX0_above_0 (by decide) ?_
  refine r_getA dX0_above_1 k_X0_32 ?_
  refine r_iload_n dX0_above_4 rfl ?_
  refine r_bipush (v := 10) dX0_above_5 (by decide) ?_
  rw [show (10 : Int32) = nI 10 from rfl]
  refine r_idiv dX0_above_7 (by decide) ?_
  rw [nI_div (by omega) (by omega) (by omega)]
  refine r_iconst (v := 1) dX0_above_8 (by decide) ?_
  rw [show (1 : Int32) = nI 1 from rfl]
  refine r_isub dX0_above_9 ?_
  rw [pk_sub (by omega)]
  refine r_aldA (b / 10 - 1) dX0_above_10  rfl (show b / 10 - 1 < 7 by omega) ?_
  refine r_max dX0_above_11 l_X0_41 o_J9_max_7cf53 rfl s_J9_max_7cf53 (by omega) (Nat.le_of_ble_eq_true rfl) ?_
  rw [hA]
  refine r_istore dX0_above_14 (by decide) rfl rfl ?_
  dsimp only [List.set]
  refine r_aload_n dX0_above_16 rfl ?_
  refine r_getB dX0_above_17 k_X0_35 ?_
  refine r_iload dX0_above_20 rfl ?_
  refine r_iconst (v := 3) dX0_above_22 (by decide) ?_
  rw [show (3 : Int32) = nI 3 from rfl]
  refine r_imul dX0_above_23 ?_
  rw [pk_mul]
  refine r_iload_n dX0_above_24 rfl ?_
  refine r_iadd dX0_above_25 ?_
  rw [nI_add]
  refine r_aldB (u * 3 + a) dX0_above_26  rfl (show u * 3 + a < 21 by omega) ?_
  refine r_iload_n dX0_above_27 rfl ?_
  refine r_iload dX0_above_28 rfl ?_
  refine r_iconst (v := 1) dX0_above_30 (by decide) ?_
  refine r_iadd dX0_above_31 ?_
  rw [hB, nI_1]
  refine r_callV dX0_above_32 l_X0_38 o_X0_runs v_X0_runs rfl (by decide) rfl rfl (R d1 (by omega) h tr x (e + 1) (by omega) (by omega) C) (by omega) rfl (Nat.le_of_ble_eq_true rfl) (fun r32 h32 hq32 => ?_)
  obtain ⟨rfl, H1, F1⟩ := hq32
  refine r_ireturn dX0_above_35 ⟨_, rfl, rfl⟩ ?_
  exact ⟨rfl, H1, F1⟩
theorem runs_pre {G : WT} {l : Launch} (hG : GOK G) {d e b k i v : Nat} {x : Int32} {tr : List Nat} {h : Hp} {Q : Option Value → Hp → Prop} (he : e ≤ 20) (ht : tr.length ≤ 2000) (C : ActD h tr k i v) (kk : ∀ h1, ActD h1 (tr ++ [b]) k i v → Fr dkF h h1 → Wp G l d RX0 cX0_runs 4 (some .int) 37 [.ref (gA G 48), .int (nI b), .int x, .int (nI e)] [] h1 Q) : Wp G l d RX0 cX0_runs 4 (some .int) 0 [.ref (gA G 48), .int (nI b), .int x, .int (nI e)] [] h Q := by
  have H := C.1
  have q := H.put (c := b)
  by_cases h20 : tr.length < 20
  · rw [if_pos h20] at q
    have F : Fr dkF h (setI (setI h 49 tr.length (nI b)) 48 1 (nI (tr.length + 1))) := (Fr.set rfl).tr (Fr.set rfl)
    have k1 := kk _ (C.nx q F) F
    refine r_iload_n dX0_runs_0 rfl ?_
    refine r_bipush (v := 20) dX0_runs_1 (by decide) ?_
    refine r_icmp_le (tgt := 8) dX0_runs_3 (by decide) (fun c_3 => ?_) (fun c_3 => ?_)
    · refine r_aload_n dX0_runs_8 rfl ?_
      refine r_getI dX0_runs_9 k_X0_15 rfl (by decide) rfl ?_
      refine r_bipush (v := 20) dX0_runs_12 (by decide) ?_
      rw [H.1]
      refine r_icmp_ge (tgt := 27) dX0_runs_14 (by decide) (fun c_14 => ?_) (fun c_14 => ?_)
      · exact absurd c_14 (nI_ge (a := tr.length) (b := 20) (by omega) (by omega))
      · refine r_aload_n dX0_runs_17 rfl ?_
        refine r_getR (j := 49) dX0_runs_18 k_X0_9 rfl (by decide) rfl rfl ?_
        refine r_aload_n dX0_runs_21 rfl ?_
        refine r_getI dX0_runs_22 k_X0_15 rfl (by decide) rfl ?_
        refine r_iload_n dX0_runs_25 rfl ?_
        refine r_iast (tr.length) dX0_runs_26 rfl H.1 (show tr.length < 20 by omega) ?_
        refine r_aload_n dX0_runs_27 rfl ?_
        refine r_dup dX0_runs_28 rfl ?_
        refine r_getI dX0_runs_29 k_X0_15 rfl (by decide) rfl ?_
        refine r_iconst (v := 1) dX0_runs_32 (by decide) ?_
        refine r_iadd dX0_runs_33 ?_
        rw [setI_ne (by decide), H.1, nI_1]
        refine r_putI dX0_runs_34 k_X0_15 rfl (by decide) rfl rfl rfl rfl ?_
        exact k1
    · exact absurd (nI_le (a := e) (b := 20) (by omega) (by omega)) c_3
  · rw [if_neg h20] at q
    have F : Fr dkF h (setI h 48 1 (nI (tr.length + 1))) := Fr.set rfl
    have k1 := kk _ (C.nx q F) F
    refine r_iload_n dX0_runs_0 rfl ?_
    refine r_bipush (v := 20) dX0_runs_1 (by decide) ?_
    refine r_icmp_le (tgt := 8) dX0_runs_3 (by decide) (fun c_3 => ?_) (fun c_3 => ?_)
    · refine r_aload_n dX0_runs_8 rfl ?_
      refine r_getI dX0_runs_9 k_X0_15 rfl (by decide) rfl ?_
      refine r_bipush (v := 20) dX0_runs_12 (by decide) ?_
      rw [H.1]
      refine r_icmp_ge (tgt := 27) dX0_runs_14 (by decide) (fun c_14 => ?_) (fun c_14 => ?_)
      · refine r_aload_n dX0_runs_27 rfl ?_
        refine r_dup dX0_runs_28 rfl ?_
        refine r_getI dX0_runs_29 k_X0_15 rfl (by decide) rfl ?_
        refine r_iconst (v := 1) dX0_runs_32 (by decide) ?_
        refine r_iadd dX0_runs_33 ?_
        rw [H.1, nI_1]
        refine r_putI dX0_runs_34 k_X0_15 rfl (by decide) rfl rfl rfl rfl ?_
        exact k1
      · exact absurd (nI_le (a := 20) (b := tr.length) (by omega) (by omega)) c_14
    · exact absurd (nI_le (a := e) (b := 20) (by omega) (by omega)) c_3
theorem run10 {G : WT} {l : Launch} (hG : GOK G) {m k i v : Nat} (hm : m ≤ 20) : RunC G l m 10 k i v (eatE i) := by
  intro d hd h tr x e he ht C
  refine Cl.of hG (by decide) (Nat.le_of_ble_eq_true rfl) ?_
  show Wp G l d RX0 cX0_runs 4 (some .int) 0 [.ref (gA G 48), .int (nI 10), .int x, .int (nI e)] [] h _
  refine runs_pre hG (by omega) (by omega) C (fun h1 C1 F1 => ?_)
  obtain ⟨d1, rfl⟩ : ∃ d1, d = d1 + 1 := ⟨d - 1, by omega⟩
  refine r_iload_n dX0_runs_37 rfl ?_
  · refine r_lsw 128 dX0_runs_38 (by decide) rfl (by decide) ?_
    refine r_iload_n dX0_runs_128 rfl ?_
    refine r_aload_n dX0_runs_129 rfl ?_
    refine r_getI dX0_runs_130 k_X0_22 rfl (by decide) rfl ?_
    rw [C1.2.2.2.2.1]
    refine r_iadd dX0_runs_133 ?_
    refine r_ireturn dX0_runs_134 ⟨_, rfl, rfl⟩ ?_
    exact ⟨rfl, C1, F1⟩
theorem run11 {G : WT} {l : Launch} (hG : GOK G) {m k i v : Nat} {f : Int32 → Int32 × List Nat} (hm : m < 20) (O : OwnC G l (m + 1) 0 k i v f) : RunC G l m 11 k i v (fun x => ((f x).1 - nI v, 11 :: (f x).2)) := by
  intro d hd h tr x e he ht C
  refine Cl.of hG (by decide) (Nat.le_of_ble_eq_true rfl) ?_
  show Wp G l d RX0 cX0_runs 4 (some .int) 0 [.ref (gA G 48), .int (nI 11), .int x, .int (nI e)] [] h _
  refine runs_pre hG (by omega) (by omega) C (fun h1 C1 F1 => ?_)
  obtain ⟨d1, rfl⟩ : ∃ d1, d = d1 + 1 := ⟨d - 1, by omega⟩
  refine r_iload_n dX0_runs_37 rfl ?_
  · refine r_lsw 135 dX0_runs_38 (by decide) rfl (by decide) ?_
    refine r_aload_n dX0_runs_135 rfl ?_
    refine r_iconst (v := 0) dX0_runs_136 (by decide) ?_
    refine r_iload_n dX0_runs_137 rfl ?_
    refine r_iload_n dX0_runs_138 rfl ?_
    rw [show (0 : Int32) = nI 0 from rfl]
    refine r_callV dX0_runs_139 l_X0_28 o_X0_own v_X0_own rfl (by decide) rfl rfl (O d1 (by omega) h1 (tr ++ [11]) x e (by omega) (by rw [app_len]; omega) C1) (by omega) rfl (Nat.le_of_ble_eq_true rfl) (fun r139 h139 hq139 => ?_)
    obtain ⟨rfl, H2, F2⟩ := hq139
    refine r_aload_n dX0_runs_142 rfl ?_
    refine r_getI dX0_runs_143 k_X0_25 rfl (by decide) rfl ?_
    rw [H2.2.2.2.2.2]
    refine r_isub dX0_runs_146 ?_
    refine r_ireturn dX0_runs_147 ⟨_, rfl, rfl⟩ ?_
    rw [app1] at H2
    exact ⟨rfl, H2, F1.tr F2⟩
theorem run12 {G : WT} {l : Launch} (hG : GOK G) {m k i v : Nat} {f : Int32 → Int32 × List Nat} (hm : m < 20) (O : OwnC G l (m + 1) 1 k i v f) : RunC G l m 12 k i v (fun x => ((f x).1 * 2, 12 :: (f x).2)) := by
  intro d hd h tr x e he ht C
  refine Cl.of hG (by decide) (Nat.le_of_ble_eq_true rfl) ?_
  show Wp G l d RX0 cX0_runs 4 (some .int) 0 [.ref (gA G 48), .int (nI 12), .int x, .int (nI e)] [] h _
  refine runs_pre hG (by omega) (by omega) C (fun h1 C1 F1 => ?_)
  obtain ⟨d1, rfl⟩ : ∃ d1, d = d1 + 1 := ⟨d - 1, by omega⟩
  refine r_iload_n dX0_runs_37 rfl ?_
  · refine r_lsw 148 dX0_runs_38 (by decide) rfl (by decide) ?_
    refine r_aload_n dX0_runs_148 rfl ?_
    refine r_iconst (v := 1) dX0_runs_149 (by decide) ?_
    refine r_iload_n dX0_runs_150 rfl ?_
    refine r_iload_n dX0_runs_151 rfl ?_
    rw [show (1 : Int32) = nI 1 from rfl]
    refine r_callV dX0_runs_152 l_X0_28 o_X0_own v_X0_own rfl (by decide) rfl rfl (O d1 (by omega) h1 (tr ++ [12]) x e (by omega) (by rw [app_len]; omega) C1) (by omega) rfl (Nat.le_of_ble_eq_true rfl) (fun r152 h152 hq152 => ?_)
    obtain ⟨rfl, H2, F2⟩ := hq152
    refine r_iconst (v := 2) dX0_runs_155 (by decide) ?_
    refine r_imul dX0_runs_156 ?_
    refine r_ireturn dX0_runs_157 ⟨_, rfl, rfl⟩ ?_
    rw [app1] at H2
    exact ⟨rfl, H2, F1.tr F2⟩
theorem run20 {G : WT} {l : Launch} (hG : GOK G) {m k i v : Nat} {f : Int32 → Int32 × List Nat} (hm : m < 20) (O : AbvC G l (m + 1) 20 1 k i v f) : RunC G l m 20 k i v (fun x => ((f x).1 ^^^ 6, 20 :: (f x).2)) := by
  intro d hd h tr x e he ht C
  refine Cl.of hG (by decide) (Nat.le_of_ble_eq_true rfl) ?_
  show Wp G l d RX0 cX0_runs 4 (some .int) 0 [.ref (gA G 48), .int (nI 20), .int x, .int (nI e)] [] h _
  refine runs_pre hG (by omega) (by omega) C (fun h1 C1 F1 => ?_)
  obtain ⟨d1, rfl⟩ : ∃ d1, d = d1 + 1 := ⟨d - 1, by omega⟩
  refine r_iload_n dX0_runs_37 rfl ?_
  · refine r_lsw 158 dX0_runs_38 (by decide) rfl (by decide) ?_
    refine r_aload_n dX0_runs_158 rfl ?_
    refine r_iload_n dX0_runs_159 rfl ?_
    refine r_iconst (v := 1) dX0_runs_160 (by decide) ?_
    refine r_iload_n dX0_runs_161 rfl ?_
    refine r_iload_n dX0_runs_162 rfl ?_
    rw [show (1 : Int32) = nI 1 from rfl]
    refine r_callV dX0_runs_163 l_X0_47 o_X0_above v_X0_above rfl (by decide) rfl rfl (O d1 (by omega) h1 (tr ++ [20]) x e (by omega) (by rw [app_len]; omega) C1) (by omega) rfl (Nat.le_of_ble_eq_true rfl) (fun r163 h163 hq163 => ?_)
    obtain ⟨rfl, H2, F2⟩ := hq163
    refine r_bipush (v := 6) dX0_runs_166 (by decide) ?_
    refine r_ixor dX0_runs_168 ?_
    refine r_ireturn dX0_runs_169 ⟨_, rfl, rfl⟩ ?_
    rw [app1] at H2
    exact ⟨rfl, H2, F1.tr F2⟩
theorem run30 {G : WT} {l : Launch} (hG : GOK G) {m k i v : Nat} {f : Int32 → Int32 × List Nat} (hm : m < 20) (O : AbvC G l (m + 1) 30 0 k i v f) : RunC G l m 30 k i v (fun x => ((f (x * 3)).1, 30 :: (f (x * 3)).2)) := by
  intro d hd h tr x e he ht C
  refine Cl.of hG (by decide) (Nat.le_of_ble_eq_true rfl) ?_
  show Wp G l d RX0 cX0_runs 4 (some .int) 0 [.ref (gA G 48), .int (nI 30), .int x, .int (nI e)] [] h _
  refine runs_pre hG (by omega) (by omega) C (fun h1 C1 F1 => ?_)
  obtain ⟨d1, rfl⟩ : ∃ d1, d = d1 + 1 := ⟨d - 1, by omega⟩
  refine r_iload_n dX0_runs_37 rfl ?_
  · refine r_lsw 170 dX0_runs_38 (by decide) rfl (by decide) ?_
    refine r_aload_n dX0_runs_170 rfl ?_
    refine r_iload_n dX0_runs_171 rfl ?_
    refine r_iconst (v := 0) dX0_runs_172 (by decide) ?_
    refine r_iload_n dX0_runs_173 rfl ?_
    refine r_iconst (v := 3) dX0_runs_174 (by decide) ?_
    refine r_imul dX0_runs_175 ?_
    refine r_iload_n dX0_runs_176 rfl ?_
    rw [show (0 : Int32) = nI 0 from rfl]
    refine r_callV dX0_runs_177 l_X0_47 o_X0_above v_X0_above rfl (by decide) rfl rfl (O d1 (by omega) h1 (tr ++ [30]) (x * 3) e (by omega) (by rw [app_len]; omega) C1) (by omega) rfl (Nat.le_of_ble_eq_true rfl) (fun r177 h177 hq177 => ?_)
    obtain ⟨rfl, H2, F2⟩ := hq177
    refine r_ireturn dX0_runs_180 ⟨_, rfl, rfl⟩ ?_
    rw [app1] at H2
    exact ⟨rfl, H2, F1.tr F2⟩
theorem run50 {G : WT} {l : Launch} (hG : GOK G) {m k i v : Nat} {f : Int32 → Int32 × List Nat} (hm : m < 20) (O : AbvC G l (m + 1) 50 0 k i v f) : RunC G l m 50 k i v (fun x => (-(f x).1, 50 :: (f x).2)) := by
  intro d hd h tr x e he ht C
  refine Cl.of hG (by decide) (Nat.le_of_ble_eq_true rfl) ?_
  show Wp G l d RX0 cX0_runs 4 (some .int) 0 [.ref (gA G 48), .int (nI 50), .int x, .int (nI e)] [] h _
  refine runs_pre hG (by omega) (by omega) C (fun h1 C1 F1 => ?_)
  obtain ⟨d1, rfl⟩ : ∃ d1, d = d1 + 1 := ⟨d - 1, by omega⟩
  refine r_iload_n dX0_runs_37 rfl ?_
  · refine r_lsw 198 dX0_runs_38 (by decide) rfl (by decide) ?_
    refine r_aload_n dX0_runs_198 rfl ?_
    refine r_iload_n dX0_runs_199 rfl ?_
    refine r_iconst (v := 0) dX0_runs_200 (by decide) ?_
    refine r_iload_n dX0_runs_201 rfl ?_
    refine r_iload_n dX0_runs_202 rfl ?_
    rw [show (0 : Int32) = nI 0 from rfl]
    refine r_callV dX0_runs_203 l_X0_47 o_X0_above v_X0_above rfl (by decide) rfl rfl (O d1 (by omega) h1 (tr ++ [50]) x e (by omega) (by rw [app_len]; omega) C1) (by omega) rfl (Nat.le_of_ble_eq_true rfl) (fun r203 h203 hq203 => ?_)
    obtain ⟨rfl, H2, F2⟩ := hq203
    refine r_ineg dX0_runs_206 ?_
    refine r_ireturn dX0_runs_207 ⟨_, rfl, rfl⟩ ?_
    rw [app1] at H2
    exact ⟨rfl, H2, F1.tr F2⟩
theorem run51 {G : WT} {l : Launch} (hG : GOK G) {m k i v : Nat} {f : Int32 → Int32 × List Nat} (hm : m < 20) (O : AbvC G l (m + 1) 51 1 k i v f) : RunC G l m 51 k i v (fun x => ((f (x + 1)).1, 51 :: (f (x + 1)).2)) := by
  intro d hd h tr x e he ht C
  refine Cl.of hG (by decide) (Nat.le_of_ble_eq_true rfl) ?_
  show Wp G l d RX0 cX0_runs 4 (some .int) 0 [.ref (gA G 48), .int (nI 51), .int x, .int (nI e)] [] h _
  refine runs_pre hG (by omega) (by omega) C (fun h1 C1 F1 => ?_)
  obtain ⟨d1, rfl⟩ : ∃ d1, d = d1 + 1 := ⟨d - 1, by omega⟩
  refine r_iload_n dX0_runs_37 rfl ?_
  · refine r_lsw 208 dX0_runs_38 (by decide) rfl (by decide) ?_
    refine r_aload_n dX0_runs_208 rfl ?_
    refine r_iload_n dX0_runs_209 rfl ?_
    refine r_iconst (v := 1) dX0_runs_210 (by decide) ?_
    refine r_iload_n dX0_runs_211 rfl ?_
    refine r_iconst (v := 1) dX0_runs_212 (by decide) ?_
    refine r_iadd dX0_runs_213 ?_
    refine r_iload_n dX0_runs_214 rfl ?_
    rw [show (1 : Int32) = nI 1 from rfl]
    refine r_callV dX0_runs_215 l_X0_47 o_X0_above v_X0_above rfl (by decide) rfl rfl (O d1 (by omega) h1 (tr ++ [51]) (x + 1) e (by omega) (by rw [app_len]; omega) C1) (by omega) rfl (Nat.le_of_ble_eq_true rfl) (fun r215 h215 hq215 => ?_)
    obtain ⟨rfl, H2, F2⟩ := hq215
    refine r_ireturn dX0_runs_218 ⟨_, rfl, rfl⟩ ?_
    rw [app1] at H2
    exact ⟨rfl, H2, F1.tr F2⟩
theorem run60 {G : WT} {l : Launch} (hG : GOK G) {m k i v : Nat} {f : Int32 → Int32 × List Nat} (hm : m < 20) (O : AbvC G l (m + 1) 60 2 k i v f) : RunC G l m 60 k i v (fun x => ((f (x - nI i)).1, 60 :: (f (x - nI i)).2)) := by
  intro d hd h tr x e he ht C
  refine Cl.of hG (by decide) (Nat.le_of_ble_eq_true rfl) ?_
  show Wp G l d RX0 cX0_runs 4 (some .int) 0 [.ref (gA G 48), .int (nI 60), .int x, .int (nI e)] [] h _
  refine runs_pre hG (by omega) (by omega) C (fun h1 C1 F1 => ?_)
  obtain ⟨d1, rfl⟩ : ∃ d1, d = d1 + 1 := ⟨d - 1, by omega⟩
  refine r_iload_n dX0_runs_37 rfl ?_
  · refine r_lsw 219 dX0_runs_38 (by decide) rfl (by decide) ?_
    refine r_aload_n dX0_runs_219 rfl ?_
    refine r_iload_n dX0_runs_220 rfl ?_
    refine r_iconst (v := 2) dX0_runs_221 (by decide) ?_
    refine r_iload_n dX0_runs_222 rfl ?_
    refine r_aload_n dX0_runs_223 rfl ?_
    refine r_getI dX0_runs_224 k_X0_22 rfl (by decide) rfl ?_
    rw [C1.2.2.2.2.1]
    refine r_isub dX0_runs_227 ?_
    refine r_iload_n dX0_runs_228 rfl ?_
    rw [show (2 : Int32) = nI 2 from rfl]
    refine r_callV dX0_runs_229 l_X0_47 o_X0_above v_X0_above rfl (by decide) rfl rfl (O d1 (by omega) h1 (tr ++ [60]) (x - nI i) e (by omega) (by rw [app_len]; omega) C1) (by omega) rfl (Nat.le_of_ble_eq_true rfl) (fun r229 h229 hq229 => ?_)
    obtain ⟨rfl, H2, F2⟩ := hq229
    refine r_ireturn dX0_runs_232 ⟨_, rfl, rfl⟩ ?_
    rw [app1] at H2
    exact ⟨rfl, H2, F1.tr F2⟩
theorem run71 {G : WT} {l : Launch} (hG : GOK G) {m k i v : Nat} {f : Int32 → Int32 × List Nat} (hm : m < 20) (O : AbvC G l (m + 1) 71 0 k i v f) : RunC G l m 71 k i v (fun x => ((f x).1 ^^^ nI v, 71 :: (f x).2)) := by
  intro d hd h tr x e he ht C
  refine Cl.of hG (by decide) (Nat.le_of_ble_eq_true rfl) ?_
  show Wp G l d RX0 cX0_runs 4 (some .int) 0 [.ref (gA G 48), .int (nI 71), .int x, .int (nI e)] [] h _
  refine runs_pre hG (by omega) (by omega) C (fun h1 C1 F1 => ?_)
  obtain ⟨d1, rfl⟩ : ∃ d1, d = d1 + 1 := ⟨d - 1, by omega⟩
  refine r_iload_n dX0_runs_37 rfl ?_
  · refine r_lsw 251 dX0_runs_38 (by decide) rfl (by decide) ?_
    refine r_aload_n dX0_runs_251 rfl ?_
    refine r_iload_n dX0_runs_252 rfl ?_
    refine r_iconst (v := 0) dX0_runs_253 (by decide) ?_
    refine r_iload_n dX0_runs_254 rfl ?_
    refine r_iload_n dX0_runs_255 rfl ?_
    rw [show (0 : Int32) = nI 0 from rfl]
    refine r_callV dX0_runs_256 l_X0_47 o_X0_above v_X0_above rfl (by decide) rfl rfl (O d1 (by omega) h1 (tr ++ [71]) x e (by omega) (by rw [app_len]; omega) C1) (by omega) rfl (Nat.le_of_ble_eq_true rfl) (fun r256 h256 hq256 => ?_)
    obtain ⟨rfl, H2, F2⟩ := hq256
    refine r_aload_n dX0_runs_259 rfl ?_
    refine r_getI dX0_runs_260 k_X0_25 rfl (by decide) rfl ?_
    rw [H2.2.2.2.2.2]
    refine r_ixor dX0_runs_263 ?_
    refine r_ireturn dX0_runs_264 ⟨_, rfl, rfl⟩ ?_
    rw [app1] at H2
    exact ⟨rfl, H2, F1.tr F2⟩
theorem run40 {G : WT} {l : Launch} (hG : GOK G) {m k i v : Nat} {f g : Int32 → Int32 × List Nat} (hm : m < 20) (hs : ∀ x, (f x).2.length ≤ 20) (O : AbvC G l (m + 1) 40 2 k i v f) (O2 : OwnC G l (m + 1) 1 k i v g) : RunC G l m 40 k i v (fun x => ((f x).1 + (g 1).1, 40 :: ((f x).2 ++ (g 1).2))) := by
  intro d hd h tr x e he ht C
  refine Cl.of hG (by decide) (Nat.le_of_ble_eq_true rfl) ?_
  show Wp G l d RX0 cX0_runs 4 (some .int) 0 [.ref (gA G 48), .int (nI 40), .int x, .int (nI e)] [] h _
  refine runs_pre hG (by omega) (by omega) C (fun h1 C1 F1 => ?_)
  obtain ⟨d1, rfl⟩ : ∃ d1, d = d1 + 1 := ⟨d - 1, by omega⟩
  have hl := hs x
  refine r_iload_n dX0_runs_37 rfl ?_
  · refine r_lsw 181 dX0_runs_38 (by decide) rfl (by decide) ?_
    refine r_aload_n dX0_runs_181 rfl ?_
    refine r_iload_n dX0_runs_182 rfl ?_
    refine r_iconst (v := 2) dX0_runs_183 (by decide) ?_
    refine r_iload_n dX0_runs_184 rfl ?_
    refine r_iload_n dX0_runs_185 rfl ?_
    rw [show (2 : Int32) = nI 2 from rfl]
    refine r_callV dX0_runs_186 l_X0_47 o_X0_above v_X0_above rfl (by decide) rfl rfl (O d1 (by omega) h1 (tr ++ [40]) x e (by omega) (by rw [app_len]; omega) C1) (by omega) rfl (Nat.le_of_ble_eq_true rfl) (fun r186 h186 hq186 => ?_)
    obtain ⟨rfl, H2, F2⟩ := hq186
    refine r_aload_n dX0_runs_189 rfl ?_
    refine r_iconst (v := 1) dX0_runs_190 (by decide) ?_
    refine r_iconst (v := 1) dX0_runs_191 (by decide) ?_
    refine r_iload_n dX0_runs_192 rfl ?_
    rw [show (1 : Int32) = nI 1 from rfl]
    refine r_callV dX0_runs_193 l_X0_28 o_X0_own v_X0_own rfl (by decide) rfl rfl (O2 d1 (by omega) h186 (tr ++ [40] ++ (f x).2) (nI 1) e (by omega) (by rw [List.length_append, app_len]; omega) H2) (by omega) rfl (Nat.le_of_ble_eq_true rfl) (fun r193 h193 hq193 => ?_)
    obtain ⟨rfl, H3, F3⟩ := hq193
    refine r_iadd dX0_runs_196 ?_
    refine r_ireturn dX0_runs_197 ⟨_, rfl, rfl⟩ ?_
    rw [List.append_assoc, app1] at H3
    exact ⟨rfl, H3, (F1.tr F2).tr F3⟩
theorem run70 {G : WT} {l : Launch} (hG : GOK G) {m k i v : Nat} {f g : Int32 → Int32 × List Nat} (hm : m < 20) (hs : ∀ x, (f x).2.length ≤ 20) (O : AbvC G l (m + 1) 70 1 k i v f) (O2 : AbvC G l (m + 1) 70 0 k i v g) : RunC G l m 70 k i v (fun x => ((f x).1 + (g 2).1, 70 :: ((f x).2 ++ (g 2).2))) := by
  intro d hd h tr x e he ht C
  refine Cl.of hG (by decide) (Nat.le_of_ble_eq_true rfl) ?_
  show Wp G l d RX0 cX0_runs 4 (some .int) 0 [.ref (gA G 48), .int (nI 70), .int x, .int (nI e)] [] h _
  refine runs_pre hG (by omega) (by omega) C (fun h1 C1 F1 => ?_)
  obtain ⟨d1, rfl⟩ : ∃ d1, d = d1 + 1 := ⟨d - 1, by omega⟩
  have hl := hs x
  refine r_iload_n dX0_runs_37 rfl ?_
  · refine r_lsw 233 dX0_runs_38 (by decide) rfl (by decide) ?_
    refine r_aload_n dX0_runs_233 rfl ?_
    refine r_iload_n dX0_runs_234 rfl ?_
    refine r_iconst (v := 1) dX0_runs_235 (by decide) ?_
    refine r_iload_n dX0_runs_236 rfl ?_
    refine r_iload_n dX0_runs_237 rfl ?_
    rw [show (1 : Int32) = nI 1 from rfl]
    refine r_callV dX0_runs_238 l_X0_47 o_X0_above v_X0_above rfl (by decide) rfl rfl (O d1 (by omega) h1 (tr ++ [70]) x e (by omega) (by rw [app_len]; omega) C1) (by omega) rfl (Nat.le_of_ble_eq_true rfl) (fun r238 h238 hq238 => ?_)
    obtain ⟨rfl, H2, F2⟩ := hq238
    refine r_aload_n dX0_runs_241 rfl ?_
    refine r_iload_n dX0_runs_242 rfl ?_
    refine r_iconst (v := 0) dX0_runs_243 (by decide) ?_
    refine r_iconst (v := 2) dX0_runs_244 (by decide) ?_
    refine r_iload_n dX0_runs_245 rfl ?_
    rw [show (0 : Int32) = nI 0 from rfl]
    refine r_callV dX0_runs_246 l_X0_47 o_X0_above v_X0_above rfl (by decide) rfl rfl (O2 d1 (by omega) h238 (tr ++ [70] ++ (f x).2) 2 e (by omega) (by rw [List.length_append, app_len]; omega) H2) (by omega) rfl (Nat.le_of_ble_eq_true rfl) (fun r246 h246 hq246 => ?_)
    obtain ⟨rfl, H3, F3⟩ := hq246
    refine r_iadd dX0_runs_249 ?_
    refine r_ireturn dX0_runs_250 ⟨_, rfl, rfl⟩ ?_
    rw [List.append_assoc, app1] at H3
    exact ⟨rfl, H3, (F1.tr F2).tr F3⟩
/-- each kind's own acts -/
theorem own_eats {G : WT} {l : Launch} (hG : GOK G) {k i v : Nat} (hk : k ≤ 6) : OwnC G l 17 0 k i v (eatA k i v) := by
  have r0 : RunC G l 20 10 k i v (eatE i) := run10 hG (by omega)
  have c : k = 0 ∨ k = 1 ∨ k = 2 ∨ k = 3 ∨ k = 4 ∨ k = 5 ∨ k = 6 := by omega
  rcases c with rfl | rfl | rfl | rfl | rfl | rfl | rfl
  · exact own_c hG (b := 10) (by omega) (by omega) rfl (r0.le (by omega))
  · exact own_c hG (b := 10) (by omega) (by omega) rfl (r0.le (by omega))
  · exact own_c hG (b := 30) (by omega) (by omega) rfl (run30 hG (by omega) (abv_c hG (u := 0) (b2 := 10) (by omega) (by omega) ⟨by omega, by omega⟩ (by omega) rfl rfl (r0.le (by omega))))
  · exact own_c hG (b := 10) (by omega) (by omega) rfl (r0.le (by omega))
  · exact own_c hG (b := 50) (by omega) (by omega) rfl (run50 hG (by omega) (abv_c hG (u := 1) (b2 := 10) (by omega) (by omega) ⟨by omega, by omega⟩ (by omega) rfl rfl (r0.le (by omega))))
  · exact own_c hG (b := 30) (by omega) (by omega) rfl (run30 hG (by omega) (abv_c hG (u := 0) (b2 := 10) (by omega) (by omega) ⟨by omega, by omega⟩ (by omega) rfl rfl (r0.le (by omega))))
  · exact own_c hG (b := 71) (by omega) (by omega) rfl (run71 hG (by omega) (abv_c hG (u := 3) (b2 := 10) (by omega) (by omega) ⟨by omega, by omega⟩ (by omega) rfl rfl (r0.le (by omega))))
theorem run_bakE {G : WT} {l : Launch} (hG : GOK G) {k i v : Nat} (hk : k ≤ 6) : RunC G l 16 11 k i v (bakE k i v) := run11 hG (by omega) (own_eats hG hk)
theorem run_bakH {G : WT} {l : Launch} (hG : GOK G) {k i v : Nat} (hk : k ≤ 6) : RunC G l 14 20 k i v (bakH k i v) := run20 hG (by omega) (abv_c hG (u := 0) (b2 := 11) (by omega) (by omega) ⟨by omega, by omega⟩ (by omega) rfl rfl (run_bakE hG hk))
theorem own_bakes {G : WT} {l : Launch} (hG : GOK G) {k i v : Nat} (hk : k ≤ 6) : OwnC G l 11 1 k i v (bakA k i v) := by
  have r1 : RunC G l 16 11 k i v (bakE k i v) := run_bakE hG hk
  have r2 : RunC G l 14 20 k i v (bakH k i v) := run_bakH hG hk
  have r0 : RunC G l 20 10 k i v (eatE i) := run10 hG (by omega)
  have bl := bakE_len k i v
  have c : k = 0 ∨ k = 1 ∨ k = 2 ∨ k = 3 ∨ k = 4 ∨ k = 5 ∨ k = 6 := by omega
  rcases c with rfl | rfl | rfl | rfl | rfl | rfl | rfl
  · exact own_c hG (b := 11) (by omega) (by omega) rfl (r1.le (by omega))
  · exact own_c hG (b := 20) (by omega) (by omega) rfl (r2.le (by omega))
  · exact own_c hG (b := 11) (by omega) (by omega) rfl (r1.le (by omega))
  · exact own_c hG (b := 11) (by omega) (by omega) rfl (r1.le (by omega))
  · exact own_c hG (b := 51) (by omega) (by omega) rfl (run51 hG (by omega) (abv_c hG (u := 1) (b2 := 20) (by omega) (by omega) ⟨by omega, by omega⟩ (by omega) rfl rfl (r2.le (by omega))))
  · exact own_c hG (b := 11) (by omega) (by omega) rfl (r1.le (by omega))
  · exact own_c hG (b := 70) (by omega) (by omega) rfl (run70 hG (by omega) (fun x => Nat.le_trans (bl x) (by omega)) (abv_c hG (u := 3) (b2 := 11) (by omega) (by omega) ⟨by omega, by omega⟩ (by omega) rfl rfl (r1.le (by omega))) (abv_c hG (u := 3) (b2 := 10) (by omega) (by omega) ⟨by omega, by omega⟩ (by omega) rfl rfl (r0.le (by omega))))
theorem run_telE {G : WT} {l : Launch} (hG : GOK G) {k i v : Nat} (hk : k ≤ 6) : RunC G l 10 12 k i v (telE k i v) := run12 hG (by omega) (own_bakes hG hk)
theorem own_tells {G : WT} {l : Launch} (hG : GOK G) {k i v : Nat} (hk : k ≤ 6) : OwnC G l 7 2 k i v (telA k i v) := by
  have r1 : RunC G l 10 12 k i v (telE k i v) := run_telE hG hk
  have bl := bakA_len k i v
  have tl : ∀ x, (telE k i v x).2.length ≤ 20 := fun x => by
    have := bl x
    show (bakA k i v x).2.length + 1 ≤ 20
    omega
  have c : k = 0 ∨ k = 1 ∨ k = 2 ∨ k = 3 ∨ k = 4 ∨ k = 5 ∨ k = 6 := by omega
  rcases c with rfl | rfl | rfl | rfl | rfl | rfl | rfl
  · exact own_c hG (b := 12) (by omega) (by omega) rfl (r1.le (by omega))
  · exact own_c hG (b := 12) (by omega) (by omega) rfl (r1.le (by omega))
  · exact own_c hG (b := 12) (by omega) (by omega) rfl (r1.le (by omega))
  · exact own_c hG (b := 40) (by omega) (by omega) rfl (run40 hG (by omega) tl (abv_c hG (u := 0) (b2 := 12) (by omega) (by omega) ⟨by omega, by omega⟩ (by omega) rfl rfl (r1.le (by omega))) ((own_bakes hG hk).le (by omega)))
  · exact own_c hG (b := 12) (by omega) (by omega) rfl (r1.le (by omega))
  · exact own_c hG (b := 60) (by omega) (by omega) rfl (run60 hG (by omega) (abv_c hG (u := 2) (b2 := 12) (by omega) (by omega) ⟨by omega, by omega⟩ (by omega) rfl rfl (r1.le (by omega))))
  · exact own_c hG (b := 40) (by omega) (by omega) rfl (run40 hG (by omega) tl (abv_c hG (u := 0) (b2 := 12) (by omega) (by omega) ⟨by omega, by omega⟩ (by omega) rfl rfl (r1.le (by omega))) ((own_bakes hG hk).le (by omega)))
def dvF (a i : Nat) : Bool := a == 49 || (a == 48 && (i == 1 || i == 2 || i == 3 || i == 4))
theorem dkF_dv : ∀ a i, dvF a i = false → dkF a i = false := by
  intro a i h
  simp only [dkF, dvF, Bool.or_eq_false_iff, Bool.and_eq_false_iff, beq_eq_false_iff_ne, ne_eq] at h ⊢
  omega
set_option maxRecDepth 100000 in
theorem m_X0_does {G : WT} {l : Launch} (hG : GOK G) {h : Hp} {a k n v m : Nat} {x : Int32} {f : Int32 → Int32 × List Nat} (C : DAc h []) (hn : n < 6) (hk : k ≤ 6) (O : OwnC G l m a k n v f) : Cl G l 31 yX0_does cX0_does 6 (some .int) [.ref (gA G 48), .int (nI a), .int x, .int (nI k), .int (nI n), .int (nI v)] h (fun r h' => r = some (.int (f x).1) ∧ DAc h' (f x).2 ∧ Fr dvF h h') := by
  refine Cl.of hG (by decide) (Nat.le_of_ble_eq_true rfl) ?_
  show Wp G l 31 RX0 cX0_does 6 (some .int) 0 [.ref (gA G 48), .int (nI a), .int x, .int (nI k), .int (nI n), .int (nI v)] [] h _
  have F1 : Fr dvF h (setI (setI (setI h 48 2 (nI k)) 48 3 (nI n)) 48 4 (nI v)) := ((Fr.set rfl).tr (Fr.set rfl)).tr (Fr.set rfl)
  have C1 : ActD (setI (setI (setI h 48 2 (nI k)) 48 3 (nI n)) 48 4 (nI v)) [] k n v := by
    refine ⟨⟨?_, fun j b _ q => by cases q⟩, hn, hk, ?_, ?_, ?_⟩
    · rw [setI_nj (by decide), setI_nj (by decide), setI_nj (by decide)]; exact C.1
    · rw [setI_nj (by decide), setI_nj (by decide), setI_at]
    · rw [setI_nj (by decide), setI_at]
    · rw [setI_at]
  have k1 := O 30 (by omega) _ [] x 0 (Nat.zero_le _) (Nat.zero_le _) C1
  refine r_aload_n dX0_does_0 rfl ?_
  refine r_iload_n dX0_does_1 rfl ?_
  refine r_putI dX0_does_2 k_X0_19 rfl (by decide) rfl rfl rfl rfl ?_
  refine r_aload_n dX0_does_5 rfl ?_
  refine r_iload dX0_does_6 rfl ?_
  refine r_putI dX0_does_8 k_X0_22 rfl (by decide) rfl rfl rfl rfl ?_
  refine r_aload_n dX0_does_11 rfl ?_
  refine r_iload dX0_does_12 rfl ?_
  refine r_putI dX0_does_14 k_X0_25 rfl (by decide) rfl rfl rfl rfl ?_
  refine r_aload_n dX0_does_17 rfl ?_
  refine r_iload_n dX0_does_18 rfl ?_
  refine r_iload_n dX0_does_19 rfl ?_
  refine r_iconst (v := 0) dX0_does_20 (by decide) ?_
  rw [show (0 : Int32) = nI 0 from rfl]
  refine r_callV dX0_does_21 l_X0_28 o_X0_own v_X0_own rfl (by decide) rfl rfl (k1) (by decide) rfl (Nat.le_of_ble_eq_true rfl) (fun r21 h21 hq21 => ?_)
  obtain ⟨rfl, H2, F2⟩ := hq21
  refine r_ireturn dX0_does_24 ⟨_, rfl, rfl⟩ ?_
  exact ⟨rfl, H2.1, F1.tr (F2.wk dkF_dv)⟩
set_option maxRecDepth 100000 in
theorem m_X6_act {G : WT} {l : Launch} (hG : GOK G) {h : Hp} {T : Tb} {i a x : Int32} (HT : DTb h 1 T) (hT : TbOK T) : Cl G l 32 yX6_act cX6_act 4 (some .int) [.ref (gA G 0), .int i, .int a, .int x] h (fun r h' => r = some (.int (actS T i a x).1) ∧ DAc h' (actS T i a x).2 ∧ Fr dvF h h') := by
  refine Cl.of hG (by decide) (Nat.le_of_ble_eq_true rfl) ?_
  show Wp G l 32 RX6 cX6_act 4 (some .int) 0 [.ref (gA G 0), .int i, .int a, .int x] [] h _
  have hE := hT.1
  have F0 : Fr dvF h (setI h 48 1 0) := Fr.set rfl
  have A0 : DAc (setI h 48 1 0) [] := ⟨setI_at, fun j b _ q => by cases q⟩
  have e0 : (setI h 48 1 0).1 1 7 = nI (T.1 7 0) := by rw [setI_ne (by decide)]; exact HT.1.1
  cases hi : dec i (T.1 7 0) with
  | none =>
    refine r_aload_n dX6_act_0 rfl ?_
    refine r_getR (j := 48) dX6_act_1 k_X6_52 rfl (by decide) rfl rfl ?_
    refine r_iconst (v := 0) dX6_act_4 (by decide) ?_
    refine r_putI dX6_act_5 k_X6_278 rfl (by decide) rfl rfl rfl rfl ?_
    refine r_aload_n dX6_act_8 rfl ?_
    refine r_iload_n dX6_act_9 rfl ?_
    refine r_callV dX6_act_10 l_X6_89 o_X6_isEater v_X6_isEater rfl (by decide) rfl rfl (m_X6_isEater hG (x := i) (E := T.1 7 0) hE e0) (by decide) rfl (Nat.le_of_ble_eq_true rfl) (fun r10 h10 hq10 => ?_)
    obtain ⟨rfl, rfl⟩ := hq10
    rw [hi]
    refine r_if_eq (tgt := 24) dX6_act_13 (by decide) (fun c_13 => ?_) (fun c_13 => ?_)
    · refine r_iconst (v := 0) dX6_act_24 (by decide) ?_
      refine r_ireturn dX6_act_25 ⟨_, rfl, rfl⟩ ?_
      rw [actS, hi]
      exact ⟨rfl, A0, F0⟩
    · exact absurd none_f c_13
  | some i1 =>
    obtain ⟨hi1, rfl, -⟩ := dec_some.mp hi
    obtain ⟨t1, t2, -⟩ := hT.2.2.2.2.2.2.1 i1
    obtain ⟨v1, v2, -⟩ := (HT.2.1 i1 (by omega)).1 hi1
    cases ha : dec a 3 with
    | none =>
      refine r_aload_n dX6_act_0 rfl ?_
      refine r_getR (j := 48) dX6_act_1 k_X6_52 rfl (by decide) rfl rfl ?_
      refine r_iconst (v := 0) dX6_act_4 (by decide) ?_
      refine r_putI dX6_act_5 k_X6_278 rfl (by decide) rfl rfl rfl rfl ?_
      refine r_aload_n dX6_act_8 rfl ?_
      refine r_iload_n dX6_act_9 rfl ?_
      refine r_callV dX6_act_10 l_X6_89 o_X6_isEater v_X6_isEater rfl (by decide) rfl rfl (m_X6_isEater hG (x := nI i1) (E := T.1 7 0) hE e0) (by decide) rfl (Nat.le_of_ble_eq_true rfl) (fun r10 h10 hq10 => ?_)
      obtain ⟨rfl, rfl⟩ := hq10
      rw [hi]
      refine r_if_eq (tgt := 24) dX6_act_13 (by decide) (fun c_13 => ?_) (fun c_13 => ?_)
      · exact absurd c_13 some_t
      · refine r_iload_n dX6_act_16 rfl ?_
        refine r_iconst (v := 2) dX6_act_17 (by decide) ?_
        rw [show (2 : Int32) = nI 2 from rfl]
        refine r_callS dX6_act_18 l_X6_78 o_X6_within s_X6_within rfl (m_X6_within hG (x := a) (m := 2) (by omega)) (by decide) rfl (Nat.le_of_ble_eq_true rfl) (fun r18 h18 hq18 => ?_)
        obtain ⟨rfl, rfl⟩ := hq18
        rw [ha]
        refine r_if_ne (tgt := 26) dX6_act_21 (by decide) (fun c_21 => ?_) (fun c_21 => ?_)
        · exact absurd none_f c_21
        · refine r_iconst (v := 0) dX6_act_24 (by decide) ?_
          refine r_ireturn dX6_act_25 ⟨_, rfl, rfl⟩ ?_
          rw [actS, hi, ha]
          exact ⟨rfl, A0, F0⟩
    | some a1 =>
      obtain ⟨ha1, rfl, -⟩ := dec_some.mp ha
      have es : actS T (nI i1) (nI a1) x = if a1 = 0 then eatA (T.1 0 i1) i1 (T.1 1 i1) x else if a1 = 1 then bakA (T.1 0 i1) i1 (T.1 1 i1) x else telA (T.1 0 i1) i1 (T.1 1 i1) x := by rw [actS, hi, ha]
      have O : ∃ m, OwnC G l m a1 (T.1 0 i1) i1 (T.1 1 i1) (actS T (nI i1) (nI a1)) := by
        have c : a1 = 0 ∨ a1 = 1 ∨ a1 = 2 := by omega
        rcases c with rfl | rfl | rfl
        · exact ⟨17, fun d hd h tr x => by rw [actS, hi, ha]; exact own_eats hG t1 d hd h tr x⟩
        · exact ⟨11, fun d hd h tr x => by rw [actS, hi, ha]; exact own_bakes hG t1 d hd h tr x⟩
        · exact ⟨7, fun d hd h tr x => by rw [actS, hi, ha]; exact own_tells hG t1 d hd h tr x⟩
      obtain ⟨m, O⟩ := O
      refine r_aload_n dX6_act_0 rfl ?_
      refine r_getR (j := 48) dX6_act_1 k_X6_52 rfl (by decide) rfl rfl ?_
      refine r_iconst (v := 0) dX6_act_4 (by decide) ?_
      refine r_putI dX6_act_5 k_X6_278 rfl (by decide) rfl rfl rfl rfl ?_
      refine r_aload_n dX6_act_8 rfl ?_
      refine r_iload_n dX6_act_9 rfl ?_
      refine r_callV dX6_act_10 l_X6_89 o_X6_isEater v_X6_isEater rfl (by decide) rfl rfl (m_X6_isEater hG (x := nI i1) (E := T.1 7 0) hE e0) (by decide) rfl (Nat.le_of_ble_eq_true rfl) (fun r10 h10 hq10 => ?_)
      obtain ⟨rfl, rfl⟩ := hq10
      rw [hi]
      refine r_if_eq (tgt := 24) dX6_act_13 (by decide) (fun c_13 => ?_) (fun c_13 => ?_)
      · exact absurd c_13 some_t
      · refine r_iload_n dX6_act_16 rfl ?_
        refine r_iconst (v := 2) dX6_act_17 (by decide) ?_
        rw [show (2 : Int32) = nI 2 from rfl]
        refine r_callS dX6_act_18 l_X6_78 o_X6_within s_X6_within rfl (m_X6_within hG (x := nI a1) (m := 2) (by omega)) (by decide) rfl (Nat.le_of_ble_eq_true rfl) (fun r18 h18 hq18 => ?_)
        obtain ⟨rfl, rfl⟩ := hq18
        rw [ha]
        refine r_if_ne (tgt := 26) dX6_act_21 (by decide) (fun c_21 => ?_) (fun c_21 => ?_)
        · refine r_aload_n dX6_act_26 rfl ?_
          refine r_getR (j := 48) dX6_act_27 k_X6_52 rfl (by decide) rfl rfl ?_
          refine r_iload_n dX6_act_30 rfl ?_
          refine r_iload_n dX6_act_31 rfl ?_
          refine r_aload_n dX6_act_32 rfl ?_
          refine r_getR (j := 1) dX6_act_33 k_X6_12 rfl (by decide) rfl rfl ?_
          refine r_getR (j := 2) dX6_act_36 k_X6_94 rfl (by decide) rfl rfl ?_
          refine r_iload_n dX6_act_39 rfl ?_
          refine r_iald (i1) dX6_act_40 rfl rfl (show i1 < 5 by omega) ?_
          refine r_iload_n dX6_act_41 rfl ?_
          refine r_aload_n dX6_act_42 rfl ?_
          refine r_getR (j := 1) dX6_act_43 k_X6_12 rfl (by decide) rfl rfl ?_
          refine r_getR (j := 3) dX6_act_46 k_X6_97 rfl (by decide) rfl rfl ?_
          refine r_iload_n dX6_act_49 rfl ?_
          refine r_iald (i1) dX6_act_50 rfl rfl (show i1 < 5 by omega) ?_
          rw [setI_ne (by decide), setI_ne (by decide), v1, v2]
          refine r_callV dX6_act_51 l_X6_281 o_X0_does v_X0_does rfl (by decide) rfl rfl (m_X0_does hG (x := x) A0 (by omega) t1 O) (by decide) rfl (Nat.le_of_ble_eq_true rfl) (fun r51 h51 hq51 => ?_)
          obtain ⟨rfl, H2, F2⟩ := hq51
          refine r_ireturn dX6_act_54 ⟨_, rfl, rfl⟩ ?_
          exact ⟨rfl, H2, F0.tr F2⟩
        · exact absurd c_21 some_t
