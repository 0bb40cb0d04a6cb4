/-! wishes -/
theorem least9 {x : Nat} (hx : x < 1000000) : (if (9 : Int32) < nI x then (9 : Int32) else nI x) = nI (min 9 x) := by
  show (if nI 9 < nI x then nI 9 else nI x) = _
  by_cases h : 9 < x
  · rw [if_pos ((nI_lt' (a := 9) (by omega) (by omega)).mpr h), Nat.min_eq_left (by omega)]
  · rw [if_neg (fun q => h ((nI_lt' (a := 9) (by omega) (by omega)).mp q)), Nat.min_eq_right (by omega)]
theorem plainS_le {T : Tb} (hT : TbOK T) (e : Nat) : plainS T e ≤ 9 := by
  obtain ⟨-, -, -, -, -, -, t7, t8, -⟩ := hT
  obtain ⟨k1, k2, k3, k4⟩ := t7 e
  unfold plainS
  split <;> first | exact Nat.min_le_left _ _ | (split <;> first | omega | exact Nat.min_le_left _ _) | exact t8 _ | omega
theorem bestTo_le (f : Nat → Int) : ∀ n, bestTo f n ≤ n := by
  intro n
  induction n with
  | zero => exact Nat.le_refl _
  | succ n ih => show (if f (bestTo f n) < f (n + 1) then n + 1 else bestTo f n) ≤ n + 1; split <;> omega
theorem wishS_le {V : Hv} {P : Sup} {T : Tb} (hT : TbOK T) (e : Nat) : wishS V P T e ≤ 9 := by
  unfold wishS
  split
  · exact bestTo_le _ 9
  · exact plainS_le hT e
theorem worthTo_le {V : Hv} (hV : HvOK V) (T : Tb) (e n : Nat) : worthTo V T e n ≤ n * 990 := sumTo_le n (fun c _ => worthS_le hV _)
theorem hasS_bd {V : Hv} (hV : HvOK V) {T : Tb} {free : Bool} {ate : Nat → Nat} {bk e : Nat} (ha : ate e ≤ 9) : -1000 ≤ hasS V T free ate bk e ∧ hasS V T free ate bk e ≤ 10000 := by
  have h1 := worthTo_le hV T e (ate e)
  have h2 := costS_le hV (ltS T e (ate e))
  have h3 : ate e * 990 ≤ 9 * 990 := Nat.mul_le_mul_right _ ha
  unfold hasS
  split <;> omega
set_option maxRecDepth 100000 in
theorem m_X7_crumb {G : WT} {l : Launch} (hG : GOK G) {h : Hp} {b : Nat} {V : Hv} {T : Tb} {told : Option Nat} {free : Bool} {e : Nat} (C : SC h b V T told free) (he : e < T.1 7 0) : Cl G l 1 yX7_crumb cX7_crumb 2 (some .int) [.ref (gA G 134), .int (nI e)] h (fun r h' => r = some (.int (nI (T.1 3 (if e = 0 then T.1 7 0 - 1 else e - 1) + 1))) ∧ h' = h) := by
  refine Cl.of hG (by decide) (Nat.le_of_ble_eq_true rfl) ?_
  show Wp G l 1 RX7 cX7_crumb 2 (some .int) 0 [.ref (gA G 134), .int (nI e)] [] h _
  have hE := C.2.1.1
  obtain ⟨i, hi⟩ : ∃ i, i = (if e = 0 then T.1 7 0 - 1 else e - 1) := ⟨_, rfl⟩
  have hil : i < T.1 7 0 := by rw [hi]; split <;> omega
  have q4 := (C.1.2.2.2.2 i hil).2.2.2.1
  rw [← hi]
  refine r_aload_n dX7_crumb_0 rfl ?_
  refine r_getR (j := 138) dX7_crumb_1 k_X7_32 rfl (by decide) rfl rfl ?_
  refine r_iload_n dX7_crumb_4 rfl ?_
  refine r_if_ne (tgt := 17) dX7_crumb_5 (by decide) (fun c_5 => ?_) (fun c_5 => ?_)
  · have z : ¬ e = 0 := fun q => c_5 (by rw [q]; rfl)
    refine r_iload_n dX7_crumb_17 rfl ?_
    refine r_iconst (v := 1) dX7_crumb_18 (by decide) ?_
    refine r_isub dX7_crumb_19 ?_
    have ei : (if e = 0 then nI (T.1 7 0) - 1 else nI e - 1) = nI i := by
      rw [hi]
      by_cases ze : e = 0
      · rw [if_pos ze, if_pos ze]
        obtain ⟨E0, h0⟩ : ∃ n, T.1 7 0 = n + 1 := ⟨T.1 7 0 - 1, by omega⟩
        rw [h0, nI_pred]; rfl
      · rw [if_neg ze, if_neg ze]
        obtain ⟨e0, h0⟩ : ∃ n, e = n + 1 := ⟨e - 1, by omega⟩
        rw [h0, nI_pred]; rfl
    first
    | rw [if_pos z] at ei
    | rw [if_neg z] at ei
    refine r_iald (i) dX7_crumb_20 rfl ei (show i < 6 by omega) ?_
    refine r_iconst (v := 1) dX7_crumb_21 (by decide) ?_
    refine r_iadd dX7_crumb_22 ?_
    refine r_ireturn dX7_crumb_23 ⟨_, rfl, rfl⟩ ?_
    exact ⟨by rw [q4, nI_1], rfl⟩
  · have z : e = 0 := (nI_eq' (b := 0) (by omega) (by omega)).mp c_5
    refine r_aload_n dX7_crumb_8 rfl ?_
    refine r_getI dX7_crumb_9 k_X7_7 rfl (by decide) rfl ?_
    rw [C.1.1]
    refine r_iconst (v := 1) dX7_crumb_12 (by decide) ?_
    refine r_isub dX7_crumb_13 ?_
    refine r_goto (tgt := 20) dX7_crumb_14 (by decide) ?_
    have ei : (if e = 0 then nI (T.1 7 0) - 1 else nI e - 1) = nI i := by
      rw [hi]
      by_cases ze : e = 0
      · rw [if_pos ze, if_pos ze]
        obtain ⟨E0, h0⟩ : ∃ n, T.1 7 0 = n + 1 := ⟨T.1 7 0 - 1, by omega⟩
        rw [h0, nI_pred]; rfl
      · rw [if_neg ze, if_neg ze]
        obtain ⟨e0, h0⟩ : ∃ n, e = n + 1 := ⟨e - 1, by omega⟩
        rw [h0, nI_pred]; rfl
    first
    | rw [if_pos z] at ei
    | rw [if_neg z] at ei
    refine r_iald (i) dX7_crumb_20 rfl ei (show i < 6 by omega) ?_
    refine r_iconst (v := 1) dX7_crumb_21 (by decide) ?_
    refine r_iadd dX7_crumb_22 ?_
    refine r_ireturn dX7_crumb_23 ⟨_, rfl, rfl⟩ ?_
    exact ⟨by rw [q4, nI_1], rfl⟩
set_option maxRecDepth 100000 in
theorem m_X7_plainWish {G : WT} {l : Launch} (hG : GOK G) {h : Hp} {b : Nat} {V : Hv} {T : Tb} {told : Option Nat} {free : Bool} {e : Nat} (C : SC h b V T told free) (he : e < T.1 7 0) : Cl G l 2 yX7_plainWish cX7_plainWish 2 (some .int) [.ref (gA G 134), .int (nI e)] h (fun r h' => r = some (.int (nI (plainS T e))) ∧ h' = h) := by
  refine Cl.of hG (by decide) (Nat.le_of_ble_eq_true rfl) ?_
  show Wp G l 2 RX7 cX7_plainWish 2 (some .int) 0 [.ref (gA G 134), .int (nI e)] [] h _
  have hE := C.2.1.1
  obtain ⟨q1, q2, q3, q4, q5, q6⟩ := C.1.2.2.2.2 e he
  obtain ⟨-, -, t2, -, -, -, t7, t8, -⟩ := C.2.1
  obtain ⟨k1, k2, k3, k4⟩ := t7 e
  have kc := (t7 (if e = 0 then T.1 7 0 - 1 else e - 1)).2.2.2
  obtain ⟨k, hk⟩ : ∃ k, k = T.1 0 e := ⟨_, rfl⟩
  have hk6 : k ≤ 6 := by omega
  refine r_aload_n dX7_plainWish_0 rfl ?_
  refine r_getR (j := 135) dX7_plainWish_1 k_X7_22 rfl (by decide) rfl rfl ?_
  refine r_iload_n dX7_plainWish_4 rfl ?_
  refine r_iald (e) dX7_plainWish_5 rfl rfl (show e < 6 by omega) ?_
  rw [q1, ← hk]
  unfold plainS
  rw [← hk]
  clear q1
  rcases (show k = 0 ∨ k = 1 ∨ k = 2 ∨ k = 3 ∨ k = 4 ∨ k = 5 ∨ k = 6 by omega) with rfl | rfl | rfl | rfl | rfl | rfl | rfl
  · refine r_tsw 142 dX7_plainWish_6 rfl (by decide) (by decide) ?_
    refine r_aload_n dX7_plainWish_142 rfl ?_
    refine r_getR (j := 137) dX7_plainWish_143 k_X7_29 rfl (by decide) rfl rfl ?_
    refine r_iload_n dX7_plainWish_146 rfl ?_
    refine r_iald (e) dX7_plainWish_147 rfl rfl (show e < 6 by omega) ?_
    refine r_ireturn dX7_plainWish_148 ⟨_, rfl, rfl⟩ ?_
    exact ⟨by rw [q3]; rfl, rfl⟩
  · refine r_tsw 44 dX7_plainWish_6 rfl (by decide) (by decide) ?_
    refine r_aload_n dX7_plainWish_44 rfl ?_
    refine r_bipush (v := 9) dX7_plainWish_45 (by decide) ?_
    refine r_aload_n dX7_plainWish_47 rfl ?_
    refine r_getR (j := 137) dX7_plainWish_48 k_X7_29 rfl (by decide) rfl rfl ?_
    refine r_iload_n dX7_plainWish_51 rfl ?_
    refine r_iald (e) dX7_plainWish_52 rfl rfl (show e < 6 by omega) ?_
    refine r_aload_n dX7_plainWish_53 rfl ?_
    refine r_getR (j := 136) dX7_plainWish_54 k_X7_26 rfl (by decide) rfl rfl ?_
    refine r_iload_n dX7_plainWish_57 rfl ?_
    refine r_iald (e) dX7_plainWish_58 rfl rfl (show e < 6 by omega) ?_
    refine r_iadd dX7_plainWish_59 ?_
    rw [q2, q3, nI_add]
    refine r_callV dX7_plainWish_60 l_X7_315 o_X7_least v_X7_least rfl (by decide) rfl rfl (m_X7_least hG) (by decide) rfl (Nat.le_of_ble_eq_true rfl) (fun r60 h60 hq60 => ?_)
    obtain ⟨rfl, e60⟩ := hq60
    rw [e60]
    clear e60 h60
    rw [least9 (by omega)]
    refine r_ireturn dX7_plainWish_63 ⟨_, rfl, rfl⟩ ?_
    exact ⟨rfl, rfl⟩
  · refine r_tsw 64 dX7_plainWish_6 rfl (by decide) (by decide) ?_
    refine r_aload_n dX7_plainWish_64 rfl ?_
    refine r_bipush (v := 9) dX7_plainWish_65 (by decide) ?_
    refine r_aload_n dX7_plainWish_67 rfl ?_
    refine r_iload_n dX7_plainWish_68 rfl ?_
    refine r_callV dX7_plainWish_69 l_X7_318 o_X7_crumb v_X7_crumb rfl (by decide) rfl rfl (m_X7_crumb hG C he) (by decide) rfl (Nat.le_of_ble_eq_true rfl) (fun r69 h69 hq69 => ?_)
    obtain ⟨rfl, e69⟩ := hq69
    rw [e69]
    clear e69 h69
    refine r_callV dX7_plainWish_72 l_X7_315 o_X7_least v_X7_least rfl (by decide) rfl rfl (m_X7_least hG) (by decide) rfl (Nat.le_of_ble_eq_true rfl) (fun r72 h72 hq72 => ?_)
    obtain ⟨rfl, e72⟩ := hq72
    rw [e72]
    clear e72 h72
    rw [least9 (by omega)]
    refine r_ireturn dX7_plainWish_75 ⟨_, rfl, rfl⟩ ?_
    exact ⟨rfl, rfl⟩
  · refine r_tsw 76 dX7_plainWish_6 rfl (by decide) (by decide) ?_
    refine r_aload_n dX7_plainWish_76 rfl ?_
    refine r_getI dX7_plainWish_77 k_X7_16 rfl (by decide) rfl ?_
    refine r_aload_n dX7_plainWish_80 rfl ?_
    refine r_getI dX7_plainWish_81 k_X7_7 rfl (by decide) rfl ?_
    rw [C.1.2.2.1, C.1.1]
    refine r_irem dX7_plainWish_84 (nI_ne0 (by omega) (by omega)) ?_
    refine r_iload_n dX7_plainWish_85 rfl ?_
    rw [nI_rem (by omega) (by omega) (by omega)]
    refine r_icmp_ne (tgt := 93) dX7_plainWish_86 (by decide) (fun c_86 => ?_) (fun c_86 => ?_)
    · refine r_aload_n dX7_plainWish_93 rfl ?_
      refine r_getR (j := 137) dX7_plainWish_94 k_X7_29 rfl (by decide) rfl rfl ?_
      refine r_iload_n dX7_plainWish_97 rfl ?_
      refine r_iald (e) dX7_plainWish_98 rfl rfl (show e < 6 by omega) ?_
      refine r_ireturn dX7_plainWish_99 ⟨_, rfl, rfl⟩ ?_
      exact ⟨by rw [q3]; show _ = some (Value.int (nI (if _ then _ else _))); rw [if_neg (fun q => c_86 (by rw [q]))], rfl⟩
    · refine r_iconst (v := 0) dX7_plainWish_89 (by decide) ?_
      refine r_goto (tgt := 99) dX7_plainWish_90 (by decide) ?_
      refine r_ireturn dX7_plainWish_99 ⟨_, rfl, rfl⟩ ?_
      exact ⟨by show _ = some (Value.int (nI (if _ then _ else _))); rw [if_pos ((nI_eq' (Nat.lt_trans (Nat.mod_lt _ (by omega)) (show T.1 7 0 < 2147483648 by omega)) (by omega)).mp c_86)]; rfl, rfl⟩
  · refine r_tsw 44 dX7_plainWish_6 rfl (by decide) (by decide) ?_
    refine r_aload_n dX7_plainWish_44 rfl ?_
    refine r_bipush (v := 9) dX7_plainWish_45 (by decide) ?_
    refine r_aload_n dX7_plainWish_47 rfl ?_
    refine r_getR (j := 137) dX7_plainWish_48 k_X7_29 rfl (by decide) rfl rfl ?_
    refine r_iload_n dX7_plainWish_51 rfl ?_
    refine r_iald (e) dX7_plainWish_52 rfl rfl (show e < 6 by omega) ?_
    refine r_aload_n dX7_plainWish_53 rfl ?_
    refine r_getR (j := 136) dX7_plainWish_54 k_X7_26 rfl (by decide) rfl rfl ?_
    refine r_iload_n dX7_plainWish_57 rfl ?_
    refine r_iald (e) dX7_plainWish_58 rfl rfl (show e < 6 by omega) ?_
    refine r_iadd dX7_plainWish_59 ?_
    rw [q2, q3, nI_add]
    refine r_callV dX7_plainWish_60 l_X7_315 o_X7_least v_X7_least rfl (by decide) rfl rfl (m_X7_least hG) (by decide) rfl (Nat.le_of_ble_eq_true rfl) (fun r60 h60 hq60 => ?_)
    obtain ⟨rfl, e60⟩ := hq60
    rw [e60]
    clear e60 h60
    rw [least9 (by omega)]
    refine r_ireturn dX7_plainWish_63 ⟨_, rfl, rfl⟩ ?_
    exact ⟨rfl, rfl⟩
  · refine r_tsw 100 dX7_plainWish_6 rfl (by decide) (by decide) ?_
    refine r_aload_n dX7_plainWish_100 rfl ?_
    refine r_getR (j := 136) dX7_plainWish_101 k_X7_26 rfl (by decide) rfl rfl ?_
    refine r_iload_n dX7_plainWish_104 rfl ?_
    refine r_iald (e) dX7_plainWish_105 rfl rfl (show e < 6 by omega) ?_
    refine r_iconst (v := 5) dX7_plainWish_106 (by decide) ?_
    rw [q2]
    refine r_icmp_ge (tgt := 114) dX7_plainWish_107 (by decide) (fun c_107 => ?_) (fun c_107 => ?_)
    · refine r_aload_n dX7_plainWish_114 rfl ?_
      refine r_bipush (v := 9) dX7_plainWish_115 (by decide) ?_
      refine r_aload_n dX7_plainWish_117 rfl ?_
      refine r_iload_n dX7_plainWish_118 rfl ?_
      refine r_callV dX7_plainWish_119 l_X7_318 o_X7_crumb v_X7_crumb rfl (by decide) rfl rfl (m_X7_crumb hG C he) (by decide) rfl (Nat.le_of_ble_eq_true rfl) (fun r119 h119 hq119 => ?_)
      obtain ⟨rfl, e119⟩ := hq119
      rw [e119]
      clear e119 h119
      refine r_callV dX7_plainWish_122 l_X7_315 o_X7_least v_X7_least rfl (by decide) rfl rfl (m_X7_least hG) (by decide) rfl (Nat.le_of_ble_eq_true rfl) (fun r122 h122 hq122 => ?_)
      obtain ⟨rfl, e122⟩ := hq122
      rw [e122]
      clear e122 h122
      try rw [least9 (by omega)]
      refine r_ireturn dX7_plainWish_125 ⟨_, rfl, rfl⟩ ?_
      exact ⟨by show _ = some (Value.int (nI (if _ then _ else _))); rw [if_neg (Nat.not_lt.mpr ((nI_le' (a := 5) (by omega) (by omega)).mp c_107))]; rfl, rfl⟩
    · refine r_iconst (v := 0) dX7_plainWish_110 (by decide) ?_
      refine r_goto (tgt := 125) dX7_plainWish_111 (by decide) ?_
      try rw [least9 (by omega)]
      refine r_ireturn dX7_plainWish_125 ⟨_, rfl, rfl⟩ ?_
      exact ⟨by show _ = some (Value.int (nI (if _ then _ else _))); rw [if_pos (Nat.not_le.mp (fun q => c_107 ((nI_le' (a := 5) (by omega) (by omega)).mpr q)))]; rfl, rfl⟩
  · refine r_tsw 126 dX7_plainWish_6 rfl (by decide) (by decide) ?_
    refine r_aload_n dX7_plainWish_126 rfl ?_
    refine r_getR (j := 140) dX7_plainWish_127 k_X7_38 rfl (by decide) rfl rfl ?_
    refine r_iconst (v := 4) dX7_plainWish_130 (by decide) ?_
    refine r_iload_n dX7_plainWish_131 rfl ?_
    refine r_imul dX7_plainWish_132 ?_
    refine r_aload_n dX7_plainWish_133 rfl ?_
    refine r_getI dX7_plainWish_134 k_X7_16 rfl (by decide) rfl ?_
    refine r_iconst (v := 4) dX7_plainWish_137 (by decide) ?_
    rw [C.1.2.2.1]
    refine r_irem dX7_plainWish_138 (by decide) ?_
    refine r_iadd dX7_plainWish_139 ?_
    rw [show (4 : Int32) = nI 4 from rfl, pk_mul, nI_rem (by omega) (by omega) (by omega), nI_add]
    refine r_iald (4 * e + T.1 7 2 % 4) dX7_plainWish_140 rfl rfl (show 4 * e + T.1 7 2 % 4 < 24 by omega) ?_
    refine r_ireturn dX7_plainWish_141 ⟨_, rfl, rfl⟩ ?_
    exact ⟨by rw [q6 _ (Nat.mod_lt _ (by omega))]; rfl, rfl⟩
/-! the best wish -/
def hasE (V : Hv) (T : Tb) (told : Option Nat) (free : Bool) (w : Nat → Nat) (e : Nat) : Int := hasS V T free (ateS (T.1 7 1) w) (bkE V told T w) e
def bestF (a i : Nat) : Bool := supF a i || a == 151
theorem bestF_dom (a i : Nat) (hd : supDom a i) : bestF a i = false := by
  have h1 := supF_dom a i hd
  simp only [supDom] at hd
  simp only [bestF, h1, Bool.false_or, beq_eq_false_iff_ne]
  omega
theorem supF_best {h h' : Hp} (H : Fr supF h h') : Fr bestF h h' := H.wk (fun x i q => by simp only [bestF, Bool.or_eq_false_iff] at q; exact q.1)
theorem try_loop {G : WT} {l : Launch} (hG : GOK G) {h : Hp} {b : Nat} {V : Hv} {T : Tb} {told : Option Nat} {free : Bool} {i a : Nat} {x2 x3 : Int32} {Q : Option Value → Hp → Prop} (hi : i < T.1 7 0) (ha : a < 1000)
    (k : ∀ g : Hp, Fr bestF h g → SC g b V T told free → (∀ j, j < T.1 7 0 → g.1 151 j = nI (tryS T i a j)) → ∀ x5 : Value, Wp G l 6 RX7 cX7_bestWish 6 (some .int) 56 [.ref (gA G 134), .int (nI i), .int x2, .int x3, .int (nI a), x5] [] g Q) :
    ∀ (m o : Nat) (g : Hp), o + m = T.1 7 0 → Fr bestF h g → SC g b V T told free → (∀ j, j < o → g.1 151 j = nI (tryS T i a j)) → Wp G l 6 RX7 cX7_bestWish 6 (some .int) 17 [.ref (gA G 134), .int (nI i), .int x2, .int x3, .int (nI a), .int (nI o)] [] g Q := by
  intro m
  induction m with
  | zero =>
    intro o g ho hF C hw
    have hE := C.2.1.1
    refine r_iload dX7_bestWish_17 rfl ?_
    refine r_aload_n dX7_bestWish_19 rfl ?_
    refine r_getI dX7_bestWish_20 k_X7_7 rfl (by decide) rfl ?_
    rw [C.1.1]
    refine r_icmp_ge (tgt := 56) dX7_bestWish_23 (by decide) (fun c_23 => ?_) (fun c_23 => ?_)
    · exact k g hF C (fun j hj => hw j (by omega)) _
    · exact absurd (nI_le (by omega) (by omega)) c_23
  | succ m ih =>
    intro o g ho hF C hw
    have hE := C.2.1.1
    have n1 : ∀ z : Int32, z = nI (tryS T i a o) → Wp G l 6 RX7 cX7_bestWish 6 (some .int) 17 [.ref (gA G 134), .int (nI i), .int x2, .int x3, .int (nI a), .int (nI (o + 1))] [] (setI g 151 o z) Q := by
      intro z hz
      have F2 : Fr bestF g (setI g 151 o z) := Fr.set rfl
      refine ih (o + 1) _ (by omega) (hF.tr F2) (C.fr F2 bestF_dom) (fun j hj => ?_)
      rw [setI_1]
      by_cases hjo : j = o
      · rw [if_pos ⟨rfl, hjo⟩, hjo, hz]
      · rw [if_neg (fun q => hjo q.2)]; exact hw j (by omega)
    refine r_iload dX7_bestWish_17 rfl ?_
    refine r_aload_n dX7_bestWish_19 rfl ?_
    refine r_getI dX7_bestWish_20 k_X7_7 rfl (by decide) rfl ?_
    rw [C.1.1]
    refine r_icmp_ge (tgt := 56) dX7_bestWish_23 (by decide) (fun c_23 => ?_) (fun c_23 => ?_)
    · exact absurd c_23 (nI_ge (by omega) (by omega))
    · refine r_aload_n dX7_bestWish_26 rfl ?_
      refine r_getR (j := 151) dX7_bestWish_27 k_X7_103 rfl (by decide) rfl rfl ?_
      refine r_iload dX7_bestWish_30 rfl ?_
      refine r_iload dX7_bestWish_32 rfl ?_
      refine r_iload_n dX7_bestWish_34 rfl ?_
      refine r_icmp_ne (tgt := 43) dX7_bestWish_35 (by decide) (fun c_35 => ?_) (fun c_35 => ?_)
      · have z : nI (plainS T o) = nI (tryS T i a o) := by rw [tryS, if_neg (fun q => c_35 (by rw [q]))]
        refine r_aload_n dX7_bestWish_43 rfl ?_
        refine r_iload dX7_bestWish_44 rfl ?_
        refine r_callV dX7_bestWish_46 l_X7_321 o_X7_plainWish v_X7_plainWish rfl (by decide) rfl rfl (m_X7_plainWish hG C (show o < T.1 7 0 by omega)) (by decide) rfl (Nat.le_of_ble_eq_true rfl) (fun r46 h46 hq46 => ?_)
        obtain ⟨rfl, e46⟩ := hq46
        rw [e46]
        clear e46 h46
        refine r_iast (o) dX7_bestWish_49 rfl rfl (show o < 6 by omega) ?_
        refine r_iinc dX7_bestWish_50 rfl (by first | exact nI_inc _ | rfl) (by decide) rfl rfl ?_
        dsimp only [List.set]
        refine r_goto (tgt := 17) dX7_bestWish_53 (by decide) ?_
        exact n1 _ z
      · have z : nI a = nI (tryS T i a o) := by rw [tryS, if_pos ((nI_eq' (by omega) (by omega)).mp c_35)]
        refine r_iload dX7_bestWish_38 rfl ?_
        refine r_goto (tgt := 49) dX7_bestWish_40 (by decide) ?_
        refine r_iast (o) dX7_bestWish_49 rfl rfl (show o < 6 by omega) ?_
        refine r_iinc dX7_bestWish_50 rfl (by first | exact nI_inc _ | rfl) (by decide) rfl rfl ?_
        dsimp only [List.set]
        refine r_goto (tgt := 17) dX7_bestWish_53 (by decide) ?_
        exact n1 _ z
theorem best_loop {G : WT} {l : Launch} (hG : GOK G) {h : Hp} {b : Nat} {V : Hv} {T : Tb} {told : Option Nat} {free : Bool} {i : Nat} {f : Nat → Int} (hi : i < T.1 7 0) (hT : TbOK T) (hV : HvOK V) (hfa : ∀ a, hasE V T told free (tryS T i a) i = f a) :
    ∀ (m a : Nat) (g : Hp) (x5 : Value), a + m = 10 → Fr bestF h g → SC g b V T told free → Wp G l 6 RX7 cX7_bestWish 6 (some .int) 7 [.ref (gA G 134), .int (nI i), .int (nI (bestTo f (a - 1))), .int (if a = 0 then 0 else zI (f (bestTo f (a - 1)))), .int (nI a), x5] [] g (fun r h' => r = some (.int (nI (bestTo f 9))) ∧ Fr bestF h h') := by
  have bd : ∀ a, a ≤ 9 → -1000 ≤ f a ∧ f a ≤ 10000 := by
    intro a ha
    rw [← hfa]
    refine hasS_bd hV (Nat.le_trans (ateS_le _ _ _) ?_)
    rw [tryS]
    split
    · exact ha
    · exact plainS_le hT _
  intro m
  induction m with
  | zero =>
    intro a g x5 ha hF C
    obtain rfl : a = 10 := by omega
    refine r_iload dX7_bestWish_7 rfl ?_
    refine r_bipush (v := 10) dX7_bestWish_9 (by decide) ?_
    refine r_icmp_ge (tgt := 94) dX7_bestWish_11 (by decide) (fun c_11 => ?_) (fun c_11 => ?_)
    · refine r_iload_n dX7_bestWish_94 rfl ?_
      refine r_ireturn dX7_bestWish_95 ⟨_, rfl, rfl⟩ ?_
      exact ⟨rfl, hF⟩
    · exact absurd (Int32.le_refl _) c_11
  | succ m ih =>
    intro a g x5 ha hF C
    have hE := C.2.1.1
    have fin : ∀ (g2 : Hp) (fd : Nat) (mo : Int32) (x5 : Value), fd = bestTo f a → mo = zI (f (bestTo f a)) → Fr bestF h g2 → SC g2 b V T told free → Wp G l 6 RX7 cX7_bestWish 6 (some .int) 7 [.ref (gA G 134), .int (nI i), .int (nI fd), .int mo, .int (nI (a + 1)), x5] [] g2 (fun r h' => r = some (.int (nI (bestTo f 9))) ∧ Fr bestF h h') := by
      intro g2 fd mo x5 h1 h2 hF2 C2
      have q := ih (a + 1) g2 x5 (by omega) hF2 C2
      rw [if_neg (by omega), Nat.add_sub_cancel] at q
      rw [h1, h2]
      exact q
    have k3 : ∀ g2 : Hp, Fr bestF g g2 → SC g2 b V T told free → (∀ j, j < T.1 7 0 → g2.1 151 j = nI (tryS T i a j)) → ∀ x5 : Value, Wp G l 6 RX7 cX7_bestWish 6 (some .int) 56 [.ref (gA G 134), .int (nI i), .int (nI (bestTo f (a - 1))), .int (if a = 0 then 0 else zI (f (bestTo f (a - 1)))), .int (nI a), x5] [] g2 (fun r h' => r = some (.int (nI (bestTo f 9))) ∧ Fr bestF h h') := by
      intro g2 hF2 C2 hw2 x5
      have W2 : WhOK g2 (T.1 7 0) (tryS T i a) := fun j hj => ⟨hw2 j hj, by
        rw [tryS]
        split
        · omega
        · exact plainS_le hT _⟩
      have ble := bestTo_le f (a - 1)
      have b1 := bd (bestTo f (a - 1)) (by omega)
      have b2 := bd a (by omega)
      refine r_aload_n dX7_bestWish_56 rfl ?_
      refine r_callV dX7_bestWish_57 l_X7_324 o_X7_laySupper v_X7_laySupper rfl (by decide) rfl rfl (m_X7_laySupper hG C2 W2) (by decide) rfl (Nat.le_of_ble_eq_true rfl) (fun r57 h57 hq57 => ?_)
      obtain ⟨rfl, hF3, hE3, hB3, hH3⟩ := hq57
      have C3 := C2.fr hF3 supF_dom
      have e9 : h57.1 153 i = zI (f a) := by rw [← hfa]; exact hH3 i hi
      have hF4 := (hF.tr hF2).tr (supF_best hF3)
      refine r_iload dX7_bestWish_60 rfl ?_
      refine r_if_le (tgt := 78) dX7_bestWish_62 (by decide) (fun c_62 => ?_) (fun c_62 => ?_)
      · have y : a = 0 := by
          have := (nI_le' (b := 0) (by omega) (by omega)).mp c_62
          omega
        refine r_iload dX7_bestWish_78 rfl ?_
        refine r_istore_n dX7_bestWish_80 (by decide) rfl rfl ?_
        dsimp only [List.set]
        refine r_aload_n dX7_bestWish_81 rfl ?_
        refine r_getR (j := 153) dX7_bestWish_82 k_X7_109 rfl (by decide) rfl rfl ?_
        refine r_iload_n dX7_bestWish_85 rfl ?_
        refine r_iald (i) dX7_bestWish_86 rfl rfl (show i < 6 by omega) ?_
        rw [e9]
        refine r_istore_n dX7_bestWish_87 (by decide) rfl rfl ?_
        dsimp only [List.set]
        refine r_iinc dX7_bestWish_88 rfl (by first | exact nI_inc _ | rfl) (by decide) rfl rfl ?_
        dsimp only [List.set]
        refine r_goto (tgt := 7) dX7_bestWish_91 (by decide) ?_
        exact fin _ _ _ _ (by rw [y]; rfl) (by rw [y]; rfl) hF4 C3
      · have y : ¬ a = 0 := fun q => c_62 (by rw [q]; decide)
        obtain ⟨a1, ha1⟩ : ∃ n, a = n + 1 := ⟨a - 1, by omega⟩
        have ebs : bestTo f a = if f (bestTo f (a - 1)) < f a then a else bestTo f (a - 1) := by rw [ha1]; rfl
        rw [if_neg y]
        refine r_aload_n dX7_bestWish_65 rfl ?_
        refine r_getR (j := 153) dX7_bestWish_66 k_X7_109 rfl (by decide) rfl rfl ?_
        refine r_iload_n dX7_bestWish_69 rfl ?_
        refine r_iald (i) dX7_bestWish_70 rfl rfl (show i < 6 by omega) ?_
        rw [e9]
        refine r_iload_n dX7_bestWish_71 rfl ?_
        refine r_icmp_gt (tgt := 78) dX7_bestWish_72 (by decide) (fun c_72 => ?_) (fun c_72 => ?_)
        · have z := (zI_lt (by omega) (by omega) (by omega) (by omega)).mp c_72
          refine r_iload dX7_bestWish_78 rfl ?_
          refine r_istore_n dX7_bestWish_80 (by decide) rfl rfl ?_
          dsimp only [List.set]
          refine r_aload_n dX7_bestWish_81 rfl ?_
          refine r_getR (j := 153) dX7_bestWish_82 k_X7_109 rfl (by decide) rfl rfl ?_
          refine r_iload_n dX7_bestWish_85 rfl ?_
          refine r_iald (i) dX7_bestWish_86 rfl rfl (show i < 6 by omega) ?_
          rw [e9]
          refine r_istore_n dX7_bestWish_87 (by decide) rfl rfl ?_
          dsimp only [List.set]
          refine r_iinc dX7_bestWish_88 rfl (by first | exact nI_inc _ | rfl) (by decide) rfl rfl ?_
          dsimp only [List.set]
          refine r_goto (tgt := 7) dX7_bestWish_91 (by decide) ?_
          exact fin _ _ _ _ (by rw [ebs, if_pos z]) (by rw [ebs, if_pos z]) hF4 C3
        · have z : ¬ f (bestTo f (a - 1)) < f a := fun q => c_72 ((zI_lt (by omega) (by omega) (by omega) (by omega)).mpr q)
          refine r_goto (tgt := 88) dX7_bestWish_75 (by decide) ?_
          refine r_iinc dX7_bestWish_88 rfl (by first | exact nI_inc _ | rfl) (by decide) rfl rfl ?_
          dsimp only [List.set]
          refine r_goto (tgt := 7) dX7_bestWish_91 (by decide) ?_
          exact fin _ _ _ _ (by rw [ebs, if_neg z]) (by rw [ebs, if_neg z]) hF4 C3
    refine r_iload dX7_bestWish_7 rfl ?_
    refine r_bipush (v := 10) dX7_bestWish_9 (by decide) ?_
    refine r_icmp_ge (tgt := 94) dX7_bestWish_11 (by decide) (fun c_11 => ?_) (fun c_11 => ?_)
    · exact absurd c_11 (nI_ge (a := a) (b := 10) (by omega) (by omega))
    · refine r_iconst (v := 0) dX7_bestWish_14 (by decide) ?_
      refine r_istore dX7_bestWish_15 (by decide) rfl rfl ?_
      dsimp only [List.set]
      exact try_loop hG hi (by omega) k3 (T.1 7 0) 0 g (by omega) Fr.rf C (fun j hj => absurd hj (by omega))
def supE (V : Hv) (told : Option Nat) (free : Bool) (pact : Option (Nat × Nat)) : Sup := (lawE V told, free, pact)
set_option maxRecDepth 100000 in
theorem m_X7_bestWish {G : WT} {l : Launch} (hG : GOK G) {h : Hp} {b : Nat} {V : Hv} {T : Tb} {told : Option Nat} {free : Bool} {pact : Option (Nat × Nat)} {i : Nat} (C : SC h b V T told free) (hi : i < T.1 7 0) : Cl G l 6 yX7_bestWish cX7_bestWish 6 (some .int) [.ref (gA G 134), .int (nI i)] h (fun r h' => r = some (.int (nI (bestS V (supE V told free pact) T i))) ∧ Fr bestF h h') := by
  refine Cl.of hG (by decide) (Nat.le_of_ble_eq_true rfl) ?_
  show Wp G l 6 RX7 cX7_bestWish 6 (some .int) 0 [.ref (gA G 134), .int (nI i), mk0, mk0, mk0, mk0] [] h _
  refine r_iconst (v := 0) dX7_bestWish_0 (by decide) ?_
  refine r_istore_n dX7_bestWish_1 (by decide) rfl rfl ?_
  dsimp only [List.set]
  refine r_iconst (v := 0) dX7_bestWish_2 (by decide) ?_
  refine r_istore_n dX7_bestWish_3 (by decide) rfl rfl ?_
  dsimp only [List.set]
  refine r_iconst (v := 0) dX7_bestWish_4 (by decide) ?_
  refine r_istore dX7_bestWish_5 (by decide) rfl rfl ?_
  dsimp only [List.set]
  exact best_loop (f := fun a => hasE V T told free (tryS T i a) i) hG hi C.2.1 C.2.2.1.2.1 (fun _ => rfl) 10 0 h _ (by omega) Fr.rf C
set_option maxRecDepth 100000 in
theorem m_X7_wishOf {G : WT} {l : Launch} (hG : GOK G) {h : Hp} {b : Nat} {V : Hv} {T : Tb} {told : Option Nat} {free : Bool} {pact : Option (Nat × Nat)} {i : Nat} (C : SC h b V T told free) (hi : i < T.1 7 0) : Cl G l 7 yX7_wishOf cX7_wishOf 2 (some .int) [.ref (gA G 134), .int (nI i)] h (fun r h' => r = some (.int (nI (wishS V (supE V told free pact) T i))) ∧ Fr bestF h h') := by
  refine Cl.of hG (by decide) (Nat.le_of_ble_eq_true rfl) ?_
  show Wp G l 7 RX7 cX7_wishOf 2 (some .int) 0 [.ref (gA G 134), .int (nI i)] [] h _
  have hE := C.2.1.1
  have hk := (C.2.1.2.2.2.2.2.2.1 i).1
  refine r_aload_n dX7_wishOf_0 rfl ?_
  refine r_getR (j := 135) dX7_wishOf_1 k_X7_22 rfl (by decide) rfl rfl ?_
  refine r_iload_n dX7_wishOf_4 rfl ?_
  refine r_iald (i) dX7_wishOf_5 rfl rfl (show i < 6 by omega) ?_
  rw [(C.1.2.2.2.2 i hi).1]
  refine r_iconst (v := 4) dX7_wishOf_6 (by decide) ?_
  refine r_icmp_ne (tgt := 18) dX7_wishOf_7 (by decide) (fun c_7 => ?_) (fun c_7 => ?_)
  · refine r_aload_n dX7_wishOf_18 rfl ?_
    refine r_iload_n dX7_wishOf_19 rfl ?_
    refine r_callV dX7_wishOf_20 l_X7_321 o_X7_plainWish v_X7_plainWish rfl (by decide) rfl rfl (m_X7_plainWish hG C hi) (by decide) rfl (Nat.le_of_ble_eq_true rfl) (fun r20 h20 hq20 => ?_)
    obtain ⟨rfl, e20⟩ := hq20
    rw [e20]
    clear e20 h20
    refine r_ireturn dX7_wishOf_23 ⟨_, rfl, rfl⟩ ?_
    exact ⟨by rw [wishS, if_neg (fun q => c_7 (by rw [q]; rfl))], Fr.rf⟩
  · refine r_aload_n dX7_wishOf_10 rfl ?_
    refine r_iload_n dX7_wishOf_11 rfl ?_
    refine r_callV dX7_wishOf_12 l_X7_327 o_X7_bestWish v_X7_bestWish rfl (by decide) rfl rfl (m_X7_bestWish (pact := pact) hG C hi) (by decide) rfl (Nat.le_of_ble_eq_true rfl) (fun r12 h12 hq12 => ?_)
    obtain ⟨rfl, hF2⟩ := hq12
    refine r_goto (tgt := 23) dX7_wishOf_15 (by decide) ?_
    refine r_ireturn dX7_wishOf_23 ⟨_, rfl, rfl⟩ ?_
    exact ⟨by rw [wishS, if_pos ((nI_eq' (b := 4) (by omega) (by omega)).mp c_7)], hF2⟩
def wshF (a i : Nat) : Bool := bestF a i || a == 154
theorem wshF_dom (a i : Nat) (hd : supDom a i) : wshF a i = false := by
  have h1 := bestF_dom a i hd
  simp only [supDom] at hd
  simp only [wshF, h1, Bool.false_or, beq_eq_false_iff_ne]
  omega
theorem bestF_wsh {h h' : Hp} (H : Fr bestF h h') : Fr wshF h h' := H.wk (fun x i q => by simp only [wshF, Bool.or_eq_false_iff] at q; exact q.1)
theorem lay1_loop {G : WT} {l : Launch} (hG : GOK G) {h : Hp} {b : Nat} {V : Hv} {T : Tb} {told : Option Nat} {free : Bool} {pact : Option (Nat × Nat)} {Q : Option Value → Hp → Prop}
    (k : ∀ g : Hp, Fr wshF h g → SC g b V T told free → (∀ j, j < T.1 7 0 → g.1 154 j = nI (wishS V (supE V told free pact) T j)) → ∀ x1 : Value, Wp G l 8 RX7 cX7_layWishes 2 none 27 [.ref (gA G 134), x1] [] g Q) :
    ∀ (m i : Nat) (g : Hp), i + m = T.1 7 0 → Fr wshF h g → SC g b V T told free → (∀ j, j < i → g.1 154 j = nI (wishS V (supE V told free pact) T j)) → Wp G l 8 RX7 cX7_layWishes 2 none 2 [.ref (gA G 134), .int (nI i)] [] g Q := by
  intro m
  induction m with
  | zero =>
    intro i g hi hF C hw
    have hE := C.2.1.1
    refine r_iload_n dX7_layWishes_2 rfl ?_
    refine r_aload_n dX7_layWishes_3 rfl ?_
    refine r_getI dX7_layWishes_4 k_X7_7 rfl (by decide) rfl ?_
    rw [C.1.1]
    refine r_icmp_ge (tgt := 27) dX7_layWishes_7 (by decide) (fun c_7 => ?_) (fun c_7 => ?_)
    · exact k g hF C (fun j hj => hw j (by omega)) _
    · exact absurd (nI_le (by omega) (by omega)) c_7
  | succ m ih =>
    intro i g hi hF C hw
    have hE := C.2.1.1
    refine r_iload_n dX7_layWishes_2 rfl ?_
    refine r_aload_n dX7_layWishes_3 rfl ?_
    refine r_getI dX7_layWishes_4 k_X7_7 rfl (by decide) rfl ?_
    rw [C.1.1]
    refine r_icmp_ge (tgt := 27) dX7_layWishes_7 (by decide) (fun c_7 => ?_) (fun c_7 => ?_)
    · exact absurd c_7 (nI_ge (by omega) (by omega))
    · refine r_aload_n dX7_layWishes_10 rfl ?_
      refine r_getR (j := 154) dX7_layWishes_11 k_X7_115 rfl (by decide) rfl rfl ?_
      refine r_iload_n dX7_layWishes_14 rfl ?_
      refine r_aload_n dX7_layWishes_15 rfl ?_
      refine r_iload_n dX7_layWishes_16 rfl ?_
      refine r_callV dX7_layWishes_17 l_X7_330 o_X7_wishOf v_X7_wishOf rfl (by decide) rfl rfl (m_X7_wishOf (pact := pact) hG C (show i < T.1 7 0 by omega)) (by decide) rfl (Nat.le_of_ble_eq_true rfl) (fun r17 h17 hq17 => ?_)
      obtain ⟨rfl, hF2⟩ := hq17
      refine r_iast (i) dX7_layWishes_20 rfl rfl (show i < 6 by omega) ?_
      refine r_iinc dX7_layWishes_21 rfl (by first | exact nI_inc _ | rfl) (by decide) rfl rfl ?_
      dsimp only [List.set]
      refine r_goto (tgt := 2) dX7_layWishes_24 (by decide) ?_
      have F3 : Fr wshF g (setI h17 154 i (nI (wishS V (supE V told free pact) T i))) := (bestF_wsh hF2).tr (Fr.set rfl)
      refine ih (i + 1) _ (by omega) (hF.tr F3) (C.fr F3 wshF_dom) (fun j hj => ?_)
      rw [setI_1]
      by_cases hji : j = i
      · rw [if_pos ⟨rfl, hji⟩, hji]
      · rw [if_neg (fun q => hji q.2), hF2.1 _ _ rfl]; exact hw j (by omega)
theorem lay2_loop {G : WT} {l : Launch} {h : Hp} {b : Nat} {V : Hv} {T : Tb} {told : Option Nat} {free : Bool} {w : Nat → Nat} :
    ∀ (m i : Nat) (g : Hp), i + m = T.1 7 0 → Fr wshF h g → SC g b V T told free → (∀ j, j < T.1 7 0 → g.1 154 j = nI (w j)) → (∀ j, j < i → g.1 151 j = nI (w j)) → Wp G l 8 RX7 cX7_layWishes 2 none 29 [.ref (gA G 134), .int (nI i)] [] g (fun r h' => r = none ∧ Fr wshF h h' ∧ ∀ j, j < T.1 7 0 → h'.1 151 j = nI (w j)) := by
  intro m
  induction m with
  | zero =>
    intro i g hi hF C h1 h2
    have hE := C.2.1.1
    refine r_iload_n dX7_layWishes_29 rfl ?_
    refine r_aload_n dX7_layWishes_30 rfl ?_
    refine r_getI dX7_layWishes_31 k_X7_7 rfl (by decide) rfl ?_
    rw [C.1.1]
    refine r_icmp_ge (tgt := 55) dX7_layWishes_34 (by decide) (fun c_34 => ?_) (fun c_34 => ?_)
    · refine r_return dX7_layWishes_55 rfl ?_
      exact ⟨rfl, hF, fun j hj => h2 j (by omega)⟩
    · exact absurd (nI_le (by omega) (by omega)) c_34
  | succ m ih =>
    intro i g hi hF C h1 h2
    have hE := C.2.1.1
    refine r_iload_n dX7_layWishes_29 rfl ?_
    refine r_aload_n dX7_layWishes_30 rfl ?_
    refine r_getI dX7_layWishes_31 k_X7_7 rfl (by decide) rfl ?_
    rw [C.1.1]
    refine r_icmp_ge (tgt := 55) dX7_layWishes_34 (by decide) (fun c_34 => ?_) (fun c_34 => ?_)
    · exact absurd c_34 (nI_ge (by omega) (by omega))
    · refine r_aload_n dX7_layWishes_37 rfl ?_
      refine r_getR (j := 151) dX7_layWishes_38 k_X7_103 rfl (by decide) rfl rfl ?_
      refine r_iload_n dX7_layWishes_41 rfl ?_
      refine r_aload_n dX7_layWishes_42 rfl ?_
      refine r_getR (j := 154) dX7_layWishes_43 k_X7_115 rfl (by decide) rfl rfl ?_
      refine r_iload_n dX7_layWishes_46 rfl ?_
      refine r_iald (i) dX7_layWishes_47 rfl rfl (show i < 6 by omega) ?_
      rw [h1 i (by omega)]
      refine r_iast (i) dX7_layWishes_48 rfl rfl (show i < 6 by omega) ?_
      refine r_iinc dX7_layWishes_49 rfl (by first | exact nI_inc _ | rfl) (by decide) rfl rfl ?_
      dsimp only [List.set]
      refine r_goto (tgt := 29) dX7_layWishes_52 (by decide) ?_
      have F3 : Fr wshF g (setI g 151 i (nI (w i))) := Fr.set rfl
      refine ih (i + 1) _ (by omega) (hF.tr F3) (C.fr F3 wshF_dom) (fun j hj => ?_) (fun j hj => ?_)
      · rw [setI_1, if_neg (fun q => by have := q.1; omega)]; exact h1 j hj
      · rw [setI_1]
        by_cases hji : j = i
        · rw [if_pos ⟨rfl, hji⟩, hji]
        · rw [if_neg (fun q => hji q.2)]; exact h2 j (by omega)
set_option maxRecDepth 100000 in
theorem m_X7_layWishes {G : WT} {l : Launch} (hG : GOK G) {h : Hp} {b : Nat} {V : Hv} {T : Tb} {told : Option Nat} {free : Bool} {pact : Option (Nat × Nat)} (C : SC h b V T told free) : Cl G l 8 yX7_layWishes cX7_layWishes 2 none [.ref (gA G 134)] h (fun r h' => r = none ∧ Fr wshF h h' ∧ WhOK h' (T.1 7 0) (wishS V (supE V told free pact) T)) := by
  refine Cl.of hG (by decide) (Nat.le_of_ble_eq_true rfl) ?_
  show Wp G l 8 RX7 cX7_layWishes 2 none 0 [.ref (gA G 134), mk0] [] h _
  refine r_iconst (v := 0) dX7_layWishes_0 (by decide) ?_
  refine r_istore_n dX7_layWishes_1 (by decide) rfl rfl ?_
  dsimp only [List.set]
  refine lay1_loop (pact := pact) hG (h := h) (fun g q1 q2 q3 x1 => ?_) (T.1 7 0) 0 h (by omega) Fr.rf C (fun j hj => absurd hj (by omega))
  refine r_iconst (v := 0) dX7_layWishes_27 (by decide) ?_
  refine r_istore_n dX7_layWishes_28 (by decide) rfl rfl ?_
  exact Wp.mono (lay2_loop (h := h) (T.1 7 0) 0 g (by omega) q1 q2 q3 (fun j hj => absurd hj (by omega))) (fun r h' q => ⟨q.1, q.2.1, fun e he => ⟨q.2.2 e he, wishS_le C.2.1 e⟩⟩)
