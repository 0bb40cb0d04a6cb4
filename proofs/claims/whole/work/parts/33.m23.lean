/-! acts: what the bodies answer, and which ran -/
def eatE (i : Nat) (x : Int32) : Int32 × List Nat := (x + nI i, [10])
def eatA (k i v : Nat) (x : Int32) : Int32 × List Nat := match k with
  | 2 => ((eatE i (x * 3)).1, 30 :: (eatE i (x * 3)).2)
  | 5 => ((eatE i (x * 3)).1, 30 :: (eatE i (x * 3)).2)
  | 4 => (-(eatE i x).1, 50 :: (eatE i x).2)
  | 6 => ((eatE i x).1 ^^^ nI v, 71 :: (eatE i x).2)
  | _ => eatE i x
def bakE (k i v : Nat) (x : Int32) : Int32 × List Nat := ((eatA k i v x).1 - nI v, 11 :: (eatA k i v x).2)
def bakH (k i v : Nat) (x : Int32) : Int32 × List Nat := ((bakE k i v x).1 ^^^ 6, 20 :: (bakE k i v x).2)
def bakA (k i v : Nat) (x : Int32) : Int32 × List Nat := match k with
  | 1 => bakH k i v x
  | 4 => ((bakH k i v (x + 1)).1, 51 :: (bakH k i v (x + 1)).2)
  | 6 => ((bakE k i v x).1 + (eatE i 2).1, 70 :: ((bakE k i v x).2 ++ (eatE i 2).2))
  | _ => bakE k i v x
def telE (k i v : Nat) (x : Int32) : Int32 × List Nat := ((bakA k i v x).1 * 2, 12 :: (bakA k i v x).2)
def telA (k i v : Nat) (x : Int32) : Int32 × List Nat := match k with
  | 3 => ((telE k i v x).1 + (bakA k i v 1).1, 40 :: ((telE k i v x).2 ++ (bakA k i v 1).2))
  | 6 => ((telE k i v x).1 + (bakA k i v 1).1, 40 :: ((telE k i v x).2 ++ (bakA k i v 1).2))
  | 5 => ((telE k i v (x - nI i)).1, 60 :: (telE k i v (x - nI i)).2)
  | _ => telE k i v x
theorem eatA_len (k i v : Nat) (x : Int32) : (eatA k i v x).2.length ≤ 2 := by
  unfold eatA
  split <;> exact Nat.le_of_ble_eq_true rfl
theorem bakE_len (k i v : Nat) (x : Int32) : (bakE k i v x).2.length ≤ 3 := by
  have := eatA_len k i v x
  show (eatA k i v x).2.length + 1 ≤ 3
  omega
theorem bakA_len (k i v : Nat) (x : Int32) : (bakA k i v x).2.length ≤ 5 := by
  have h1 := bakE_len k i v x
  have h2 := bakE_len k i v (x + 1)
  unfold bakA
  split
  · show (bakE 1 i v x).2.length + 1 ≤ 5; omega
  · show (bakE 4 i v (x + 1)).2.length + 1 + 1 ≤ 5; omega
  · show ((bakE 6 i v x).2 ++ [10]).length + 1 ≤ 5; rw [List.length_append]; show _ + 1 + 1 ≤ 5; omega
  · omega
theorem telA_len (k i v : Nat) (x : Int32) : (telA k i v x).2.length ≤ 12 := by
  have h1 := bakA_len k i v x
  have h2 := bakA_len k i v 1
  have h3 := bakA_len k i v (x - nI i)
  unfold telA
  split
  · show (12 :: (bakA 3 i v x).2 ++ (bakA 3 i v 1).2).length + 1 ≤ 12; rw [List.length_append]; show _ + 1 + _ + 1 ≤ 12; omega
  · show (12 :: (bakA 6 i v x).2 ++ (bakA 6 i v 1).2).length + 1 ≤ 12; rw [List.length_append]; show _ + 1 + _ + 1 ≤ 12; omega
  · show (bakA 5 i v (x - nI i)).2.length + 1 + 1 ≤ 12; omega
  · show (bakA k i v x).2.length + 1 ≤ 12; omega
def RAc (h : Hp) (tr : List Nat) : Prop := h.1 134 60 = nI tr.length ∧ ∀ j b, j < 20 → tr[j]? = some b → h.1 167 j = nI b
def acF (a i : Nat) : Bool := a == 167 || (a == 134 && i == 60)
theorem RAc.put {h : Hp} {tr : List Nat} {c : Nat} (H : RAc h tr) : RAc (setI (if tr.length < 20 then setI h 167 tr.length (nI c) else h) 134 60 (nI (tr.length + 1))) (tr ++ [c]) := by
  refine ⟨by rw [setI_at, List.length_append]; rfl, fun j b hj hb => ?_⟩
  rw [setI_ne (by decide)]
  by_cases hl : j < tr.length
  · rw [List.getElem?_append_left hl] at hb
    by_cases h20 : tr.length < 20
    · rw [if_pos h20, setI_nj (by omega)]; exact H.2 j b hj hb
    · rw [if_neg h20]; exact H.2 j b hj hb
  · by_cases he : j = tr.length
    · subst he
      rw [List.getElem?_append_right (Nat.le_refl _), Nat.sub_self] at hb
      have : c = b := Option.some.inj hb
      rw [if_pos hj, setI_at, this]
    · rw [List.getElem?_eq_none (by rw [List.length_append]; show tr.length + 1 ≤ j; omega)] at hb
      cases hb
set_option maxRecDepth 100000 in
theorem m_X7_body {G : WT} {l : Launch} (hG : GOK G) {h : Hp} {tr : List Nat} {c : Nat} (H : RAc h tr) (ht : tr.length < 1000) : Cl G l 1 yX7_body cX7_body 2 none [.ref (gA G 134), .int (nI c)] h (fun r h' => r = none ∧ RAc h' (tr ++ [c]) ∧ Fr acF h h') := by
  refine Cl.of hG (by decide) (Nat.le_of_ble_eq_true rfl) ?_
  show Wp G l 1 RX7 cX7_body 2 none 0 [.ref (gA G 134), .int (nI c)] [] h _
  by_cases h20 : tr.length < 20
  · have q := H.put (c := c)
    rw [if_pos h20] at q
    refine r_aload_n dX7_body_0 rfl ?_
    refine r_getI dX7_body_1 k_X7_193 rfl (by decide) rfl ?_
    refine r_bipush (v := 20) dX7_body_4 (by decide) ?_
    rw [H.1]
    refine r_icmp_ge (tgt := 19) dX7_body_6 (by decide) (fun c_6 => ?_) (fun c_6 => ?_)
    · exact absurd c_6 (nI_ge (a := tr.length) (b := 20) (by omega) (by omega))
    · refine r_aload_n dX7_body_9 rfl ?_
      refine r_getR (j := 167) dX7_body_10 k_X7_196 rfl (by decide) rfl rfl ?_
      refine r_aload_n dX7_body_13 rfl ?_
      refine r_getI dX7_body_14 k_X7_193 rfl (by decide) rfl ?_
      refine r_iload_n dX7_body_17 rfl ?_
      refine r_iast (tr.length) dX7_body_18 rfl H.1 (show tr.length < 20 by omega) ?_
      refine r_aload_n dX7_body_19 rfl ?_
      refine r_dup dX7_body_20 rfl ?_
      refine r_getI dX7_body_21 k_X7_193 rfl (by decide) rfl ?_
      refine r_iconst (v := 1) dX7_body_24 (by decide) ?_
      refine r_iadd dX7_body_25 ?_
      rw [setI_ne (by decide), H.1, nI_1]
      refine r_putI dX7_body_26 k_X7_193 rfl (by decide) rfl rfl rfl rfl ?_
      refine r_return dX7_body_29 rfl ?_
      exact ⟨rfl, q, (Fr.set rfl).tr (Fr.set rfl)⟩
  · have q := H.put (c := c)
    rw [if_neg h20] at q
    refine r_aload_n dX7_body_0 rfl ?_
    refine r_getI dX7_body_1 k_X7_193 rfl (by decide) rfl ?_
    refine r_bipush (v := 20) dX7_body_4 (by decide) ?_
    rw [H.1]
    refine r_icmp_ge (tgt := 19) dX7_body_6 (by decide) (fun c_6 => ?_) (fun c_6 => ?_)
    · refine r_aload_n dX7_body_19 rfl ?_
      refine r_dup dX7_body_20 rfl ?_
      refine r_getI dX7_body_21 k_X7_193 rfl (by decide) rfl ?_
      refine r_iconst (v := 1) dX7_body_24 (by decide) ?_
      refine r_iadd dX7_body_25 ?_
      rw [H.1, nI_1]
      refine r_putI dX7_body_26 k_X7_193 rfl (by decide) rfl rfl rfl rfl ?_
      refine r_return dX7_body_29 rfl ?_
      exact ⟨rfl, q, Fr.set rfl⟩
    · exact absurd (nI_le (a := 20) (b := tr.length) (by omega) (by omega)) c_6
/-- what an act needs -/
def ActC (h : Hp) (tr : List Nat) (k i v : Nat) : Prop := RAc h tr ∧ i < 6 ∧ k ≤ 6 ∧ h.1 135 i = nI k ∧ h.1 136 i = nI v
theorem ActC.nx {h h' : Hp} {tr tr' : List Nat} {k i v : Nat} (C : ActC h tr k i v) (H : RAc h' tr') (hF : Fr acF h h') : ActC h' tr' k i v := ⟨H, C.2.1, C.2.2.1, by rw [hF.1 _ _ rfl]; exact C.2.2.2.1, by rw [hF.1 _ _ rfl]; exact C.2.2.2.2⟩
set_option maxRecDepth 100000 in
theorem m_X7_eaterEats {G : WT} {l : Launch} (hG : GOK G) {h : Hp} {tr : List Nat} {k i v : Nat} {x : Int32} (C : ActC h tr k i v) (ht : tr.length < 900) : Cl G l 2 yX7_eaterEats cX7_eaterEats 3 (some .int) [.ref (gA G 134), .int (nI i), .int x] h (fun r h' => r = some (.int (eatE i x).1) ∧ ActC h' (tr ++ (eatE i x).2) k i v ∧ Fr acF h h') := by
  refine Cl.of hG (by decide) (Nat.le_of_ble_eq_true rfl) ?_
  show Wp G l 2 RX7 cX7_eaterEats 3 (some .int) 0 [.ref (gA G 134), .int (nI i), .int x] [] h _
  refine r_aload_n dX7_eaterEats_0 rfl ?_
  refine r_bipush (v := 10) dX7_eaterEats_1 (by decide) ?_
  rw [show (10 : Int32) = nI 10 from rfl]
  refine r_callV dX7_eaterEats_3 l_X7_387 o_X7_body v_X7_body rfl (by decide) rfl rfl (m_X7_body hG C.1 (by omega)) (by decide) rfl (Nat.le_of_ble_eq_true rfl) (fun r3 h3 hq3 => ?_)
  obtain ⟨rfl, H1, F1⟩ := hq3
  refine r_iload_n dX7_eaterEats_6 rfl ?_
  refine r_iload_n dX7_eaterEats_7 rfl ?_
  refine r_iadd dX7_eaterEats_8 ?_
  refine r_ireturn dX7_eaterEats_9 ⟨_, rfl, rfl⟩ ?_
  exact ⟨rfl, C.nx H1 F1, F1⟩
theorem app1 {tr t2 : List Nat} {c : Nat} : tr ++ [c] ++ t2 = tr ++ (c :: t2) := by rw [List.append_assoc]; rfl
theorem app_len {tr : List Nat} {c : Nat} : (tr ++ [c]).length = tr.length + 1 := by rw [List.length_append]; rfl
set_option maxRecDepth 100000 in
theorem m_X7_eatsAct {G : WT} {l : Launch} (hG : GOK G) {h : Hp} {tr : List Nat} {k i v : Nat} {x : Int32} (C : ActC h tr k i v) (ht : tr.length < 800) : Cl G l 3 yX7_eatsAct cX7_eatsAct 3 (some .int) [.ref (gA G 134), .int (nI i), .int x] h (fun r h' => r = some (.int (eatA k i v x).1) ∧ ActC h' (tr ++ (eatA k i v x).2) k i v ∧ Fr acF h h') := by
  refine Cl.of hG (by decide) (Nat.le_of_ble_eq_true rfl) ?_
  show Wp G l 3 RX7 cX7_eatsAct 3 (some .int) 0 [.ref (gA G 134), .int (nI i), .int x] [] h _
  have hi := C.2.1
  have hk := C.2.2.1
  have fin : ∀ (y : Nat), y = (if k = 2 ∨ k = 5 then 40 else if k = 4 then 55 else if k = 6 then 69 else 89) → Wp G l 3 RX7 cX7_eatsAct 3 (some .int) y [.ref (gA G 134), .int (nI i), .int x] [] h (fun r h' => r = some (.int (eatA k i v x).1) ∧ ActC h' (tr ++ (eatA k i v x).2) k i v ∧ Fr acF h h') := by
    intro y hy
    have c : k = 0 ∨ k = 1 ∨ k = 2 ∨ k = 3 ∨ k = 4 ∨ k = 5 ∨ k = 6 := by omega
    have k1 : y = 40 → (k = 2 ∨ k = 5) → Wp G l 3 RX7 cX7_eatsAct 3 (some .int) 40 [.ref (gA G 134), .int (nI i), .int x] [] h (fun r h' => r = some (.int (eatA k i v x).1) ∧ ActC h' (tr ++ (eatA k i v x).2) k i v ∧ Fr acF h h') := by
      intro _ hk2
      refine r_aload_n dX7_eatsAct_40 rfl ?_
      refine r_bipush (v := 30) dX7_eatsAct_41 (by decide) ?_
      rw [show (30 : Int32) = nI 30 from rfl]
      refine r_callV dX7_eatsAct_43 l_X7_387 o_X7_body v_X7_body rfl (by decide) rfl rfl (m_X7_body hG C.1 (by omega)) (by decide) rfl (Nat.le_of_ble_eq_true rfl) (fun r43 h43 hq43 => ?_)
      obtain ⟨rfl, H1, F1⟩ := hq43
      refine r_aload_n dX7_eatsAct_46 rfl ?_
      refine r_iload_n dX7_eatsAct_47 rfl ?_
      refine r_iload_n dX7_eatsAct_48 rfl ?_
      refine r_iconst (v := 3) dX7_eatsAct_49 (by decide) ?_
      refine r_imul dX7_eatsAct_50 ?_
      refine r_callV dX7_eatsAct_51 l_X7_390 o_X7_eaterEats v_X7_eaterEats rfl (by decide) rfl rfl (m_X7_eaterEats hG (C.nx H1 F1) (by rw [app_len]; omega)) (by decide) rfl (Nat.le_of_ble_eq_true rfl) (fun r51 h51 hq51 => ?_)
      obtain ⟨rfl, H2, F2⟩ := hq51
      refine r_ireturn dX7_eatsAct_54 ⟨_, rfl, rfl⟩ ?_
      rcases hk2 with rfl | rfl
      · rw [app1] at H2; exact ⟨rfl, H2, F1.tr F2⟩
      · rw [app1] at H2; exact ⟨rfl, H2, F1.tr F2⟩
    have k2 : k = 4 → Wp G l 3 RX7 cX7_eatsAct 3 (some .int) 55 [.ref (gA G 134), .int (nI i), .int x] [] h (fun r h' => r = some (.int (eatA k i v x).1) ∧ ActC h' (tr ++ (eatA k i v x).2) k i v ∧ Fr acF h h') := by
      rintro rfl
      refine r_aload_n dX7_eatsAct_55 rfl ?_
      refine r_bipush (v := 50) dX7_eatsAct_56 (by decide) ?_
      rw [show (50 : Int32) = nI 50 from rfl]
      refine r_callV dX7_eatsAct_58 l_X7_387 o_X7_body v_X7_body rfl (by decide) rfl rfl (m_X7_body hG C.1 (by omega)) (by decide) rfl (Nat.le_of_ble_eq_true rfl) (fun r58 h58 hq58 => ?_)
      obtain ⟨rfl, H1, F1⟩ := hq58
      refine r_aload_n dX7_eatsAct_61 rfl ?_
      refine r_iload_n dX7_eatsAct_62 rfl ?_
      refine r_iload_n dX7_eatsAct_63 rfl ?_
      refine r_callV dX7_eatsAct_64 l_X7_390 o_X7_eaterEats v_X7_eaterEats rfl (by decide) rfl rfl (m_X7_eaterEats hG (C.nx H1 F1) (by rw [app_len]; omega)) (by decide) rfl (Nat.le_of_ble_eq_true rfl) (fun r64 h64 hq64 => ?_)
      obtain ⟨rfl, H2, F2⟩ := hq64
      refine r_ineg dX7_eatsAct_67 ?_
      refine r_ireturn dX7_eatsAct_68 ⟨_, rfl, rfl⟩ ?_
      rw [app1] at H2
      exact ⟨rfl, H2, F1.tr F2⟩
    have k3 : k = 6 → Wp G l 3 RX7 cX7_eatsAct 3 (some .int) 69 [.ref (gA G 134), .int (nI i), .int x] [] h (fun r h' => r = some (.int (eatA k i v x).1) ∧ ActC h' (tr ++ (eatA k i v x).2) k i v ∧ Fr acF h h') := by
      rintro rfl
      refine r_aload_n dX7_eatsAct_69 rfl ?_
      refine r_bipush (v := 71) dX7_eatsAct_70 (by decide) ?_
      rw [show (71 : Int32) = nI 71 from rfl]
      refine r_callV dX7_eatsAct_72 l_X7_387 o_X7_body v_X7_body rfl (by decide) rfl rfl (m_X7_body hG C.1 (by omega)) (by decide) rfl (Nat.le_of_ble_eq_true rfl) (fun r72 h72 hq72 => ?_)
      obtain ⟨rfl, H1, F1⟩ := hq72
      refine r_aload_n dX7_eatsAct_75 rfl ?_
      refine r_iload_n dX7_eatsAct_76 rfl ?_
      refine r_iload_n dX7_eatsAct_77 rfl ?_
      refine r_callV dX7_eatsAct_78 l_X7_390 o_X7_eaterEats v_X7_eaterEats rfl (by decide) rfl rfl (m_X7_eaterEats hG (C.nx H1 F1) (by rw [app_len]; omega)) (by decide) rfl (Nat.le_of_ble_eq_true rfl) (fun r78 h78 hq78 => ?_)
      obtain ⟨rfl, H2, F2⟩ := hq78
      refine r_aload_n dX7_eatsAct_81 rfl ?_
      refine r_getR (j := 136) dX7_eatsAct_82 k_X7_26 rfl (by decide) rfl rfl ?_
      refine r_iload_n dX7_eatsAct_85 rfl ?_
      refine r_iald (i) dX7_eatsAct_86 rfl rfl (show i < 6 by omega) ?_
      rw [H2.2.2.2.2]
      refine r_ixor dX7_eatsAct_87 ?_
      refine r_ireturn dX7_eatsAct_88 ⟨_, rfl, rfl⟩ ?_
      rw [app1] at H2
      exact ⟨rfl, H2, F1.tr F2⟩
    have k4 : (k = 0 ∨ k = 1 ∨ k = 3) → Wp G l 3 RX7 cX7_eatsAct 3 (some .int) 89 [.ref (gA G 134), .int (nI i), .int x] [] h (fun r h' => r = some (.int (eatA k i v x).1) ∧ ActC h' (tr ++ (eatA k i v x).2) k i v ∧ Fr acF h h') := by
      intro hk2
      have e : eatA k i v x = eatE i x := by rcases hk2 with rfl | rfl | rfl <;> rfl
      rw [e]
      refine r_aload_n dX7_eatsAct_89 rfl ?_
      refine r_iload_n dX7_eatsAct_90 rfl ?_
      refine r_iload_n dX7_eatsAct_91 rfl ?_
      refine r_callV dX7_eatsAct_92 l_X7_390 o_X7_eaterEats v_X7_eaterEats rfl (by decide) rfl rfl (m_X7_eaterEats hG C (by omega)) (by decide) rfl (Nat.le_of_ble_eq_true rfl) (fun r92 h92 hq92 => ?_)
      obtain ⟨rfl, H2, F2⟩ := hq92
      refine r_ireturn dX7_eatsAct_95 ⟨_, rfl, rfl⟩ ?_
      exact ⟨rfl, H2, F2⟩
    rcases c with rfl | rfl | rfl | rfl | rfl | rfl | rfl
    · rw [hy]; exact k4 (by omega)
    · rw [hy]; exact k4 (by omega)
    · rw [hy]; exact k1 hy (by omega)
    · rw [hy]; exact k4 (by omega)
    · rw [hy]; exact k2 rfl
    · rw [hy]; exact k1 hy (by omega)
    · rw [hy]; exact k3 rfl
  refine r_aload_n dX7_eatsAct_0 rfl ?_
  refine r_getR (j := 135) dX7_eatsAct_1 k_X7_22 rfl (by decide) rfl rfl ?_
  refine r_iload_n dX7_eatsAct_4 rfl ?_
  refine r_iald (i) dX7_eatsAct_5 rfl rfl (show i < 6 by omega) ?_
  rw [C.2.2.2.1]
  refine r_tsw (if k = 2 ∨ k = 5 then 40 else if k = 4 then 55 else if k = 6 then 69 else 89) dX7_eatsAct_6 rfl (by decide) ?_ (fin _ rfl)
  have c : k = 0 ∨ k = 1 ∨ k = 2 ∨ k = 3 ∨ k = 4 ∨ k = 5 ∨ k = 6 := by omega
  rcases c with rfl | rfl | rfl | rfl | rfl | rfl | rfl <;> rfl
set_option maxRecDepth 100000 in
theorem m_X7_eaterBakes {G : WT} {l : Launch} (hG : GOK G) {h : Hp} {tr : List Nat} {k i v : Nat} {x : Int32} (C : ActC h tr k i v) (ht : tr.length < 700) : Cl G l 4 yX7_eaterBakes cX7_eaterBakes 3 (some .int) [.ref (gA G 134), .int (nI i), .int x] h (fun r h' => r = some (.int (bakE k i v x).1) ∧ ActC h' (tr ++ (bakE k i v x).2) k i v ∧ Fr acF h h') := by
  refine Cl.of hG (by decide) (Nat.le_of_ble_eq_true rfl) ?_
  show Wp G l 4 RX7 cX7_eaterBakes 3 (some .int) 0 [.ref (gA G 134), .int (nI i), .int x] [] h _
  have hi := C.2.1
  refine r_aload_n dX7_eaterBakes_0 rfl ?_
  refine r_bipush (v := 11) dX7_eaterBakes_1 (by decide) ?_
  rw [show (11 : Int32) = nI 11 from rfl]
  refine r_callV dX7_eaterBakes_3 l_X7_387 o_X7_body v_X7_body rfl (by decide) rfl rfl (m_X7_body hG C.1 (by omega)) (by decide) rfl (Nat.le_of_ble_eq_true rfl) (fun r3 h3 hq3 => ?_)
  obtain ⟨rfl, H1, F1⟩ := hq3
  refine r_aload_n dX7_eaterBakes_6 rfl ?_
  refine r_iload_n dX7_eaterBakes_7 rfl ?_
  refine r_iload_n dX7_eaterBakes_8 rfl ?_
  refine r_callV dX7_eaterBakes_9 l_X7_393 o_X7_eatsAct v_X7_eatsAct rfl (by decide) rfl rfl (m_X7_eatsAct hG (C.nx H1 F1) (by rw [app_len]; omega)) (by decide) rfl (Nat.le_of_ble_eq_true rfl) (fun r9 h9 hq9 => ?_)
  obtain ⟨rfl, H2, F2⟩ := hq9
  refine r_aload_n dX7_eaterBakes_12 rfl ?_
  refine r_getR (j := 136) dX7_eaterBakes_13 k_X7_26 rfl (by decide) rfl rfl ?_
  refine r_iload_n dX7_eaterBakes_16 rfl ?_
  refine r_iald (i) dX7_eaterBakes_17 rfl rfl (show i < 6 by omega) ?_
  rw [H2.2.2.2.2]
  refine r_isub dX7_eaterBakes_18 ?_
  refine r_ireturn dX7_eaterBakes_19 ⟨_, rfl, rfl⟩ ?_
  rw [app1] at H2
  exact ⟨rfl, H2, F1.tr F2⟩
set_option maxRecDepth 100000 in
theorem m_X7_hungryBakes {G : WT} {l : Launch} (hG : GOK G) {h : Hp} {tr : List Nat} {k i v : Nat} {x : Int32} (C : ActC h tr k i v) (ht : tr.length < 600) : Cl G l 5 yX7_hungryBakes cX7_hungryBakes 3 (some .int) [.ref (gA G 134), .int (nI i), .int x] h (fun r h' => r = some (.int (bakH k i v x).1) ∧ ActC h' (tr ++ (bakH k i v x).2) k i v ∧ Fr acF h h') := by
  refine Cl.of hG (by decide) (Nat.le_of_ble_eq_true rfl) ?_
  show Wp G l 5 RX7 cX7_hungryBakes 3 (some .int) 0 [.ref (gA G 134), .int (nI i), .int x] [] h _
  refine r_aload_n dX7_hungryBakes_0 rfl ?_
  refine r_bipush (v := 20) dX7_hungryBakes_1 (by decide) ?_
  rw [show (20 : Int32) = nI 20 from rfl]
  refine r_callV dX7_hungryBakes_3 l_X7_387 o_X7_body v_X7_body rfl (by decide) rfl rfl (m_X7_body hG C.1 (by omega)) (by decide) rfl (Nat.le_of_ble_eq_true rfl) (fun r3 h3 hq3 => ?_)
  obtain ⟨rfl, H1, F1⟩ := hq3
  refine r_aload_n dX7_hungryBakes_6 rfl ?_
  refine r_iload_n dX7_hungryBakes_7 rfl ?_
  refine r_iload_n dX7_hungryBakes_8 rfl ?_
  refine r_callV dX7_hungryBakes_9 l_X7_396 o_X7_eaterBakes v_X7_eaterBakes rfl (by decide) rfl rfl (m_X7_eaterBakes hG (C.nx H1 F1) (by rw [app_len]; omega)) (by decide) rfl (Nat.le_of_ble_eq_true rfl) (fun r9 h9 hq9 => ?_)
  obtain ⟨rfl, H2, F2⟩ := hq9
  refine r_bipush (v := 6) dX7_hungryBakes_12 (by decide) ?_
  refine r_ixor dX7_hungryBakes_14 ?_
  refine r_ireturn dX7_hungryBakes_15 ⟨_, rfl, rfl⟩ ?_
  rw [app1] at H2
  exact ⟨rfl, H2, F1.tr F2⟩
set_option maxRecDepth 100000 in
theorem m_X7_bakesAct {G : WT} {l : Launch} (hG : GOK G) {h : Hp} {tr : List Nat} {k i v : Nat} {x : Int32} (C : ActC h tr k i v) (ht : tr.length < 500) : Cl G l 6 yX7_bakesAct cX7_bakesAct 4 (some .int) [.ref (gA G 134), .int (nI i), .int x] h (fun r h' => r = some (.int (bakA k i v x).1) ∧ ActC h' (tr ++ (bakA k i v x).2) k i v ∧ Fr acF h h') := by
  refine Cl.of hG (by decide) (Nat.le_of_ble_eq_true rfl) ?_
  show Wp G l 6 RX7 cX7_bakesAct 4 (some .int) 0 [.ref (gA G 134), .int (nI i), .int x, mk0] [] h _
  have hi := C.2.1
  have hk := C.2.2.1
  have c : k = 1 ∨ k = 4 ∨ k = 6 ∨ (k = 0 ∨ k = 2 ∨ k = 3 ∨ k = 5) := by omega
  rcases c with rfl | rfl | rfl | hk2
  · refine r_aload_n dX7_bakesAct_0 rfl ?_
    refine r_getR (j := 135) dX7_bakesAct_1 k_X7_22 rfl (by decide) rfl rfl ?_
    refine r_iload_n dX7_bakesAct_4 rfl ?_
    refine r_iald (i) dX7_bakesAct_5 rfl rfl (show i < 6 by omega) ?_
    rw [C.2.2.2.1]
    · refine r_lsw 40 dX7_bakesAct_6 (by decide) rfl (by decide) ?_
      refine r_aload_n dX7_bakesAct_40 rfl ?_
      refine r_iload_n dX7_bakesAct_41 rfl ?_
      refine r_iload_n dX7_bakesAct_42 rfl ?_
      refine r_callV dX7_bakesAct_43 l_X7_399 o_X7_hungryBakes v_X7_hungryBakes rfl (by decide) rfl rfl (m_X7_hungryBakes hG C (by omega)) (by decide) rfl (Nat.le_of_ble_eq_true rfl) (fun r43 h43 hq43 => ?_)
      obtain ⟨rfl, H2, F2⟩ := hq43
      refine r_ireturn dX7_bakesAct_46 ⟨_, rfl, rfl⟩ ?_
      exact ⟨rfl, H2, F2⟩
  · refine r_aload_n dX7_bakesAct_0 rfl ?_
    refine r_getR (j := 135) dX7_bakesAct_1 k_X7_22 rfl (by decide) rfl rfl ?_
    refine r_iload_n dX7_bakesAct_4 rfl ?_
    refine r_iald (i) dX7_bakesAct_5 rfl rfl (show i < 6 by omega) ?_
    rw [C.2.2.2.1]
    · refine r_lsw 47 dX7_bakesAct_6 (by decide) rfl (by decide) ?_
      refine r_aload_n dX7_bakesAct_47 rfl ?_
      refine r_bipush (v := 51) dX7_bakesAct_48 (by decide) ?_
      rw [show (51 : Int32) = nI 51 from rfl]
      refine r_callV dX7_bakesAct_50 l_X7_387 o_X7_body v_X7_body rfl (by decide) rfl rfl (m_X7_body hG C.1 (by omega)) (by decide) rfl (Nat.le_of_ble_eq_true rfl) (fun r50 h50 hq50 => ?_)
      obtain ⟨rfl, H1, F1⟩ := hq50
      refine r_aload_n dX7_bakesAct_53 rfl ?_
      refine r_iload_n dX7_bakesAct_54 rfl ?_
      refine r_iload_n dX7_bakesAct_55 rfl ?_
      refine r_iconst (v := 1) dX7_bakesAct_56 (by decide) ?_
      refine r_iadd dX7_bakesAct_57 ?_
      refine r_callV dX7_bakesAct_58 l_X7_399 o_X7_hungryBakes v_X7_hungryBakes rfl (by decide) rfl rfl (m_X7_hungryBakes hG (C.nx H1 F1) (by rw [app_len]; omega)) (by decide) rfl (Nat.le_of_ble_eq_true rfl) (fun r58 h58 hq58 => ?_)
      obtain ⟨rfl, H2, F2⟩ := hq58
      refine r_ireturn dX7_bakesAct_61 ⟨_, rfl, rfl⟩ ?_
      rw [app1] at H2
      exact ⟨rfl, H2, F1.tr F2⟩
  · have bl := bakE_len 6 i v x
    refine r_aload_n dX7_bakesAct_0 rfl ?_
    refine r_getR (j := 135) dX7_bakesAct_1 k_X7_22 rfl (by decide) rfl rfl ?_
    refine r_iload_n dX7_bakesAct_4 rfl ?_
    refine r_iald (i) dX7_bakesAct_5 rfl rfl (show i < 6 by omega) ?_
    rw [C.2.2.2.1]
    · refine r_lsw 62 dX7_bakesAct_6 (by decide) rfl (by decide) ?_
      refine r_aload_n dX7_bakesAct_62 rfl ?_
      refine r_bipush (v := 70) dX7_bakesAct_63 (by decide) ?_
      rw [show (70 : Int32) = nI 70 from rfl]
      refine r_callV dX7_bakesAct_65 l_X7_387 o_X7_body v_X7_body rfl (by decide) rfl rfl (m_X7_body hG C.1 (by omega)) (by decide) rfl (Nat.le_of_ble_eq_true rfl) (fun r65 h65 hq65 => ?_)
      obtain ⟨rfl, H1, F1⟩ := hq65
      refine r_aload_n dX7_bakesAct_68 rfl ?_
      refine r_iload_n dX7_bakesAct_69 rfl ?_
      refine r_iload_n dX7_bakesAct_70 rfl ?_
      refine r_callV dX7_bakesAct_71 l_X7_396 o_X7_eaterBakes v_X7_eaterBakes rfl (by decide) rfl rfl (m_X7_eaterBakes hG (C.nx H1 F1) (by rw [app_len]; omega)) (by decide) rfl (Nat.le_of_ble_eq_true rfl) (fun r71 h71 hq71 => ?_)
      obtain ⟨rfl, H2, F2⟩ := hq71
      refine r_istore_n dX7_bakesAct_74 (by decide) rfl rfl ?_
      dsimp only [List.set]
      refine r_iload_n dX7_bakesAct_75 rfl ?_
      refine r_aload_n dX7_bakesAct_76 rfl ?_
      refine r_iload_n dX7_bakesAct_77 rfl ?_
      refine r_iconst (v := 2) dX7_bakesAct_78 (by decide) ?_
      refine r_callV dX7_bakesAct_79 l_X7_390 o_X7_eaterEats v_X7_eaterEats rfl (by decide) rfl rfl (m_X7_eaterEats hG H2 (by rw [List.length_append, app_len]; omega)) (by decide) rfl (Nat.le_of_ble_eq_true rfl) (fun r79 h79 hq79 => ?_)
      obtain ⟨rfl, H3, F3⟩ := hq79
      refine r_iadd dX7_bakesAct_82 ?_
      refine r_ireturn dX7_bakesAct_83 ⟨_, rfl, rfl⟩ ?_
      rw [List.append_assoc, app1] at H3
      exact ⟨rfl, H3, (F1.tr F2).tr F3⟩
  · have e : bakA k i v x = bakE k i v x := by rcases hk2 with rfl | rfl | rfl | rfl <;> rfl
    rw [e]
    refine r_aload_n dX7_bakesAct_0 rfl ?_
    refine r_getR (j := 135) dX7_bakesAct_1 k_X7_22 rfl (by decide) rfl rfl ?_
    refine r_iload_n dX7_bakesAct_4 rfl ?_
    refine r_iald (i) dX7_bakesAct_5 rfl rfl (show i < 6 by omega) ?_
    rw [C.2.2.2.1]
    · refine r_lsw 84 dX7_bakesAct_6 (by decide) (by rcases hk2 with rfl | rfl | rfl | rfl <;> rfl) (by decide) ?_
      refine r_aload_n dX7_bakesAct_84 rfl ?_
      refine r_iload_n dX7_bakesAct_85 rfl ?_
      refine r_iload_n dX7_bakesAct_86 rfl ?_
      refine r_callV dX7_bakesAct_87 l_X7_396 o_X7_eaterBakes v_X7_eaterBakes rfl (by decide) rfl rfl (m_X7_eaterBakes hG C (by omega)) (by decide) rfl (Nat.le_of_ble_eq_true rfl) (fun r87 h87 hq87 => ?_)
      obtain ⟨rfl, H2, F2⟩ := hq87
      refine r_ireturn dX7_bakesAct_90 ⟨_, rfl, rfl⟩ ?_
      exact ⟨rfl, H2, F2⟩
set_option maxRecDepth 100000 in
theorem m_X7_eaterTells {G : WT} {l : Launch} (hG : GOK G) {h : Hp} {tr : List Nat} {k i v : Nat} {x : Int32} (C : ActC h tr k i v) (ht : tr.length < 400) : Cl G l 7 yX7_eaterTells cX7_eaterTells 3 (some .int) [.ref (gA G 134), .int (nI i), .int x] h (fun r h' => r = some (.int (telE k i v x).1) ∧ ActC h' (tr ++ (telE k i v x).2) k i v ∧ Fr acF h h') := by
  refine Cl.of hG (by decide) (Nat.le_of_ble_eq_true rfl) ?_
  show Wp G l 7 RX7 cX7_eaterTells 3 (some .int) 0 [.ref (gA G 134), .int (nI i), .int x] [] h _
  refine r_aload_n dX7_eaterTells_0 rfl ?_
  refine r_bipush (v := 12) dX7_eaterTells_1 (by decide) ?_
  rw [show (12 : Int32) = nI 12 from rfl]
  refine r_callV dX7_eaterTells_3 l_X7_387 o_X7_body v_X7_body rfl (by decide) rfl rfl (m_X7_body hG C.1 (by omega)) (by decide) rfl (Nat.le_of_ble_eq_true rfl) (fun r3 h3 hq3 => ?_)
  obtain ⟨rfl, H1, F1⟩ := hq3
  refine r_aload_n dX7_eaterTells_6 rfl ?_
  refine r_iload_n dX7_eaterTells_7 rfl ?_
  refine r_iload_n dX7_eaterTells_8 rfl ?_
  refine r_callV dX7_eaterTells_9 l_X7_402 o_X7_bakesAct v_X7_bakesAct rfl (by decide) rfl rfl (m_X7_bakesAct hG (C.nx H1 F1) (by rw [app_len]; omega)) (by decide) rfl (Nat.le_of_ble_eq_true rfl) (fun r9 h9 hq9 => ?_)
  obtain ⟨rfl, H2, F2⟩ := hq9
  refine r_iconst (v := 2) dX7_eaterTells_12 (by decide) ?_
  refine r_imul dX7_eaterTells_13 ?_
  refine r_ireturn dX7_eaterTells_14 ⟨_, rfl, rfl⟩ ?_
  rw [app1] at H2
  exact ⟨rfl, H2, F1.tr F2⟩
set_option maxRecDepth 100000 in
theorem m_X7_tellsAct {G : WT} {l : Launch} (hG : GOK G) {h : Hp} {tr : List Nat} {k i v : Nat} {x : Int32} (C : ActC h tr k i v) (ht : tr.length < 300) : Cl G l 8 yX7_tellsAct cX7_tellsAct 4 (some .int) [.ref (gA G 134), .int (nI i), .int x] h (fun r h' => r = some (.int (telA k i v x).1) ∧ ActC h' (tr ++ (telA k i v x).2) k i v ∧ Fr acF h h') := by
  refine Cl.of hG (by decide) (Nat.le_of_ble_eq_true rfl) ?_
  show Wp G l 8 RX7 cX7_tellsAct 4 (some .int) 0 [.ref (gA G 134), .int (nI i), .int x, mk0] [] h _
  have hi := C.2.1
  have hk := C.2.2.1
  have c : (k = 3 ∨ k = 6) ∨ k = 5 ∨ (k = 0 ∨ k = 1 ∨ k = 2 ∨ k = 4) := by omega
  rcases c with hk2 | rfl | hk2
  · have bl := bakA_len k i v x
    have e : telA k i v x = ((telE k i v x).1 + (bakA k i v 1).1, 40 :: ((telE k i v x).2 ++ (bakA k i v 1).2)) := by rcases hk2 with rfl | rfl <;> rfl
    have el : (telE k i v x).2.length = (bakA k i v x).2.length + 1 := rfl
    rw [e]
    refine r_aload_n dX7_tellsAct_0 rfl ?_
    refine r_getR (j := 135) dX7_tellsAct_1 k_X7_22 rfl (by decide) rfl rfl ?_
    refine r_iload_n dX7_tellsAct_4 rfl ?_
    refine r_iald (i) dX7_tellsAct_5 rfl rfl (show i < 6 by omega) ?_
    rw [C.2.2.2.1]
    · refine r_tsw 36 dX7_tellsAct_6 rfl (by decide) (by rcases hk2 with rfl | rfl <;> rfl) ?_
      refine r_aload_n dX7_tellsAct_36 rfl ?_
      refine r_bipush (v := 40) dX7_tellsAct_37 (by decide) ?_
      rw [show (40 : Int32) = nI 40 from rfl]
      refine r_callV dX7_tellsAct_39 l_X7_387 o_X7_body v_X7_body rfl (by decide) rfl rfl (m_X7_body hG C.1 (by omega)) (by decide) rfl (Nat.le_of_ble_eq_true rfl) (fun r39 h39 hq39 => ?_)
      obtain ⟨rfl, H1, F1⟩ := hq39
      refine r_aload_n dX7_tellsAct_42 rfl ?_
      refine r_iload_n dX7_tellsAct_43 rfl ?_
      refine r_iload_n dX7_tellsAct_44 rfl ?_
      refine r_callV dX7_tellsAct_45 l_X7_405 o_X7_eaterTells v_X7_eaterTells rfl (by decide) rfl rfl (m_X7_eaterTells hG (C.nx H1 F1) (by rw [app_len]; omega)) (by decide) rfl (Nat.le_of_ble_eq_true rfl) (fun r45 h45 hq45 => ?_)
      obtain ⟨rfl, H2, F2⟩ := hq45
      refine r_istore_n dX7_tellsAct_48 (by decide) rfl rfl ?_
      dsimp only [List.set]
      refine r_iload_n dX7_tellsAct_49 rfl ?_
      refine r_aload_n dX7_tellsAct_50 rfl ?_
      refine r_iload_n dX7_tellsAct_51 rfl ?_
      refine r_iconst (v := 1) dX7_tellsAct_52 (by decide) ?_
      refine r_callV dX7_tellsAct_53 l_X7_402 o_X7_bakesAct v_X7_bakesAct rfl (by decide) rfl rfl (m_X7_bakesAct hG H2 (by rw [List.length_append, app_len]; omega)) (by decide) rfl (Nat.le_of_ble_eq_true rfl) (fun r53 h53 hq53 => ?_)
      obtain ⟨rfl, H3, F3⟩ := hq53
      refine r_iadd dX7_tellsAct_56 ?_
      refine r_ireturn dX7_tellsAct_57 ⟨_, rfl, rfl⟩ ?_
      rw [List.append_assoc, app1] at H3
      exact ⟨rfl, H3, (F1.tr F2).tr F3⟩
  · refine r_aload_n dX7_tellsAct_0 rfl ?_
    refine r_getR (j := 135) dX7_tellsAct_1 k_X7_22 rfl (by decide) rfl rfl ?_
    refine r_iload_n dX7_tellsAct_4 rfl ?_
    refine r_iald (i) dX7_tellsAct_5 rfl rfl (show i < 6 by omega) ?_
    rw [C.2.2.2.1]
    · refine r_tsw 58 dX7_tellsAct_6 rfl (by decide) rfl ?_
      refine r_aload_n dX7_tellsAct_58 rfl ?_
      refine r_bipush (v := 60) dX7_tellsAct_59 (by decide) ?_
      rw [show (60 : Int32) = nI 60 from rfl]
      refine r_callV dX7_tellsAct_61 l_X7_387 o_X7_body v_X7_body rfl (by decide) rfl rfl (m_X7_body hG C.1 (by omega)) (by decide) rfl (Nat.le_of_ble_eq_true rfl) (fun r61 h61 hq61 => ?_)
      obtain ⟨rfl, H1, F1⟩ := hq61
      refine r_aload_n dX7_tellsAct_64 rfl ?_
      refine r_iload_n dX7_tellsAct_65 rfl ?_
      refine r_iload_n dX7_tellsAct_66 rfl ?_
      refine r_iload_n dX7_tellsAct_67 rfl ?_
      refine r_isub dX7_tellsAct_68 ?_
      refine r_callV dX7_tellsAct_69 l_X7_405 o_X7_eaterTells v_X7_eaterTells rfl (by decide) rfl rfl (m_X7_eaterTells hG (C.nx H1 F1) (by rw [app_len]; omega)) (by decide) rfl (Nat.le_of_ble_eq_true rfl) (fun r69 h69 hq69 => ?_)
      obtain ⟨rfl, H2, F2⟩ := hq69
      refine r_ireturn dX7_tellsAct_72 ⟨_, rfl, rfl⟩ ?_
      rw [app1] at H2
      exact ⟨rfl, H2, F1.tr F2⟩
  · have e : telA k i v x = telE k i v x := by rcases hk2 with rfl | rfl | rfl | rfl <;> rfl
    rw [e]
    refine r_aload_n dX7_tellsAct_0 rfl ?_
    refine r_getR (j := 135) dX7_tellsAct_1 k_X7_22 rfl (by decide) rfl rfl ?_
    refine r_iload_n dX7_tellsAct_4 rfl ?_
    refine r_iald (i) dX7_tellsAct_5 rfl rfl (show i < 6 by omega) ?_
    rw [C.2.2.2.1]
    · refine r_tsw 73 dX7_tellsAct_6 rfl (by decide) (by rcases hk2 with rfl | rfl | rfl | rfl <;> rfl) ?_
      refine r_aload_n dX7_tellsAct_73 rfl ?_
      refine r_iload_n dX7_tellsAct_74 rfl ?_
      refine r_iload_n dX7_tellsAct_75 rfl ?_
      refine r_callV dX7_tellsAct_76 l_X7_405 o_X7_eaterTells v_X7_eaterTells rfl (by decide) rfl rfl (m_X7_eaterTells hG C (by omega)) (by decide) rfl (Nat.le_of_ble_eq_true rfl) (fun r76 h76 hq76 => ?_)
      obtain ⟨rfl, H2, F2⟩ := hq76
      refine r_ireturn dX7_tellsAct_79 ⟨_, rfl, rfl⟩ ?_
      exact ⟨rfl, H2, F2⟩
