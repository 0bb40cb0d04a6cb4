/-! house() of the reference -/
def hoF (f a i : Nat) : Bool := gtF f a i || (a == 134 && (i == 12 || i == 11 || i == 10))
theorem gtF_ho {f : Nat} {h h' : Hp} (H : Fr (gtF f) h h') : Fr (hoF f) h h' := H.wk (fun x i q => by simp only [hoF, Bool.or_eq_false_iff] at q; exact q.1)
theorem RLs.set {h : Hp} {f i : Nat} {v : Int32} {L : List Cz} (H : RLs h f L) : RLs (setI h 134 i v) f L := by
  intro c y q
  have u := H c y q
  refine ⟨⟨by rw [setI_ne (by decide)]; exact u.1.1, by rw [setI_ne (by decide)]; exact u.1.2.1, fun v => ?_⟩, u.2⟩
  obtain ⟨fr, f0, f1, f2, f3, f4, f5⟩ := u.1.2.2 v
  exact ⟨fr, f0, by rw [setI_ne (by decide)]; exact f1, by rw [setI_ne (by decide)]; exact f2, f3, fun j t w => by rw [setI_ne (by decide)]; exact f4 j t w, f5⟩
set_option maxRecDepth 100000 in
theorem m_X7_house {G : WT} {l : Launch} (hG : GOK G) {h : Hp} {X : Tx} {n : Nat} (hn : n ≤ 6) (HX : RTx h X) (hX : TxOK X) (HL : RLe h) (h0 : h.1 134 10 = nI n) : Cl G l 8 yX7_house cX7_house 2 (some .int) [.ref (gA G 134)] h (fun r h' => (n = 6 → r = some (.int (-4)) ∧ h' = h) ∧ (n < 6 → (∀ b, houseT X = (none, b) → r = some (.int (-10 - nI b)) ∧ h'.1 134 12 = 0 ∧ h'.1 134 11 = h.1 134 11 ∧ h'.1 134 10 = nI n) ∧ (∀ L b, houseT X = (some L, b) → r = some (.int (nI n)) ∧ h'.1 134 12 = 0 ∧ h'.1 134 11 = nI n ∧ h'.1 134 10 = nI (n + 1) ∧ RLs h' n L ∧ h'.1 142 n = nI L.length ∧ 0 < L.length ∧ L.length ≤ 10) ∧ Fr (hoF n) h h')) := by
  refine Cl.of hG (by decide) (Nat.le_of_ble_eq_true rfl) ?_
  show Wp G l 8 RX7 cX7_house 2 (some .int) 0 [.ref (gA G 134), mk0] [] h _
  by_cases h6 : n = 6
  · subst h6
    refine r_aload_n dX7_house_0 rfl ?_
    refine r_getI dX7_house_1 k_X7_41 rfl (by decide) rfl ?_
    refine r_bipush (v := 6) dX7_house_4 (by decide) ?_
    rw [h0]
    refine r_icmp_ne (tgt := 12) dX7_house_6 (by decide) (fun c_6 => ?_) (fun c_6 => ?_)
    · exact absurd rfl c_6
    · refine r_bipush (v := -4) dX7_house_9 (by decide) ?_
      refine r_ireturn dX7_house_11 ⟨_, rfl, rfl⟩ ?_
      exact ⟨fun _ => ⟨rfl, rfl⟩, fun q => absurd q (by omega)⟩
  · cases ht : houseT X with
    | mk o b =>
      cases o with
      | none =>
        refine r_aload_n dX7_house_0 rfl ?_
        refine r_getI dX7_house_1 k_X7_41 rfl (by decide) rfl ?_
        refine r_bipush (v := 6) dX7_house_4 (by decide) ?_
        rw [h0]
        refine r_icmp_ne (tgt := 12) dX7_house_6 (by decide) (fun c_6 => ?_) (fun c_6 => ?_)
        · refine r_aload_n dX7_house_12 rfl ?_
          refine r_aload_n dX7_house_13 rfl ?_
          refine r_getI dX7_house_14 k_X7_41 rfl (by decide) rfl ?_
          rw [h0]
          refine r_callV dX7_house_17 l_X7_271 o_X7_goesText v_X7_goesText rfl (by decide) rfl rfl (m_X7_goesText hG (by omega) HX hX HL) (by decide) rfl (Nat.le_of_ble_eq_true rfl) (fun r17 h17 hq17 => ?_)
          obtain ⟨y1, y2, y3⟩ := hq17
          obtain ⟨rfl, H2⟩ := y1 b ht
          refine r_istore_n dX7_house_20 (by decide) rfl rfl ?_
          dsimp only [List.set]
          refine r_aload_n dX7_house_21 rfl ?_
          refine r_iconst (v := 0) dX7_house_22 (by decide) ?_
          refine r_putI dX7_house_23 k_X7_47 rfl (by decide) rfl rfl rfl rfl ?_
          refine r_iload_n dX7_house_26 rfl ?_
          refine r_if_ne (tgt := 38) dX7_house_27 (by decide) (fun c_27 => ?_) (fun c_27 => ?_)
          · exact absurd rfl c_27
          · refine r_bipush (v := -10) dX7_house_30 (by decide) ?_
            refine r_aload_n dX7_house_32 rfl ?_
            refine r_getI dX7_house_33 k_X7_50 rfl (by decide) rfl ?_
            rw [setI_nj (by decide), H2.2.2.1]
            refine r_isub dX7_house_36 ?_
            refine r_ireturn dX7_house_37 ⟨_, rfl, rfl⟩ ?_
            refine ⟨fun q => absurd q h6, fun _ => ⟨fun b2 q => ?_, fun L b2 q => (by cases q), (gtF_ho y3).tr (Fr.set (by simp [hoF]))⟩⟩
            cases q
            exact ⟨rfl, setI_at, by rw [setI_nj (by decide), y3.1 _ _ (by simp [gtF])], by rw [setI_nj (by decide), y3.1 _ _ (by simp [gtF]), h0]⟩
        · exact absurd ((nI_eq' (a := n) (b := 6) (by omega) (by omega)).mp c_6) h6
      | some L =>
        refine r_aload_n dX7_house_0 rfl ?_
        refine r_getI dX7_house_1 k_X7_41 rfl (by decide) rfl ?_
        refine r_bipush (v := 6) dX7_house_4 (by decide) ?_
        rw [h0]
        refine r_icmp_ne (tgt := 12) dX7_house_6 (by decide) (fun c_6 => ?_) (fun c_6 => ?_)
        · refine r_aload_n dX7_house_12 rfl ?_
          refine r_aload_n dX7_house_13 rfl ?_
          refine r_getI dX7_house_14 k_X7_41 rfl (by decide) rfl ?_
          rw [h0]
          refine r_callV dX7_house_17 l_X7_271 o_X7_goesText v_X7_goesText rfl (by decide) rfl rfl (m_X7_goesText hG (by omega) HX hX HL) (by decide) rfl (Nat.le_of_ble_eq_true rfl) (fun r17 h17 hq17 => ?_)
          obtain ⟨y1, y2, y3⟩ := hq17
          obtain ⟨rfl, H2, H3, H4, H5, H6⟩ := y2 L b ht
          have e1 : h17.1 134 10 = nI n := by rw [y3.1 _ _ (by simp [gtF]), h0]
          refine r_istore_n dX7_house_20 (by decide) rfl rfl ?_
          dsimp only [List.set]
          refine r_aload_n dX7_house_21 rfl ?_
          refine r_iconst (v := 0) dX7_house_22 (by decide) ?_
          refine r_putI dX7_house_23 k_X7_47 rfl (by decide) rfl rfl rfl rfl ?_
          refine r_iload_n dX7_house_26 rfl ?_
          refine r_if_ne (tgt := 38) dX7_house_27 (by decide) (fun c_27 => ?_) (fun c_27 => ?_)
          · refine r_aload_n dX7_house_38 rfl ?_
            refine r_aload_n dX7_house_39 rfl ?_
            refine r_getI dX7_house_40 k_X7_41 rfl (by decide) rfl ?_
            rw [setI_nj (by decide), e1]
            refine r_putI dX7_house_43 k_X7_44 rfl (by decide) rfl rfl rfl rfl ?_
            refine r_aload_n dX7_house_46 rfl ?_
            refine r_dup dX7_house_47 rfl ?_
            refine r_getI dX7_house_48 k_X7_41 rfl (by decide) rfl ?_
            refine r_iconst (v := 1) dX7_house_51 (by decide) ?_
            refine r_iadd dX7_house_52 ?_
            rw [setI_nj (by decide), setI_nj (by decide), e1, nI_1]
            refine r_putI dX7_house_53 k_X7_41 rfl (by decide) rfl rfl rfl rfl ?_
            refine r_aload_n dX7_house_56 rfl ?_
            refine r_getI dX7_house_57 k_X7_44 rfl (by decide) rfl ?_
            rw [setI_nj (by decide), setI_at]
            refine r_ireturn dX7_house_60 ⟨_, rfl, rfl⟩ ?_
            refine ⟨fun q => absurd q h6, fun _ => ⟨fun b2 q => (by cases q), fun L2 b2 q => ?_, (((gtF_ho y3).tr (Fr.set (by simp [hoF]))).tr (Fr.set (by simp [hoF]))).tr (Fr.set (by simp [hoF]))⟩⟩
            cases q
            exact ⟨rfl, by rw [setI_nj (by decide), setI_nj (by decide), setI_at], by rw [setI_nj (by decide), setI_at], setI_at, ((H3.set).set).set, by rw [setI_ne (by decide), setI_ne (by decide), setI_ne (by decide)]; exact H4, H5, H6⟩
          · exact absurd c_27 (by decide)
        · exact absurd ((nI_eq' (a := n) (b := 6) (by omega) (by omega)).mp c_6) h6
