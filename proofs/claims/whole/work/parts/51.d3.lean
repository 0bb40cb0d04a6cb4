/-! a house is built -/
theorem hs_at {q : Nat} (hq : ksh q = 1) : ∃ k, k ≤ 8 ∧ q = 50 + 8 * k := by
  have key : ∀ q, q < nW → ksh q = 1 → q % 8 = 2 ∧ 50 ≤ q ∧ q ≤ 114 := by decide +kernel
  obtain ⟨a, b, c⟩ := key q (ksh_lt hq (by decide)) hq
  exact ⟨(q - 50) / 8, by omega, by omega⟩
def dbF (q a i : Nat) : Bool := (a == q && i == 8) || (decide (q + 4 ≤ a) && decide (a ≤ q + 7))
theorem DCd.eq {h h' : Hp} {q i : Nat} {t : Int} (H : DCd h q i t) (e : ∀ a, q + 4 ≤ a → a ≤ q + 7 → h'.1 a i = h.1 a i) : DCd h' q i t := by
  unfold DCd at H ⊢
  rw [e (q + 4) (by omega) (by omega), e (q + 5) (by omega) (by omega), e (q + 6) (by omega) (by omega), e (q + 7) (by omega) (by omega)]
  exact H
set_option maxRecDepth 100000 in
theorem m_X1_addSign {G : WT} {l : Launch} (hG : GOK G) {h : Hp} {q n : Nat} {s : Int32} (hq : ksh q = 1) (hn : n ≤ 100) (h0 : h.1 q 8 = nI n) : Cl G l 1 yX1_addSign cX1_addSign 2 none [.ref (gA G q), .int s] h (fun r h' => r = none ∧ h' = (if n < 100 then setI (setI h (q + 4) n s) q 8 (nI (n + 1)) else h)) := by
  refine Cl.of hG (by decide) (Nat.le_of_ble_eq_true rfl) ?_
  show Wp G l 1 RX1 cX1_addSign 2 none 0 [.ref (gA G q), .int s] [] h _
  by_cases h1 : n < 100
  · rw [if_pos h1]
    refine r_aload_n dX1_addSign_0 rfl ?_
    refine r_getI dX1_addSign_1 k_X1_37 (by assumption) (by decide) rfl ?_
    refine r_bipush (v := 100) dX1_addSign_4 (by decide) ?_
    rw [h0]
    refine r_icmp_ge (tgt := 29) dX1_addSign_6 (by decide) (fun c_6 => ?_) (fun c_6 => ?_)
    · exact absurd c_6 (nI_ge (a := n) (b := 100) (by omega) (by omega))
    · refine r_aload_n dX1_addSign_9 rfl ?_
      refine r_getR (j := q + 4) dX1_addSign_10 k_X1_21 (by assumption) (by decide) rfl (rf_H (by assumption) (by decide)) ?_
      refine r_aload_n dX1_addSign_13 rfl ?_
      refine r_getI dX1_addSign_14 k_X1_37 (by assumption) (by decide) rfl ?_
      refine r_iload_n dX1_addSign_17 rfl ?_
      refine r_iast (n) dX1_addSign_18 (ks_H (by assumption) (by decide)) h0 (bH2 3 hq (by decide) (by decide) h1) ?_
      refine r_aload_n dX1_addSign_19 rfl ?_
      refine r_dup dX1_addSign_20 rfl ?_
      refine r_getI dX1_addSign_21 k_X1_37 (by assumption) (by decide) rfl ?_
      refine r_iconst (v := 1) dX1_addSign_24 (by decide) ?_
      refine r_iadd dX1_addSign_25 ?_
      rw [setI_ne (by omega), h0, nI_1]
      refine r_putI dX1_addSign_26 k_X1_37 (by assumption) (by decide) rfl rfl rfl rfl ?_
      refine r_return dX1_addSign_29 rfl ?_
      exact ⟨rfl, rfl⟩
  · rw [if_neg h1]
    refine r_aload_n dX1_addSign_0 rfl ?_
    refine r_getI dX1_addSign_1 k_X1_37 (by assumption) (by decide) rfl ?_
    refine r_bipush (v := 100) dX1_addSign_4 (by decide) ?_
    rw [h0]
    refine r_icmp_ge (tgt := 29) dX1_addSign_6 (by decide) (fun c_6 => ?_) (fun c_6 => ?_)
    · refine r_return dX1_addSign_29 rfl ?_
      exact ⟨rfl, rfl⟩
    · exact absurd (nI_le (a := 100) (b := n) (by omega) (by omega)) c_6
theorem add_F {h : Hp} {q n : Nat} {s : Int32} : Fr (dbF q) h (if n < 100 then setI (setI h (q + 4) n s) q 8 (nI (n + 1)) else h) := by
  split
  · exact (Fr.set (by simp [dbF])).tr (Fr.set (by simp [dbF]))
  · exact Fr.rf
theorem add_n {h : Hp} {q n : Nat} {s : Int32} (hn : n ≤ 100) (h0 : h.1 q 8 = nI n) : ∃ m, m ≤ 100 ∧ (if n < 100 then setI (setI h (q + 4) n s) q 8 (nI (n + 1)) else h).1 q 8 = nI m := by
  split
  · exact ⟨n + 1, by omega, setI_at⟩
  · exact ⟨n, hn, h0⟩
def DBl (h : Hp) (q : Nat) (acc : List Int) : Prop := h.1 q 8 = nI acc.length ∧ DCs h q 0 acc
def sgS (t : Int) : Int32 := if t = -33 then 1 else if t = -38 then 2 else 3
theorem DBl.add {h : Hp} {q : Nat} {acc : List Int} {t : Int} (H : DBl h q acc) (hl : acc.length < 100) (ht : t = -33 ∨ t = -38 ∨ t = -124) : DBl (if acc.length < 100 then setI (setI h (q + 4) acc.length (sgS t)) q 8 (nI (acc.length + 1)) else h) q (acc ++ [t]) := by
  rw [if_pos hl]
  refine ⟨by rw [List.length_append]; exact setI_at, fun j u e => ?_⟩
  by_cases hj : j < acc.length
  · rw [List.getElem?_append_left hj] at e
    refine (H.2 j u e).eq (fun a h1 h2 => ?_)
    rw [setI_ne (by omega), setI_nj (by omega)]
  · by_cases hj2 : j = acc.length
    · subst hj2
      rw [List.getElem?_append_right (Nat.le_refl _), Nat.sub_self] at e
      have : t = u := Option.some.inj e
      subst this
      unfold DCd
      rw [Nat.zero_add, setI_ne (by omega), setI_at]
      rcases ht with rfl | rfl | rfl
      · rw [if_pos rfl]; rfl
      · rw [if_neg (by decide), if_pos rfl]; rfl
      · rw [if_neg (by decide), if_neg (by decide), if_pos rfl]; rfl
    · rw [List.getElem?_eq_none (by rw [List.length_append]; show acc.length + 1 ≤ j; omega)] at e
      cases e
def lvS (r v : Nat) : Int32 := if r = 0 then 0 else if r = 1 then nI v else nI v + 1
def mvS (r v : Nat) : Int32 := if r = 0 then nI v - 1 else if r = 1 then nI v else 99
set_option maxRecDepth 100000 in
theorem m_X1_addTest {G : WT} {l : Launch} (hG : GOK G) {h : Hp} {q n f w v : Nat} (hq : ksh q = 1) (hn : n < 100) (hr : w ≤ 2) (h0 : h.1 q 8 = nI n) : Cl G l 1 yX1_addTest cX1_addTest 4 none [.ref (gA G q), .int (nI f), .int (nI w), .int (nI v)] h (fun r h' => r = none ∧ h' = setI (setI (setI (setI (setI h (q + 5) n (nI f)) (q + 6) n (lvS w v)) (q + 7) n (mvS w v)) (q + 4) n 0) q 8 (nI (n + 1))) := by
  refine Cl.of hG (by decide) (Nat.le_of_ble_eq_true rfl) ?_
  show Wp G l 1 RX1 cX1_addTest 4 none 0 [.ref (gA G q), .int (nI f), .int (nI w), .int (nI v)] [] h _
  have i1 : (setI h (q + 5) n (nI f)).1 q 8 = nI n := by rw [setI_ne (by omega)]; exact h0
  have i2 : ∀ x, (setI (setI h (q + 5) n (nI f)) (q + 6) n x).1 q 8 = nI n := fun x => by rw [setI_ne (by omega)]; exact i1
  have i3 : ∀ x y, (setI (setI (setI h (q + 5) n (nI f)) (q + 6) n x) (q + 7) n y).1 q 8 = nI n := fun x y => by rw [setI_ne (by omega)]; exact i2 x
  rcases (show w = 0 ∨ w = 1 ∨ w = 2 by omega) with rfl | rfl | rfl
  · refine r_aload_n dX1_addTest_0 rfl ?_
    refine r_getI dX1_addTest_1 k_X1_37 (by assumption) (by decide) rfl ?_
    refine r_bipush (v := 100) dX1_addTest_4 (by decide) ?_
    rw [h0]
    refine r_icmp_lt (tgt := 10) dX1_addTest_6 (by decide) (fun c_6 => ?_) (fun c_6 => ?_)
    · refine r_aload_n dX1_addTest_10 rfl ?_
      refine r_getR (j := q + 5) dX1_addTest_11 k_X1_24 (by assumption) (by decide) rfl (rf_H (by assumption) (by decide)) ?_
      refine r_aload_n dX1_addTest_14 rfl ?_
      refine r_getI dX1_addTest_15 k_X1_37 (by assumption) (by decide) rfl ?_
      refine r_iload_n dX1_addTest_18 rfl ?_
      refine r_iast (n) dX1_addTest_19 (ks_H (by assumption) (by decide)) h0 (bH2 4 hq (by decide) (by decide) hn) ?_
      refine r_aload_n dX1_addTest_20 rfl ?_
      refine r_getR (j := q + 6) dX1_addTest_21 k_X1_27 (by assumption) (by decide) rfl (rf_H (by assumption) (by decide)) ?_
      refine r_aload_n dX1_addTest_24 rfl ?_
      refine r_getI dX1_addTest_25 k_X1_37 (by assumption) (by decide) rfl ?_
      refine r_iload_n dX1_addTest_28 rfl ?_
      refine r_if_ne (tgt := 36) dX1_addTest_29 (by decide) (fun c_29 => ?_) (fun c_29 => ?_)
      · exact absurd rfl c_29
      · refine r_iconst (v := 0) dX1_addTest_32 (by decide) ?_
        refine r_goto (tgt := 48) dX1_addTest_33 (by decide) ?_
        refine r_iast (n) dX1_addTest_48 (ks_H (by assumption) (by decide)) i1 (bH2 5 hq (by decide) (by decide) hn) ?_
        refine r_aload_n dX1_addTest_49 rfl ?_
        refine r_getR (j := q + 7) dX1_addTest_50 k_X1_30 (by assumption) (by decide) rfl (rf_H (by assumption) (by decide)) ?_
        refine r_aload_n dX1_addTest_53 rfl ?_
        refine r_getI dX1_addTest_54 k_X1_37 (by assumption) (by decide) rfl ?_
        refine r_iload_n dX1_addTest_57 rfl ?_
        refine r_if_ne (tgt := 67) dX1_addTest_58 (by decide) (fun c_58 => ?_) (fun c_58 => ?_)
        · exact absurd rfl c_58
        · refine r_iload_n dX1_addTest_61 rfl ?_
          refine r_iconst (v := 1) dX1_addTest_62 (by decide) ?_
          refine r_isub dX1_addTest_63 ?_
          refine r_goto (tgt := 78) dX1_addTest_64 (by decide) ?_
          refine r_iast (n) dX1_addTest_78 (ks_H (by assumption) (by decide)) (i2 _) (bH2 6 hq (by decide) (by decide) hn) ?_
          refine r_aload_n dX1_addTest_79 rfl ?_
          refine r_getR (j := q + 4) dX1_addTest_80 k_X1_21 (by assumption) (by decide) rfl (rf_H (by assumption) (by decide)) ?_
          refine r_aload_n dX1_addTest_83 rfl ?_
          refine r_getI dX1_addTest_84 k_X1_37 (by assumption) (by decide) rfl ?_
          refine r_iconst (v := 0) dX1_addTest_87 (by decide) ?_
          refine r_iast (n) dX1_addTest_88 (ks_H (by assumption) (by decide)) (i3 _ _) (bH2 3 hq (by decide) (by decide) hn) ?_
          refine r_aload_n dX1_addTest_89 rfl ?_
          refine r_dup dX1_addTest_90 rfl ?_
          refine r_getI dX1_addTest_91 k_X1_37 (by assumption) (by decide) rfl ?_
          refine r_iconst (v := 1) dX1_addTest_94 (by decide) ?_
          refine r_iadd dX1_addTest_95 ?_
          rw [setI_ne (by omega), i3, nI_1]
          refine r_putI dX1_addTest_96 k_X1_37 (by assumption) (by decide) rfl rfl rfl rfl ?_
          refine r_return dX1_addTest_99 rfl ?_
          exact ⟨rfl, rfl⟩
    · exact absurd (nI_lt (a := n) (b := 100) (by omega) (by omega)) c_6
  · refine r_aload_n dX1_addTest_0 rfl ?_
    refine r_getI dX1_addTest_1 k_X1_37 (by assumption) (by decide) rfl ?_
    refine r_bipush (v := 100) dX1_addTest_4 (by decide) ?_
    rw [h0]
    refine r_icmp_lt (tgt := 10) dX1_addTest_6 (by decide) (fun c_6 => ?_) (fun c_6 => ?_)
    · refine r_aload_n dX1_addTest_10 rfl ?_
      refine r_getR (j := q + 5) dX1_addTest_11 k_X1_24 (by assumption) (by decide) rfl (rf_H (by assumption) (by decide)) ?_
      refine r_aload_n dX1_addTest_14 rfl ?_
      refine r_getI dX1_addTest_15 k_X1_37 (by assumption) (by decide) rfl ?_
      refine r_iload_n dX1_addTest_18 rfl ?_
      refine r_iast (n) dX1_addTest_19 (ks_H (by assumption) (by decide)) h0 (bH2 4 hq (by decide) (by decide) hn) ?_
      refine r_aload_n dX1_addTest_20 rfl ?_
      refine r_getR (j := q + 6) dX1_addTest_21 k_X1_27 (by assumption) (by decide) rfl (rf_H (by assumption) (by decide)) ?_
      refine r_aload_n dX1_addTest_24 rfl ?_
      refine r_getI dX1_addTest_25 k_X1_37 (by assumption) (by decide) rfl ?_
      refine r_iload_n dX1_addTest_28 rfl ?_
      refine r_if_ne (tgt := 36) dX1_addTest_29 (by decide) (fun c_29 => ?_) (fun c_29 => ?_)
      · refine r_iload_n dX1_addTest_36 rfl ?_
        refine r_iconst (v := 1) dX1_addTest_37 (by decide) ?_
        refine r_icmp_ne (tgt := 45) dX1_addTest_38 (by decide) (fun c_38 => ?_) (fun c_38 => ?_)
        · exact absurd rfl c_38
        · refine r_iload_n dX1_addTest_41 rfl ?_
          refine r_goto (tgt := 48) dX1_addTest_42 (by decide) ?_
          refine r_iast (n) dX1_addTest_48 (ks_H (by assumption) (by decide)) i1 (bH2 5 hq (by decide) (by decide) hn) ?_
          refine r_aload_n dX1_addTest_49 rfl ?_
          refine r_getR (j := q + 7) dX1_addTest_50 k_X1_30 (by assumption) (by decide) rfl (rf_H (by assumption) (by decide)) ?_
          refine r_aload_n dX1_addTest_53 rfl ?_
          refine r_getI dX1_addTest_54 k_X1_37 (by assumption) (by decide) rfl ?_
          refine r_iload_n dX1_addTest_57 rfl ?_
          refine r_if_ne (tgt := 67) dX1_addTest_58 (by decide) (fun c_58 => ?_) (fun c_58 => ?_)
          · refine r_iload_n dX1_addTest_67 rfl ?_
            refine r_iconst (v := 1) dX1_addTest_68 (by decide) ?_
            refine r_icmp_ne (tgt := 76) dX1_addTest_69 (by decide) (fun c_69 => ?_) (fun c_69 => ?_)
            · exact absurd rfl c_69
            · refine r_iload_n dX1_addTest_72 rfl ?_
              refine r_goto (tgt := 78) dX1_addTest_73 (by decide) ?_
              refine r_iast (n) dX1_addTest_78 (ks_H (by assumption) (by decide)) (i2 _) (bH2 6 hq (by decide) (by decide) hn) ?_
              refine r_aload_n dX1_addTest_79 rfl ?_
              refine r_getR (j := q + 4) dX1_addTest_80 k_X1_21 (by assumption) (by decide) rfl (rf_H (by assumption) (by decide)) ?_
              refine r_aload_n dX1_addTest_83 rfl ?_
              refine r_getI dX1_addTest_84 k_X1_37 (by assumption) (by decide) rfl ?_
              refine r_iconst (v := 0) dX1_addTest_87 (by decide) ?_
              refine r_iast (n) dX1_addTest_88 (ks_H (by assumption) (by decide)) (i3 _ _) (bH2 3 hq (by decide) (by decide) hn) ?_
              refine r_aload_n dX1_addTest_89 rfl ?_
              refine r_dup dX1_addTest_90 rfl ?_
              refine r_getI dX1_addTest_91 k_X1_37 (by assumption) (by decide) rfl ?_
              refine r_iconst (v := 1) dX1_addTest_94 (by decide) ?_
              refine r_iadd dX1_addTest_95 ?_
              rw [setI_ne (by omega), i3, nI_1]
              refine r_putI dX1_addTest_96 k_X1_37 (by assumption) (by decide) rfl rfl rfl rfl ?_
              refine r_return dX1_addTest_99 rfl ?_
              exact ⟨rfl, rfl⟩
          · exact absurd c_58 (by decide)
      · exact absurd c_29 (by decide)
    · exact absurd (nI_lt (a := n) (b := 100) (by omega) (by omega)) c_6
  · refine r_aload_n dX1_addTest_0 rfl ?_
    refine r_getI dX1_addTest_1 k_X1_37 (by assumption) (by decide) rfl ?_
    refine r_bipush (v := 100) dX1_addTest_4 (by decide) ?_
    rw [h0]
    refine r_icmp_lt (tgt := 10) dX1_addTest_6 (by decide) (fun c_6 => ?_) (fun c_6 => ?_)
    · refine r_aload_n dX1_addTest_10 rfl ?_
      refine r_getR (j := q + 5) dX1_addTest_11 k_X1_24 (by assumption) (by decide) rfl (rf_H (by assumption) (by decide)) ?_
      refine r_aload_n dX1_addTest_14 rfl ?_
      refine r_getI dX1_addTest_15 k_X1_37 (by assumption) (by decide) rfl ?_
      refine r_iload_n dX1_addTest_18 rfl ?_
      refine r_iast (n) dX1_addTest_19 (ks_H (by assumption) (by decide)) h0 (bH2 4 hq (by decide) (by decide) hn) ?_
      refine r_aload_n dX1_addTest_20 rfl ?_
      refine r_getR (j := q + 6) dX1_addTest_21 k_X1_27 (by assumption) (by decide) rfl (rf_H (by assumption) (by decide)) ?_
      refine r_aload_n dX1_addTest_24 rfl ?_
      refine r_getI dX1_addTest_25 k_X1_37 (by assumption) (by decide) rfl ?_
      refine r_iload_n dX1_addTest_28 rfl ?_
      refine r_if_ne (tgt := 36) dX1_addTest_29 (by decide) (fun c_29 => ?_) (fun c_29 => ?_)
      · refine r_iload_n dX1_addTest_36 rfl ?_
        refine r_iconst (v := 1) dX1_addTest_37 (by decide) ?_
        refine r_icmp_ne (tgt := 45) dX1_addTest_38 (by decide) (fun c_38 => ?_) (fun c_38 => ?_)
        · refine r_iload_n dX1_addTest_45 rfl ?_
          refine r_iconst (v := 1) dX1_addTest_46 (by decide) ?_
          refine r_iadd dX1_addTest_47 ?_
          refine r_iast (n) dX1_addTest_48 (ks_H (by assumption) (by decide)) i1 (bH2 5 hq (by decide) (by decide) hn) ?_
          refine r_aload_n dX1_addTest_49 rfl ?_
          refine r_getR (j := q + 7) dX1_addTest_50 k_X1_30 (by assumption) (by decide) rfl (rf_H (by assumption) (by decide)) ?_
          refine r_aload_n dX1_addTest_53 rfl ?_
          refine r_getI dX1_addTest_54 k_X1_37 (by assumption) (by decide) rfl ?_
          refine r_iload_n dX1_addTest_57 rfl ?_
          refine r_if_ne (tgt := 67) dX1_addTest_58 (by decide) (fun c_58 => ?_) (fun c_58 => ?_)
          · refine r_iload_n dX1_addTest_67 rfl ?_
            refine r_iconst (v := 1) dX1_addTest_68 (by decide) ?_
            refine r_icmp_ne (tgt := 76) dX1_addTest_69 (by decide) (fun c_69 => ?_) (fun c_69 => ?_)
            · refine r_bipush (v := 99) dX1_addTest_76 (by decide) ?_
              refine r_iast (n) dX1_addTest_78 (ks_H (by assumption) (by decide)) (i2 _) (bH2 6 hq (by decide) (by decide) hn) ?_
              refine r_aload_n dX1_addTest_79 rfl ?_
              refine r_getR (j := q + 4) dX1_addTest_80 k_X1_21 (by assumption) (by decide) rfl (rf_H (by assumption) (by decide)) ?_
              refine r_aload_n dX1_addTest_83 rfl ?_
              refine r_getI dX1_addTest_84 k_X1_37 (by assumption) (by decide) rfl ?_
              refine r_iconst (v := 0) dX1_addTest_87 (by decide) ?_
              refine r_iast (n) dX1_addTest_88 (ks_H (by assumption) (by decide)) (i3 _ _) (bH2 3 hq (by decide) (by decide) hn) ?_
              refine r_aload_n dX1_addTest_89 rfl ?_
              refine r_dup dX1_addTest_90 rfl ?_
              refine r_getI dX1_addTest_91 k_X1_37 (by assumption) (by decide) rfl ?_
              refine r_iconst (v := 1) dX1_addTest_94 (by decide) ?_
              refine r_iadd dX1_addTest_95 ?_
              rw [setI_ne (by omega), i3, nI_1]
              refine r_putI dX1_addTest_96 k_X1_37 (by assumption) (by decide) rfl rfl rfl rfl ?_
              refine r_return dX1_addTest_99 rfl ?_
              exact ⟨rfl, rfl⟩
            · exact absurd c_69 (by decide)
          · exact absurd c_58 (by decide)
        · exact absurd c_38 (by decide)
      · exact absurd c_29 (by decide)
    · exact absurd (nI_lt (a := n) (b := 100) (by omega) (by omega)) c_6
theorem DBl.test {h : Hp} {q f w v : Nat} {acc : List Int} (H : DBl h q acc) (hl : acc.length < 100) (hw : w ≤ 2) (hv : v ≤ 99) : DBl (setI (setI (setI (setI (setI h (q + 5) acc.length (nI f)) (q + 6) acc.length (lvS w v)) (q + 7) acc.length (mvS w v)) (q + 4) acc.length 0) q 8 (nI (acc.length + 1))) q (acc ++ [((1000 * f + 100 * w + v : Nat) : Int)]) := by
  refine ⟨by rw [List.length_append]; exact setI_at, fun j u e => ?_⟩
  by_cases hj : j < acc.length
  · rw [List.getElem?_append_left hj] at e
    refine (H.2 j u e).eq (fun a h1 h2 => ?_)
    rw [setI_ne (by omega), setI_nj (by omega), setI_nj (by omega), setI_nj (by omega), setI_nj (by omega)]
  · by_cases hj2 : j = acc.length
    · subst hj2
      rw [List.getElem?_append_right (Nat.le_refl _), Nat.sub_self] at e
      have : ((1000 * f + 100 * w + v : Nat) : Int) = u := Option.some.inj e
      subst this
      unfold DCd
      rw [if_neg (by omega), if_neg (by omega), if_neg (by omega), Int.toNat_natCast, Nat.zero_add]
      have d1 : (1000 * f + 100 * w + v) / 1000 = f := by omega
      have d2 : (1000 * f + 100 * w + v) / 100 % 10 = w := by omega
      have d3 : (1000 * f + 100 * w + v) % 100 = v := by omega
      refine ⟨by omega, ?_, ?_, ?_, ?_⟩
      · rw [setI_ne (by omega), setI_at]
      · rw [setI_ne (by omega), setI_ne (by omega), setI_ne (by omega), setI_ne (by omega), setI_at, d1]
      · rw [setI_ne (by omega), setI_ne (by omega), setI_ne (by omega), setI_at, leastS, d2, d3]; rfl
      · rw [setI_ne (by omega), setI_ne (by omega), setI_at, mostS, d2, d3]; rfl
    · rw [List.getElem?_eq_none (by rw [List.length_append]; show acc.length + 1 ≤ j; omega)] at e
      cases e
set_option maxRecDepth 100000 in
theorem m_X1_clear {G : WT} {l : Launch} (hG : GOK G) {h : Hp} {q : Nat} (hq : ksh q = 1) : Cl G l 1 yX1_clear cX1_clear 1 none [.ref (gA G q)] h (fun r h' => r = none ∧ h' = setI (setI (setI (setI (setI h q 7 0) q 8 0) q 9 8) q 10 0) q 11 1) := by
  refine Cl.of hG (by decide) (Nat.le_of_ble_eq_true rfl) ?_
  show Wp G l 1 RX1 cX1_clear 1 none 0 [.ref (gA G q)] [] h _
  refine r_aload_n dX1_clear_0 rfl ?_
  refine r_iconst (v := 0) dX1_clear_1 (by decide) ?_
  refine r_putI dX1_clear_2 k_X1_33 (by assumption) (by decide) rfl rfl rfl rfl ?_
  refine r_aload_n dX1_clear_5 rfl ?_
  refine r_iconst (v := 0) dX1_clear_6 (by decide) ?_
  refine r_putI dX1_clear_7 k_X1_37 (by assumption) (by decide) rfl rfl rfl rfl ?_
  refine r_aload_n dX1_clear_10 rfl ?_
  refine r_bipush (v := 8) dX1_clear_11 (by decide) ?_
  refine r_putI dX1_clear_13 k_X1_40 (by assumption) (by decide) rfl rfl rfl rfl ?_
  refine r_aload_n dX1_clear_16 rfl ?_
  refine r_iconst (v := 0) dX1_clear_17 (by decide) ?_
  refine r_putI dX1_clear_18 k_X1_43 (by assumption) (by decide) rfl rfl rfl rfl ?_
  refine r_aload_n dX1_clear_21 rfl ?_
  refine r_iconst (v := 1) dX1_clear_22 (by decide) ?_
  refine r_putI dX1_clear_23 k_X1_46 (by assumption) (by decide) rfl rfl rfl rfl ?_
  refine r_return dX1_clear_26 rfl ?_
  exact ⟨rfl, rfl⟩
/-! the developers' reader -/
def DAt (h : Hp) (X : Tx) (a : Nat) : Prop := (h.1 46 1 = nI X.1 ∧ ∀ j, j < X.1 → h.1 47 j = nI (X.2 j)) ∧ TxOK X ∧ h.1 46 2 = nI a ∧ a ≤ X.1
def dnF (a i : Nat) : Bool := a == 46 && (i == 2 || i == 3)
theorem DAt.mv {h : Hp} {X : Tx} {a b : Nat} (H : DAt h X a) (hb : b ≤ X.1) : DAt (setI h 46 2 (nI b)) X b := ⟨⟨by rw [setI_nj (by decide)]; exact H.1.1, fun j hj => by rw [setI_ne (by decide)]; exact H.1.2 j hj⟩, H.2.1, setI_at, hb⟩
theorem DAt.fr {h h' : Hp} {X : Tx} {a : Nat} {S : Nat → Nat → Bool} (H : DAt h X a) (hF : Fr S h h') (s1 : S 46 1 = false) (s2 : ∀ j, S 47 j = false) (s3 : S 46 2 = false) : DAt h' X a := ⟨⟨by rw [hF.1 _ _ s1]; exact H.1.1, fun j hj => by rw [hF.1 _ _ (s2 j)]; exact H.1.2 j hj⟩, H.2.1, by rw [hF.1 _ _ s3]; exact H.2.2.1, H.2.2.2⟩
set_option maxRecDepth 100000 in
theorem m_X2_sees {G : WT} {l : Launch} (hG : GOK G) {h : Hp} {X : Tx} {a c : Nat} (H : DAt h X a) (hc : c < 128) : Cl G l 1 yX2_sees cX2_sees 2 (some .boolean) [.ref (gA G 46), .int (nI c)] h (fun r h' => r = some (.int (b01 (decide (nx X a = c)))) ∧ h' = h) := by
  refine Cl.of hG (by decide) (Nat.le_of_ble_eq_true rfl) ?_
  show Wp G l 1 RX2 cX2_sees 2 (some .boolean) 0 [.ref (gA G 46), .int (nI c)] [] h _
  have hX := H.2.1.1
  have ha := H.2.2.2
  by_cases h1 : a < X.1
  · have h2 := H.2.1.2 a h1
    have e : nx X a = X.2 a := by rw [nx, if_pos h1]
    refine r_aload_n dX2_sees_0 rfl ?_
    refine r_getI dX2_sees_1 k_X2_19 rfl (by decide) rfl ?_
    refine r_aload_n dX2_sees_4 rfl ?_
    refine r_getI dX2_sees_5 k_X2_15 rfl (by decide) rfl ?_
    rw [H.2.2.1, H.1.1]
    refine r_icmp_ge (tgt := 28) dX2_sees_8 (by decide) (fun c_8 => ?_) (fun c_8 => ?_)
    · exact absurd c_8 (nI_ge (by omega) (by omega))
    · refine r_aload_n dX2_sees_11 rfl ?_
      refine r_getR (j := 47) dX2_sees_12 k_X2_9 rfl (by decide) rfl rfl ?_
      refine r_aload_n dX2_sees_15 rfl ?_
      refine r_getI dX2_sees_16 k_X2_19 rfl (by decide) rfl ?_
      refine r_cald (a) dX2_sees_19 rfl H.2.2.1 (show a < 100 by omega) ?_
      rw [H.1.2 a h1]
      refine r_iload_n dX2_sees_20 rfl ?_
      refine r_icmp_ne (tgt := 28) dX2_sees_21 (by decide) (fun c_21 => ?_) (fun c_21 => ?_)
      · refine r_iconst (v := 0) dX2_sees_28 (by decide) ?_
        refine r_ireturn dX2_sees_29 ⟨_, rfl, rfl⟩ ?_
        exact ⟨by rw [decide_eq_false (by rw [e]; exact fun y => c_21 (by rw [y]))]; rfl, rfl⟩
      · refine r_iconst (v := 1) dX2_sees_24 (by decide) ?_
        refine r_goto (tgt := 29) dX2_sees_25 (by decide) ?_
        refine r_ireturn dX2_sees_29 ⟨_, rfl, rfl⟩ ?_
        exact ⟨by rw [decide_eq_true (by rw [e]; exact (nI_eq' (by omega) (by omega)).mp c_21)]; rfl, rfl⟩
  · have e : nx X a = 200 := by rw [nx, if_neg h1]
    refine r_aload_n dX2_sees_0 rfl ?_
    refine r_getI dX2_sees_1 k_X2_19 rfl (by decide) rfl ?_
    refine r_aload_n dX2_sees_4 rfl ?_
    refine r_getI dX2_sees_5 k_X2_15 rfl (by decide) rfl ?_
    rw [H.2.2.1, H.1.1]
    refine r_icmp_ge (tgt := 28) dX2_sees_8 (by decide) (fun c_8 => ?_) (fun c_8 => ?_)
    · refine r_iconst (v := 0) dX2_sees_28 (by decide) ?_
      refine r_ireturn dX2_sees_29 ⟨_, rfl, rfl⟩ ?_
      exact ⟨by rw [decide_eq_false (by omega)]; rfl, rfl⟩
    · exact absurd (nI_le (by omega) (by omega)) c_8
set_option maxRecDepth 100000 in
theorem m_X2_takes {G : WT} {l : Launch} (hG : GOK G) {h : Hp} {X : Tx} {a c : Nat} (H : DAt h X a) (hc : c < 128) : Cl G l 2 yX2_takes cX2_takes 2 (some .boolean) [.ref (gA G 46), .int (nI c)] h (fun r h' => (nx X a = c → r = some (.int 1) ∧ h' = setI h 46 2 (nI (a + 1))) ∧ (¬ nx X a = c → r = some (.int 0) ∧ h' = h)) := by
  refine Cl.of hG (by decide) (Nat.le_of_ble_eq_true rfl) ?_
  show Wp G l 2 RX2 cX2_takes 2 (some .boolean) 0 [.ref (gA G 46), .int (nI c)] [] h _
  refine r_aload_n dX2_takes_0 rfl ?_
  refine r_iload_n dX2_takes_1 rfl ?_
  refine r_callV dX2_takes_2 l_X2_39 o_X2_sees v_X2_sees rfl (by decide) rfl rfl (m_X2_sees hG H hc) (by decide) rfl (Nat.le_of_ble_eq_true rfl) (fun r2 h2 hq2 => ?_)
  obtain ⟨rfl, e2⟩ := hq2
  rw [e2]
  clear e2 h2
  refine r_if_ne (tgt := 10) dX2_takes_5 (by decide) (fun c_5 => ?_) (fun c_5 => ?_)
  · refine r_aload_n dX2_takes_10 rfl ?_
    refine r_dup dX2_takes_11 rfl ?_
    refine r_getI dX2_takes_12 k_X2_19 rfl (by decide) rfl ?_
    refine r_iconst (v := 1) dX2_takes_15 (by decide) ?_
    refine r_iadd dX2_takes_16 ?_
    rw [H.2.2.1, nI_1]
    refine r_putI dX2_takes_17 k_X2_19 rfl (by decide) rfl rfl rfl rfl ?_
    refine r_iconst (v := 1) dX2_takes_20 (by decide) ?_
    refine r_ireturn dX2_takes_21 ⟨_, rfl, rfl⟩ ?_
    exact ⟨fun _ => ⟨rfl, rfl⟩, fun y => absurd (of_decide_eq_true (b01_n0.mp c_5)) y⟩
  · refine r_iconst (v := 0) dX2_takes_8 (by decide) ?_
    refine r_ireturn dX2_takes_9 ⟨_, rfl, rfl⟩ ?_
    exact ⟨fun y => absurd y (of_decide_eq_false (b01_0.mp c_5)), fun _ => ⟨rfl, rfl⟩⟩
theorem dnum_91 {G : WT} {l : Launch} (hG : GOK G) {h : Hp} {k : Nat} {Q : Option Value → Hp → Prop} (hk : k ≤ 2) (c : Q (some (.int (b01 (decide (0 < k))))) h) : Wp G l 1 RX2 cX2_readNumber 2 (some .boolean) 91 [.ref (gA G 46), .int (nI k)] [] h Q := by
  by_cases h0 : k = 0
  · subst h0
    refine r_iload_n dX2_readNumber_91 rfl ?_
    refine r_if_le (tgt := 99) dX2_readNumber_92 (by decide) (fun c_92 => ?_) (fun c_92 => ?_)
    · refine r_iconst (v := 0) dX2_readNumber_99 (by decide) ?_
      refine r_ireturn dX2_readNumber_100 ⟨_, rfl, rfl⟩ ?_
      exact c
    · exact absurd (Int32.le_refl _) c_92
  · rw [decide_eq_true (by omega)] at c
    refine r_iload_n dX2_readNumber_91 rfl ?_
    refine r_if_le (tgt := 99) dX2_readNumber_92 (by decide) (fun c_92 => ?_) (fun c_92 => ?_)
    · exact absurd c_92 (nI_ge (a := 0) (by omega) (by omega))
    · refine r_iconst (v := 1) dX2_readNumber_95 (by decide) ?_
      refine r_goto (tgt := 100) dX2_readNumber_96 (by decide) ?_
      refine r_ireturn dX2_readNumber_100 ⟨_, rfl, rfl⟩ ?_
      exact c
theorem dnum_stop {G : WT} {l : Launch} (hG : GOK G) {h : Hp} {X : Tx} {a k : Nat} {Q : Option Value → Hp → Prop} (hk : k ≤ 2) (H : DAt h X a) (hd : k = 2 ∨ digS (nx X a) = false) (c : Q (some (.int (b01 (decide (0 < k))))) h) : Wp G l 1 RX2 cX2_readNumber 2 (some .boolean) 7 [.ref (gA G 46), .int (nI k)] [] h Q := by
  have hX := H.2.1.1
  have ha := H.2.2.2
  have k91 := dnum_91 (l := l) hG hk c
  by_cases h2 : k = 2
  · subst h2
    refine r_iload_n dX2_readNumber_7 rfl ?_
    refine r_iconst (v := 2) dX2_readNumber_8 (by decide) ?_
    refine r_icmp_ge (tgt := 91) dX2_readNumber_9 (by decide) (fun c_9 => ?_) (fun c_9 => ?_)
    · exact k91
    · exact absurd (Int32.le_refl _) c_9
  · have hd : ¬ (48 ≤ nx X a ∧ nx X a ≤ 57) := of_decide_eq_false (hd.resolve_left h2)
    by_cases h1 : a < X.1
    · have e : nx X a = X.2 a := by rw [nx, if_pos h1]
      have h5 := H.2.1.2 a h1
      refine r_iload_n dX2_readNumber_7 rfl ?_
      refine r_iconst (v := 2) dX2_readNumber_8 (by decide) ?_
      refine r_icmp_ge (tgt := 91) dX2_readNumber_9 (by decide) (fun c_9 => ?_) (fun c_9 => ?_)
      · exact absurd c_9 (nI_ge (a := k) (b := 2) (by omega) (by omega))
      · refine r_aload_n dX2_readNumber_12 rfl ?_
        refine r_getI dX2_readNumber_13 k_X2_19 rfl (by decide) rfl ?_
        refine r_aload_n dX2_readNumber_16 rfl ?_
        refine r_getI dX2_readNumber_17 k_X2_15 rfl (by decide) rfl ?_
        rw [H.2.2.1, H.1.1]
        refine r_icmp_ge (tgt := 91) dX2_readNumber_20 (by decide) (fun c_20 => ?_) (fun c_20 => ?_)
        · exact absurd c_20 (nI_ge (by omega) (by omega))
        · refine r_aload_n dX2_readNumber_23 rfl ?_
          refine r_getR (j := 47) dX2_readNumber_24 k_X2_9 rfl (by decide) rfl rfl ?_
          refine r_aload_n dX2_readNumber_27 rfl ?_
          refine r_getI dX2_readNumber_28 k_X2_19 rfl (by decide) rfl ?_
          refine r_cald (a) dX2_readNumber_31 rfl H.2.2.1 (show a < 100 by omega) ?_
          rw [H.1.2 a h1]
          refine r_bipush (v := 48) dX2_readNumber_32 (by decide) ?_
          refine r_icmp_lt (tgt := 91) dX2_readNumber_34 (by decide) (fun c_34 => ?_) (fun c_34 => ?_)
          · exact k91
          · refine r_aload_n dX2_readNumber_37 rfl ?_
            refine r_getR (j := 47) dX2_readNumber_38 k_X2_9 rfl (by decide) rfl rfl ?_
            refine r_aload_n dX2_readNumber_41 rfl ?_
            refine r_getI dX2_readNumber_42 k_X2_19 rfl (by decide) rfl ?_
            refine r_cald (a) dX2_readNumber_45 rfl H.2.2.1 (show a < 100 by omega) ?_
            rw [H.1.2 a h1]
            refine r_bipush (v := 57) dX2_readNumber_46 (by decide) ?_
            refine r_icmp_gt (tgt := 91) dX2_readNumber_48 (by decide) (fun c_48 => ?_) (fun c_48 => ?_)
            · exact k91
            · exfalso
              have y1 : ¬ X.2 a < 48 := fun y => c_34 (nI_lt (b := 48) (by omega) (by omega))
              have y2 : ¬ 57 < X.2 a := fun y => c_48 (nI_lt (a := 57) (by omega) (by omega))
              omega
              skip
    · refine r_iload_n dX2_readNumber_7 rfl ?_
      refine r_iconst (v := 2) dX2_readNumber_8 (by decide) ?_
      refine r_icmp_ge (tgt := 91) dX2_readNumber_9 (by decide) (fun c_9 => ?_) (fun c_9 => ?_)
      · exact absurd c_9 (nI_ge (a := k) (b := 2) (by omega) (by omega))
      · refine r_aload_n dX2_readNumber_12 rfl ?_
        refine r_getI dX2_readNumber_13 k_X2_19 rfl (by decide) rfl ?_
        refine r_aload_n dX2_readNumber_16 rfl ?_
        refine r_getI dX2_readNumber_17 k_X2_15 rfl (by decide) rfl ?_
        rw [H.2.2.1, H.1.1]
        refine r_icmp_ge (tgt := 91) dX2_readNumber_20 (by decide) (fun c_20 => ?_) (fun c_20 => ?_)
        · exact k91
        · exact absurd (nI_le (by omega) (by omega)) c_20
theorem dnum_step {G : WT} {l : Launch} (hG : GOK G) {h : Hp} {X : Tx} {a v k : Nat} {Q : Option Value → Hp → Prop} (hk : k < 2) (hv : v ≤ 9) (H : DAt h X a) (hd : digS (nx X a) = true) (h2 : h.1 46 3 = nI v)
    (c : Wp G l 1 RX2 cX2_readNumber 2 (some .boolean) 7 [.ref (gA G 46), .int (nI (k + 1))] [] (setI (setI h 46 3 (nI (10 * v + (nx X a - 48)))) 46 2 (nI (a + 1))) Q) : Wp G l 1 RX2 cX2_readNumber 2 (some .boolean) 7 [.ref (gA G 46), .int (nI k)] [] h Q := by
  have hX := H.2.1.1
  have ha := H.2.2.2
  have q1 := of_decide_eq_true hd
  have h1 := nx_in2 (X := X) (a := a) (by omega)
  have e : nx X a = X.2 a := by rw [nx, if_pos h1]
  rw [e] at q1 c
  refine r_iload_n dX2_readNumber_7 rfl ?_
  refine r_iconst (v := 2) dX2_readNumber_8 (by decide) ?_
  refine r_icmp_ge (tgt := 91) dX2_readNumber_9 (by decide) (fun c_9 => ?_) (fun c_9 => ?_)
  · exact absurd c_9 (nI_ge (a := k) (b := 2) (by omega) (by omega))
  · refine r_aload_n dX2_readNumber_12 rfl ?_
    refine r_getI dX2_readNumber_13 k_X2_19 rfl (by decide) rfl ?_
    refine r_aload_n dX2_readNumber_16 rfl ?_
    refine r_getI dX2_readNumber_17 k_X2_15 rfl (by decide) rfl ?_
    rw [H.2.2.1, H.1.1]
    refine r_icmp_ge (tgt := 91) dX2_readNumber_20 (by decide) (fun c_20 => ?_) (fun c_20 => ?_)
    · exact absurd c_20 (nI_ge (by omega) (by omega))
    · refine r_aload_n dX2_readNumber_23 rfl ?_
      refine r_getR (j := 47) dX2_readNumber_24 k_X2_9 rfl (by decide) rfl rfl ?_
      refine r_aload_n dX2_readNumber_27 rfl ?_
      refine r_getI dX2_readNumber_28 k_X2_19 rfl (by decide) rfl ?_
      refine r_cald (a) dX2_readNumber_31 rfl H.2.2.1 (show a < 100 by omega) ?_
      rw [H.1.2 a h1]
      refine r_bipush (v := 48) dX2_readNumber_32 (by decide) ?_
      refine r_icmp_lt (tgt := 91) dX2_readNumber_34 (by decide) (fun c_34 => ?_) (fun c_34 => ?_)
      · exact absurd ((nI_lt' (b := 48) (by omega) (by omega)).mp c_34) (by omega)
      · refine r_aload_n dX2_readNumber_37 rfl ?_
        refine r_getR (j := 47) dX2_readNumber_38 k_X2_9 rfl (by decide) rfl rfl ?_
        refine r_aload_n dX2_readNumber_41 rfl ?_
        refine r_getI dX2_readNumber_42 k_X2_19 rfl (by decide) rfl ?_
        refine r_cald (a) dX2_readNumber_45 rfl H.2.2.1 (show a < 100 by omega) ?_
        rw [H.1.2 a h1]
        refine r_bipush (v := 57) dX2_readNumber_46 (by decide) ?_
        refine r_icmp_gt (tgt := 91) dX2_readNumber_48 (by decide) (fun c_48 => ?_) (fun c_48 => ?_)
        · exact absurd ((nI_lt' (a := 57) (by omega) (by omega)).mp c_48) (by omega)
        · refine r_aload_n dX2_readNumber_51 rfl ?_
          refine r_aload_n dX2_readNumber_52 rfl ?_
          refine r_getI dX2_readNumber_53 k_X2_22 rfl (by decide) rfl ?_
          refine r_bipush (v := 10) dX2_readNumber_56 (by decide) ?_
          refine r_imul dX2_readNumber_58 ?_
          refine r_aload_n dX2_readNumber_59 rfl ?_
          refine r_getR (j := 47) dX2_readNumber_60 k_X2_9 rfl (by decide) rfl rfl ?_
          refine r_aload_n dX2_readNumber_63 rfl ?_
          refine r_getI dX2_readNumber_64 k_X2_19 rfl (by decide) rfl ?_
          refine r_cald (a) dX2_readNumber_67 rfl H.2.2.1 (show a < 100 by omega) ?_
          rw [H.1.2 a h1, h2]
          refine r_iadd dX2_readNumber_68 ?_
          refine r_bipush (v := 48) dX2_readNumber_69 (by decide) ?_
          refine r_isub dX2_readNumber_71 ?_
          rw [show nI v * 10 + nI (X.2 a) - 48 = nI (10 * v + (X.2 a - 48)) by rw [show (10 : Int32) = nI 10 from rfl, show (48 : Int32) = nI 48 from rfl, pk_mul, nI_add, pk_sub (by omega)]; congr 1; omega]
          refine r_putI dX2_readNumber_72 k_X2_22 rfl (by decide) rfl rfl rfl rfl ?_
          refine r_aload_n dX2_readNumber_75 rfl ?_
          refine r_dup dX2_readNumber_76 rfl ?_
          refine r_getI dX2_readNumber_77 k_X2_19 rfl (by decide) rfl ?_
          refine r_iconst (v := 1) dX2_readNumber_80 (by decide) ?_
          refine r_iadd dX2_readNumber_81 ?_
          rw [setI_nj (by decide), H.2.2.1, nI_1]
          refine r_putI dX2_readNumber_82 k_X2_19 rfl (by decide) rfl rfl rfl rfl ?_
          refine r_iinc dX2_readNumber_85 rfl (by first | exact nI_inc _ | rfl) (by decide) rfl rfl ?_
          dsimp only [List.set]
          refine r_goto (tgt := 7) dX2_readNumber_88 (by decide) ?_
          exact c
set_option maxRecDepth 100000 in
theorem m_X2_readNumber {G : WT} {l : Launch} (hG : GOK G) {h : Hp} {X : Tx} {a : Nat} (H : DAt h X a) : Cl G l 1 yX2_readNumber cX2_readNumber 2 (some .boolean) [.ref (gA G 46)] h (fun r h' => (numS X a = none → r = some (.int 0) ∧ DAt h' X a) ∧ (∀ b v, numS X a = some (b, v) → r = some (.int 1) ∧ DAt h' X b ∧ h'.1 46 3 = nI v) ∧ Fr dnF h h') := by
  refine Cl.of hG (by decide) (Nat.le_of_ble_eq_true rfl) ?_
  show Wp G l 1 RX2 cX2_readNumber 2 (some .boolean) 0 [.ref (gA G 46), mk0] [] h _
  have hX := H.2.1
  have F0 : Fr dnF h (setI h 46 3 0) := Fr.set rfl
  have H0 : DAt (setI h 46 3 0) X a := H.fr (Fr.set (S := fun a i => a == 46 && i == 3) rfl) rfl (fun _ => rfl) rfl
  cases d1 : digS (nx X a) with
  | false =>
    have e : numS X a = none := by rw [numS, d1, if_neg Bool.false_ne_true]
    refine r_iconst (v := 0) dX2_readNumber_0 (by decide) ?_
    refine r_istore_n dX2_readNumber_1 (by decide) rfl rfl ?_
    dsimp only [List.set]
    refine r_aload_n dX2_readNumber_2 rfl ?_
    refine r_iconst (v := 0) dX2_readNumber_3 (by decide) ?_
    refine r_putI dX2_readNumber_4 k_X2_22 rfl (by decide) rfl rfl rfl rfl ?_
    exact dnum_stop hG (k := 0) (by omega) H0 (Or.inr d1) ⟨fun _ => ⟨rfl, H0⟩, fun b v q => (by rw [e] at q; cases q), F0⟩
  | true =>
    have q1 := of_decide_eq_true d1
    have a1 := nx_in2 (X := X) (a := a) (by omega)
    have F1 : Fr dnF (setI h 46 3 0) (setI (setI (setI h 46 3 0) 46 3 (nI (10 * 0 + (nx X a - 48)))) 46 2 (nI (a + 1))) := (Fr.set rfl).tr (Fr.set rfl)
    have H1 : DAt (setI (setI (setI h 46 3 0) 46 3 (nI (10 * 0 + (nx X a - 48)))) 46 2 (nI (a + 1))) X (a + 1) := (H0.fr (Fr.set (S := fun a i => a == 46 && i == 3) rfl) rfl (fun _ => rfl) rfl).mv a1
    refine r_iconst (v := 0) dX2_readNumber_0 (by decide) ?_
    refine r_istore_n dX2_readNumber_1 (by decide) rfl rfl ?_
    dsimp only [List.set]
    refine r_aload_n dX2_readNumber_2 rfl ?_
    refine r_iconst (v := 0) dX2_readNumber_3 (by decide) ?_
    refine r_putI dX2_readNumber_4 k_X2_22 rfl (by decide) rfl rfl rfl rfl ?_
    refine dnum_step hG (v := 0) (k := 0) (by omega) (by omega) H0 d1 setI_at ?_
    cases d2 : digS (nx X (a + 1)) with
    | false =>
      have e : numS X a = some (a + 1, nx X a - 48) := by rw [numS, d1, d2, if_pos rfl, if_neg Bool.false_ne_true]
      refine dnum_stop hG (k := 1) (by omega) H1 (Or.inr d2) ⟨fun q => (by rw [e] at q; cases q), fun b v q => ?_, F0.tr F1⟩
      rw [e] at q
      cases q
      refine ⟨rfl, H1, ?_⟩
      rw [setI_nj (by decide), setI_at]
      congr 1
      omega
    | true =>
      have q2 := of_decide_eq_true d2
      have a2 := nx_in2 (X := X) (a := a + 1) (by omega)
      have e : numS X a = some (a + 2, 10 * (nx X a - 48) + (nx X (a + 1) - 48)) := by rw [numS, d1, d2, if_pos rfl, if_pos rfl]
      refine dnum_step hG (v := nx X a - 48) (k := 1) (by omega) (by omega) H1 d2 (by rw [setI_nj (by decide), setI_at]; congr 1; omega) ?_
      have H2 := (H1.fr (Fr.set (S := fun a i => a == 46 && i == 3) (k := 46) (i := 3) (v := nI (10 * (nx X a - 48) + (nx X (a + 1) - 48))) rfl) rfl (fun _ => rfl) rfl).mv (b := a + 2) a2
      refine dnum_stop hG (k := 2) (by omega) H2 (Or.inl rfl) ⟨fun q => (by rw [e] at q; cases q), fun b v q => ?_, (F0.tr F1).tr ((Fr.set rfl).tr (Fr.set rfl))⟩
      rw [e] at q
      cases q
      refine ⟨rfl, H2, ?_⟩
      rw [setI_nj (by decide), setI_at]
