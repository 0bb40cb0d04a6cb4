/-! judge, hasStretch, shift -/
set_option maxRecDepth 100000 in
theorem m_X5_hasStretch {G : WT} {l : Launch} (hG : GOK G) {h : Hp} {tp n : Nat} {i m : Int32} (hp : ksh tp = 5) (hn : n ≤ 60) (h0 : h.1 tp 2 = nI n) : Cl G l 1 yX5_hasStretch cX5_hasStretch 3 (some .boolean) [.ref (gA G tp), .int i, .int m] h (fun r h' => r = some (.int (b01 (decide (¬ (m.toInt < 0 ∨ i.toInt < 0 ∨ (n : Int) < i.toInt + m.toInt))))) ∧ h' = h) := by
  refine Cl.of hG (by decide) (Nat.le_of_ble_eq_true rfl) ?_
  show Wp G l 1 RX5 cX5_hasStretch 3 (some .boolean) 0 [.ref (gA G tp), .int i, .int m] [] h _
  have k0 : (0 : Int32).toInt = 0 := rfl
  have z0 : ∀ x : Int32, x < 0 ↔ x.toInt < 0 := fun x => by rw [Int32.lt_iff_toInt_lt, k0]
  by_cases e1 : m.toInt < 0
  · rw [decide_eq_false (fun y => y (Or.inl e1))]
    refine r_iload_n dX5_hasStretch_0 rfl ?_
    refine r_if_lt (tgt := 30) dX5_hasStretch_1 (by decide) (fun c_1 => ?_) (fun c_1 => ?_)
    · refine r_iconst (v := 0) dX5_hasStretch_30 (by decide) ?_
      refine r_ireturn dX5_hasStretch_31 ⟨_, rfl, rfl⟩ ?_
      exact ⟨rfl, rfl⟩
    · exact absurd ((z0 m).mpr e1) c_1
  · by_cases e2 : (n : Int) < m.toInt
    · by_cases e3 : i.toInt < 0
      · rw [decide_eq_false (fun y => y (Or.inr (Or.inl e3)))]
        refine r_iload_n dX5_hasStretch_0 rfl ?_
        refine r_if_lt (tgt := 30) dX5_hasStretch_1 (by decide) (fun c_1 => ?_) (fun c_1 => ?_)
        · exact absurd ((z0 m).mp c_1) e1
        · refine r_iload_n dX5_hasStretch_4 rfl ?_
          refine r_aload_n dX5_hasStretch_5 rfl ?_
          refine r_getI dX5_hasStretch_6 k_X5_19 (by assumption) (by decide) rfl ?_
          rw [h0]
          refine r_icmp_gt (tgt := 30) dX5_hasStretch_9 (by decide) (fun c_9 => ?_) (fun c_9 => ?_)
          · refine r_iconst (v := 0) dX5_hasStretch_30 (by decide) ?_
            refine r_ireturn dX5_hasStretch_31 ⟨_, rfl, rfl⟩ ?_
            exact ⟨rfl, rfl⟩
          · exact absurd (by rw [Int32.lt_iff_toInt_lt, nI_toInt (by omega)]; exact e2) c_9
      · rw [decide_eq_false (fun y => y (Or.inr (Or.inr (by omega))))]
        refine r_iload_n dX5_hasStretch_0 rfl ?_
        refine r_if_lt (tgt := 30) dX5_hasStretch_1 (by decide) (fun c_1 => ?_) (fun c_1 => ?_)
        · exact absurd ((z0 m).mp c_1) e1
        · refine r_iload_n dX5_hasStretch_4 rfl ?_
          refine r_aload_n dX5_hasStretch_5 rfl ?_
          refine r_getI dX5_hasStretch_6 k_X5_19 (by assumption) (by decide) rfl ?_
          rw [h0]
          refine r_icmp_gt (tgt := 30) dX5_hasStretch_9 (by decide) (fun c_9 => ?_) (fun c_9 => ?_)
          · refine r_iconst (v := 0) dX5_hasStretch_30 (by decide) ?_
            refine r_ireturn dX5_hasStretch_31 ⟨_, rfl, rfl⟩ ?_
            exact ⟨rfl, rfl⟩
          · exact absurd (by rw [Int32.lt_iff_toInt_lt, nI_toInt (by omega)]; exact e2) c_9
    · have c9 : ¬ nI n < m := fun y => by
        have := Int32.lt_iff_toInt_lt.mp y
        rw [nI_toInt (by omega)] at this
        exact e2 this
      by_cases e3 : i.toInt < 0
      · rw [decide_eq_false (fun y => y (Or.inr (Or.inl e3)))]
        refine r_iload_n dX5_hasStretch_0 rfl ?_
        refine r_if_lt (tgt := 30) dX5_hasStretch_1 (by decide) (fun c_1 => ?_) (fun c_1 => ?_)
        · exact absurd ((z0 m).mp c_1) e1
        · refine r_iload_n dX5_hasStretch_4 rfl ?_
          refine r_aload_n dX5_hasStretch_5 rfl ?_
          refine r_getI dX5_hasStretch_6 k_X5_19 (by assumption) (by decide) rfl ?_
          rw [h0]
          refine r_icmp_gt (tgt := 30) dX5_hasStretch_9 (by decide) (fun c_9 => ?_) (fun c_9 => ?_)
          · exact absurd c_9 c9
          · refine r_iload_n dX5_hasStretch_12 rfl ?_
            refine r_if_lt (tgt := 30) dX5_hasStretch_13 (by decide) (fun c_13 => ?_) (fun c_13 => ?_)
            · refine r_iconst (v := 0) dX5_hasStretch_30 (by decide) ?_
              refine r_ireturn dX5_hasStretch_31 ⟨_, rfl, rfl⟩ ?_
              exact ⟨rfl, rfl⟩
            · exact absurd ((z0 i).mpr e3) c_13
      · obtain ⟨m1, em⟩ : ∃ m1 : Nat, m = nI m1 ∧ m1 ≤ n := ⟨m.toInt.toNat, Int32.toInt_inj.mp (by rw [nI_toInt (by omega)]; omega), by omega⟩
        obtain ⟨rfl, hm⟩ := em
        have tm : (nI m1).toInt = (m1 : Int) := nI_toInt (by omega)
        have es : nI n - nI m1 = nI (n - m1) := pk_sub (by omega)
        by_cases e4 : (n : Int) < i.toInt + (nI m1).toInt
        · rw [decide_eq_false (fun y => y (Or.inr (Or.inr e4)))]
          refine r_iload_n dX5_hasStretch_0 rfl ?_
          refine r_if_lt (tgt := 30) dX5_hasStretch_1 (by decide) (fun c_1 => ?_) (fun c_1 => ?_)
          · exact absurd ((z0 _).mp c_1) e1
          · refine r_iload_n dX5_hasStretch_4 rfl ?_
            refine r_aload_n dX5_hasStretch_5 rfl ?_
            refine r_getI dX5_hasStretch_6 k_X5_19 (by assumption) (by decide) rfl ?_
            rw [h0]
            refine r_icmp_gt (tgt := 30) dX5_hasStretch_9 (by decide) (fun c_9 => ?_) (fun c_9 => ?_)
            · exact absurd c_9 c9
            · refine r_iload_n dX5_hasStretch_12 rfl ?_
              refine r_if_lt (tgt := 30) dX5_hasStretch_13 (by decide) (fun c_13 => ?_) (fun c_13 => ?_)
              · exact absurd ((z0 i).mp c_13) e3
              · refine r_iload_n dX5_hasStretch_16 rfl ?_
                refine r_aload_n dX5_hasStretch_17 rfl ?_
                refine r_getI dX5_hasStretch_18 k_X5_19 (by assumption) (by decide) rfl ?_
                refine r_iload_n dX5_hasStretch_21 rfl ?_
                refine r_isub dX5_hasStretch_22 ?_
                rw [h0, es]
                refine r_icmp_gt (tgt := 30) dX5_hasStretch_23 (by decide) (fun c_23 => ?_) (fun c_23 => ?_)
                · refine r_iconst (v := 0) dX5_hasStretch_30 (by decide) ?_
                  refine r_ireturn dX5_hasStretch_31 ⟨_, rfl, rfl⟩ ?_
                  exact ⟨rfl, rfl⟩
                · exact absurd (by rw [Int32.lt_iff_toInt_lt, nI_toInt (by omega)]; omega) c_23
        · rw [decide_eq_true (by omega)]
          refine r_iload_n dX5_hasStretch_0 rfl ?_
          refine r_if_lt (tgt := 30) dX5_hasStretch_1 (by decide) (fun c_1 => ?_) (fun c_1 => ?_)
          · exact absurd ((z0 _).mp c_1) e1
          · refine r_iload_n dX5_hasStretch_4 rfl ?_
            refine r_aload_n dX5_hasStretch_5 rfl ?_
            refine r_getI dX5_hasStretch_6 k_X5_19 (by assumption) (by decide) rfl ?_
            rw [h0]
            refine r_icmp_gt (tgt := 30) dX5_hasStretch_9 (by decide) (fun c_9 => ?_) (fun c_9 => ?_)
            · exact absurd c_9 c9
            · refine r_iload_n dX5_hasStretch_12 rfl ?_
              refine r_if_lt (tgt := 30) dX5_hasStretch_13 (by decide) (fun c_13 => ?_) (fun c_13 => ?_)
              · exact absurd ((z0 i).mp c_13) e3
              · refine r_iload_n dX5_hasStretch_16 rfl ?_
                refine r_aload_n dX5_hasStretch_17 rfl ?_
                refine r_getI dX5_hasStretch_18 k_X5_19 (by assumption) (by decide) rfl ?_
                refine r_iload_n dX5_hasStretch_21 rfl ?_
                refine r_isub dX5_hasStretch_22 ?_
                rw [h0, es]
                refine r_icmp_gt (tgt := 30) dX5_hasStretch_23 (by decide) (fun c_23 => ?_) (fun c_23 => ?_)
                · exact absurd (Int32.lt_iff_toInt_lt.mp c_23) (by rw [nI_toInt (by omega)]; omega)
                · refine r_iconst (v := 1) dX5_hasStretch_26 (by decide) ?_
                  refine r_goto (tgt := 31) dX5_hasStretch_27 (by decide) ?_
                  refine r_ireturn dX5_hasStretch_31 ⟨_, rfl, rfl⟩ ?_
                  exact ⟨rfl, rfl⟩
