theorem RHs.fr {h h' : Hp} {b : Nat} {V : Hv} {S : Nat → Nat → Bool} (H : RHs h b V) (hF : Fr S h h') (hS : ∀ j, S 142 j = false ∧ S 143 j = false ∧ S 144 j = false ∧ S 145 j = false ∧ S 146 j = false ∧ S 147 j = false) (h0 : S 134 11 = false) : RHs h' b V := by
  obtain ⟨h1, h2, h3⟩ := H
  refine ⟨?_, h2, fun c hc => ?_⟩
  · rw [hF.1 _ _ h0]
    rcases h1 with h1 | ⟨f, q1, q2, q3, q4⟩
    · exact Or.inl h1
    · exact Or.inr ⟨f, q1, q2, q3, by rw [hF.1 _ _ (hS f).1]; exact q4⟩
  · obtain ⟨q1, q2, q3⟩ := h3 c hc
    refine ⟨by rw [hF.1 _ _ (hS _).2.1]; exact q1, by rw [hF.1 _ _ (hS _).2.2.1]; exact q2, fun hs => ?_⟩
    obtain ⟨fr, z1, z2, z3, z4, z5⟩ := q3 hs
    exact ⟨fr, by rw [hF.1 _ _ (hS _).2.2.2.1]; exact z1, by rw [hF.1 _ _ (hS _).2.2.2.2.1]; exact z2, z3, fun j t hj => by rw [hF.1 _ _ (hS _).2.2.2.2.2]; exact z4 j t hj, z5⟩
theorem RHs.pile {h h' : Hp} {b : Nat} {V : Hv} (H : RHs h b V) (hF : Fr pileF h h') : RHs h' b V := H.fr hF (fun _ => ⟨rfl, rfl, rfl, rfl, rfl, rfl⟩) rfl
theorem RLt.pile {h h' : Hp} {i a : Nat} {lt : Nat → Nat} (H : RLt h i a lt) (hF : Fr pileF h h') : RLt h' i a lt := H.fr hF (fun _ => rfl) (fun _ => rfl) rfl rfl
def smF (V : Hv) (w : Nat) (lt : Nat → Nat) (c : Nat) : Nat := if isS V w c && holdsS (V.2.2.2 c) lt then V.2.2.1 c else 0
theorem sum_loop {G : WT} {l : Launch} (hG : GOK G) {b w i a : Nat} {V : Hv} {lt : Nat → Nat} (hw : w ≤ 1) : ∀ (m c : Nat) (h : Hp), RHs h b V → RLt h i a lt → c + m = V.1 → Wp G l 3 RX7 cX7_sumOf 6 (some .int) 9 [.ref (gA G 134), .int (nI w), .int (nI i), .int (nI a), .int (nI (sumTo (smF V w lt) c)), .int (nI (b + c))] [] h (fun r h' => r = some (.int (nI (sumS V w lt))) ∧ Fr pileF h h') := by
  intro m
  induction m with
  | zero =>
    intro c h H hlt hc
    have hle := H.le
    refine r_iload dX7_sumOf_9 rfl ?_
    refine r_aload_n dX7_sumOf_11 rfl ?_
    refine r_callV dX7_sumOf_12 l_X7_277 o_X7_behind v_X7_behind rfl (by decide) rfl rfl (m_X7_behind hG H) (by decide) rfl (Nat.le_of_ble_eq_true rfl) (fun r12 h12 hq12 => ?_)
    obtain ⟨rfl, e12⟩ := hq12
    rw [e12]
    clear e12 h12
    refine r_icmp_ge (tgt := 62) dX7_sumOf_15 (by decide) (fun c_15 => ?_) (fun c_15 => ?_)
    · refine r_iload dX7_sumOf_62 rfl ?_
      refine r_ireturn dX7_sumOf_64 ⟨_, rfl, rfl⟩ ?_
      exact ⟨by rw [show c = V.1 by omega]; rfl, Fr.rf⟩
    · exact absurd (nI_le (by omega) (by omega)) c_15
  | succ m ih =>
    intro c h H hlt hc
    have hle := H.le
    obtain ⟨q1, q2, q3⟩ := H.2.2 c (by omega)
    have q4 := (H.2.1.2 c (by omega)).1
    have n1 : ∀ (h1 : Hp) (z : Nat), Fr pileF h h1 → z = smF V w lt c → Wp G l 3 RX7 cX7_sumOf 6 (some .int) 9 [.ref (gA G 134), .int (nI w), .int (nI i), .int (nI a), .int (nI (sumTo (smF V w lt) c) + nI z), .int (nI (b + c + 1))] [] h1 (fun r h' => r = some (.int (nI (sumS V w lt))) ∧ Fr pileF h h') := by
      intro h1 z hF hz
      subst hz
      rw [nI_add]
      exact Wp.mono (ih (c + 1) h1 (H.pile hF) (hlt.pile hF) (by omega)) (fun r h' q => ⟨q.1, hF.tr q.2⟩)
    refine r_iload dX7_sumOf_9 rfl ?_
    refine r_aload_n dX7_sumOf_11 rfl ?_
    refine r_callV dX7_sumOf_12 l_X7_277 o_X7_behind v_X7_behind rfl (by decide) rfl rfl (m_X7_behind hG H) (by decide) rfl (Nat.le_of_ble_eq_true rfl) (fun r12 h12 hq12 => ?_)
    obtain ⟨rfl, e12⟩ := hq12
    rw [e12]
    clear e12 h12
    refine r_icmp_ge (tgt := 62) dX7_sumOf_15 (by decide) (fun c_15 => ?_) (fun c_15 => ?_)
    · exact absurd c_15 (nI_ge (by omega) (by omega))
    · refine r_iload dX7_sumOf_18 rfl ?_
      refine r_aload_n dX7_sumOf_20 rfl ?_
      refine r_getR (j := 143) dX7_sumOf_21 k_X7_62 rfl (by decide) rfl rfl ?_
      refine r_iload dX7_sumOf_24 rfl ?_
      refine r_iald (b + c) dX7_sumOf_26 rfl rfl (show b + c < 60 by omega) ?_
      rw [q1]
      refine r_iload_n dX7_sumOf_27 rfl ?_
      refine r_icmp_ne (tgt := 52) dX7_sumOf_28 (by decide) (fun c_28 => ?_) (fun c_28 => ?_)
      · have hz : 0 = smF V w lt c := by rw [smF, show isS V w c = false from by simp [isS]; exact fun q => c_28 (by rw [q])]; rfl
        refine r_iconst (v := 0) dX7_sumOf_52 (by decide) ?_
        refine r_iadd dX7_sumOf_53 ?_
        refine r_istore dX7_sumOf_54 (by decide) rfl rfl ?_
        dsimp only [List.set]
        refine r_iinc dX7_sumOf_56 rfl (by first | exact nI_inc _ | rfl) (by decide) rfl rfl ?_
        dsimp only [List.set]
        refine r_goto (tgt := 9) dX7_sumOf_59 (by decide) ?_
        first
          | exact n1 _ _ hF hz
          | exact n1 _ _ Fr.rf hz
      · have hs := (nI_eq' (by omega) (by omega)).mp c_28
        refine r_aload_n dX7_sumOf_31 rfl ?_
        refine r_iload dX7_sumOf_32 rfl ?_
        refine r_iload_n dX7_sumOf_34 rfl ?_
        refine r_iload_n dX7_sumOf_35 rfl ?_
        refine r_callV dX7_sumOf_36 l_X7_284 o_X7_holds v_X7_holds rfl (by decide) rfl rfl (m_X7_holds hG (show b + c < 60 by omega) (H.2.2 c (by omega)) (by omega) hlt) (by decide) rfl (Nat.le_of_ble_eq_true rfl) (fun r36 h36 hq36 => ?_)
        obtain ⟨rfl, hF⟩ := hq36
        refine r_if_eq (tgt := 52) dX7_sumOf_39 (by decide) (fun c_39 => ?_) (fun c_39 => ?_)
        · have hz : 0 = smF V w lt c := by rw [smF, b01_0.mp c_39]; simp
          refine r_iconst (v := 0) dX7_sumOf_52 (by decide) ?_
          refine r_iadd dX7_sumOf_53 ?_
          refine r_istore dX7_sumOf_54 (by decide) rfl rfl ?_
          dsimp only [List.set]
          refine r_iinc dX7_sumOf_56 rfl (by first | exact nI_inc _ | rfl) (by decide) rfl rfl ?_
          dsimp only [List.set]
          refine r_goto (tgt := 9) dX7_sumOf_59 (by decide) ?_
          first
            | exact n1 _ _ hF hz
            | exact n1 _ _ Fr.rf hz
        · have hz : V.2.2.1 c = smF V w lt c := by rw [smF, b01_n0.mp c_39, show isS V w c = true from by simp [isS, hs]]; rfl
          refine r_aload_n dX7_sumOf_42 rfl ?_
          refine r_getR (j := 144) dX7_sumOf_43 k_X7_65 rfl (by decide) rfl rfl ?_
          refine r_iload dX7_sumOf_46 rfl ?_
          refine r_iald (b + c) dX7_sumOf_48 rfl rfl (show b + c < 60 by omega) ?_
          rw [hF.1 _ _ rfl, q2]
          refine r_goto (tgt := 53) dX7_sumOf_49 (by decide) ?_
          refine r_iadd dX7_sumOf_53 ?_
          refine r_istore dX7_sumOf_54 (by decide) rfl rfl ?_
          dsimp only [List.set]
          refine r_iinc dX7_sumOf_56 rfl (by first | exact nI_inc _ | rfl) (by decide) rfl rfl ?_
          dsimp only [List.set]
          refine r_goto (tgt := 9) dX7_sumOf_59 (by decide) ?_
          first
            | exact n1 _ _ hF hz
            | exact n1 _ _ Fr.rf hz
set_option maxRecDepth 100000 in
theorem m_X7_sumOf {G : WT} {l : Launch} (hG : GOK G) {h : Hp} {b w i a : Nat} {V : Hv} {lt : Nat → Nat} (hw : w ≤ 1) (H : RHs h b V) (hlt : RLt h i a lt) : Cl G l 3 yX7_sumOf cX7_sumOf 6 (some .int) [.ref (gA G 134), .int (nI w), .int (nI i), .int (nI a)] h (fun r h' => r = some (.int (nI (sumS V w lt))) ∧ Fr pileF h h') := by
  refine Cl.of hG (by decide) (Nat.le_of_ble_eq_true rfl) ?_
  show Wp G l 3 RX7 cX7_sumOf 6 (some .int) 0 [.ref (gA G 134), .int (nI w), .int (nI i), .int (nI a), mk0, mk0] [] h _
  refine r_iconst (v := 0) dX7_sumOf_0 (by decide) ?_
  refine r_istore dX7_sumOf_1 (by decide) rfl rfl ?_
  dsimp only [List.set]
  refine r_aload_n dX7_sumOf_3 rfl ?_
  refine r_callV dX7_sumOf_4 l_X7_274 o_X7_begin v_X7_begin rfl (by decide) rfl rfl (m_X7_begin hG H) (by decide) rfl (Nat.le_of_ble_eq_true rfl) (fun r4 h4 hq4 => ?_)
  obtain ⟨rfl, e4⟩ := hq4
  rw [e4]
  clear e4 h4
  refine r_istore dX7_sumOf_7 (by decide) rfl rfl ?_
  dsimp only [List.set]
  exact sum_loop hG hw V.1 0 h H hlt (by omega)
set_option maxRecDepth 100000 in
theorem m_X7_worthOf {G : WT} {l : Launch} (hG : GOK G) {h : Hp} {b i a : Nat} {V : Hv} {lt : Nat → Nat} (H : RHs h b V) (hlt : RLt h i a lt) : Cl G l 4 yX7_worthOf cX7_worthOf 3 (some .int) [.ref (gA G 134), .int (nI i), .int (nI a)] h (fun r h' => r = some (.int (nI (worthS V lt))) ∧ Fr pileF h h') := by
  refine Cl.of hG (by decide) (Nat.le_of_ble_eq_true rfl) ?_
  show Wp G l 4 RX7 cX7_worthOf 3 (some .int) 0 [.ref (gA G 134), .int (nI i), .int (nI a)] [] h _
  refine r_aload_n dX7_worthOf_0 rfl ?_
  refine r_iconst (v := 0) dX7_worthOf_1 (by decide) ?_
  refine r_callV dX7_worthOf_2 l_X7_287 o_X7_hasOf v_X7_hasOf rfl (by decide) rfl rfl (m_X7_hasOf hG (w := 0) (by decide) H) (by decide) rfl (Nat.le_of_ble_eq_true rfl) (fun r2 h2 hq2 => ?_)
  obtain ⟨rfl, e2⟩ := hq2
  rw [e2]
  clear e2 h2
  refine r_if_eq (tgt := 18) dX7_worthOf_5 (by decide) (fun c_5 => ?_) (fun c_5 => ?_)
  · refine r_iconst (v := 1) dX7_worthOf_18 (by decide) ?_
    refine r_ireturn dX7_worthOf_19 ⟨_, rfl, rfl⟩ ?_
    exact ⟨by rw [worthS, b01_0.mp c_5]; rfl, Fr.rf⟩
  · refine r_aload_n dX7_worthOf_8 rfl ?_
    refine r_iconst (v := 0) dX7_worthOf_9 (by decide) ?_
    refine r_iload_n dX7_worthOf_10 rfl ?_
    refine r_iload_n dX7_worthOf_11 rfl ?_
    refine r_callV dX7_worthOf_12 l_X7_290 o_X7_sumOf v_X7_sumOf rfl (by decide) rfl rfl (m_X7_sumOf hG (w := 0) (by decide) H hlt) (by decide) rfl (Nat.le_of_ble_eq_true rfl) (fun r12 h12 hq12 => ?_)
    obtain ⟨rfl, hF⟩ := hq12
    refine r_goto (tgt := 19) dX7_worthOf_15 (by decide) ?_
    refine r_ireturn dX7_worthOf_19 ⟨_, rfl, rfl⟩ ?_
    exact ⟨by rw [worthS, b01_n0.mp c_5]; rfl, hF⟩
set_option maxRecDepth 100000 in
theorem m_X7_costOf {G : WT} {l : Launch} (hG : GOK G) {h : Hp} {b i a : Nat} {V : Hv} {lt : Nat → Nat} {free : Bool} (hfr : h.1 134 28 = b01 free) (H : RHs h b V) (hlt : RLt h i a lt) : Cl G l 4 yX7_costOf cX7_costOf 3 (some .int) [.ref (gA G 134), .int (nI i), .int (nI a)] h (fun r h' => r = some (.int (nI (if free = true then 0 else costS V lt))) ∧ Fr pileF h h') := by
  refine Cl.of hG (by decide) (Nat.le_of_ble_eq_true rfl) ?_
  show Wp G l 4 RX7 cX7_costOf 3 (some .int) 0 [.ref (gA G 134), .int (nI i), .int (nI a)] [] h _
  refine r_aload_n dX7_costOf_0 rfl ?_
  refine r_getI dX7_costOf_1 k_X7_96 rfl (by decide) rfl ?_
  rw [hfr]
  refine r_if_eq (tgt := 11) dX7_costOf_4 (by decide) (fun c_4 => ?_) (fun c_4 => ?_)
  · refine r_aload_n dX7_costOf_11 rfl ?_
    refine r_iconst (v := 1) dX7_costOf_12 (by decide) ?_
    refine r_callV dX7_costOf_13 l_X7_287 o_X7_hasOf v_X7_hasOf rfl (by decide) rfl rfl (m_X7_hasOf hG (w := 1) (by decide) H) (by decide) rfl (Nat.le_of_ble_eq_true rfl) (fun r13 h13 hq13 => ?_)
    obtain ⟨rfl, e13⟩ := hq13
    rw [e13]
    clear e13 h13
    refine r_if_eq (tgt := 29) dX7_costOf_16 (by decide) (fun c_16 => ?_) (fun c_16 => ?_)
    · refine r_iconst (v := 5) dX7_costOf_29 (by decide) ?_
      refine r_ireturn dX7_costOf_30 ⟨_, rfl, rfl⟩ ?_
      exact ⟨by rw [b01_0.mp c_4, costS, b01_0.mp c_16]; rfl, Fr.rf⟩
    · refine r_aload_n dX7_costOf_19 rfl ?_
      refine r_iconst (v := 1) dX7_costOf_20 (by decide) ?_
      refine r_iload_n dX7_costOf_21 rfl ?_
      refine r_iload_n dX7_costOf_22 rfl ?_
      refine r_callV dX7_costOf_23 l_X7_290 o_X7_sumOf v_X7_sumOf rfl (by decide) rfl rfl (m_X7_sumOf hG (w := 1) (by decide) H hlt) (by decide) rfl (Nat.le_of_ble_eq_true rfl) (fun r23 h23 hq23 => ?_)
      obtain ⟨rfl, hF⟩ := hq23
      refine r_goto (tgt := 30) dX7_costOf_26 (by decide) ?_
      refine r_ireturn dX7_costOf_30 ⟨_, rfl, rfl⟩ ?_
      exact ⟨by rw [b01_0.mp c_4, costS, b01_n0.mp c_16]; rfl, hF⟩
  · refine r_iconst (v := 0) dX7_costOf_7 (by decide) ?_
    refine r_goto (tgt := 30) dX7_costOf_8 (by decide) ?_
    refine r_ireturn dX7_costOf_30 ⟨_, rfl, rfl⟩ ?_
    exact ⟨by rw [b01_n0.mp c_4]; rfl, Fr.rf⟩
/-- the law that is told instead (-1: none), as the reference holds it -/
def lawE (V : Hv) (told : Option Nat) : Nat := match told with | some k => k | none => lawS V
def toldI (told : Option Nat) : Int32 := match told with | some k => nI k | none => -1
def RLw (h : Hp) (told : Option Nat) : Prop := h.1 134 29 = toldI told ∧ ∀ k, told = some k → k < 3
set_option maxRecDepth 100000 in
theorem m_X7_lawNow {G : WT} {l : Launch} (hG : GOK G) {h : Hp} {b : Nat} {V : Hv} {told : Option Nat} (H : RHs h b V) (hL : RLw h told) : Cl G l 3 yX7_lawNow cX7_lawNow 1 (some .int) [.ref (gA G 134)] h (fun r h' => r = some (.int (nI (lawE V told))) ∧ h' = h) := by
  refine Cl.of hG (by decide) (Nat.le_of_ble_eq_true rfl) ?_
  show Wp G l 3 RX7 cX7_lawNow 1 (some .int) 0 [.ref (gA G 134)] [] h _
  obtain ⟨hl1, hl2⟩ := hL
  cases told with
  | none =>
    refine r_aload_n dX7_lawNow_0 rfl ?_
    refine r_getI dX7_lawNow_1 k_X7_100 rfl (by decide) rfl ?_
    rw [hl1]
    refine r_if_ge (tgt := 18) dX7_lawNow_4 (by decide) (fun c_4 => ?_) (fun c_4 => ?_)
    · exact absurd c_4 (by decide)
    · refine r_aload_n dX7_lawNow_7 rfl ?_
      refine r_iconst (v := 3) dX7_lawNow_8 (by decide) ?_
      refine r_iconst (v := 0) dX7_lawNow_9 (by decide) ?_
      refine r_callV dX7_lawNow_10 l_X7_293 o_X7_lastOf v_X7_lastOf rfl (by decide) rfl rfl (m_X7_lastOf hG (w := 3) (d0 := 0) (by decide) H) (by decide) rfl (Nat.le_of_ble_eq_true rfl) (fun r10 h10 hq10 => ?_)
      obtain ⟨rfl, e10⟩ := hq10
      rw [e10]
      clear e10 h10
      refine r_iconst (v := 3) dX7_lawNow_13 (by decide) ?_
      refine r_irem dX7_lawNow_14 (by decide) ?_
      refine r_goto (tgt := 22) dX7_lawNow_15 (by decide) ?_
      refine r_ireturn dX7_lawNow_22 ⟨_, rfl, rfl⟩ ?_
      exact ⟨by rw [show (3 : Int32) = nI 3 from rfl, nI_rem (by have := lastS_le H.2.1 3 (d := 0) (by omega); omega) (by omega) (by omega)]; rfl, rfl⟩
  | some k =>
    have hk := hl2 k rfl
    refine r_aload_n dX7_lawNow_0 rfl ?_
    refine r_getI dX7_lawNow_1 k_X7_100 rfl (by decide) rfl ?_
    rw [hl1]
    refine r_if_ge (tgt := 18) dX7_lawNow_4 (by decide) (fun c_4 => ?_) (fun c_4 => ?_)
    · refine r_aload_n dX7_lawNow_18 rfl ?_
      refine r_getI dX7_lawNow_19 k_X7_100 rfl (by decide) rfl ?_
      refine r_ireturn dX7_lawNow_22 ⟨_, rfl, rfl⟩ ?_
      exact ⟨by rw [hl1]; rfl, rfl⟩
    · exact absurd (nI_pos' (by omega)) c_4
set_option maxRecDepth 100000 in
theorem m_X7_scaleNow {G : WT} {l : Launch} (hG : GOK G) {h : Hp} {b : Nat} {V : Hv} (H : RHs h b V) : Cl G l 3 yX7_scaleNow cX7_scaleNow 2 (some .int) [.ref (gA G 134)] h (fun r h' => r = some (.int (nI (scaleS V))) ∧ h' = h) := by
  refine Cl.of hG (by decide) (Nat.le_of_ble_eq_true rfl) ?_
  show Wp G l 3 RX7 cX7_scaleNow 2 (some .int) 0 [.ref (gA G 134), mk0] [] h _
  have hle := lastS_le H.2.1 4 (d := 1) (by omega)
  refine r_aload_n dX7_scaleNow_0 rfl ?_
  refine r_iconst (v := 4) dX7_scaleNow_1 (by decide) ?_
  refine r_iconst (v := 1) dX7_scaleNow_2 (by decide) ?_
  refine r_callV dX7_scaleNow_3 l_X7_293 o_X7_lastOf v_X7_lastOf rfl (by decide) rfl rfl (m_X7_lastOf hG (w := 4) (d0 := 1) (by decide) H) (by decide) rfl (Nat.le_of_ble_eq_true rfl) (fun r3 h3 hq3 => ?_)
  obtain ⟨rfl, e3⟩ := hq3
  rw [e3]
  clear e3 h3
  refine r_istore_n dX7_scaleNow_6 (by decide) rfl rfl ?_
  dsimp only [List.set]
  refine r_iload_n dX7_scaleNow_7 rfl ?_
  refine r_if_ne (tgt := 15) dX7_scaleNow_8 (by decide) (fun c_8 => ?_) (fun c_8 => ?_)
  · refine r_iload_n dX7_scaleNow_15 rfl ?_
    refine r_ireturn dX7_scaleNow_16 ⟨_, rfl, rfl⟩ ?_
    exact ⟨by rw [scaleS, if_neg (fun q => c_8 (by rw [q]; rfl))], rfl⟩
  · refine r_iconst (v := 1) dX7_scaleNow_11 (by decide) ?_
    refine r_goto (tgt := 16) dX7_scaleNow_12 (by decide) ?_
    refine r_ireturn dX7_scaleNow_16 ⟨_, rfl, rfl⟩ ?_
    exact ⟨by rw [scaleS, if_pos ((nI_eq' (b := 0) (by omega) (by omega)).mp c_8)]; rfl, rfl⟩
