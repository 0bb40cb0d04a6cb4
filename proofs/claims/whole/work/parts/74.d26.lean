/-! still, allBest -/
def stG (V : Hv) (T : Tb) (w : Nat → Nat) : Nat → Bool := stillTo V T w
theorem stT_false {V : Hv} {T : Tb} {w : Nat → Nat} {j : Nat} (h : stillTo V T w j = false) : ∀ n, j ≤ n → stillTo V T w n = false := by
  intro n hn
  induction n with
  | zero => rw [show j = 0 by omega] at h; exact h
  | succ n ih =>
    by_cases e9 : j = n + 1
    · rw [← e9]; exact h
    · show (stillTo V T w n && _) = false
      rw [ih (by omega), Bool.false_and]
set_option maxRecDepth 100000 in
theorem m_X6_nobodyGains {G : WT} {l : Launch} (hG : GOK G) {h : Hp} {q : Nat} {V : Hv} {T : Tb} {w : Nat → Nat} (C : EvC h 1 q V T (lawS V) false) (D : DTb h 1 T) (h9 : ∀ j, w j ≤ 9) (hw : ∀ j, j < T.1 7 0 → h.1 35 j = nI (w j)) : Cl G l 5 yX6_nobodyGains cX6_nobodyGains 2 (some .boolean) [.ref (gA G 0)] h (fun r h' => r = some (.int (b01 (stillTo V T w (T.1 7 0)))) ∧ EvC h' 1 q V T (lawS V) false ∧ (∀ j, j < T.1 7 0 → h'.1 35 j = nI (w j)) ∧ Fr gaF h h') := by
  refine Cl.of hG (by decide) (Nat.le_of_ble_eq_true rfl) ?_
  show Wp G l 5 RX6 cX6_nobodyGains 2 (some .boolean) 0 [.ref (gA G 0), mk0] [] h _
  have lp : ∀ (m j : Nat) (g : Hp), j + m = T.1 7 0 → stillTo V T w j = true → EvC g 1 q V T (lawS V) false → DTb g 1 T → (∀ j, j < T.1 7 0 → g.1 35 j = nI (w j)) → Fr gaF h g → Wp G l 5 RX6 cX6_nobodyGains 2 (some .boolean) 2 [.ref (gA G 0), .int (nI j)] [] g (fun r h' => r = some (.int (b01 (stillTo V T w (T.1 7 0)))) ∧ EvC h' 1 q V T (lawS V) false ∧ (∀ j, j < T.1 7 0 → h'.1 35 j = nI (w j)) ∧ Fr gaF h h') := by
    intro m
    induction m with
    | zero =>
      intro j g hj hs C D hw hF
      have hE5 := C.2.2.1.1
      refine r_iload_n dX6_nobodyGains_2 rfl ?_
      refine r_aload_n dX6_nobodyGains_3 rfl ?_
      refine r_getR (j := 1) dX6_nobodyGains_4 k_X6_12 rfl (by decide) rfl rfl ?_
      refine r_getI dX6_nobodyGains_7 k_X6_82 rfl (by decide) rfl ?_
      rw [D.1.1]
      refine r_icmp_ge (tgt := 29) dX6_nobodyGains_10 (by decide) (fun c_10 => ?_) (fun c_10 => ?_)
      · refine r_iconst (v := 1) dX6_nobodyGains_29 (by decide) ?_
        refine r_ireturn dX6_nobodyGains_30 ⟨_, rfl, rfl⟩ ?_
        exact ⟨by rw [show T.1 7 0 = j by omega, hs]; rfl, C, hw, hF⟩
      · exact absurd (nI_le (by omega) (by omega)) c_10
    | succ m ih =>
      intro j g hj hs C D hw hF
      have hE5 := C.2.2.1.1
      have cs : stillTo V T w (j + 1) = noGain V T w j 4 := by
        show (stillTo V T w j && _) = _
        rw [hs, Bool.true_and]
      refine r_iload_n dX6_nobodyGains_2 rfl ?_
      refine r_aload_n dX6_nobodyGains_3 rfl ?_
      refine r_getR (j := 1) dX6_nobodyGains_4 k_X6_12 rfl (by decide) rfl rfl ?_
      refine r_getI dX6_nobodyGains_7 k_X6_82 rfl (by decide) rfl ?_
      rw [D.1.1]
      refine r_icmp_ge (tgt := 29) dX6_nobodyGains_10 (by decide) (fun c_10 => ?_) (fun c_10 => ?_)
      · exact absurd c_10 (nI_ge (by omega) (by omega))
      · refine r_aload_n dX6_nobodyGains_13 rfl ?_
        refine r_iload_n dX6_nobodyGains_14 rfl ?_
        refine r_callV dX6_nobodyGains_15 l_X6_210 o_X6_gains v_X6_gains rfl (by decide) rfl rfl (m_X6_gains hG C D (show j < T.1 7 0 by omega) h9 hw) (by decide) rfl (Nat.le_of_ble_eq_true rfl) (fun r15 h15 hq15 => ?_)
        obtain ⟨rfl, C2, w2, F2⟩ := hq15
        refine r_if_eq (tgt := 23) dX6_nobodyGains_18 (by decide) (fun c_18 => ?_) (fun c_18 => ?_)
        · have y9 : noGain V T w j 4 = true := by
            have := b01_0.mp c_18
            cases hz : noGain V T w j 4 with
            | true => rfl
            | false => rw [hz] at this; cases this
          refine r_iinc dX6_nobodyGains_23 rfl (by first | exact nI_inc _ | rfl) (by decide) rfl rfl ?_
          dsimp only [List.set]
          refine r_goto (tgt := 2) dX6_nobodyGains_26 (by decide) ?_
          exact ih (j + 1) h15 (by omega) (by rw [cs, y9]) C2 (D.ga F2) w2 (hF.tr F2)
        · have y9 : noGain V T w j 4 = false := by
            have := b01_n0.mp c_18
            cases hz : noGain V T w j 4 with
            | false => rfl
            | true => rw [hz] at this; cases this
          refine r_iconst (v := 0) dX6_nobodyGains_21 (by decide) ?_
          refine r_ireturn dX6_nobodyGains_22 ⟨_, rfl, rfl⟩ ?_
          exact ⟨by rw [stT_false (j := j + 1) (by rw [cs, y9]) (T.1 7 0) (by omega)]; rfl, C2, w2, hF.tr F2⟩
  refine r_iconst (v := 0) dX6_nobodyGains_0 (by decide) ?_
  refine r_istore_n dX6_nobodyGains_1 (by decide) rfl rfl ?_
  dsimp only [List.set]
  exact lp (T.1 7 0) 0 _ (by omega) rfl C D hw Fr.rf
theorem rowW_9 {E c : Nat} : ∀ j, rowW E c j ≤ 9 := fun j => by
  have := Nat.mod_lt (c / 4 ^ (E - 1 - j)) (show 0 < 4 by decide)
  unfold rowW
  omega
def fiF (a i : Nat) : Bool := gaF a i || a == 36
theorem ga_fi {h h' : Hp} (H : Fr gaF h h') : Fr fiF h h' := H.wk (fun x i y => by simp only [fiF, Bool.or_eq_false_iff] at y; exact y.1)
theorem fi_fi {h h' : Hp} (H : Fr (fun a _ => a == 36) h h') : Fr fiF h h' := H.wk (fun x i y => by simp only [fiF, Bool.or_eq_false_iff] at y; exact y.2)
theorem fi_as {h h' : Hp} (H : Fr fiF h h') : Fx asF h h' := H.x.wk (fun x i y => by
  simp only [asF, fiF, gaF, svF, haF, Bool.or_eq_false_iff, Bool.and_eq_false_iff, decide_eq_false_iff_not, beq_eq_false_iff_ne, ne_eq] at y ⊢
  omega)
theorem DTb.fi {h h' : Hp} {T : Tb} (H : DTb h 1 T) (hF : Fr fiF h h') : DTb h' 1 T := H.frF hF (fun a i y1 y2 => by simp [fiF, gaF, svF, haF]; omega)
theorem be_as {h h' : Hp} (H : Fx beF h h') : Fx asF h h' := H.wk (fun x i y => by
  simp only [asF, beF, Bool.or_eq_false_iff, Bool.and_eq_false_iff, decide_eq_false_iff_not, beq_eq_false_iff_ne, ne_eq] at y ⊢
  omega)
/-- back from a question about rows -/
theorem DIc.back {h g g2 : Hp} {n q : Nat} {V : Hv} {T : Tb} (C : DIc h n q V T) (F1 : Fx beF h g) (F2 : Fr fiF g g2) (Ev : EvC g2 1 q V T (lawS V) false) : DIc g2 n q V T ∧ Fx asF h g2 := by
  have FF := (be_as F1).tr (fi_as F2)
  have e37 : ∀ i, i = 13 ∨ i = 14 ∨ i = 15 ∨ i = 16 → g2.1 37 i = h.1 37 i := fun i hi => by
    rcases hi with rfl | rfl | rfl | rfl <;> exact (F2.1 _ _ rfl).trans (F1.1 _ _ rfl)
  exact ⟨C.fx FF (C.2.2.2.2.2.1.eq (fun i hi => e37 i (by omega))) (C.2.2.2.2.2.2.1.eq (fun i hi => e37 i (by omega))) Ev.2.2.2.2.2.2.2, FF⟩
theorem cnt_first2 {qq : Nat → Bool} (n : Nat) : cntTo qq n = 0 ↔ ¬ firstTo qq n < n := cnt_first n
theorem sl_lp {G : WT} {l : Launch} (hG : GOK G) {n q : Nat} {V : Hv} {T : Tb} {x : Int32} {h h1 : Hp} (C : DIc h n q V T) (F1 : Fx beF h h1) (hE4 : T.1 7 0 ≤ 4) (hx : x = 0 ∨ ∃ i, i < T.1 7 0 ∧ x = nI (10 + i)) : ∀ (m c : Nat) (g : Hp), c + m = 4 ^ T.1 7 0 → EvC g 1 q V T (lawS V) false → DTb g 1 T → Fr fiF h1 g → (cntTo (stillS V T) c ≠ 0 → ∀ j, j < T.1 7 0 → g.1 36 j = nI (rowW (T.1 7 0) (firstTo (stillS V T) c) j)) → Wp G l 6 RX6 cX6_still 4 (some .int) 51 [.ref (gA G 0), .int x, .int (nI (cntTo (stillS V T) c)), .int (nI c)] [] g (fun r h' => r = some (.int (stillA V T x)) ∧ DIc h' n q V T ∧ Fx asF h h') := by
  intro m
  have hp4 := pow4 hE4
  induction m with
  | zero =>
    intro c g hc Ev D hF hfi
    have ec : c = 4 ^ T.1 7 0 := by omega
    rw [ec] at hfi ⊢
    obtain ⟨B1, B2⟩ := C.back F1 hF Ev
    have hcl := cntTo_le (stillS V T) (4 ^ T.1 7 0)
    rcases hx with rfl | ⟨i, i1, rfl⟩
    · have es : stillA V T 0 = nI (cntTo (stillS V T) (4 ^ T.1 7 0)) := by
        unfold stillA
        rw [if_neg (fun y => y.1 rfl), if_neg (by omega), if_pos rfl]
      refine r_iload_n dX6_still_51 rfl ?_
      refine r_aload_n dX6_still_52 rfl ?_
      refine r_callV dX6_still_53 l_X6_182 o_X6_rowsInAll v_X6_rowsInAll rfl (by decide) rfl rfl (m_X6_rowsInAll hG hE4 D.1.1) (by decide) rfl (Nat.le_of_ble_eq_true rfl) (fun r53 h53 hq53 => ?_)
      obtain ⟨rfl, e53⟩ := hq53
      rw [e53]
      clear e53 h53
      refine r_icmp_ge (tgt := 93) dX6_still_56 (by decide) (fun c_56 => ?_) (fun c_56 => ?_)
      · refine r_iload_n dX6_still_93 rfl ?_
        refine r_if_ne (tgt := 99) dX6_still_94 (by decide) (fun c_94 => ?_) (fun c_94 => ?_)
        · exact absurd rfl c_94
        · refine r_iload_n dX6_still_97 rfl ?_
          refine r_ireturn dX6_still_98 ⟨_, rfl, rfl⟩ ?_
          exact ⟨by rw [es], B1, B2⟩
      · exact absurd (Int32.le_refl _) c_56
    · have z0 := nI_nz (a := 10 + i) (by omega) (by omega)
      have ed : dec (nI (10 + i) - nI 10) (T.1 7 0) = some i := by rw [dec_off (by omega) (by omega), if_pos (by omega)]; congr 1; omega
      have e2 : nI (10 + i) - 10 = nI i := by rw [show (10 : Int32) = nI 10 from rfl, pk_sub (by omega)]; congr 1; omega
      by_cases hz : cntTo (stillS V T) (4 ^ T.1 7 0) = 0
      · have es : stillA V T (nI (10 + i)) = -5 := by
          unfold stillA
          rw [if_neg (fun y => by rw [ed] at y; cases y.2), if_neg (by omega), if_neg z0, if_neg ((cnt_first _).mp hz)]
        refine r_iload_n dX6_still_51 rfl ?_
        refine r_aload_n dX6_still_52 rfl ?_
        refine r_callV dX6_still_53 l_X6_182 o_X6_rowsInAll v_X6_rowsInAll rfl (by decide) rfl rfl (m_X6_rowsInAll hG hE4 D.1.1) (by decide) rfl (Nat.le_of_ble_eq_true rfl) (fun r53 h53 hq53 => ?_)
        obtain ⟨rfl, e53⟩ := hq53
        rw [e53]
        clear e53 h53
        refine r_icmp_ge (tgt := 93) dX6_still_56 (by decide) (fun c_56 => ?_) (fun c_56 => ?_)
        · refine r_iload_n dX6_still_93 rfl ?_
          refine r_if_ne (tgt := 99) dX6_still_94 (by decide) (fun c_94 => ?_) (fun c_94 => ?_)
          · refine r_iload_n dX6_still_99 rfl ?_
            rw [hz]
            refine r_if_ne (tgt := 108) dX6_still_100 (by decide) (fun c_100 => ?_) (fun c_100 => ?_)
            · exact absurd rfl c_100
            · refine r_bipush (v := -5) dX6_still_103 (by decide) ?_
              refine r_goto (tgt := 117) dX6_still_105 (by decide) ?_
              refine r_ireturn dX6_still_117 ⟨_, rfl, rfl⟩ ?_
              exact ⟨by rw [es], B1, B2⟩
          · exact absurd c_94 z0
        · exact absurd (Int32.le_refl _) c_56
      · have es : stillA V T (nI (10 + i)) = nI (rowW (T.1 7 0) (firstTo (stillS V T) (4 ^ T.1 7 0)) i) := by
          unfold stillA
          rw [if_neg (fun y => by rw [ed] at y; cases y.2), if_neg (by omega), if_neg z0, if_pos (Classical.byContradiction fun y => hz ((cnt_first _).mpr y)), ed]
        refine r_iload_n dX6_still_51 rfl ?_
        refine r_aload_n dX6_still_52 rfl ?_
        refine r_callV dX6_still_53 l_X6_182 o_X6_rowsInAll v_X6_rowsInAll rfl (by decide) rfl rfl (m_X6_rowsInAll hG hE4 D.1.1) (by decide) rfl (Nat.le_of_ble_eq_true rfl) (fun r53 h53 hq53 => ?_)
        obtain ⟨rfl, e53⟩ := hq53
        rw [e53]
        clear e53 h53
        refine r_icmp_ge (tgt := 93) dX6_still_56 (by decide) (fun c_56 => ?_) (fun c_56 => ?_)
        · refine r_iload_n dX6_still_93 rfl ?_
          refine r_if_ne (tgt := 99) dX6_still_94 (by decide) (fun c_94 => ?_) (fun c_94 => ?_)
          · refine r_iload_n dX6_still_99 rfl ?_
            refine r_if_ne (tgt := 108) dX6_still_100 (by decide) (fun c_100 => ?_) (fun c_100 => ?_)
            · refine r_aload_n dX6_still_108 rfl ?_
              refine r_getR (j := 36) dX6_still_109 k_X6_66 rfl (by decide) rfl rfl ?_
              refine r_iload_n dX6_still_112 rfl ?_
              refine r_bipush (v := 10) dX6_still_113 (by decide) ?_
              refine r_isub dX6_still_115 ?_
              refine r_iald (i) dX6_still_116 rfl e2 (show i < 5 by omega) ?_
              rw [hfi hz i i1]
              refine r_ireturn dX6_still_117 ⟨_, rfl, rfl⟩ ?_
              exact ⟨by rw [es], B1, B2⟩
            · exact absurd ((nI_eq' (b := 0) (by omega) (by omega)).mp c_100) hz
          · exact absurd c_94 z0
        · exact absurd (Int32.le_refl _) c_56
  | succ m ih =>
    intro c g hc Ev D hF hfi
    have hcl := cntTo_le (stillS V T) c
    have r9 := rowW_9 (E := T.1 7 0) (c := c)
    refine r_iload_n dX6_still_51 rfl ?_
    refine r_aload_n dX6_still_52 rfl ?_
    refine r_callV dX6_still_53 l_X6_182 o_X6_rowsInAll v_X6_rowsInAll rfl (by decide) rfl rfl (m_X6_rowsInAll hG hE4 D.1.1) (by decide) rfl (Nat.le_of_ble_eq_true rfl) (fun r53 h53 hq53 => ?_)
    obtain ⟨rfl, e53⟩ := hq53
    rw [e53]
    clear e53 h53
    refine r_icmp_ge (tgt := 93) dX6_still_56 (by decide) (fun c_56 => ?_) (fun c_56 => ?_)
    · exact absurd c_56 (nI_ge (by omega) (by omega))
    · refine r_aload_n dX6_still_59 rfl ?_
      refine r_iload_n dX6_still_60 rfl ?_
      refine r_callV dX6_still_61 l_X6_186 o_X6_becomesRow v_X6_becomesRow rfl (by decide) rfl rfl (m_X6_becomesRow hG (code := c) hE4 (by omega) D.1.1) (by decide) rfl (Nat.le_of_ble_eq_true rfl) (fun r61 h61 hq61 => ?_)
      obtain ⟨rfl, F2, w2⟩ := hq61
      have Ev2 := Ev.t35 (Or.inl rfl) F2
      have D2 := D.ga (tr_ga F2)
      refine r_aload_n dX6_still_64 rfl ?_
      refine r_callV dX6_still_65 l_X6_189 o_X6_nobodyGains v_X6_nobodyGains rfl (by decide) rfl rfl (m_X6_nobodyGains hG Ev2 D2 r9 w2) (by decide) rfl (Nat.le_of_ble_eq_true rfl) (fun r65 h65 hq65 => ?_)
      obtain ⟨rfl, Ev3, w3, F3⟩ := hq65
      have D3 := D2.ga F3
      have FF := (hF.tr (ga_fi (tr_ga F2))).tr (ga_fi F3)
      have o36 : ∀ j, h65.1 36 j = g.1 36 j := fun j => by rw [F3.1 _ _ rfl, F2.1 _ _ rfl]
      refine r_if_eq (tgt := 87) dX6_still_68 (by decide) (fun c_68 => ?_) (fun c_68 => ?_)
      · have y9 : stillS V T c = false := b01_0.mp c_68
        have cs : cntTo (stillS V T) (c + 1) = cntTo (stillS V T) c := by show _ + (if stillS V T c = true then 1 else 0) = _; rw [y9]; rfl
        refine r_iinc dX6_still_87 rfl (by first | exact nI_inc _ | rfl) (by decide) rfl rfl ?_
        dsimp only [List.set]
        refine r_goto (tgt := 51) dX6_still_90 (by decide) ?_
        have k9 := ih (c + 1) _ (by omega) Ev3 D3 FF (fun y j hj => by
          rw [cs] at y
          obtain ⟨q1, q2, q3⟩ := firstTo_ex c (cntTo_pos c y)
          rw [firstTo_at q3 q2 (c + 1) (by omega), o36]
          exact hfi y j hj)
        rw [cs] at k9
        exact k9
      · have y9 : stillS V T c = true := b01_n0.mp c_68
        have cs : cntTo (stillS V T) (c + 1) = cntTo (stillS V T) c + 1 := by show _ + (if stillS V T c = true then 1 else 0) = _; rw [y9]; rfl
        refine r_aload_n dX6_still_71 rfl ?_
        refine r_iload_n dX6_still_72 rfl ?_
        refine r_if_ne (tgt := 80) dX6_still_73 (by decide) (fun c_73 => ?_) (fun c_73 => ?_)
        · have hz : ¬ cntTo (stillS V T) c = 0 := fun y => c_73 (by rw [y]; rfl)
          refine r_iconst (v := 0) dX6_still_80 (by decide) ?_
          first
            | rw [show (0 : Int32) = b01 false from rfl]
            | rw [show (1 : Int32) = b01 true from rfl]
          refine r_callV dX6_still_81 l_X6_193 o_X6_keepIf v_X6_keepIf rfl (by decide) rfl rfl (m_X6_keepIf hG) (by decide) rfl (Nat.le_of_ble_eq_true rfl) (fun r81 h81 hq81 => ?_)
          obtain ⟨rfl, F4, k1, k2⟩ := hq81
          have Ev4 := Ev3.t35 (Or.inr rfl) F4
          have FF4 := FF.tr (fi_fi F4)
          have D4 := D3.fi (fi_fi F4)
          refine r_iinc dX6_still_84 rfl (by first | exact nI_inc _ | rfl) (by decide) rfl rfl ?_
          dsimp only [List.set]
          refine r_iinc dX6_still_87 rfl (by first | exact nI_inc _ | rfl) (by decide) rfl rfl ?_
          dsimp only [List.set]
          refine r_goto (tgt := 51) dX6_still_90 (by decide) ?_
          have k9 := ih (c + 1) _ (by omega) Ev4 D4 FF4 (fun y j hj => by
            obtain ⟨q1, q2, q3⟩ := firstTo_ex c (cntTo_pos c hz)
            rw [firstTo_at q3 q2 (c + 1) (by omega), k2 rfl, o36]
            exact hfi hz j hj)
          rw [cs] at k9
          exact k9
        · have hz : cntTo (stillS V T) c = 0 := (nI_eq' (b := 0) (by omega) (by omega)).mp c_73
          refine r_iconst (v := 1) dX6_still_76 (by decide) ?_
          refine r_goto (tgt := 81) dX6_still_77 (by decide) ?_
          first
            | rw [show (0 : Int32) = b01 false from rfl]
            | rw [show (1 : Int32) = b01 true from rfl]
          refine r_callV dX6_still_81 l_X6_193 o_X6_keepIf v_X6_keepIf rfl (by decide) rfl rfl (m_X6_keepIf hG) (by decide) rfl (Nat.le_of_ble_eq_true rfl) (fun r81 h81 hq81 => ?_)
          obtain ⟨rfl, F4, k1, k2⟩ := hq81
          have Ev4 := Ev3.t35 (Or.inr rfl) F4
          have FF4 := FF.tr (fi_fi F4)
          have D4 := D3.fi (fi_fi F4)
          refine r_iinc dX6_still_84 rfl (by first | exact nI_inc _ | rfl) (by decide) rfl rfl ?_
          dsimp only [List.set]
          refine r_iinc dX6_still_87 rfl (by first | exact nI_inc _ | rfl) (by decide) rfl rfl ?_
          dsimp only [List.set]
          refine r_goto (tgt := 51) dX6_still_90 (by decide) ?_
          have k9 := ih (c + 1) _ (by omega) Ev4 D4 FF4 (fun y j hj => by
            rw [firstTo_at (cntTo_0 c hz) y9 (c + 1) (by omega), k1 rfl j (by omega), w3 j hj])
          rw [cs] at k9
          exact k9
