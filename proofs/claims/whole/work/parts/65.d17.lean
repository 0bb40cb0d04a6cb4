/-! hold: a supper of the developers' class -/
def RDp (h : Hp) (E : Nat) (pact : Option (Nat × Nat)) : Prop := match pact with
  | none => h.1 37 15 = -1 ∧ h.1 37 16 = -1
  | some (a, b) => h.1 37 15 = nI a ∧ h.1 37 16 = nI b ∧ a < E ∧ b < E ∧ ¬ a = b
theorem RDp.eq {h h' : Hp} {E : Nat} {pact : Option (Nat × Nat)} (H : RDp h E pact) (e : ∀ i, i = 15 ∨ i = 16 → h'.1 37 i = h.1 37 i) : RDp h' E pact := by
  unfold RDp at H ⊢
  cases pact with
  | none => exact ⟨by rw [e _ (by omega)]; exact H.1, by rw [e _ (by omega)]; exact H.2⟩
  | some ab => exact ⟨by rw [e _ (by omega)]; exact H.1, by rw [e _ (by omega)]; exact H.2.1, H.2.2⟩
theorem nI_nm {n : Nat} (h : n < 1000) : ¬ nI n = -1 := fun y => by
  have := congrArg Int32.toInt y
  rw [nI_toInt (by omega), show ((-1 : Int32)).toInt = -1 from rfl] at this
  omega
/-- wishes as agreed -/
def pactW (T : Tb) (pact : Option (Nat × Nat)) (w : Nat → Nat) (e : Nat) : Nat := match pact with
  | some (a, b) => if e = a then (if T.1 7 2 % 2 = 0 then 0 else 9) else if e = b then (if T.1 7 2 % 2 = 0 then 9 else 0) else w e
  | none => w e
theorem pactW_P {V : Hv} {T : Tb} {law : Nat} {free : Bool} {pact : Option (Nat × Nat)} (e : Nat) : pactW T pact (wishS V (supL law free pact) T) e = wishP V (supL law free pact) T e := by
  unfold pactW wishP
  cases pact <;> rfl
def wishF (a _i : Nat) : Bool := a == 38
set_option maxRecDepth 100000 in
theorem m_X3_keepPact {G : WT} {l : Launch} (hG : GOK G) {h : Hp} {t : Nat} {T : Tb} {pact : Option (Nat × Nat)} {w : Nat → Nat} (ht : ksh t = 4) (r1 : h.2.2 37 8 = t) (hd : h.1 t 9 = nI (T.1 7 2)) (hT : TbOK T) (hP : RDp h (T.1 7 0) pact) (hw : ∀ e, e < T.1 7 0 → h.1 38 e = nI (w e)) : Cl G l 1 yX3_keepPact cX3_keepPact 2 none [.ref (gA G 37)] h (fun r h' => r = none ∧ Fr wishF h h' ∧ ∀ e, e < T.1 7 0 → h'.1 38 e = nI (pactW T pact w e)) := by
  refine Cl.of hG (by decide) (Nat.le_of_ble_eq_true rfl) ?_
  show Wp G l 1 RX3 cX3_keepPact 2 none 0 [.ref (gA G 37), mk0] [] h _
  have h5 := hT.1
  have hdd := hT.2.2.1
  cases pact with
  | none =>
    refine r_aload_n dX3_keepPact_0 rfl ?_
    refine r_getI dX3_keepPact_1 k_X3_67 rfl (by decide) rfl ?_
    refine r_iconst (v := -1) dX3_keepPact_4 (by decide) ?_
    rw [hP.1]
    refine r_icmp_eq (tgt := 16) dX3_keepPact_5 (by decide) (fun c_5 => ?_) (fun c_5 => ?_)
    · refine r_return dX3_keepPact_16 rfl ?_
      exact ⟨rfl, Fr.rf, hw⟩
    · exact absurd rfl c_5
  | some ab =>
    obtain ⟨a, b⟩ := ab
    obtain ⟨p1, p2, p3, p4, p5⟩ := hP
    have dm : nI (T.1 7 2) - nI (T.1 7 2) / 2 * 2 = nI (T.1 7 2 % 2) := nI_rem (d := 2) (by omega) (by omega) (by omega)
    have wr : ∀ (g : Hp) (x y : Nat), g.1 = (setI (setI h 38 a (nI x)) 38 b (nI y)).1 → ∀ e, e < T.1 7 0 → g.1 38 e = nI (if e = a then x else if e = b then y else w e) := fun g x y eg e he => by
      rw [eg]
      by_cases z1 : e = a
      · rw [if_pos z1, setI_nj (by omega), z1, setI_at]
      · by_cases z2 : e = b
        · rw [if_neg z1, if_pos z2, z2, setI_at]
        · rw [if_neg z1, if_neg z2, setI_nj z2, setI_nj z1]; exact hw e he
    by_cases hev : T.1 7 2 % 2 = 0
    · have ep : ∀ e, pactW T (some (a, b)) w e = if e = a then 0 else if e = b then 9 else w e := fun e => by show (if e = a then _ else if e = b then _ else w e) = _; rw [if_pos hev, if_pos hev]
      refine r_aload_n dX3_keepPact_0 rfl ?_
      refine r_getI dX3_keepPact_1 k_X3_67 rfl (by decide) rfl ?_
      refine r_iconst (v := -1) dX3_keepPact_4 (by decide) ?_
      rw [p1]
      refine r_icmp_eq (tgt := 16) dX3_keepPact_5 (by decide) (fun c_5 => ?_) (fun c_5 => ?_)
      · exact absurd c_5 (nI_nm (by omega))
      · refine r_aload_n dX3_keepPact_8 rfl ?_
        refine r_getI dX3_keepPact_9 k_X3_70 rfl (by decide) rfl ?_
        refine r_iconst (v := -1) dX3_keepPact_12 (by decide) ?_
        rw [p2]
        refine r_icmp_ne (tgt := 17) dX3_keepPact_13 (by decide) (fun c_13 => ?_) (fun c_13 => ?_)
        · refine r_aload_n dX3_keepPact_17 rfl ?_
          refine r_getR (j := t) dX3_keepPact_18 k_X3_39 rfl (by decide) rfl r1 ?_
          refine r_getI dX3_keepPact_21 k_X3_77 (by assumption) (by decide) rfl ?_
          rw [hd]
          refine r_iconst (v := 2) dX3_keepPact_24 (by decide) ?_
          refine r_irem dX3_keepPact_25 (by decide) ?_
          rw [dm, hev]
          refine r_if_ne (tgt := 33) dX3_keepPact_26 (by decide) (fun c_26 => ?_) (fun c_26 => ?_)
          · exact absurd rfl c_26
          · refine r_iconst (v := 1) dX3_keepPact_29 (by decide) ?_
            refine r_goto (tgt := 34) dX3_keepPact_30 (by decide) ?_
            refine r_istore_n dX3_keepPact_34 (by decide) rfl rfl ?_
            dsimp only [List.set]
            refine r_aload_n dX3_keepPact_35 rfl ?_
            refine r_getR (j := 38) dX3_keepPact_36 k_X3_9 rfl (by decide) rfl rfl ?_
            refine r_aload_n dX3_keepPact_39 rfl ?_
            refine r_getI dX3_keepPact_40 k_X3_67 rfl (by decide) rfl ?_
            rw [p1]
            refine r_iload_n dX3_keepPact_43 rfl ?_
            refine r_if_eq (tgt := 51) dX3_keepPact_44 (by decide) (fun c_44 => ?_) (fun c_44 => ?_)
            · exact absurd c_44 (by decide)
            · refine r_iconst (v := 0) dX3_keepPact_47 (by decide) ?_
              refine r_goto (tgt := 53) dX3_keepPact_48 (by decide) ?_
              refine r_iast (a) dX3_keepPact_53 rfl rfl (show a < 5 by omega) ?_
              refine r_aload_n dX3_keepPact_54 rfl ?_
              refine r_getR (j := 38) dX3_keepPact_55 k_X3_9 rfl (by decide) rfl rfl ?_
              refine r_aload_n dX3_keepPact_58 rfl ?_
              refine r_getI dX3_keepPact_59 k_X3_70 rfl (by decide) rfl ?_
              rw [setI_ne (by decide), p2]
              refine r_iload_n dX3_keepPact_62 rfl ?_
              refine r_if_eq (tgt := 71) dX3_keepPact_63 (by decide) (fun c_63 => ?_) (fun c_63 => ?_)
              · exact absurd c_63 (by decide)
              · refine r_bipush (v := 9) dX3_keepPact_66 (by decide) ?_
                refine r_goto (tgt := 72) dX3_keepPact_68 (by decide) ?_
                refine r_iast (b) dX3_keepPact_72 rfl rfl (show b < 5 by omega) ?_
                refine r_return dX3_keepPact_73 rfl ?_
                exact ⟨rfl, (Fr.set rfl).tr (Fr.set rfl), fun e he => by rw [ep]; exact wr _ 0 9 rfl e he⟩
        · exact absurd c_13 (nI_nm (by omega))
    · have hod : T.1 7 2 % 2 = 1 := by omega
      have ep : ∀ e, pactW T (some (a, b)) w e = if e = a then 9 else if e = b then 0 else w e := fun e => by show (if e = a then _ else if e = b then _ else w e) = _; rw [if_neg hev, if_neg hev]
      refine r_aload_n dX3_keepPact_0 rfl ?_
      refine r_getI dX3_keepPact_1 k_X3_67 rfl (by decide) rfl ?_
      refine r_iconst (v := -1) dX3_keepPact_4 (by decide) ?_
      rw [p1]
      refine r_icmp_eq (tgt := 16) dX3_keepPact_5 (by decide) (fun c_5 => ?_) (fun c_5 => ?_)
      · exact absurd c_5 (nI_nm (by omega))
      · refine r_aload_n dX3_keepPact_8 rfl ?_
        refine r_getI dX3_keepPact_9 k_X3_70 rfl (by decide) rfl ?_
        refine r_iconst (v := -1) dX3_keepPact_12 (by decide) ?_
        rw [p2]
        refine r_icmp_ne (tgt := 17) dX3_keepPact_13 (by decide) (fun c_13 => ?_) (fun c_13 => ?_)
        · refine r_aload_n dX3_keepPact_17 rfl ?_
          refine r_getR (j := t) dX3_keepPact_18 k_X3_39 rfl (by decide) rfl r1 ?_
          refine r_getI dX3_keepPact_21 k_X3_77 (by assumption) (by decide) rfl ?_
          rw [hd]
          refine r_iconst (v := 2) dX3_keepPact_24 (by decide) ?_
          refine r_irem dX3_keepPact_25 (by decide) ?_
          rw [dm, hod]
          refine r_if_ne (tgt := 33) dX3_keepPact_26 (by decide) (fun c_26 => ?_) (fun c_26 => ?_)
          · refine r_iconst (v := 0) dX3_keepPact_33 (by decide) ?_
            refine r_istore_n dX3_keepPact_34 (by decide) rfl rfl ?_
            dsimp only [List.set]
            refine r_aload_n dX3_keepPact_35 rfl ?_
            refine r_getR (j := 38) dX3_keepPact_36 k_X3_9 rfl (by decide) rfl rfl ?_
            refine r_aload_n dX3_keepPact_39 rfl ?_
            refine r_getI dX3_keepPact_40 k_X3_67 rfl (by decide) rfl ?_
            rw [p1]
            refine r_iload_n dX3_keepPact_43 rfl ?_
            refine r_if_eq (tgt := 51) dX3_keepPact_44 (by decide) (fun c_44 => ?_) (fun c_44 => ?_)
            · refine r_bipush (v := 9) dX3_keepPact_51 (by decide) ?_
              refine r_iast (a) dX3_keepPact_53 rfl rfl (show a < 5 by omega) ?_
              refine r_aload_n dX3_keepPact_54 rfl ?_
              refine r_getR (j := 38) dX3_keepPact_55 k_X3_9 rfl (by decide) rfl rfl ?_
              refine r_aload_n dX3_keepPact_58 rfl ?_
              refine r_getI dX3_keepPact_59 k_X3_70 rfl (by decide) rfl ?_
              rw [setI_ne (by decide), p2]
              refine r_iload_n dX3_keepPact_62 rfl ?_
              refine r_if_eq (tgt := 71) dX3_keepPact_63 (by decide) (fun c_63 => ?_) (fun c_63 => ?_)
              · refine r_iconst (v := 0) dX3_keepPact_71 (by decide) ?_
                refine r_iast (b) dX3_keepPact_72 rfl rfl (show b < 5 by omega) ?_
                refine r_return dX3_keepPact_73 rfl ?_
                exact ⟨rfl, (Fr.set rfl).tr (Fr.set rfl), fun e he => by rw [ep]; exact wr _ 9 0 rfl e he⟩
              · exact absurd rfl c_63
            · exact absurd rfl c_44
          · exact absurd c_26 (by decide)
        · exact absurd c_13 (nI_nm (by omega))
/-- what a supper changes: the table's cells, the supper's own -/
def hoFd (t a i : Nat) : Bool := (decide (t ≤ a) && decide (a ≤ t + 7)) || (decide (38 ≤ a) && decide (a ≤ 45)) || (a == 37 && (i == 10 || i == 11 || i == 12))
theorem wi_ho {t : Nat} {h h' : Hp} (H : Fr wiF h h') : Fx (hoFd t) h h' := H.x.wk (fun x i y => by
  simp only [hoFd, wiF, svF, haF, Bool.or_eq_false_iff, Bool.and_eq_false_iff, decide_eq_false_iff_not, beq_eq_false_iff_ne, ne_eq] at y ⊢
  omega)
theorem be_ho {t : Nat} {h h' : Hp} (H : Fx beF h h') : Fx (hoFd t) h h' := H.wk (fun x i y => by
  simp only [hoFd, beF, Bool.or_eq_false_iff, Bool.and_eq_false_iff, decide_eq_false_iff_not, beq_eq_false_iff_ne, ne_eq] at y ⊢
  omega)
theorem wish_wi {t : Nat} {h h' : Hp} (H : Fr wishF h h') : Fx (hoFd t) h h' := H.x.wk (fun x i y => by
  simp only [hoFd, wishF, Bool.or_eq_false_iff, Bool.and_eq_false_iff, decide_eq_false_iff_not, beq_eq_false_iff_ne, ne_eq] at y ⊢
  omega)
theorem DTb.be {h h' : Hp} {t : Nat} {T : Tb} (ht : ksh t = 4) (H : DTb h t T) (hF : Fx beF h h') : DTb h' t T := by
  obtain ⟨u, u1, u2⟩ := ts_at ht
  exact H.fr (fun a y1 y2 => funext fun i => hF.1 a i (by simp [beF]; omega))
theorem DTb.wish {h h' : Hp} {t : Nat} {T : Tb} (ht : ksh t = 4) (H : DTb h t T) (hF : Fr wishF h h') : DTb h' t T := by
  obtain ⟨u, u1, u2⟩ := ts_at ht
  exact H.frF hF (fun a i y1 y2 => by simp [wishF]; omega)
theorem EvC.wish {h h' : Hp} {t q law : Nat} {V : Hv} {T : Tb} {free : Bool} (C : EvC h t q V T law free) (hF : Fr wishF h h') : EvC h' t q V T law free := by
  obtain ⟨u, u1, u2⟩ := ts_at C.1.2.2.1
  exact C.fr hF (fun a i y1 y2 => by simp [wishF]; omega) (fun i => Or.inl (by simp [wishF]; omega)) (fun i => by simp [wishF]; omega) ⟨rfl, rfl, rfl, rfl⟩ (C.2.2.2.2.2.2.eq (fun a y1 y2 => funext fun i => hF.1 a i (by simp [wishF]; omega)))
theorem wl_lp {G : WT} {l : Launch} (hG : GOK G) {t q law : Nat} {V : Hv} {T : Tb} {free : Bool} {pact : Option (Nat × Nat)} {h0 : Hp} (hl3 : law < 3) {Q : Option Value → Hp → Prop}
    (k : ∀ g, EvC g t q V T law free → DTb g t T → (∀ j, j < T.1 7 0 → g.1 38 j = nI (wishS V (supL law free pact) T j)) → Fx (hoFd t) h0 g → (∀ i, i = 15 ∨ i = 16 → g.1 37 i = h0.1 37 i) → ∀ x3, Wp G l 5 RX3 cX3_hold 4 none 41 [.ref (gA G 37), .ref (gA G t), .ref (gA G q), x3] [] g Q) :
    ∀ (n j : Nat) (g : Hp), j + n = T.1 7 0 → EvC g t q V T law free → DTb g t T → (∀ i, i < j → g.1 38 i = nI (wishS V (supL law free pact) T i)) → Fx (hoFd t) h0 g → (∀ i, i = 15 ∨ i = 16 → g.1 37 i = h0.1 37 i) → Wp G l 5 RX3 cX3_hold 4 none 16 [.ref (gA G 37), .ref (gA G t), .ref (gA G q), .int (nI j)] [] g Q := by
  intro n
  induction n with
  | zero =>
    intro j g hj C D hD hF hp
    have h5 := C.2.2.1.1
    have r3 := C.1.2.2.1
    refine r_iload_n dX3_hold_16 rfl ?_
    refine r_aload_n dX3_hold_17 rfl ?_
    refine r_getI dX3_hold_18 k_X3_86 (by assumption) (by decide) rfl ?_
    rw [D.1.1]
    refine r_icmp_ge (tgt := 41) dX3_hold_21 (by decide) (fun c_21 => ?_) (fun c_21 => ?_)
    · exact k g C D (fun i hi => hD i (by omega)) hF hp _
    · exact absurd (nI_le (by omega) (by omega)) c_21
  | succ n ih =>
    intro j g hj C D hD hF hp
    have h5 := C.2.2.1.1
    have r3 := C.1.2.2.1
    have wl := wishS_le (V := V) (P := supL law free pact) C.2.2.1 j
    refine r_iload_n dX3_hold_16 rfl ?_
    refine r_aload_n dX3_hold_17 rfl ?_
    refine r_getI dX3_hold_18 k_X3_86 (by assumption) (by decide) rfl ?_
    rw [D.1.1]
    refine r_icmp_ge (tgt := 41) dX3_hold_21 (by decide) (fun c_21 => ?_) (fun c_21 => ?_)
    · exact absurd c_21 (nI_ge (by omega) (by omega))
    · refine r_aload_n dX3_hold_24 rfl ?_
      refine r_getR (j := 38) dX3_hold_25 k_X3_9 rfl (by decide) rfl rfl ?_
      refine r_iload_n dX3_hold_28 rfl ?_
      refine r_aload_n dX3_hold_29 rfl ?_
      refine r_iload_n dX3_hold_30 rfl ?_
      refine r_callV dX3_hold_31 l_X3_93 o_X3_wishOf v_X3_wishOf rfl (by decide) rfl rfl (m_X3_wishOf hG C D (show j < T.1 7 0 by omega) hl3 (pact := pact)) (by decide) rfl (Nat.le_of_ble_eq_true rfl) (fun r31 h31 hq31 => ?_)
      obtain ⟨rfl, C1, F1⟩ := hq31
      refine r_iast (j) dX3_hold_34 rfl rfl (show j < 5 by omega) ?_
      refine r_iinc dX3_hold_35 rfl (by first | exact nI_inc _ | rfl) (by decide) rfl rfl ?_
      dsimp only [List.set]
      refine r_goto (tgt := 16) dX3_hold_38 (by decide) ?_
      have F2 : Fr wishF h31 (setI h31 38 j (nI (wishS V (supL law free pact) T j))) := Fr.set rfl
      refine ih (j + 1) _ (by omega) (C1.wish F2) ((D.wi r3 F1).wish r3 F2) (fun i hi => ?_) ((hF.tr (wi_ho F1)).tr (wish_wi F2)) (fun i hi => ?_)
      · by_cases z : i = j
        · rw [z, setI_at]
        · rw [setI_nj z, F1.1 _ _ rfl]; exact hD i (by omega)
      · rw [setI_ne (by decide), F1.1 _ _ (by rcases hi with rfl | rfl <;> rfl)]; exact hp i hi
