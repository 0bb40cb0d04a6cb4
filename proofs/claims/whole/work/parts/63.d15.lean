/-! a supper begins -/
def SeC (h : Hp) (told : Option Nat) (free : Bool) : Prop := h.1 37 13 = toldI told ∧ (∀ k, told = some k → k < 3) ∧ h.1 37 14 = b01 free
def beF (a i : Nat) : Bool := (a == 37 && i == 10) || (a == 42 && (i == 4 || i == 5)) || a == 44 || a == 45
/-- what may have changed, references of the supper's aside -/
def Fx (S : Nat → Nat → Bool) (h h' : Hp) : Prop := (∀ a i, S a i = false → h'.1 a i = h.1 a i) ∧ h'.2.1 = h.2.1 ∧ (h'.2.2 37 8 = h.2.2 37 8 ∨ h'.2.2 37 8 = 1 ∨ h'.2.2 37 8 = 17)
theorem Fx.rf {S : Nat → Nat → Bool} {h : Hp} : Fx S h h := ⟨fun _ _ _ => rfl, rfl, Or.inl rfl⟩
theorem Fr.x {S : Nat → Nat → Bool} {h h' : Hp} (H : Fr S h h') : Fx S h h' := ⟨H.1, by rw [H.2], Or.inl (by rw [H.2])⟩
theorem Fx.tr {S : Nat → Nat → Bool} {h h1 h2 : Hp} (a : Fx S h h1) (b : Fx S h1 h2) : Fx S h h2 := ⟨fun x i y => (b.1 x i y).trans (a.1 x i y), b.2.1.trans a.2.1, by
  rcases b.2.2 with y | y
  · rw [y]; exact a.2.2
  · exact Or.inr y⟩
theorem Fx.wk {S S' : Nat → Nat → Bool} {h h' : Hp} (a : Fx S h h') (hs : ∀ x i, S' x i = false → S x i = false) : Fx S' h h' := ⟨fun x i y => a.1 x i (hs x i y), a.2⟩
set_option maxRecDepth 100000 in
theorem m_X3_begin {G : WT} {l : Launch} (hG : GOK G) {h : Hp} {t q : Nat} {V : Hv} {T : Tb} {told : Option Nat} {free : Bool} (ht : ksh t = 4) (hu : t = 1 ∨ t = 17) (hq : ksh q = 1) (HT : DTb h t T) (hT : TbOK T) (HV : DHs h q V) (hS : SeC h told free) (h0 : W0 h) : Cl G l 2 yX3_begin cX3_begin 3 none [.ref (gA G 37), .ref (gA G t), .ref (gA G q)] h (fun r h' => r = none ∧ EvC h' t q V T (lawE V told) free ∧ Fx beF h h') := by
  refine Cl.of hG (by decide) (Nat.le_of_ble_eq_true rfl) ?_
  show Wp G l 2 RX3 cX3_begin 3 none 0 [.ref (gA G 37), .ref (gA G t), .ref (gA G q)] [] h _
  obtain ⟨u, u1, u2⟩ := ts_at ht
  obtain ⟨v, v1, v2⟩ := hs_at hq
  have hb := hT.2.1
  have hd := hT.2.2.1
  have hl3 : lawE V told < 3 := by
    cases told with
    | none => exact lawS_lt V
    | some k => exact hS.2.1 k rfl
  have db : nI (T.1 7 1) / 10 = nI (T.1 7 1 / 10) := nI_div (d := 10) (by omega) (by omega) (by omega)
  have dd : nI (T.1 7 2) - nI (T.1 7 2) / 7 * 7 = nI (T.1 7 2 % 7) := nI_rem (d := 7) (by omega) (by omega) (by omega)
  have k33 : ∀ (g : Hp), g.1 = (setI h 37 10 (nI (lawE V told))).1 → g.2.1 = h.2.1 → g.2.2 37 8 = t → g.2.2 37 9 = q → Wp G l 2 RX3 cX3_begin 3 none 33 [.ref (gA G 37), .ref (gA G t), .ref (gA G q)] [] g (fun r h' => r = none ∧ EvC h' t q V T (lawE V told) free ∧ Fx beF h h') := by
    intro g e1 e2 e3 e4
    have o1 : ∀ a i, ¬ (a = 37 ∧ i = 10) → g.1 a i = h.1 a i := fun a i y => by rw [e1, setI_1, if_neg y]
    have f1 : g.1 t 8 = nI (T.1 7 1) := by rw [o1 _ _ (by omega)]; exact HT.1.2.1
    have f2 : g.1 t 9 = nI (T.1 7 2) := by rw [o1 _ _ (by omega)]; exact HT.1.2.2.1
    refine r_aload_n dX3_begin_33 rfl ?_
    refine r_getR (j := 42) dX3_begin_34 k_X3_24 rfl (by decide) rfl rfl ?_
    refine r_iconst (v := 4) dX3_begin_37 (by decide) ?_
    refine r_aload_n dX3_begin_38 rfl ?_
    refine r_getI dX3_begin_39 k_X3_74 (by assumption) (by decide) rfl ?_
    rw [f1]
    refine r_bipush (v := 10) dX3_begin_42 (by decide) ?_
    refine r_idiv dX3_begin_44 (by decide) ?_
    rw [db]
    refine r_iast (4) dX3_begin_45 rfl rfl (by decide) ?_
    refine r_aload_n dX3_begin_46 rfl ?_
    refine r_getR (j := 42) dX3_begin_47 k_X3_24 rfl (by decide) rfl rfl ?_
    refine r_iconst (v := 5) dX3_begin_50 (by decide) ?_
    refine r_aload_n dX3_begin_51 rfl ?_
    refine r_getI dX3_begin_52 k_X3_77 (by assumption) (by decide) rfl ?_
    rw [setI_ne (by omega), f2]
    refine r_bipush (v := 7) dX3_begin_55 (by decide) ?_
    refine r_irem dX3_begin_57 (by decide) ?_
    rw [dd]
    refine r_iast (5) dX3_begin_58 rfl rfl (by decide) ?_
    refine r_aload_n dX3_begin_59 rfl ?_
    refine r_getR (j := 44) dX3_begin_60 k_X3_30 rfl (by decide) rfl rfl ?_
    refine r_iconst (v := 0) dX3_begin_63 (by decide) ?_
    refine r_callS dX3_begin_64 l_X3_80 o_J7_fill_53178 s_J7_fill_53178 rfl (m_J7_fill_53178 hG (a := 44) rfl) (by decide) rfl (Nat.le_of_ble_eq_true rfl) (fun r64 h64 hq64 => ?_)
    obtain ⟨rfl, rfl⟩ := hq64
    refine r_aload_n dX3_begin_67 rfl ?_
    refine r_getR (j := 45) dX3_begin_68 k_X3_33 rfl (by decide) rfl rfl ?_
    refine r_iconst (v := -1) dX3_begin_71 (by decide) ?_
    refine r_callS dX3_begin_72 l_X3_80 o_J7_fill_53178 s_J7_fill_53178 rfl (m_J7_fill_53178 hG (a := 45) rfl) (by decide) rfl (Nat.le_of_ble_eq_true rfl) (fun r72 h72 hq72 => ?_)
    obtain ⟨rfl, rfl⟩ := hq72
    refine r_return dX3_begin_75 rfl ?_
    obtain ⟨g2, hg2⟩ : ∃ g2, g2 = rowI (rowI (setI (setI g 42 4 (nI (T.1 7 1 / 10))) 42 5 (nI (T.1 7 2 % 7))) 44 (fun j => if j < lnt 44 then (0 : Int32) else (setI (setI g 42 4 (nI (T.1 7 1 / 10))) 42 5 (nI (T.1 7 2 % 7))).1 44 j)) 45 (fun j => if j < lnt 45 then (-1 : Int32) else (rowI (setI (setI g 42 4 (nI (T.1 7 1 / 10))) 42 5 (nI (T.1 7 2 % 7))) 44 (fun j => if j < lnt 44 then (0 : Int32) else (setI (setI g 42 4 (nI (T.1 7 1 / 10))) 42 5 (nI (T.1 7 2 % 7))).1 44 j)).1 45 j) := ⟨_, rfl⟩
    rw [← hg2]
    have o2 : ∀ a i, ¬ a = 42 → ¬ a = 44 → ¬ a = 45 → g2.1 a i = g.1 a i := fun a i y1 y2 y3 => by rw [hg2, rowI_ne y3, rowI_ne y2, setI_ne y1, setI_ne y1]
    have n1 : ∀ j, j < 5 → g2.1 44 j = 0 := fun j hj => by rw [hg2, rowI_ne (by decide), rowI_at, if_pos (show j < lnt 44 from hj)]
    have n2 : ∀ j, j < 50 → g2.1 45 j = -1 := fun j hj => by rw [hg2, rowI_at, if_pos (show j < lnt 45 from hj)]
    have n3 : g2.1 42 4 = nI (T.1 7 1 / 10) := by rw [hg2, rowI_ne (by decide), rowI_ne (by decide), setI_nj (by decide), setI_at]
    have n4 : g2.1 42 5 = nI (T.1 7 2 % 7) := by rw [hg2, rowI_ne (by decide), rowI_ne (by decide), setI_at]
    have n5 : g2.2 = g.2 := by rw [hg2]; rfl
    have o3 : ∀ a i, ¬ a = 42 → ¬ a = 44 → ¬ a = 45 → ¬ (a = 37 ∧ i = 10) → g2.1 a i = h.1 a i := fun a i y1 y2 y3 y4 => (o2 a i y1 y2 y3).trans (o1 a i y4)
    refine ⟨rfl, ⟨⟨by rw [n5]; exact e3, by rw [n5]; exact e4, ht, hq⟩, HV.eq (fun a y1 y2 => funext fun i => o3 a i (by omega) (by omega) (by omega) (by omega)), hT, ⟨?_, fun e he => ?_⟩, ⟨?_, hl3, ?_⟩, ⟨n3, n4⟩, fun e he => ⟨⟨0, by omega, n1 e (by have := hT.1; omega), fun a ha => ?_⟩, fun a ha => Or.inl (n2 _ (by have := hT.1; omega))⟩, fun e he => ?_⟩, fun a i y => ?_, ?_⟩
    · rw [o3 _ _ (by omega) (by omega) (by omega) (by omega)]; exact HT.1.1
    · rw [o3 _ _ (by omega) (by omega) (by omega) (by omega), o3 _ _ (by omega) (by omega) (by omega) (by omega)]
      have := (HT.2.1 e (by have := hT.1; omega)).1 he
      exact ⟨this.1, this.2.2.1⟩
    · rw [o2 _ _ (by decide) (by decide) (by decide), e1, setI_at]
    · rw [o3 _ _ (by decide) (by decide) (by decide) (by decide)]; exact hS.2.2
    · rw [show a = 0 by omega, o3 _ _ (by decide) (by decide) (by decide) (by omega), Nat.add_zero, h0 e (by have := hT.1; omega)]; rfl
    · rw [o3 _ _ (by decide) (by decide) (by decide) (by omega)]; exact h0 e he
    · simp only [beF, Bool.or_eq_false_iff, Bool.and_eq_false_iff, beq_eq_false_iff_ne, ne_eq] at y
      by_cases z : a = 42
      · subst z
        rw [hg2, rowI_ne (by decide), rowI_ne (by decide), setI_nj (by omega), setI_nj (by omega)]
        exact o1 _ _ (by omega)
      · exact o3 a i z (by omega) (by omega) (by omega)
    · exact ⟨by rw [n5, e2], Or.inr (by rw [n5, e3]; exact hu)⟩
  have s1 : ∀ i, ¬ (37 = 37 ∧ i = 10) → True := fun _ _ => trivial
  have lv : (setD (setD h 37 8 t) 37 9 q).1 37 13 = toldI told := hS.1
  have lq : (setD (setD h 37 8 t) 37 9 q).1 q 10 = nI (lawS V) := HV.2.2.2.2.2.1
  cases told with
  | none =>
    refine r_aload_n dX3_begin_0 rfl ?_
    refine r_aload_n dX3_begin_1 rfl ?_
    refine r_putD dX3_begin_2 k_X3_39 rfl (by decide) rfl rfl rfl rfl rfl ?_
    refine r_aload_n dX3_begin_5 rfl ?_
    refine r_aload_n dX3_begin_6 rfl ?_
    refine r_putD dX3_begin_7 k_X3_46 rfl (by decide) rfl rfl rfl rfl rfl ?_
    refine r_aload_n dX3_begin_10 rfl ?_
    refine r_aload_n dX3_begin_11 rfl ?_
    refine r_getI dX3_begin_12 k_X3_60 rfl (by decide) rfl ?_
    refine r_iconst (v := -1) dX3_begin_15 (by decide) ?_
    rw [lv]
    refine r_icmp_ne (tgt := 26) dX3_begin_16 (by decide) (fun c_16 => ?_) (fun c_16 => ?_)
    · exact absurd rfl c_16
    · refine r_aload_n dX3_begin_19 rfl ?_
      refine r_getI dX3_begin_20 k_X3_73 (by assumption) (by decide) rfl ?_
      rw [lq]
      refine r_goto (tgt := 30) dX3_begin_23 (by decide) ?_
      refine r_putI dX3_begin_30 k_X3_50 rfl (by decide) rfl rfl rfl rfl ?_
      exact k33 _ rfl rfl (by rw [show (setI (setD (setD h 37 8 t) 37 9 q) 37 10 (nI (lawS V))).2 = (setD (setD h 37 8 t) 37 9 q).2 from rfl, setD_3, if_neg (by decide), setD_3, if_pos ⟨rfl, rfl⟩]) (by rw [show (setI (setD (setD h 37 8 t) 37 9 q) 37 10 (nI (lawS V))).2 = (setD (setD h 37 8 t) 37 9 q).2 from rfl, setD_3, if_pos ⟨rfl, rfl⟩])
  | some k =>
    have hk := hS.2.1 k rfl
    refine r_aload_n dX3_begin_0 rfl ?_
    refine r_aload_n dX3_begin_1 rfl ?_
    refine r_putD dX3_begin_2 k_X3_39 rfl (by decide) rfl rfl rfl rfl rfl ?_
    refine r_aload_n dX3_begin_5 rfl ?_
    refine r_aload_n dX3_begin_6 rfl ?_
    refine r_putD dX3_begin_7 k_X3_46 rfl (by decide) rfl rfl rfl rfl rfl ?_
    refine r_aload_n dX3_begin_10 rfl ?_
    refine r_aload_n dX3_begin_11 rfl ?_
    refine r_getI dX3_begin_12 k_X3_60 rfl (by decide) rfl ?_
    refine r_iconst (v := -1) dX3_begin_15 (by decide) ?_
    rw [lv]
    refine r_icmp_ne (tgt := 26) dX3_begin_16 (by decide) (fun c_16 => ?_) (fun c_16 => ?_)
    · refine r_aload_n dX3_begin_26 rfl ?_
      refine r_getI dX3_begin_27 k_X3_60 rfl (by decide) rfl ?_
      rw [lv]
      refine r_putI dX3_begin_30 k_X3_50 rfl (by decide) rfl rfl rfl rfl ?_
      exact k33 _ rfl rfl (by rw [show (setI (setD (setD h 37 8 t) 37 9 q) 37 10 (toldI (some k))).2 = (setD (setD h 37 8 t) 37 9 q).2 from rfl, setD_3, if_neg (by decide), setD_3, if_pos ⟨rfl, rfl⟩]) (by rw [show (setI (setD (setD h 37 8 t) 37 9 q) 37 10 (toldI (some k))).2 = (setD (setD h 37 8 t) 37 9 q).2 from rfl, setD_3, if_pos ⟨rfl, rfl⟩])
    · exact absurd c_16 (fun y => by
        have := congrArg Int32.toInt y
        rw [show toldI (some k) = nI k from rfl, nI_toInt (by omega), show ((-1 : Int32)).toInt = -1 from rfl] at this
        omega)
