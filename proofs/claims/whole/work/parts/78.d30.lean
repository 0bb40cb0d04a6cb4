/-! book, of, feed, house, image, undo -/
theorem DTb.sT {h h' : Hp} {T T' : Tb} (H : DTb h 1 T) (hE5 : T.1 7 0 ≤ 5) (eg : T'.2 = T.2) (er : ∀ r i, r ≤ 5 → T'.1 r i = T.1 r i) (e7 : ∀ i, ¬ i = 4 → T'.1 7 i = T.1 7 i) (o : ∀ a i, ¬ (a = 1 ∧ i = 11) → ¬ a = 8 → h'.1 a i = h.1 a i) (p : h'.1 1 11 = nI (T'.1 7 4)) (b : ∀ k, k < T'.1 7 4 → k < 12 → h'.1 8 k = nI (T'.1 6 k)) : DTb h' 1 T' := by
  refine H.ext eg (e7 0 (by decide)) ⟨?_, ?_, ?_, ?_, p, ?_⟩ (fun e y => ?_) (fun e y1 y2 => ?_) b
  · rw [o _ _ (by decide) (by decide), e7 _ (by decide)]; exact H.1.1
  · rw [o _ _ (by decide) (by decide), e7 _ (by decide)]; exact H.1.2.1
  · rw [o _ _ (by decide) (by decide), e7 _ (by decide)]; exact H.1.2.2.1
  · rw [o _ _ (by decide) (by decide), e7 _ (by decide)]; exact H.1.2.2.2.1
  · rw [o _ _ (by decide) (by decide), e7 _ (by decide)]; exact H.1.2.2.2.2.2
  · obtain ⟨b1, b2, b3, b4, b5, b6⟩ := (H.2.1 e (by omega)).1 y
    rw [o _ _ (by omega) (by omega), o _ _ (by omega) (by omega), o _ _ (by omega) (by omega), o _ _ (by omega) (by omega), o _ _ (by omega) (by omega), er _ _ (by omega), er _ _ (by omega), er _ _ (by omega), er _ _ (by omega)]
    exact ⟨b1, b2, b3, b4, b5, fun q hq => by rw [o _ _ (by omega) (by omega), er _ _ (by omega)]; exact b6 q hq⟩
  · exact ⟨o _ _ (by omega) (by omega), o _ _ (by omega) (by omega), fun q hq => o _ _ (by omega) (by omega)⟩
set_option maxRecDepth 100000 in
theorem m_X6_image {G : WT} {l : Launch} (hG : GOK G) {h : Hp} {T : Tb} (D : DTb h 1 T) : Cl G l 3 yX6_image cX6_image 1 (some .int) [.ref (gA G 0)] h (fun r h' => r = some (.int (nI (T.1 7 0))) ∧ DTb h' 9 T ∧ h'.1 0 12 = 1 ∧ Fr (fun a i => tbF 9 a i || (a == 0 && i == 12)) h h') := by
  refine Cl.of hG (by decide) (Nat.le_of_ble_eq_true rfl) ?_
  show Wp G l 3 RX6 cX6_image 1 (some .int) 0 [.ref (gA G 0)] [] h _
  refine r_aload_n dX6_image_0 rfl ?_
  refine r_getR (j := 9) dX6_image_1 k_X6_18 rfl (by decide) rfl rfl ?_
  refine r_aload_n dX6_image_4 rfl ?_
  refine r_getR (j := 1) dX6_image_5 k_X6_12 rfl (by decide) rfl rfl ?_
  refine r_callV dX6_image_8 l_X6_174 o_X4_becomes v_X4_becomes rfl (by decide) rfl rfl (m_X4_becomes hG (t := 9) (o := 1) rfl rfl (by decide)) (by decide) rfl (Nat.le_of_ble_eq_true rfl) (fun r8 h8 hq8 => ?_)
  obtain ⟨rfl, S8, F8⟩ := hq8
  have D8 := D.same S8
  refine r_aload_n dX6_image_11 rfl ?_
  refine r_iconst (v := 1) dX6_image_12 (by decide) ?_
  refine r_putI dX6_image_13 k_X6_73 rfl (by decide) rfl rfl rfl rfl ?_
  refine r_aload_n dX6_image_16 rfl ?_
  refine r_getR (j := 9) dX6_image_17 k_X6_18 rfl (by decide) rfl rfl ?_
  refine r_getI dX6_image_20 k_X6_82 rfl (by decide) rfl ?_
  rw [setI_ne (by decide), D8.1.1]
  refine r_ireturn dX6_image_23 ⟨_, rfl, rfl⟩ ?_
  exact ⟨rfl, D8.fr (fun a y1 y2 => setI_nx (by omega)), setI_at, (F8.wk (fun x i y => by simp only [Bool.or_eq_false_iff] at y; exact y.1)).tr (Fr.set (by simp))⟩
set_option maxRecDepth 100000 in
theorem m_X6_undo {G : WT} {l : Launch} (hG : GOK G) {h : Hp} {im : Option Tb} (hi : h.1 0 12 = b01 im.isSome) (hT : ∀ T, im = some T → DTb h 9 T) : Cl G l 3 yX6_undo cX6_undo 1 (some .int) [.ref (gA G 0)] h (fun r h' => (im = none → r = some (.int (-3)) ∧ h' = h) ∧ (∀ T, im = some T → r = some (.int (nI (T.1 7 0))) ∧ DTb h' 1 T ∧ Fr noF h h')) := by
  refine Cl.of hG (by decide) (Nat.le_of_ble_eq_true rfl) ?_
  show Wp G l 3 RX6 cX6_undo 1 (some .int) 0 [.ref (gA G 0)] [] h _
  cases im with
  | none =>
    refine r_aload_n dX6_undo_0 rfl ?_
    refine r_getI dX6_undo_1 k_X6_73 rfl (by decide) rfl ?_
    rw [hi]
    refine r_if_ne (tgt := 10) dX6_undo_4 (by decide) (fun c_4 => ?_) (fun c_4 => ?_)
    · exact absurd rfl c_4
    · refine r_bipush (v := -3) dX6_undo_7 (by decide) ?_
      refine r_ireturn dX6_undo_9 ⟨_, rfl, rfl⟩ ?_
      exact ⟨fun _ => ⟨rfl, rfl⟩, fun T y => (by cases y)⟩
  | some T =>
    refine r_aload_n dX6_undo_0 rfl ?_
    refine r_getI dX6_undo_1 k_X6_73 rfl (by decide) rfl ?_
    rw [hi]
    refine r_if_ne (tgt := 10) dX6_undo_4 (by decide) (fun c_4 => ?_) (fun c_4 => ?_)
    · refine r_aload_n dX6_undo_10 rfl ?_
      refine r_getR (j := 1) dX6_undo_11 k_X6_12 rfl (by decide) rfl rfl ?_
      refine r_aload_n dX6_undo_14 rfl ?_
      refine r_getR (j := 9) dX6_undo_15 k_X6_18 rfl (by decide) rfl rfl ?_
      refine r_callV dX6_undo_18 l_X6_174 o_X4_becomes v_X4_becomes rfl (by decide) rfl rfl (m_X4_becomes hG (t := 1) (o := 9) rfl rfl (by decide)) (by decide) rfl (Nat.le_of_ble_eq_true rfl) (fun r18 h18 hq18 => ?_)
      obtain ⟨rfl, S8, F8⟩ := hq18
      have D8 := (hT T rfl).same S8
      refine r_aload_n dX6_undo_21 rfl ?_
      refine r_getR (j := 1) dX6_undo_22 k_X6_12 rfl (by decide) rfl rfl ?_
      refine r_getI dX6_undo_25 k_X6_82 rfl (by decide) rfl ?_
      rw [D8.1.1]
      refine r_ireturn dX6_undo_28 ⟨_, rfl, rfl⟩ ?_
      exact ⟨fun y => (by cases y), fun T' y => (by cases y; exact ⟨rfl, D8, F8⟩)⟩
    · exact absurd c_4 some_t
theorem book_ok0 {T : Tb} (hT : TbOK T) : TbOK (setT T 7 4 0) := by
  obtain ⟨t1, t2, t3, t4, t5, t6, t7, t8, t9⟩ := hT
  exact ⟨t1, t2, t3, t4, Nat.zero_le _, t6, t7, t8, t9⟩
theorem book_ok1 {T : Tb} {v : Nat} (hT : TbOK T) (h12 : ¬ T.1 7 4 = 12) (hv : v < 100) : TbOK (setT (setT T 6 (T.1 7 4) v) 7 4 (T.1 7 4 + 1)) := by
  obtain ⟨t1, t2, t3, t4, t5, t6, t7, t8, t9⟩ := hT
  refine ⟨t1, t2, t3, t4, by show T.1 7 4 + 1 ≤ 12; omega, t6, t7, t8, fun k => ?_⟩
  show (if 6 = 6 ∧ k = T.1 7 4 then v else T.1 6 k) ≤ 99
  split
  · omega
  · exact t9 k
set_option maxRecDepth 100000 in
theorem m_X6_book {G : WT} {l : Launch} (hG : GOK G) {h : Hp} {n q : Nat} {V : Hv} {T : Tb} {x : Int32} (C : DIc h n q V T) : Cl G l 1 yX6_book cX6_book 2 (some .int) [.ref (gA G 0), .int x] h (fun r h' => r = some (.int (bookS T x).1) ∧ DIc h' n q V (bookS T x).2 ∧ Fx mnF h h') := by
  refine Cl.of hG (by decide) (Nat.le_of_ble_eq_true rfl) ?_
  show Wp G l 1 RX6 cX6_book 2 (some .int) 0 [.ref (gA G 0), .int x] [] h _
  have hE5 := C.2.1.1
  have h12 := C.2.1.2.2.2.2.1
  by_cases x1 : x = -1
  · subst x1
    have es : bookS T (-1) = (0, setT T 7 4 0) := by rw [bookS, if_pos rfl]
    rw [es]
    have F9 : Fr noF h (setI h 1 11 0) := Fr.set rfl
    refine r_iload_n dX6_book_0 rfl ?_
    refine r_iconst (v := -1) dX6_book_1 (by decide) ?_
    refine r_icmp_lt (tgt := 11) dX6_book_2 (by decide) (fun c_2 => ?_) (fun c_2 => ?_)
    · exact absurd c_2 (by decide)
    · refine r_iload_n dX6_book_5 rfl ?_
      refine r_bipush (v := 99) dX6_book_6 (by decide) ?_
      refine r_icmp_le (tgt := 14) dX6_book_8 (by decide) (fun c_8 => ?_) (fun c_8 => ?_)
      · refine r_iload_n dX6_book_14 rfl ?_
        refine r_iconst (v := -1) dX6_book_15 (by decide) ?_
        refine r_icmp_ne (tgt := 29) dX6_book_16 (by decide) (fun c_16 => ?_) (fun c_16 => ?_)
        · exact absurd rfl c_16
        · refine r_aload_n dX6_book_19 rfl ?_
          refine r_getR (j := 1) dX6_book_20 k_X6_12 rfl (by decide) rfl rfl ?_
          refine r_iconst (v := 0) dX6_book_23 (by decide) ?_
          refine r_putI dX6_book_24 k_X6_262 rfl (by decide) rfl rfl rfl rfl ?_
          refine r_iconst (v := 0) dX6_book_27 (by decide) ?_
          refine r_ireturn dX6_book_28 ⟨_, rfl, rfl⟩ ?_
          exact ⟨rfl, C.no F9 (C.1.sT hE5 rfl (fun r i y => sT_ne (by omega)) (fun i y => sT_ne (by omega)) (fun a i y1 y2 => by rw [setI_1, if_neg y1]) (by rw [setI_at, sT_at]; rfl) (fun k y => by rw [sT_at] at y; omega)) (book_ok0 C.2.1) C.2.2.1 rfl, no_mn F9⟩
      · exact absurd (by decide) c_8
  · cases hx : dec x 100 with
    | none =>
      have es : bookS T x = (-2, T) := by rw [bookS, if_neg x1, hx]
      have q9 := dec_none.mp hx
      have x2 : ¬ x.toInt = -1 := fun y => x1 (Int32.toInt_inj.mp y)
      rw [es]
      refine r_iload_n dX6_book_0 rfl ?_
      refine r_iconst (v := -1) dX6_book_1 (by decide) ?_
      refine r_icmp_lt (tgt := 11) dX6_book_2 (by decide) (fun c_2 => ?_) (fun c_2 => ?_)
      · refine r_bipush (v := -2) dX6_book_11 (by decide) ?_
        refine r_ireturn dX6_book_13 ⟨_, rfl, rfl⟩ ?_
        exact ⟨rfl, C, Fx.rf⟩
      · refine r_iload_n dX6_book_5 rfl ?_
        refine r_bipush (v := 99) dX6_book_6 (by decide) ?_
        refine r_icmp_le (tgt := 14) dX6_book_8 (by decide) (fun c_8 => ?_) (fun c_8 => ?_)
        · exfalso
          have z1 : ¬ x.toInt < -1 := fun y => c_2 (by rw [Int32.lt_iff_toInt_lt]; exact y)
          have z2 : x.toInt ≤ 99 := by
            have := Int32.le_iff_toInt_le.mp c_8
            exact this
          omega
        · refine r_bipush (v := -2) dX6_book_11 (by decide) ?_
          refine r_ireturn dX6_book_13 ⟨_, rfl, rfl⟩ ?_
          exact ⟨rfl, C, Fx.rf⟩
    | some v =>
      obtain ⟨v1, rfl, -⟩ := dec_some.mp hx
      have z9 : ¬ nI v < -1 := fun y => by
        have := Int32.lt_iff_toInt_lt.mp y
        rw [nI_toInt (by omega), show ((-1 : Int32)).toInt = -1 from rfl] at this
        omega
      by_cases hp : T.1 7 4 = 12
      · have es : bookS T (nI v) = (-4, T) := by rw [bookS, if_neg x1, hx]; dsimp only; rw [if_pos hp]
        rw [es]
        refine r_iload_n dX6_book_0 rfl ?_
        refine r_iconst (v := -1) dX6_book_1 (by decide) ?_
        refine r_icmp_lt (tgt := 11) dX6_book_2 (by decide) (fun c_2 => ?_) (fun c_2 => ?_)
        · exact absurd c_2 z9
        · refine r_iload_n dX6_book_5 rfl ?_
          refine r_bipush (v := 99) dX6_book_6 (by decide) ?_
          refine r_icmp_le (tgt := 14) dX6_book_8 (by decide) (fun c_8 => ?_) (fun c_8 => ?_)
          · refine r_iload_n dX6_book_14 rfl ?_
            refine r_iconst (v := -1) dX6_book_15 (by decide) ?_
            refine r_icmp_ne (tgt := 29) dX6_book_16 (by decide) (fun c_16 => ?_) (fun c_16 => ?_)
            · refine r_aload_n dX6_book_29 rfl ?_
              refine r_getR (j := 1) dX6_book_30 k_X6_12 rfl (by decide) rfl rfl ?_
              refine r_getI dX6_book_33 k_X6_262 rfl (by decide) rfl ?_
              refine r_bipush (v := 12) dX6_book_36 (by decide) ?_
              rw [C.1.1.2.2.2.2.1]
              refine r_icmp_lt (tgt := 44) dX6_book_38 (by decide) (fun c_38 => ?_) (fun c_38 => ?_)
              · exact absurd ((nI_lt' (b := 12) (by omega) (by omega)).mp c_38) (by omega)
              · refine r_bipush (v := -4) dX6_book_41 (by decide) ?_
                refine r_ireturn dX6_book_43 ⟨_, rfl, rfl⟩ ?_
                exact ⟨rfl, C, Fx.rf⟩
            · exact absurd c_16 x1
          · exact absurd (nI_le (b := 99) (by omega) (by omega)) c_8
      · have es : bookS T (nI v) = (nI (T.1 7 4 + 1), setT (setT T 6 (T.1 7 4) v) 7 4 (T.1 7 4 + 1)) := by rw [bookS, if_neg x1, hx]; dsimp only; rw [if_neg hp]
        rw [es]
        have F9 : Fr noF h (setI (setI h 8 (T.1 7 4) (nI v)) 1 11 (nI (T.1 7 4 + 1))) := (Fr.set rfl).tr (Fr.set rfl)
        have s1 : ∀ r i, ¬ r = 6 → ¬ (r = 7 ∧ i = 4) → (setT (setT T 6 (T.1 7 4) v) 7 4 (T.1 7 4 + 1)).1 r i = T.1 r i := fun r i y1 y2 => by rw [sT_ne y2, sT_ne (fun y => y1 y.1)]
        refine r_iload_n dX6_book_0 rfl ?_
        refine r_iconst (v := -1) dX6_book_1 (by decide) ?_
        refine r_icmp_lt (tgt := 11) dX6_book_2 (by decide) (fun c_2 => ?_) (fun c_2 => ?_)
        · exact absurd c_2 z9
        · refine r_iload_n dX6_book_5 rfl ?_
          refine r_bipush (v := 99) dX6_book_6 (by decide) ?_
          refine r_icmp_le (tgt := 14) dX6_book_8 (by decide) (fun c_8 => ?_) (fun c_8 => ?_)
          · refine r_iload_n dX6_book_14 rfl ?_
            refine r_iconst (v := -1) dX6_book_15 (by decide) ?_
            refine r_icmp_ne (tgt := 29) dX6_book_16 (by decide) (fun c_16 => ?_) (fun c_16 => ?_)
            · refine r_aload_n dX6_book_29 rfl ?_
              refine r_getR (j := 1) dX6_book_30 k_X6_12 rfl (by decide) rfl rfl ?_
              refine r_getI dX6_book_33 k_X6_262 rfl (by decide) rfl ?_
              refine r_bipush (v := 12) dX6_book_36 (by decide) ?_
              rw [C.1.1.2.2.2.2.1]
              refine r_icmp_lt (tgt := 44) dX6_book_38 (by decide) (fun c_38 => ?_) (fun c_38 => ?_)
              · refine r_aload_n dX6_book_44 rfl ?_
                refine r_getR (j := 1) dX6_book_45 k_X6_12 rfl (by decide) rfl rfl ?_
                refine r_getR (j := 8) dX6_book_48 k_X6_265 rfl (by decide) rfl rfl ?_
                refine r_aload_n dX6_book_51 rfl ?_
                refine r_getR (j := 1) dX6_book_52 k_X6_12 rfl (by decide) rfl rfl ?_
                refine r_getI dX6_book_55 k_X6_262 rfl (by decide) rfl ?_
                refine r_iload_n dX6_book_58 rfl ?_
                refine r_iast (T.1 7 4) dX6_book_59 rfl C.1.1.2.2.2.2.1 (show T.1 7 4 < 12 by omega) ?_
                refine r_aload_n dX6_book_60 rfl ?_
                refine r_getR (j := 1) dX6_book_61 k_X6_12 rfl (by decide) rfl rfl ?_
                refine r_dup dX6_book_64 rfl ?_
                refine r_getI dX6_book_65 k_X6_262 rfl (by decide) rfl ?_
                refine r_iconst (v := 1) dX6_book_68 (by decide) ?_
                refine r_iadd dX6_book_69 ?_
                rw [setI_ne (by decide), C.1.1.2.2.2.2.1, nI_1]
                refine r_putI dX6_book_70 k_X6_262 rfl (by decide) rfl rfl rfl rfl ?_
                refine r_aload_n dX6_book_73 rfl ?_
                refine r_getR (j := 1) dX6_book_74 k_X6_12 rfl (by decide) rfl rfl ?_
                refine r_getI dX6_book_77 k_X6_262 rfl (by decide) rfl ?_
                rw [setI_at]
                refine r_ireturn dX6_book_80 ⟨_, rfl, rfl⟩ ?_
                exact ⟨rfl, C.no F9 (C.1.sT hE5 rfl (fun r i y => s1 r i (by omega) (by omega)) (fun i y => s1 7 i (by decide) (by omega)) (fun a i y1 y2 => by rw [setI_1, if_neg y1, setI_ne y2]) (by rw [setI_at, sT_at]) (fun k y1 y2 => by
                  rw [setI_ne (by decide), sT_ne (by omega)]
                  rw [sT_at] at y1
                  by_cases z : k = T.1 7 4
                  · rw [z, setI_at, sT_at]
                  · rw [setI_nj z, sT_ne (fun y => z y.2)]; exact C.1.2.2 k (by omega) y2)) (book_ok1 C.2.1 hp v1) C.2.2.1 rfl, no_mn F9⟩
              · exact absurd (nI_lt (b := 12) (by omega) (by omega)) c_38
            · exact absurd c_16 x1
          · exact absurd (nI_le (b := 99) (by omega) (by omega)) c_8
