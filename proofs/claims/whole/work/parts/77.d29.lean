theorem sT_ne {T : Tb} {q x v r i : Nat} (h : ¬ (r = q ∧ i = x)) : (setT T q x v).1 r i = T.1 r i := if_neg h
theorem sT_at {T : Tb} {q x v : Nat} : (setT T q x v).1 q x = v := if_pos ⟨rfl, rfl⟩
/-- one cell of now's is put anew -/
theorem DTb.ext {h h' : Hp} {T T' : Tb} (H : DTb h 1 T) (g : T'.2 = T.2) (e0 : T'.1 7 0 = T.1 7 0) (f : h'.1 1 7 = nI (T'.1 7 0) ∧ h'.1 1 8 = nI (T'.1 7 1) ∧ h'.1 1 9 = nI (T'.1 7 2) ∧ h'.1 1 10 = bkA (T'.1 7 3) ∧ h'.1 1 11 = nI (T'.1 7 4) ∧ h'.1 1 12 = nI (T'.1 7 5) - 1)
    (c : ∀ e, e < T.1 7 0 → h'.1 2 e = nI (T'.1 0 e) ∧ h'.1 3 e = nI (T'.1 1 e) ∧ h'.1 4 e = nI (T'.1 2 e) ∧ h'.1 5 e = nI (T'.1 3 e) ∧ h'.1 6 e = T.2 e ∧ ∀ p, p < 4 → h'.1 7 (4 * e + p) = nI (T'.1 5 (4 * e + p)))
    (z : ∀ e, e < 5 → ¬ e < T.1 7 0 → h'.1 5 e = h.1 5 e ∧ h'.1 6 e = h.1 6 e ∧ ∀ p, p < 4 → h'.1 7 (4 * e + p) = h.1 7 (4 * e + p)) (b : ∀ k, k < T'.1 7 4 → k < 12 → h'.1 8 k = nI (T'.1 6 k)) : DTb h' 1 T' := by
  refine ⟨f, fun e he => ⟨fun y => ?_, fun y => ?_⟩, b⟩
  · rw [e0] at y
    rw [g]
    exact c e y
  · rw [e0] at y
    obtain ⟨z1, z2, z3⟩ := z e he y
    obtain ⟨b1, b2, b3⟩ := (H.2.1 e he).2 y
    exact ⟨z1.trans b1, z2.trans b2, fun p hp => (z3 p hp).trans (b3 p hp)⟩
theorem ok_h {T : Tb} {i n : Nat} (hT : TbOK T) (hn : n < 10) : TbOK (setT T 2 i n) := by
  obtain ⟨t1, t2, t3, t4, t5, t6, t7, t8, t9⟩ := hT
  refine ⟨t1, t2, t3, t4, t5, t6, fun e => ⟨(t7 e).1, (t7 e).2.1, ?_, (t7 e).2.2.2⟩, t8, t9⟩
  show (if 2 = 2 ∧ e = i then n else T.1 2 e) ≤ 9
  split
  · omega
  · exact (t7 e).2.2.1
theorem ok_r {T : Tb} {i n : Nat} (hT : TbOK T) (hn : n < 10) : TbOK (setT T 5 i n) := by
  obtain ⟨t1, t2, t3, t4, t5, t6, t7, t8, t9⟩ := hT
  refine ⟨t1, t2, t3, t4, t5, t6, t7, fun e => ?_, t9⟩
  show (if 5 = 5 ∧ e = i then n else T.1 5 e) ≤ 9
  split
  · omega
  · exact t8 e
theorem ok_b {T : Tb} {n : Nat} (hT : TbOK T) (hn : n < 100) : TbOK (setT T 7 1 n) := by
  obtain ⟨t1, t2, t3, t4, t5, t6, t7, t8, t9⟩ := hT
  exact ⟨t1, by show n ≤ 99; omega, t3, t4, t5, t6, t7, t8, t9⟩
set_option maxRecDepth 100000 in
theorem m_X6_hunger {G : WT} {l : Launch} (hG : GOK G) {h : Hp} {n q : Nat} {V : Hv} {T : Tb} {e x : Int32} (C : DIc h n q V T) : Cl G l 2 yX6_hunger cX6_hunger 4 (some .int) [.ref (gA G 0), .int e, .int x] h (fun r h' => r = some (.int (hungerS T e x).1) ∧ DIc h' n q V (hungerS T e x).2 ∧ Fx mnF h h') := by
  refine Cl.of hG (by decide) (Nat.le_of_ble_eq_true rfl) ?_
  show Wp G l 2 RX6 cX6_hunger 4 (some .int) 0 [.ref (gA G 0), .int e, .int x, mk0] [] h _
  have hE5 := C.2.1.1
  cases he : dec e (T.1 7 0) with
  | none =>
    have es : hungerS T e x = (-1, T) := by rw [hungerS, he]
    rw [es]
    refine r_aload_n dX6_hunger_0 rfl ?_
    refine r_iload_n dX6_hunger_1 rfl ?_
    refine r_callV dX6_hunger_2 l_X6_89 o_X6_isEater v_X6_isEater rfl (by decide) rfl rfl (m_X6_isEater hG hE5 C.1.1.1) (by decide) rfl (Nat.le_of_ble_eq_true rfl) (fun r2 h2 hq2 => ?_)
    obtain ⟨rfl, rfl⟩ := hq2
    rw [he]
    refine r_if_ne (tgt := 10) dX6_hunger_5 (by decide) (fun c_5 => ?_) (fun c_5 => ?_)
    · exact absurd none_f c_5
    · refine r_iconst (v := -1) dX6_hunger_8 (by decide) ?_
      refine r_ireturn dX6_hunger_9 ⟨_, rfl, rfl⟩ ?_
      exact ⟨rfl, C, Fx.rf⟩
  | some i =>
    obtain ⟨i1, rfl, -⟩ := dec_some.mp he
    cases hx : dec x 10 with
    | none =>
      have es : hungerS T (nI i) x = (-2, T) := by rw [hungerS, he]; dsimp only; rw [hx]
      rw [es]
      refine r_aload_n dX6_hunger_0 rfl ?_
      refine r_iload_n dX6_hunger_1 rfl ?_
      refine r_callV dX6_hunger_2 l_X6_89 o_X6_isEater v_X6_isEater rfl (by decide) rfl rfl (m_X6_isEater hG hE5 C.1.1.1) (by decide) rfl (Nat.le_of_ble_eq_true rfl) (fun r2 h2 hq2 => ?_)
      obtain ⟨rfl, rfl⟩ := hq2
      rw [he]
      refine r_if_ne (tgt := 10) dX6_hunger_5 (by decide) (fun c_5 => ?_) (fun c_5 => ?_)
      · refine r_iload_n dX6_hunger_10 rfl ?_
        refine r_bipush (v := 9) dX6_hunger_11 (by decide) ?_
        rw [show (9 : Int32) = nI 9 from rfl]
        refine r_callS dX6_hunger_13 l_X6_78 o_X6_within s_X6_within rfl (m_X6_within hG (x := x) (m := 9) (by omega)) (by decide) rfl (Nat.le_of_ble_eq_true rfl) (fun r13 h13 hq13 => ?_)
        obtain ⟨rfl, rfl⟩ := hq13
        rw [hx]
        refine r_if_ne (tgt := 22) dX6_hunger_16 (by decide) (fun c_16 => ?_) (fun c_16 => ?_)
        · exact absurd none_f c_16
        · refine r_bipush (v := -2) dX6_hunger_19 (by decide) ?_
          refine r_ireturn dX6_hunger_21 ⟨_, rfl, rfl⟩ ?_
          exact ⟨rfl, C, Fx.rf⟩
      · exact absurd c_5 some_t
    | some v =>
      obtain ⟨v1, rfl, -⟩ := dec_some.mp hx
      have es : hungerS T (nI i) (nI v) = (nI (T.1 2 i), setT T 2 i v) := by rw [hungerS, he]; dsimp only; rw [hx]
      rw [es]
      have c9 := ((C.1.2.1 i (by omega)).1 i1).2.2.1
      have F9 : Fr noF h (setI h 4 i (nI v)) := Fr.set rfl
      refine r_aload_n dX6_hunger_0 rfl ?_
      refine r_iload_n dX6_hunger_1 rfl ?_
      refine r_callV dX6_hunger_2 l_X6_89 o_X6_isEater v_X6_isEater rfl (by decide) rfl rfl (m_X6_isEater hG hE5 C.1.1.1) (by decide) rfl (Nat.le_of_ble_eq_true rfl) (fun r2 h2 hq2 => ?_)
      obtain ⟨rfl, rfl⟩ := hq2
      rw [he]
      refine r_if_ne (tgt := 10) dX6_hunger_5 (by decide) (fun c_5 => ?_) (fun c_5 => ?_)
      · refine r_iload_n dX6_hunger_10 rfl ?_
        refine r_bipush (v := 9) dX6_hunger_11 (by decide) ?_
        rw [show (9 : Int32) = nI 9 from rfl]
        refine r_callS dX6_hunger_13 l_X6_78 o_X6_within s_X6_within rfl (m_X6_within hG (x := nI v) (m := 9) (by omega)) (by decide) rfl (Nat.le_of_ble_eq_true rfl) (fun r13 h13 hq13 => ?_)
        obtain ⟨rfl, rfl⟩ := hq13
        rw [hx]
        refine r_if_ne (tgt := 22) dX6_hunger_16 (by decide) (fun c_16 => ?_) (fun c_16 => ?_)
        · refine r_aload_n dX6_hunger_22 rfl ?_
          refine r_getR (j := 1) dX6_hunger_23 k_X6_12 rfl (by decide) rfl rfl ?_
          refine r_getR (j := 4) dX6_hunger_26 k_X6_100 rfl (by decide) rfl rfl ?_
          refine r_iload_n dX6_hunger_29 rfl ?_
          refine r_iald (i) dX6_hunger_30 rfl rfl (show i < 5 by omega) ?_
          rw [c9]
          refine r_istore_n dX6_hunger_31 (by decide) rfl rfl ?_
          dsimp only [List.set]
          refine r_aload_n dX6_hunger_32 rfl ?_
          refine r_getR (j := 1) dX6_hunger_33 k_X6_12 rfl (by decide) rfl rfl ?_
          refine r_getR (j := 4) dX6_hunger_36 k_X6_100 rfl (by decide) rfl rfl ?_
          refine r_iload_n dX6_hunger_39 rfl ?_
          refine r_iload_n dX6_hunger_40 rfl ?_
          refine r_iast (i) dX6_hunger_41 rfl rfl (show i < 5 by omega) ?_
          refine r_iload_n dX6_hunger_42 rfl ?_
          refine r_ireturn dX6_hunger_43 ⟨_, rfl, rfl⟩ ?_
          refine ⟨rfl, C.no F9 (C.1.ext rfl rfl ⟨?_, ?_, ?_, ?_, ?_, ?_⟩ (fun e y => ?_) (fun e y1 y2 => ?_) (fun k y1 y2 => ?_)) (ok_h C.2.1 v1) C.2.2.1 rfl, no_mn F9⟩
          · exact C.1.1.1
          · exact C.1.1.2.1
          · exact C.1.1.2.2.1
          · exact C.1.1.2.2.2.1
          · exact C.1.1.2.2.2.2.1
          · exact C.1.1.2.2.2.2.2
          · obtain ⟨b1, b2, b3, b4, b5, b6⟩ := (C.1.2.1 e (by omega)).1 y
            refine ⟨b1, b2, ?_, b4, b5, b6⟩
            by_cases z : e = i
            · rw [z, setI_at, sT_at]
            · rw [setI_nj z, sT_ne (fun y9 => z y9.2)]; exact b3
          · exact ⟨rfl, rfl, fun p hp => rfl⟩
          · exact C.1.2.2 k y1 y2
        · exact absurd c_16 some_t
      · exact absurd c_5 some_t
set_option maxRecDepth 100000 in
theorem m_X6_row {G : WT} {l : Launch} (hG : GOK G) {h : Hp} {n q : Nat} {V : Hv} {T : Tb} {e p x : Int32} (C : DIc h n q V T) : Cl G l 2 yX6_row cX6_row 5 (some .int) [.ref (gA G 0), .int e, .int p, .int x] h (fun r h' => r = some (.int (rowS T e p x).1) ∧ DIc h' n q V (rowS T e p x).2 ∧ Fx mnF h h') := by
  refine Cl.of hG (by decide) (Nat.le_of_ble_eq_true rfl) ?_
  show Wp G l 2 RX6 cX6_row 5 (some .int) 0 [.ref (gA G 0), .int e, .int p, .int x, mk0] [] h _
  have hE5 := C.2.1.1
  have k16 : ∀ (g : Hp), g = h → (dec e (T.1 7 0) = none ∨ dec p 4 = none) → Wp G l 2 RX6 cX6_row 5 (some .int) 16 [.ref (gA G 0), .int e, .int p, .int x, mk0] [] g (fun r h' => r = some (.int (rowS T e p x).1) ∧ DIc h' n q V (rowS T e p x).2 ∧ Fx mnF h h') := by
    intro g hg hb
    subst hg
    have es : rowS T e p x = (-1, T) := by
      rw [rowS]
      rcases hb with hb | hb
      · rw [hb]
      · rw [hb]
        cases dec e (T.1 7 0) <;> rfl
    rw [es]
    refine r_iconst (v := -1) dX6_row_16 (by decide) ?_
    refine r_ireturn dX6_row_17 ⟨_, rfl, rfl⟩ ?_
    exact ⟨rfl, C, Fx.rf⟩
  cases he : dec e (T.1 7 0) with
  | none =>
    refine r_aload_n dX6_row_0 rfl ?_
    refine r_iload_n dX6_row_1 rfl ?_
    refine r_callV dX6_row_2 l_X6_89 o_X6_isEater v_X6_isEater rfl (by decide) rfl rfl (m_X6_isEater hG hE5 C.1.1.1) (by decide) rfl (Nat.le_of_ble_eq_true rfl) (fun r2 h2 hq2 => ?_)
    obtain ⟨rfl, rfl⟩ := hq2
    rw [he]
    refine r_if_eq (tgt := 16) dX6_row_5 (by decide) (fun c_5 => ?_) (fun c_5 => ?_)
    · exact k16 _ rfl (Or.inl he)
    · exact absurd none_f c_5
  | some i =>
    cases hp : dec p 4 with
    | none =>
      refine r_aload_n dX6_row_0 rfl ?_
      refine r_iload_n dX6_row_1 rfl ?_
      refine r_callV dX6_row_2 l_X6_89 o_X6_isEater v_X6_isEater rfl (by decide) rfl rfl (m_X6_isEater hG hE5 C.1.1.1) (by decide) rfl (Nat.le_of_ble_eq_true rfl) (fun r2 h2 hq2 => ?_)
      obtain ⟨rfl, rfl⟩ := hq2
      rw [he]
      refine r_if_eq (tgt := 16) dX6_row_5 (by decide) (fun c_5 => ?_) (fun c_5 => ?_)
      · exact absurd c_5 some_t
      · refine r_iload_n dX6_row_8 rfl ?_
        refine r_iconst (v := 3) dX6_row_9 (by decide) ?_
        rw [show (3 : Int32) = nI 3 from rfl]
        refine r_callS dX6_row_10 l_X6_78 o_X6_within s_X6_within rfl (m_X6_within hG (x := p) (m := 3) (by omega)) (by decide) rfl (Nat.le_of_ble_eq_true rfl) (fun r10 h10 hq10 => ?_)
        obtain ⟨rfl, rfl⟩ := hq10
        rw [hp]
        refine r_if_ne (tgt := 18) dX6_row_13 (by decide) (fun c_13 => ?_) (fun c_13 => ?_)
        · exact absurd none_f c_13
        · exact k16 _ rfl (Or.inr hp)
    | some p1 =>
      obtain ⟨i1, rfl, -⟩ := dec_some.mp he
      obtain ⟨pp1, rfl, -⟩ := dec_some.mp hp
      cases hx : dec x 10 with
      | none =>
        have es : rowS T (nI i) (nI p1) x = (-2, T) := by rw [rowS, he, hp]; dsimp only; rw [hx]
        rw [es]
        refine r_aload_n dX6_row_0 rfl ?_
        refine r_iload_n dX6_row_1 rfl ?_
        refine r_callV dX6_row_2 l_X6_89 o_X6_isEater v_X6_isEater rfl (by decide) rfl rfl (m_X6_isEater hG hE5 C.1.1.1) (by decide) rfl (Nat.le_of_ble_eq_true rfl) (fun r2 h2 hq2 => ?_)
        obtain ⟨rfl, rfl⟩ := hq2
        rw [he]
        refine r_if_eq (tgt := 16) dX6_row_5 (by decide) (fun c_5 => ?_) (fun c_5 => ?_)
        · exact absurd c_5 some_t
        · refine r_iload_n dX6_row_8 rfl ?_
          refine r_iconst (v := 3) dX6_row_9 (by decide) ?_
          rw [show (3 : Int32) = nI 3 from rfl]
          refine r_callS dX6_row_10 l_X6_78 o_X6_within s_X6_within rfl (m_X6_within hG (x := nI p1) (m := 3) (by omega)) (by decide) rfl (Nat.le_of_ble_eq_true rfl) (fun r10 h10 hq10 => ?_)
          obtain ⟨rfl, rfl⟩ := hq10
          rw [hp]
          refine r_if_ne (tgt := 18) dX6_row_13 (by decide) (fun c_13 => ?_) (fun c_13 => ?_)
          · refine r_iload_n dX6_row_18 rfl ?_
            refine r_bipush (v := 9) dX6_row_19 (by decide) ?_
            rw [show (9 : Int32) = nI 9 from rfl]
            refine r_callS dX6_row_21 l_X6_78 o_X6_within s_X6_within rfl (m_X6_within hG (x := x) (m := 9) (by omega)) (by decide) rfl (Nat.le_of_ble_eq_true rfl) (fun r21 h21 hq21 => ?_)
            obtain ⟨rfl, rfl⟩ := hq21
            rw [hx]
            refine r_if_ne (tgt := 30) dX6_row_24 (by decide) (fun c_24 => ?_) (fun c_24 => ?_)
            · exact absurd none_f c_24
            · refine r_bipush (v := -2) dX6_row_27 (by decide) ?_
              refine r_ireturn dX6_row_29 ⟨_, rfl, rfl⟩ ?_
              exact ⟨rfl, C, Fx.rf⟩
          · exact absurd c_13 some_t
      | some v =>
        obtain ⟨v1, rfl, -⟩ := dec_some.mp hx
        obtain ⟨b1, b2, b3, b4, b5, b6⟩ := (C.1.2.1 i (by omega)).1 i1
        have k6 := (C.2.1.2.2.2.2.2.2.1 i).1
        have b1 : h.1 2 i = nI (T.1 0 i) := b1
        by_cases hk : T.1 0 i = 6
        · have es : rowS T (nI i) (nI p1) (nI v) = (nI (T.1 5 (4 * i + p1)), setT T 5 (4 * i + p1) v) := by rw [rowS, he, hp]; dsimp only; rw [hx]; dsimp only; rw [if_pos hk]
          rw [es]
          have F9 : Fr noF h (setI h 7 (4 * i + p1) (nI v)) := Fr.set rfl
          have e4 : nI i * 4 + nI p1 = nI (4 * i + p1) := by rw [show (4 : Int32) = nI 4 from rfl, pk_mul, nI_add, Nat.mul_comm]
          have b7 : h.1 7 (4 * i + p1) = nI (T.1 5 (4 * i + p1)) := b6 p1 pp1
          refine r_aload_n dX6_row_0 rfl ?_
          refine r_iload_n dX6_row_1 rfl ?_
          refine r_callV dX6_row_2 l_X6_89 o_X6_isEater v_X6_isEater rfl (by decide) rfl rfl (m_X6_isEater hG hE5 C.1.1.1) (by decide) rfl (Nat.le_of_ble_eq_true rfl) (fun r2 h2 hq2 => ?_)
          obtain ⟨rfl, rfl⟩ := hq2
          rw [he]
          refine r_if_eq (tgt := 16) dX6_row_5 (by decide) (fun c_5 => ?_) (fun c_5 => ?_)
          · exact absurd c_5 some_t
          · refine r_iload_n dX6_row_8 rfl ?_
            refine r_iconst (v := 3) dX6_row_9 (by decide) ?_
            rw [show (3 : Int32) = nI 3 from rfl]
            refine r_callS dX6_row_10 l_X6_78 o_X6_within s_X6_within rfl (m_X6_within hG (x := nI p1) (m := 3) (by omega)) (by decide) rfl (Nat.le_of_ble_eq_true rfl) (fun r10 h10 hq10 => ?_)
            obtain ⟨rfl, rfl⟩ := hq10
            rw [hp]
            refine r_if_ne (tgt := 18) dX6_row_13 (by decide) (fun c_13 => ?_) (fun c_13 => ?_)
            · refine r_iload_n dX6_row_18 rfl ?_
              refine r_bipush (v := 9) dX6_row_19 (by decide) ?_
              rw [show (9 : Int32) = nI 9 from rfl]
              refine r_callS dX6_row_21 l_X6_78 o_X6_within s_X6_within rfl (m_X6_within hG (x := nI v) (m := 9) (by omega)) (by decide) rfl (Nat.le_of_ble_eq_true rfl) (fun r21 h21 hq21 => ?_)
              obtain ⟨rfl, rfl⟩ := hq21
              rw [hx]
              refine r_if_ne (tgt := 30) dX6_row_24 (by decide) (fun c_24 => ?_) (fun c_24 => ?_)
              · refine r_aload_n dX6_row_30 rfl ?_
                refine r_getR (j := 1) dX6_row_31 k_X6_12 rfl (by decide) rfl rfl ?_
                refine r_getR (j := 2) dX6_row_34 k_X6_94 rfl (by decide) rfl rfl ?_
                refine r_iload_n dX6_row_37 rfl ?_
                refine r_iald (i) dX6_row_38 rfl rfl (show i < 5 by omega) ?_
                rw [b1, hk]
                refine r_bipush (v := 6) dX6_row_39 (by decide) ?_
                refine r_icmp_eq (tgt := 47) dX6_row_41 (by decide) (fun c_41 => ?_) (fun c_41 => ?_)
                · refine r_aload_n dX6_row_47 rfl ?_
                  refine r_getR (j := 1) dX6_row_48 k_X6_12 rfl (by decide) rfl rfl ?_
                  refine r_getR (j := 7) dX6_row_51 k_X6_128 rfl (by decide) rfl rfl ?_
                  refine r_iload_n dX6_row_54 rfl ?_
                  refine r_iconst (v := 4) dX6_row_55 (by decide) ?_
                  refine r_imul dX6_row_56 ?_
                  refine r_iload_n dX6_row_57 rfl ?_
                  refine r_iadd dX6_row_58 ?_
                  refine r_iald (4 * i + p1) dX6_row_59 rfl e4 (show 4 * i + p1 < 20 by omega) ?_
                  rw [b7]
                  refine r_istore dX6_row_60 (by decide) rfl rfl ?_
                  dsimp only [List.set]
                  refine r_aload_n dX6_row_62 rfl ?_
                  refine r_getR (j := 1) dX6_row_63 k_X6_12 rfl (by decide) rfl rfl ?_
                  refine r_getR (j := 7) dX6_row_66 k_X6_128 rfl (by decide) rfl rfl ?_
                  refine r_iload_n dX6_row_69 rfl ?_
                  refine r_iconst (v := 4) dX6_row_70 (by decide) ?_
                  refine r_imul dX6_row_71 ?_
                  refine r_iload_n dX6_row_72 rfl ?_
                  refine r_iadd dX6_row_73 ?_
                  refine r_iload_n dX6_row_74 rfl ?_
                  refine r_iast (4 * i + p1) dX6_row_75 rfl e4 (show 4 * i + p1 < 20 by omega) ?_
                  refine r_iload dX6_row_76 rfl ?_
                  refine r_ireturn dX6_row_78 ⟨_, rfl, rfl⟩ ?_
                  refine ⟨rfl, C.no F9 (C.1.ext rfl rfl ⟨?_, ?_, ?_, ?_, ?_, ?_⟩ (fun e y => ?_) (fun e y1 y2 => ?_) (fun k y1 y2 => ?_)) (ok_r C.2.1 v1) C.2.2.1 rfl, no_mn F9⟩
                  · exact C.1.1.1
                  · exact C.1.1.2.1
                  · exact C.1.1.2.2.1
                  · exact C.1.1.2.2.2.1
                  · exact C.1.1.2.2.2.2.1
                  · exact C.1.1.2.2.2.2.2
                  · obtain ⟨a1, a2, a3, a4, a5, a6⟩ := (C.1.2.1 e (by omega)).1 y
                    refine ⟨a1, a2, a3, a4, a5, fun o ho => ?_⟩
                    by_cases z : 4 * e + o = 4 * i + p1
                    · rw [z, setI_at, sT_at]
                    · rw [setI_nj z, sT_ne (fun y9 => z y9.2)]; exact a6 o ho
                  · exact ⟨rfl, rfl, fun o ho => by rw [setI_nj (by omega)]⟩
                  · exact C.1.2.2 k y1 y2
                · exact absurd rfl c_41
              · exact absurd c_24 some_t
            · exact absurd c_13 some_t
        · have es : rowS T (nI i) (nI p1) (nI v) = (-3, T) := by rw [rowS, he, hp]; dsimp only; rw [hx]; dsimp only; rw [if_neg hk]
          rw [es]
          refine r_aload_n dX6_row_0 rfl ?_
          refine r_iload_n dX6_row_1 rfl ?_
          refine r_callV dX6_row_2 l_X6_89 o_X6_isEater v_X6_isEater rfl (by decide) rfl rfl (m_X6_isEater hG hE5 C.1.1.1) (by decide) rfl (Nat.le_of_ble_eq_true rfl) (fun r2 h2 hq2 => ?_)
          obtain ⟨rfl, rfl⟩ := hq2
          rw [he]
          refine r_if_eq (tgt := 16) dX6_row_5 (by decide) (fun c_5 => ?_) (fun c_5 => ?_)
          · exact absurd c_5 some_t
          · refine r_iload_n dX6_row_8 rfl ?_
            refine r_iconst (v := 3) dX6_row_9 (by decide) ?_
            rw [show (3 : Int32) = nI 3 from rfl]
            refine r_callS dX6_row_10 l_X6_78 o_X6_within s_X6_within rfl (m_X6_within hG (x := nI p1) (m := 3) (by omega)) (by decide) rfl (Nat.le_of_ble_eq_true rfl) (fun r10 h10 hq10 => ?_)
            obtain ⟨rfl, rfl⟩ := hq10
            rw [hp]
            refine r_if_ne (tgt := 18) dX6_row_13 (by decide) (fun c_13 => ?_) (fun c_13 => ?_)
            · refine r_iload_n dX6_row_18 rfl ?_
              refine r_bipush (v := 9) dX6_row_19 (by decide) ?_
              rw [show (9 : Int32) = nI 9 from rfl]
              refine r_callS dX6_row_21 l_X6_78 o_X6_within s_X6_within rfl (m_X6_within hG (x := nI v) (m := 9) (by omega)) (by decide) rfl (Nat.le_of_ble_eq_true rfl) (fun r21 h21 hq21 => ?_)
              obtain ⟨rfl, rfl⟩ := hq21
              rw [hx]
              refine r_if_ne (tgt := 30) dX6_row_24 (by decide) (fun c_24 => ?_) (fun c_24 => ?_)
              · refine r_aload_n dX6_row_30 rfl ?_
                refine r_getR (j := 1) dX6_row_31 k_X6_12 rfl (by decide) rfl rfl ?_
                refine r_getR (j := 2) dX6_row_34 k_X6_94 rfl (by decide) rfl rfl ?_
                refine r_iload_n dX6_row_37 rfl ?_
                refine r_iald (i) dX6_row_38 rfl rfl (show i < 5 by omega) ?_
                rw [b1]
                refine r_bipush (v := 6) dX6_row_39 (by decide) ?_
                refine r_icmp_eq (tgt := 47) dX6_row_41 (by decide) (fun c_41 => ?_) (fun c_41 => ?_)
                · exact absurd ((nI_eq' (b := 6) (by omega) (by omega)).mp c_41) hk
                · refine r_bipush (v := -3) dX6_row_44 (by decide) ?_
                  refine r_ireturn dX6_row_46 ⟨_, rfl, rfl⟩ ?_
                  exact ⟨rfl, C, Fx.rf⟩
              · exact absurd c_24 some_t
            · exact absurd c_13 some_t
set_option maxRecDepth 100000 in
theorem m_X6_bin {G : WT} {l : Launch} (hG : GOK G) {h : Hp} {n q : Nat} {V : Hv} {T : Tb} {x : Int32} (C : DIc h n q V T) : Cl G l 2 yX6_bin cX6_bin 3 (some .int) [.ref (gA G 0), .int x] h (fun r h' => r = some (.int (binS T x).1) ∧ DIc h' n q V (binS T x).2 ∧ Fx mnF h h') := by
  refine Cl.of hG (by decide) (Nat.le_of_ble_eq_true rfl) ?_
  show Wp G l 2 RX6 cX6_bin 3 (some .int) 0 [.ref (gA G 0), .int x, mk0] [] h _
  cases hx : dec x 100 with
  | none =>
    have es : binS T x = (-2, T) := by rw [binS, hx]
    rw [es]
    refine r_iload_n dX6_bin_0 rfl ?_
    refine r_bipush (v := 99) dX6_bin_1 (by decide) ?_
    rw [show (99 : Int32) = nI 99 from rfl]
    refine r_callS dX6_bin_3 l_X6_78 o_X6_within s_X6_within rfl (m_X6_within hG (x := x) (m := 99) (by omega)) (by decide) rfl (Nat.le_of_ble_eq_true rfl) (fun r3 h3 hq3 => ?_)
    obtain ⟨rfl, rfl⟩ := hq3
    rw [hx]
    refine r_if_ne (tgt := 12) dX6_bin_6 (by decide) (fun c_6 => ?_) (fun c_6 => ?_)
    · exact absurd none_f c_6
    · refine r_bipush (v := -2) dX6_bin_9 (by decide) ?_
      refine r_ireturn dX6_bin_11 ⟨_, rfl, rfl⟩ ?_
      exact ⟨rfl, C, Fx.rf⟩
  | some v =>
    obtain ⟨v1, rfl, -⟩ := dec_some.mp hx
    have es : binS T (nI v) = (nI (T.1 7 1), setT T 7 1 v) := by rw [binS, hx]
    rw [es]
    have F9 : Fr noF h (setI h 1 8 (nI v)) := Fr.set rfl
    refine r_iload_n dX6_bin_0 rfl ?_
    refine r_bipush (v := 99) dX6_bin_1 (by decide) ?_
    rw [show (99 : Int32) = nI 99 from rfl]
    refine r_callS dX6_bin_3 l_X6_78 o_X6_within s_X6_within rfl (m_X6_within hG (x := nI v) (m := 99) (by omega)) (by decide) rfl (Nat.le_of_ble_eq_true rfl) (fun r3 h3 hq3 => ?_)
    obtain ⟨rfl, rfl⟩ := hq3
    rw [hx]
    refine r_if_ne (tgt := 12) dX6_bin_6 (by decide) (fun c_6 => ?_) (fun c_6 => ?_)
    · refine r_aload_n dX6_bin_12 rfl ?_
      refine r_getR (j := 1) dX6_bin_13 k_X6_12 rfl (by decide) rfl rfl ?_
      refine r_getI dX6_bin_16 k_X6_131 rfl (by decide) rfl ?_
      rw [C.1.1.2.1]
      refine r_istore_n dX6_bin_19 (by decide) rfl rfl ?_
      dsimp only [List.set]
      refine r_aload_n dX6_bin_20 rfl ?_
      refine r_getR (j := 1) dX6_bin_21 k_X6_12 rfl (by decide) rfl rfl ?_
      refine r_iload_n dX6_bin_24 rfl ?_
      refine r_putI dX6_bin_25 k_X6_131 rfl (by decide) rfl rfl rfl rfl ?_
      refine r_iload_n dX6_bin_28 rfl ?_
      refine r_ireturn dX6_bin_29 ⟨_, rfl, rfl⟩ ?_
      exact ⟨rfl, C.no F9 (C.1.bin (s := v)) (ok_b C.2.1 v1) C.2.2.1 rfl, no_mn F9⟩
    · exact absurd c_6 some_t
