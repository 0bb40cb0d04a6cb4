/-! the reference: facts of letters, holds, sums -/
def RLt (h : Hp) (i a : Nat) (lt : Nat → Nat) : Prop := i < 6 ∧ a < 1000 ∧ lt 0 = i ∧ lt 3 = a ∧ h.1 135 i = nI (lt 1) ∧ h.1 137 i = nI (lt 2) ∧ (∃ s, s < 1000 ∧ h.1 134 1 = nI s ∧ lt 4 = s / 10) ∧ (∃ d, d < 1000000 ∧ h.1 134 2 = nI d ∧ lt 5 = d % 7) ∧ lt 1 < 100 ∧ lt 2 < 100
theorem RLt.lt {h : Hp} {i a : Nat} {lt : Nat → Nat} (H : RLt h i a lt) {f : Nat} (hf : f ≤ 5) : lt f < 100000 := by
  obtain ⟨h1, h2, h3, h4, -, -, ⟨s, h5, -, h6⟩, ⟨d, -, -, h7⟩, h8, h9⟩ := H
  rcases (show f = 0 ∨ f = 1 ∨ f = 2 ∨ f = 3 ∨ f = 4 ∨ f = 5 by omega) with rfl | rfl | rfl | rfl | rfl | rfl <;> omega
set_option maxRecDepth 100000 in
theorem m_X7_factOf {G : WT} {l : Launch} (hG : GOK G) {h : Hp} {f i a : Nat} {lt : Nat → Nat} (hf : f ≤ 5) (H : RLt h i a lt) : Cl G l 1 yX7_factOf cX7_factOf 4 (some .int) [.ref (gA G 134), .int (nI f), .int (nI i), .int (nI a)] h (fun r h' => r = some (.int (nI (lt f))) ∧ h' = h) := by
  refine Cl.of hG (by decide) (Nat.le_of_ble_eq_true rfl) ?_
  show Wp G l 1 RX7 cX7_factOf 4 (some .int) 0 [.ref (gA G 134), .int (nI f), .int (nI i), .int (nI a)] [] h _
  obtain ⟨h1, h2, h3, h4, h5, h6, ⟨s, hs, h7, h8⟩, ⟨d, hd, h9, h10⟩, -, -⟩ := H
  refine r_iload_n dX7_factOf_0 rfl ?_
  rcases (show f = 0 ∨ f = 1 ∨ f = 2 ∨ f = 3 ∨ f = 4 ∨ f = 5 by omega) with rfl | rfl | rfl | rfl | rfl | rfl
  · refine r_tsw 36 dX7_factOf_1 rfl (by decide) (by decide) ?_
    refine r_iload_n dX7_factOf_36 rfl ?_
    refine r_ireturn dX7_factOf_37 ⟨_, rfl, rfl⟩ ?_
    exact ⟨by rw [h3], rfl⟩
  · refine r_tsw 38 dX7_factOf_1 rfl (by decide) (by decide) ?_
    refine r_aload_n dX7_factOf_38 rfl ?_
    refine r_getR (j := 135) dX7_factOf_39 k_X7_22 rfl (by decide) rfl rfl ?_
    refine r_iload_n dX7_factOf_42 rfl ?_
    refine r_iald (i) dX7_factOf_43 rfl rfl (show i < 6 from h1) ?_
    refine r_ireturn dX7_factOf_44 ⟨_, rfl, rfl⟩ ?_
    exact ⟨by rw [h5], rfl⟩
  · refine r_tsw 45 dX7_factOf_1 rfl (by decide) (by decide) ?_
    refine r_aload_n dX7_factOf_45 rfl ?_
    refine r_getR (j := 137) dX7_factOf_46 k_X7_29 rfl (by decide) rfl rfl ?_
    refine r_iload_n dX7_factOf_49 rfl ?_
    refine r_iald (i) dX7_factOf_50 rfl rfl (show i < 6 from h1) ?_
    refine r_ireturn dX7_factOf_51 ⟨_, rfl, rfl⟩ ?_
    exact ⟨by rw [h6], rfl⟩
  · refine r_tsw 52 dX7_factOf_1 rfl (by decide) (by decide) ?_
    refine r_iload_n dX7_factOf_52 rfl ?_
    refine r_ireturn dX7_factOf_53 ⟨_, rfl, rfl⟩ ?_
    exact ⟨by rw [h4], rfl⟩
  · refine r_tsw 54 dX7_factOf_1 rfl (by decide) (by decide) ?_
    refine r_aload_n dX7_factOf_54 rfl ?_
    refine r_getI dX7_factOf_55 k_X7_13 rfl (by decide) rfl ?_
    refine r_bipush (v := 10) dX7_factOf_58 (by decide) ?_
    refine r_idiv dX7_factOf_60 (by decide) ?_
    refine r_ireturn dX7_factOf_61 ⟨_, rfl, rfl⟩ ?_
    exact ⟨by rw [h7, h8, show (10 : Int32) = nI 10 from rfl, nI_div (by omega) (by omega) (by omega)], rfl⟩
  · refine r_tsw 62 dX7_factOf_1 rfl (by decide) (by decide) ?_
    refine r_aload_n dX7_factOf_62 rfl ?_
    refine r_getI dX7_factOf_63 k_X7_16 rfl (by decide) rfl ?_
    refine r_bipush (v := 7) dX7_factOf_66 (by decide) ?_
    refine r_irem dX7_factOf_68 (by decide) ?_
    refine r_ireturn dX7_factOf_69 ⟨_, rfl, rfl⟩ ?_
    exact ⟨by rw [h9, h10, show (7 : Int32) = nI 7 from rfl, nI_rem (by omega) (by omega) (by omega)], rfl⟩
/-! the pile -/
def PileOK (h : Hp) (st : List Bool) : Prop := ∀ (j : Nat) (b : Bool), st[j]? = some b → h.1 150 (st.length - 1 - j) = b01 b
theorem PileOK.tl {h : Hp} {b : Bool} {s : List Bool} (H : PileOK h (b :: s)) : PileOK h s := fun j c hj => by
  have h1 := H (j + 1) c (by simpa using hj)
  have hl := (List.getElem?_eq_some_iff.mp hj).1
  rw [show (b :: s).length - 1 - (j + 1) = s.length - 1 - j by simp; omega] at h1
  exact h1
theorem PileOK.hd {h : Hp} {b : Bool} {s : List Bool} (H : PileOK h (b :: s)) : h.1 150 s.length = b01 b := by
  have := H 0 b rfl
  simpa using this
theorem PileOK.put {h : Hp} {v : Bool} {x : Int32} {s : List Bool} (H : PileOK h s) (hx : x = b01 v) : PileOK (setI h 150 s.length x) (v :: s) := fun j c hj => by
  cases j with
  | zero =>
    simp at hj
    subst hj
    rw [setI_1, if_pos ⟨rfl, by simp⟩, hx]
  | succ j =>
    have hj2 : s[j]? = some c := by simpa using hj
    have hl := (List.getElem?_eq_some_iff.mp hj2).1
    rw [setI_1, if_neg (by intro q; have := q.2; simp at this; omega), show (v :: s).length - 1 - (j + 1) = s.length - 1 - j by simp; omega]
    exact H j c hj2
def pileF (a _i : Nat) : Bool := a == 150
theorem Fr.pile {h : Hp} {i : Nat} {v : Int32} : Fr pileF h (setI h 150 i v) := Fr.set rfl
theorem RLt.fr {h h' : Hp} {i a : Nat} {lt : Nat → Nat} {S : Nat → Nat → Bool} (H : RLt h i a lt) (hF : Fr S h h') (h1 : ∀ j, S 135 j = false) (h2 : ∀ j, S 137 j = false) (h3 : S 134 1 = false) (h4 : S 134 2 = false) : RLt h' i a lt := by
  unfold RLt
  rw [hF.1 _ _ (h1 i), hF.1 _ _ (h2 i), hF.1 _ _ h3, hF.1 _ _ h4]
  exact H
theorem dpS_le {d e : Nat} {t : Int} (h : dpS d t = some e) (hd : d ≤ 20) : e ≤ 20 := by
  unfold dpS at h
  split at h
  · split at h
    · cases h; exact hd
    · cases h
  · split at h
    · split at h
      · cases h; omega
      · cases h
    · split at h
      · cases h; omega
      · cases h
theorem holds_loop {G : WT} {l : Launch} (hG : GOK G) {c i a : Nat} {lt : Nat → Nat} (hc : c < 60) : ∀ (rest : List Int) (st : List Bool) (k : Nat) (h : Hp) (v6 v7 v8 : Value), h.1 146 c = nI (k + rest.length) → k + rest.length ≤ 600 → (∀ (j : Nat) (t : Int), rest[j]? = some t → h.1 147 (k + j) = zI t) → dpL st.length rest = some 1 → st.length ≤ 20 → PileOK h st → RLt h i a lt → Wp G l 2 RX7 cX7_holds 9 (some .boolean) 11 [.ref (gA G 134), .int (nI c), .int (nI i), .int (nI a), .int (nI st.length), .int (nI k), v6, v7, v8] [] h (fun r h' => r = some (.int (b01 ((evL lt st rest).headD false))) ∧ Fr pileF h h') := by
  intro rest
  induction rest with
  | nil =>
    intro st k h v6 v7 v8 hto hk hsg hdp hst hp hlt
    have hl : st.length = 1 := by simpa [dpL] using hdp
    obtain ⟨b, rfl⟩ : ∃ b, st = [b] := List.length_eq_one_iff.mp hl
    have hb := hp.hd
    refine r_iload dX7_holds_11 rfl ?_
    refine r_aload_n dX7_holds_13 rfl ?_
    refine r_getR (j := 146) dX7_holds_14 k_X7_71 rfl (by decide) rfl rfl ?_
    refine r_iload_n dX7_holds_17 rfl ?_
    refine r_iald (c) dX7_holds_18 rfl rfl (show c < 60 from hc) ?_
    rw [hto]
    refine r_icmp_ge (tgt := 253) dX7_holds_19 (by decide) (fun c_19 => ?_) (fun c_19 => ?_)
    · refine r_aload_n dX7_holds_253 rfl ?_
      refine r_getR (j := 150) dX7_holds_254 k_X7_92 rfl (by decide) rfl rfl ?_
      refine r_iconst (v := 0) dX7_holds_257 (by decide) ?_
      refine r_zald (0) dX7_holds_258 rfl rfl (by decide) ?_
      rw [show h.1 150 0 = b01 b from hb]
      refine r_ireturn dX7_holds_259 ⟨_, rfl, (b01_nar _)⟩ ?_
      exact ⟨rfl, Fr.rf⟩
    · exact absurd (Int32.le_refl _) c_19
  | cons t rest ih =>
    intro st k h v6 v7 v8 hto hk hsg hdp hst hp hlt
    have hsz : k + 1 + rest.length = k + (t :: rest).length := by simp; omega
    have ht := hsg 0 t rfl
    rw [Nat.add_zero] at ht
    have hkl : k < 600 := by simp at hk; omega
    obtain ⟨e, he, hde⟩ : ∃ e, dpS st.length t = some e ∧ dpL e rest = some 1 := by
      simp only [dpL] at hdp
      cases hx : dpS st.length t with
      | none => rw [hx] at hdp; cases hdp
      | some e => rw [hx] at hdp; exact ⟨e, rfl, hdp⟩
    have hlen := evS_len (lt := lt) he
    have nxt : ∀ (ix : Nat) (x : Int32) (n : Nat) (w6 w7 w8 : Value), PileOK (setI h 150 ix x) (evS lt st t) → n = (evS lt st t).length → Wp G l 2 RX7 cX7_holds 9 (some .boolean) 247 [.ref (gA G 134), .int (nI c), .int (nI i), .int (nI a), .int (nI n), .int (nI k), w6, w7, w8] [] (setI h 150 ix x) (fun r h' => r = some (.int (b01 ((evL lt st (t :: rest)).headD false))) ∧ Fr pileF h h') := by
      intro ix x n w6 w7 w8 hp2 hn
      subst hn
      refine r_iinc dX7_holds_247 rfl (by first | exact nI_inc _ | rfl) (by decide) rfl rfl ?_
      dsimp only [List.set]
      refine r_goto (tgt := 11) dX7_holds_250 (by decide) ?_
      exact Wp.mono (ih (evS lt st t) (k + 1) (setI h 150 ix x) w6 w7 w8 (by rw [hsz]; exact hto) (by rw [hsz]; exact hk) (fun j u hj => by
        have := hsg (j + 1) u (by simpa using hj)
        rw [show k + (j + 1) = k + 1 + j by omega] at this
        exact this) (by rw [hlen]; exact hde) (by rw [hlen]; exact dpS_le he hst) hp2 (hlt.fr Fr.pile (fun _ => rfl) (fun _ => rfl) rfl rfl)) (fun r h' q => ⟨q.1, Fr.pile.tr q.2⟩)
    have hlst : (k + (t :: rest).length) ≤ 600 := hk
    have hgt : ¬ nI (k + (t :: rest).length) ≤ nI k := nI_ge (by simp) (by omega)
    by_cases h1 : t = -33
    · subst h1
      match st, hp, he, nxt, hst with
      | [], hp, he, nxt, hst => cases he
      | b :: s, hp, he, nxt, hst =>
        have hl2 : s.length < 20 := hst
        have hb := hp.hd
        have em : nI (b :: s).length - 1 = nI s.length := nI_pred s.length
        refine r_iload dX7_holds_11 rfl ?_
        refine r_aload_n dX7_holds_13 rfl ?_
        refine r_getR (j := 146) dX7_holds_14 k_X7_71 rfl (by decide) rfl rfl ?_
        refine r_iload_n dX7_holds_17 rfl ?_
        refine r_iald (c) dX7_holds_18 rfl rfl (show c < 60 from hc) ?_
        rw [hto]
        refine r_icmp_ge (tgt := 253) dX7_holds_19 (by decide) (fun c_19 => ?_) (fun c_19 => ?_)
        · exact absurd c_19 hgt
        · refine r_aload_n dX7_holds_22 rfl ?_
          refine r_getR (j := 147) dX7_holds_23 k_X7_74 rfl (by decide) rfl rfl ?_
          refine r_iload dX7_holds_26 rfl ?_
          refine r_iald (k) dX7_holds_28 rfl rfl (show k < 600 from hkl) ?_
          rw [ht]
          refine r_istore dX7_holds_29 (by decide) rfl rfl ?_
          dsimp only [List.set]
          refine r_iload dX7_holds_31 rfl ?_
          refine r_bipush (v := -33) dX7_holds_33 (by decide) ?_
          refine r_icmp_ne (tgt := 67) dX7_holds_35 (by decide) (fun c_35 => ?_) (fun c_35 => ?_)
          · exact absurd rfl c_35
          · refine r_aload_n dX7_holds_38 rfl ?_
            refine r_getR (j := 150) dX7_holds_39 k_X7_92 rfl (by decide) rfl rfl ?_
            refine r_iload dX7_holds_42 rfl ?_
            refine r_iconst (v := 1) dX7_holds_44 (by decide) ?_
            refine r_isub dX7_holds_45 ?_
            refine r_aload_n dX7_holds_46 rfl ?_
            refine r_getR (j := 150) dX7_holds_47 k_X7_92 rfl (by decide) rfl rfl ?_
            refine r_iload dX7_holds_50 rfl ?_
            refine r_iconst (v := 1) dX7_holds_52 (by decide) ?_
            refine r_isub dX7_holds_53 ?_
            refine r_zald (s.length) dX7_holds_54 rfl em (show s.length < 100 by omega) ?_
            rw [hb]
            refine r_if_ne (tgt := 62) dX7_holds_55 (by decide) (fun c_55 => ?_) (fun c_55 => ?_)
            · have hv : b = true := b01_n0.mp c_55
              refine r_iconst (v := 0) dX7_holds_62 (by decide) ?_
              refine r_zast (s.length) dX7_holds_63 rfl em (show s.length < 100 by omega) ?_
              refine r_goto (tgt := 247) dX7_holds_64 (by decide) ?_
              exact nxt _ _ _ _ _ _ (PileOK.put hp.tl (by rw [hv]; rfl)) rfl
            · have hv : b = false := b01_0.mp c_55
              refine r_iconst (v := 1) dX7_holds_58 (by decide) ?_
              refine r_goto (tgt := 63) dX7_holds_59 (by decide) ?_
              refine r_zast (s.length) dX7_holds_63 rfl em (show s.length < 100 by omega) ?_
              refine r_goto (tgt := 247) dX7_holds_64 (by decide) ?_
              exact nxt _ _ _ _ _ _ (PileOK.put hp.tl (by rw [hv]; rfl)) rfl
    · by_cases h2 : t < 0
      · have ht2 : t = -38 ∨ t = -124 := by
          rw [dpS, if_neg h1, if_pos h2] at he
          split at he
          · rename_i q; exact q.2
          · cases he
        match st, hp, he, nxt, hst with
        | [], hp, he, nxt, hst => rw [dpS, if_neg h1, if_pos h2, if_neg (by simp)] at he; cases he
        | [b], hp, he, nxt, hst => rw [dpS, if_neg h1, if_pos h2, if_neg (by simp)] at he; cases he
        | b :: a2 :: s, hp, he, nxt, hst =>
          have hl2 : s.length + 2 ≤ 20 := hst
          have hb := hp.hd
          have ha := hp.tl.hd
          have em : nI (b :: a2 :: s).length + Int32.ofInt (-1) = nI (s.length + 1) := pk_m1 (s.length + 1)
          have em2 : nI (s.length + 1) - 1 = nI s.length := nI_pred s.length
          have nx2 := fun x w6 w7 w8 (v : Bool) (hv : (if t = -38 then a2 && b else a2 || b) = v) (hx : x = b01 v) => nxt s.length x (s.length + 1) w6 w7 w8 (by
            have e3 : evS lt (b :: a2 :: s) t = v :: s := by simp only [evS, if_neg h1, if_pos h2, hv]
            rw [e3]
            exact PileOK.put hp.tl.tl hx) (by simp only [evS, if_neg h1, if_pos h2]; rfl)
          rcases ht2 with rfl | rfl
          · refine r_iload dX7_holds_11 rfl ?_
            refine r_aload_n dX7_holds_13 rfl ?_
            refine r_getR (j := 146) dX7_holds_14 k_X7_71 rfl (by decide) rfl rfl ?_
            refine r_iload_n dX7_holds_17 rfl ?_
            refine r_iald (c) dX7_holds_18 rfl rfl (show c < 60 from hc) ?_
            rw [hto]
            refine r_icmp_ge (tgt := 253) dX7_holds_19 (by decide) (fun c_19 => ?_) (fun c_19 => ?_)
            · exact absurd c_19 hgt
            · refine r_aload_n dX7_holds_22 rfl ?_
              refine r_getR (j := 147) dX7_holds_23 k_X7_74 rfl (by decide) rfl rfl ?_
              refine r_iload dX7_holds_26 rfl ?_
              refine r_iald (k) dX7_holds_28 rfl rfl (show k < 600 from hkl) ?_
              rw [ht]
              refine r_istore dX7_holds_29 (by decide) rfl rfl ?_
              dsimp only [List.set]
              refine r_iload dX7_holds_31 rfl ?_
              refine r_bipush (v := -33) dX7_holds_33 (by decide) ?_
              refine r_icmp_ne (tgt := 67) dX7_holds_35 (by decide) (fun c_35 => ?_) (fun c_35 => ?_)
              · refine r_iload dX7_holds_67 rfl ?_
                refine r_if_ge (tgt := 151) dX7_holds_69 (by decide) (fun c_69 => ?_) (fun c_69 => ?_)
                · exact absurd c_69 (by decide)
                · refine r_iinc dX7_holds_72 rfl rfl (by decide) rfl rfl ?_
                  dsimp only [List.set]
                  rw [em]
                  refine r_aload_n dX7_holds_75 rfl ?_
                  refine r_getR (j := 150) dX7_holds_76 k_X7_92 rfl (by decide) rfl rfl ?_
                  refine r_iload dX7_holds_79 rfl ?_
                  refine r_iconst (v := 1) dX7_holds_81 (by decide) ?_
                  refine r_isub dX7_holds_82 ?_
                  refine r_iload dX7_holds_83 rfl ?_
                  refine r_bipush (v := -38) dX7_holds_85 (by decide) ?_
                  refine r_icmp_ne (tgt := 120) dX7_holds_87 (by decide) (fun c_87 => ?_) (fun c_87 => ?_)
                  · exact absurd rfl c_87
                  · refine r_aload_n dX7_holds_90 rfl ?_
                    refine r_getR (j := 150) dX7_holds_91 k_X7_92 rfl (by decide) rfl rfl ?_
                    refine r_iload dX7_holds_94 rfl ?_
                    refine r_iconst (v := 1) dX7_holds_96 (by decide) ?_
                    refine r_isub dX7_holds_97 ?_
                    refine r_zald (s.length) dX7_holds_98 rfl em2 (show s.length < 100 by omega) ?_
                    rw [ha]
                    refine r_if_eq (tgt := 116) dX7_holds_99 (by decide) (fun c_99 => ?_) (fun c_99 => ?_)
                    · have hv : a2 = false := b01_0.mp c_99
                      refine r_iconst (v := 0) dX7_holds_116 (by decide) ?_
                      refine r_goto (tgt := 147) dX7_holds_117 (by decide) ?_
                      refine r_zast (s.length) dX7_holds_147 rfl em2 (show s.length < 100 by omega) ?_
                      refine r_goto (tgt := 247) dX7_holds_148 (by decide) ?_
                      exact nx2 _ _ _ _ _ (by rw [if_pos rfl]) (by first | (rw [hv, hv2]; rfl) | (rw [hv]; rfl))
                    · have hv : a2 = true := b01_n0.mp c_99
                      refine r_aload_n dX7_holds_102 rfl ?_
                      refine r_getR (j := 150) dX7_holds_103 k_X7_92 rfl (by decide) rfl rfl ?_
                      refine r_iload dX7_holds_106 rfl ?_
                      refine r_zald (s.length + 1) dX7_holds_108 rfl rfl (show s.length + 1 < 100 by omega) ?_
                      rw [show h.1 150 (s.length + 1) = b01 b from hb]
                      refine r_if_eq (tgt := 116) dX7_holds_109 (by decide) (fun c_109 => ?_) (fun c_109 => ?_)
                      · have hv2 : b = false := b01_0.mp c_109
                        refine r_iconst (v := 0) dX7_holds_116 (by decide) ?_
                        refine r_goto (tgt := 147) dX7_holds_117 (by decide) ?_
                        refine r_zast (s.length) dX7_holds_147 rfl em2 (show s.length < 100 by omega) ?_
                        refine r_goto (tgt := 247) dX7_holds_148 (by decide) ?_
                        exact nx2 _ _ _ _ _ (by rw [if_pos rfl]) (by first | (rw [hv, hv2]; rfl) | (rw [hv]; rfl))
                      · have hv2 : b = true := b01_n0.mp c_109
                        refine r_iconst (v := 1) dX7_holds_112 (by decide) ?_
                        refine r_goto (tgt := 147) dX7_holds_113 (by decide) ?_
                        refine r_zast (s.length) dX7_holds_147 rfl em2 (show s.length < 100 by omega) ?_
                        refine r_goto (tgt := 247) dX7_holds_148 (by decide) ?_
                        exact nx2 _ _ _ _ _ (by rw [if_pos rfl]) (by first | (rw [hv, hv2]; rfl) | (rw [hv]; rfl))
              · exact absurd c_35 (by decide)
          · refine r_iload dX7_holds_11 rfl ?_
            refine r_aload_n dX7_holds_13 rfl ?_
            refine r_getR (j := 146) dX7_holds_14 k_X7_71 rfl (by decide) rfl rfl ?_
            refine r_iload_n dX7_holds_17 rfl ?_
            refine r_iald (c) dX7_holds_18 rfl rfl (show c < 60 from hc) ?_
            rw [hto]
            refine r_icmp_ge (tgt := 253) dX7_holds_19 (by decide) (fun c_19 => ?_) (fun c_19 => ?_)
            · exact absurd c_19 hgt
            · refine r_aload_n dX7_holds_22 rfl ?_
              refine r_getR (j := 147) dX7_holds_23 k_X7_74 rfl (by decide) rfl rfl ?_
              refine r_iload dX7_holds_26 rfl ?_
              refine r_iald (k) dX7_holds_28 rfl rfl (show k < 600 from hkl) ?_
              rw [ht]
              refine r_istore dX7_holds_29 (by decide) rfl rfl ?_
              dsimp only [List.set]
              refine r_iload dX7_holds_31 rfl ?_
              refine r_bipush (v := -33) dX7_holds_33 (by decide) ?_
              refine r_icmp_ne (tgt := 67) dX7_holds_35 (by decide) (fun c_35 => ?_) (fun c_35 => ?_)
              · refine r_iload dX7_holds_67 rfl ?_
                refine r_if_ge (tgt := 151) dX7_holds_69 (by decide) (fun c_69 => ?_) (fun c_69 => ?_)
                · exact absurd c_69 (by decide)
                · refine r_iinc dX7_holds_72 rfl rfl (by decide) rfl rfl ?_
                  dsimp only [List.set]
                  rw [em]
                  refine r_aload_n dX7_holds_75 rfl ?_
                  refine r_getR (j := 150) dX7_holds_76 k_X7_92 rfl (by decide) rfl rfl ?_
                  refine r_iload dX7_holds_79 rfl ?_
                  refine r_iconst (v := 1) dX7_holds_81 (by decide) ?_
                  refine r_isub dX7_holds_82 ?_
                  refine r_iload dX7_holds_83 rfl ?_
                  refine r_bipush (v := -38) dX7_holds_85 (by decide) ?_
                  refine r_icmp_ne (tgt := 120) dX7_holds_87 (by decide) (fun c_87 => ?_) (fun c_87 => ?_)
                  · refine r_aload_n dX7_holds_120 rfl ?_
                    refine r_getR (j := 150) dX7_holds_121 k_X7_92 rfl (by decide) rfl rfl ?_
                    refine r_iload dX7_holds_124 rfl ?_
                    refine r_iconst (v := 1) dX7_holds_126 (by decide) ?_
                    refine r_isub dX7_holds_127 ?_
                    refine r_zald (s.length) dX7_holds_128 rfl em2 (show s.length < 100 by omega) ?_
                    rw [ha]
                    refine r_if_ne (tgt := 142) dX7_holds_129 (by decide) (fun c_129 => ?_) (fun c_129 => ?_)
                    · have hv : a2 = true := b01_n0.mp c_129
                      refine r_iconst (v := 1) dX7_holds_142 (by decide) ?_
                      refine r_goto (tgt := 147) dX7_holds_143 (by decide) ?_
                      refine r_zast (s.length) dX7_holds_147 rfl em2 (show s.length < 100 by omega) ?_
                      refine r_goto (tgt := 247) dX7_holds_148 (by decide) ?_
                      exact nx2 _ _ _ _ _ (by rw [if_neg (by decide)]) (by first | (rw [hv, hv2]; rfl) | (rw [hv]; rfl))
                    · have hv : a2 = false := b01_0.mp c_129
                      refine r_aload_n dX7_holds_132 rfl ?_
                      refine r_getR (j := 150) dX7_holds_133 k_X7_92 rfl (by decide) rfl rfl ?_
                      refine r_iload dX7_holds_136 rfl ?_
                      refine r_zald (s.length + 1) dX7_holds_138 rfl rfl (show s.length + 1 < 100 by omega) ?_
                      rw [show h.1 150 (s.length + 1) = b01 b from hb]
                      refine r_if_eq (tgt := 146) dX7_holds_139 (by decide) (fun c_139 => ?_) (fun c_139 => ?_)
                      · have hv2 : b = false := b01_0.mp c_139
                        refine r_iconst (v := 0) dX7_holds_146 (by decide) ?_
                        refine r_zast (s.length) dX7_holds_147 rfl em2 (show s.length < 100 by omega) ?_
                        refine r_goto (tgt := 247) dX7_holds_148 (by decide) ?_
                        exact nx2 _ _ _ _ _ (by rw [if_neg (by decide)]) (by first | (rw [hv, hv2]; rfl) | (rw [hv]; rfl))
                      · have hv2 : b = true := b01_n0.mp c_139
                        refine r_iconst (v := 1) dX7_holds_142 (by decide) ?_
                        refine r_goto (tgt := 147) dX7_holds_143 (by decide) ?_
                        refine r_zast (s.length) dX7_holds_147 rfl em2 (show s.length < 100 by omega) ?_
                        refine r_goto (tgt := 247) dX7_holds_148 (by decide) ?_
                        exact nx2 _ _ _ _ _ (by rw [if_neg (by decide)]) (by first | (rw [hv, hv2]; rfl) | (rw [hv]; rfl))
                  · exact absurd c_87 (by decide)
              · exact absurd c_35 (by decide)
      · obtain ⟨n, rfl⟩ : ∃ n : Nat, t = n := ⟨t.toNat, by omega⟩
        rw [dpS, if_neg h1, if_neg h2] at he
        obtain ⟨hq1, hq2, hq3⟩ : st.length < 20 ∧ (n : Int) < 5300 ∧ n / 100 % 10 < 3 := by
          split at he
          · rename_i q; simpa using q
          · cases he
        have hn5 : n < 5300 := by omega
        have hf : n / 1000 ≤ 5 := by omega
        have hx := hlt.lt hf
        rw [zI_n] at ht
        have nx2 := fun ix x (v : Bool) w6 w7 w8 m (hm : m = nI (st.length + 1)) (hv : tstS n lt = v) (hxx : x = b01 v) (hix : ix = st.length) => show Wp G l 2 RX7 cX7_holds 9 (some .boolean) 247 [.ref (gA G 134), .int (nI c), .int (nI i), .int (nI a), .int m, .int (nI k), w6, w7, w8] [] (setI h 150 ix x) (fun r h' => r = some (.int (b01 ((evL lt st ((n : Int) :: rest)).headD false))) ∧ Fr pileF h h') from by
          subst hix
          subst hm
          have e3 : evS lt st (n : Int) = v :: st := by simp only [evS, if_neg h1, if_neg h2, Int.toNat_natCast, hv]
          exact nxt st.length x (st.length + 1) w6 w7 w8 (by rw [e3]; exact PileOK.put hp hxx) (by rw [e3]; rfl)
        have d1 : nI n / 1000 = nI (n / 1000) := nI_div (d := 1000) (by omega) (by omega) (by omega)
        have d2 : nI n / 100 = nI (n / 100) := nI_div (d := 100) (by omega) (by omega) (by omega)
        have d3 : nI (n / 100) - nI (n / 100) / 10 * 10 = nI (n / 100 % 10) := nI_rem (d := 10) (by omega) (by omega) (by omega)
        have d4 : nI n - nI n / 100 * 100 = nI (n % 100) := nI_rem (d := 100) (by omega) (by omega) (by omega)
        refine r_iload dX7_holds_11 rfl ?_
        refine r_aload_n dX7_holds_13 rfl ?_
        refine r_getR (j := 146) dX7_holds_14 k_X7_71 rfl (by decide) rfl rfl ?_
        refine r_iload_n dX7_holds_17 rfl ?_
        refine r_iald (c) dX7_holds_18 rfl rfl (show c < 60 from hc) ?_
        rw [hto]
        refine r_icmp_ge (tgt := 253) dX7_holds_19 (by decide) (fun c_19 => ?_) (fun c_19 => ?_)
        · exact absurd c_19 hgt
        · refine r_aload_n dX7_holds_22 rfl ?_
          refine r_getR (j := 147) dX7_holds_23 k_X7_74 rfl (by decide) rfl rfl ?_
          refine r_iload dX7_holds_26 rfl ?_
          refine r_iald (k) dX7_holds_28 rfl rfl (show k < 600 from hkl) ?_
          rw [ht]
          refine r_istore dX7_holds_29 (by decide) rfl rfl ?_
          dsimp only [List.set]
          refine r_iload dX7_holds_31 rfl ?_
          refine r_bipush (v := -33) dX7_holds_33 (by decide) ?_
          refine r_icmp_ne (tgt := 67) dX7_holds_35 (by decide) (fun c_35 => ?_) (fun c_35 => ?_)
          · refine r_iload dX7_holds_67 rfl ?_
            refine r_if_ge (tgt := 151) dX7_holds_69 (by decide) (fun c_69 => ?_) (fun c_69 => ?_)
            · refine r_aload_n dX7_holds_151 rfl ?_
              refine r_iload dX7_holds_152 rfl ?_
              refine r_sipush (v := 1000) dX7_holds_154 (by decide) ?_
              refine r_idiv dX7_holds_157 (by decide) ?_
              rw [d1]
              refine r_iload_n dX7_holds_158 rfl ?_
              refine r_iload_n dX7_holds_159 rfl ?_
              refine r_callV dX7_holds_160 l_X7_280 o_X7_factOf v_X7_factOf rfl (by decide) rfl rfl (m_X7_factOf hG hf hlt) (by decide) rfl (Nat.le_of_ble_eq_true rfl) (fun r160 h160 hq160 => ?_)
              obtain ⟨rfl, e160⟩ := hq160
              rw [e160]
              clear e160 h160
              refine r_istore dX7_holds_163 (by decide) rfl rfl ?_
              dsimp only [List.set]
              refine r_iload dX7_holds_165 rfl ?_
              refine r_bipush (v := 100) dX7_holds_167 (by decide) ?_
              refine r_idiv dX7_holds_169 (by decide) ?_
              rw [d2]
              refine r_bipush (v := 10) dX7_holds_170 (by decide) ?_
              refine r_irem dX7_holds_172 (by decide) ?_
              rw [d3]
              refine r_istore dX7_holds_173 (by decide) rfl rfl ?_
              dsimp only [List.set]
              refine r_aload_n dX7_holds_175 rfl ?_
              refine r_getR (j := 150) dX7_holds_176 k_X7_92 rfl (by decide) rfl rfl ?_
              refine r_iload dX7_holds_179 rfl ?_
              refine r_iload dX7_holds_181 rfl ?_
              refine r_if_ne (tgt := 204) dX7_holds_183 (by decide) (fun c_183 => ?_) (fun c_183 => ?_)
              · have z : ¬ n / 100 % 10 = 0 := fun q => c_183 (by rw [q]; rfl)
                refine r_iload dX7_holds_204 rfl ?_
                refine r_iconst (v := 1) dX7_holds_206 (by decide) ?_
                refine r_icmp_ne (tgt := 228) dX7_holds_207 (by decide) (fun c_207 => ?_) (fun c_207 => ?_)
                · have z2 : ¬ n / 100 % 10 = 1 := fun q => c_207 (by rw [q]; rfl)
                  refine r_iload dX7_holds_228 rfl ?_
                  refine r_iload dX7_holds_230 rfl ?_
                  refine r_bipush (v := 100) dX7_holds_232 (by decide) ?_
                  refine r_irem dX7_holds_234 (by decide) ?_
                  rw [d4]
                  refine r_icmp_le (tgt := 242) dX7_holds_235 (by decide) (fun c_235 => ?_) (fun c_235 => ?_)
                  · have hv : tstS n lt = false := by
                      have y : ¬ n % 100 < lt (n / 1000) := Nat.not_lt.mpr ((nI_le' (by omega) (by omega)).mp c_235)
                      simp only [tstS, if_neg z, if_neg z2, y, decide_false]
                    refine r_iconst (v := 0) dX7_holds_242 (by decide) ?_
                    refine r_zast (st.length) dX7_holds_243 rfl rfl (show st.length < 100 by omega) ?_
                    refine r_iinc dX7_holds_244 rfl (by first | exact nI_inc _ | rfl) (by decide) rfl rfl ?_
                    dsimp only [List.set]
                    exact nx2 _ _ _ _ _ _ _ rfl hv rfl rfl
                  · have hv : tstS n lt = true := by
                      have y : n % 100 < lt (n / 1000) := Nat.not_le.mp (fun q => c_235 ((nI_le' (by omega) (by omega)).mpr q))
                      simp only [tstS, if_neg z, if_neg z2, y, decide_true]
                    refine r_iconst (v := 1) dX7_holds_238 (by decide) ?_
                    refine r_goto (tgt := 243) dX7_holds_239 (by decide) ?_
                    refine r_zast (st.length) dX7_holds_243 rfl rfl (show st.length < 100 by omega) ?_
                    refine r_iinc dX7_holds_244 rfl (by first | exact nI_inc _ | rfl) (by decide) rfl rfl ?_
                    dsimp only [List.set]
                    exact nx2 _ _ _ _ _ _ _ rfl hv rfl rfl
                · have z2 : n / 100 % 10 = 1 := (nI_eq' (b := 1) (by omega) (by omega)).mp c_207
                  refine r_iload dX7_holds_210 rfl ?_
                  refine r_iload dX7_holds_212 rfl ?_
                  refine r_bipush (v := 100) dX7_holds_214 (by decide) ?_
                  refine r_irem dX7_holds_216 (by decide) ?_
                  rw [d4]
                  refine r_icmp_ne (tgt := 224) dX7_holds_217 (by decide) (fun c_217 => ?_) (fun c_217 => ?_)
                  · have hv : tstS n lt = false := by
                      have y : ¬ lt (n / 1000) = n % 100 := fun q => c_217 (by rw [q])
                      simp only [tstS, if_neg z, if_pos z2, y, decide_false]
                    refine r_iconst (v := 0) dX7_holds_224 (by decide) ?_
                    refine r_goto (tgt := 243) dX7_holds_225 (by decide) ?_
                    refine r_zast (st.length) dX7_holds_243 rfl rfl (show st.length < 100 by omega) ?_
                    refine r_iinc dX7_holds_244 rfl (by first | exact nI_inc _ | rfl) (by decide) rfl rfl ?_
                    dsimp only [List.set]
                    exact nx2 _ _ _ _ _ _ _ rfl hv rfl rfl
                  · have hv : tstS n lt = true := by
                      have y : lt (n / 1000) = n % 100 := (nI_eq' (by omega) (by omega)).mp c_217
                      simp only [tstS, if_neg z, if_pos z2, y, decide_true]
                    refine r_iconst (v := 1) dX7_holds_220 (by decide) ?_
                    refine r_goto (tgt := 243) dX7_holds_221 (by decide) ?_
                    refine r_zast (st.length) dX7_holds_243 rfl rfl (show st.length < 100 by omega) ?_
                    refine r_iinc dX7_holds_244 rfl (by first | exact nI_inc _ | rfl) (by decide) rfl rfl ?_
                    dsimp only [List.set]
                    exact nx2 _ _ _ _ _ _ _ rfl hv rfl rfl
              · have z : n / 100 % 10 = 0 := (nI_eq' (b := 0) (by omega) (by omega)).mp c_183
                refine r_iload dX7_holds_186 rfl ?_
                refine r_iload dX7_holds_188 rfl ?_
                refine r_bipush (v := 100) dX7_holds_190 (by decide) ?_
                refine r_irem dX7_holds_192 (by decide) ?_
                rw [d4]
                refine r_icmp_ge (tgt := 200) dX7_holds_193 (by decide) (fun c_193 => ?_) (fun c_193 => ?_)
                · have hv : tstS n lt = false := by
                    have y : ¬ lt (n / 1000) < n % 100 := Nat.not_lt.mpr ((nI_le' (by omega) (by omega)).mp c_193)
                    simp only [tstS, if_pos z, y, decide_false]
                  refine r_iconst (v := 0) dX7_holds_200 (by decide) ?_
                  refine r_goto (tgt := 243) dX7_holds_201 (by decide) ?_
                  refine r_zast (st.length) dX7_holds_243 rfl rfl (show st.length < 100 by omega) ?_
                  refine r_iinc dX7_holds_244 rfl (by first | exact nI_inc _ | rfl) (by decide) rfl rfl ?_
                  dsimp only [List.set]
                  exact nx2 _ _ _ _ _ _ _ rfl hv rfl rfl
                · have hv : tstS n lt = true := by
                    have y : lt (n / 1000) < n % 100 := Nat.not_le.mp (fun q => c_193 ((nI_le' (by omega) (by omega)).mpr q))
                    simp only [tstS, if_pos z, y, decide_true]
                  refine r_iconst (v := 1) dX7_holds_196 (by decide) ?_
                  refine r_goto (tgt := 243) dX7_holds_197 (by decide) ?_
                  refine r_zast (st.length) dX7_holds_243 rfl rfl (show st.length < 100 by omega) ?_
                  refine r_iinc dX7_holds_244 rfl (by first | exact nI_inc _ | rfl) (by decide) rfl rfl ?_
                  dsimp only [List.set]
                  exact nx2 _ _ _ _ _ _ _ rfl hv rfl rfl
            · exact absurd (nI_pos' (by omega)) c_69
          · exact absurd (congrArg Int32.toInt c_35) (by rw [nI_toInt (by omega), show (-33 : Int32).toInt = -33 from rfl]; omega)
set_option maxRecDepth 100000 in
theorem m_X7_holds {G : WT} {l : Launch} (hG : GOK G) {h : Hp} {c i a s n : Nat} {lt : Nat → Nat} {code : List Int} (hc : c < 60) (hcl : RCl h c s n code) (hs : s ≤ 1) (hlt : RLt h i a lt) : Cl G l 2 yX7_holds cX7_holds 9 (some .boolean) [.ref (gA G 134), .int (nI c), .int (nI i), .int (nI a)] h (fun r h' => r = some (.int (b01 (holdsS code lt))) ∧ Fr pileF h h') := by
  refine Cl.of hG (by decide) (Nat.le_of_ble_eq_true rfl) ?_
  show Wp G l 2 RX7 cX7_holds 9 (some .boolean) 0 [.ref (gA G 134), .int (nI c), .int (nI i), .int (nI a), mk0, mk0, mk0, mk0, mk0] [] h _
  obtain ⟨fr, h1, h2, h3, h4, h5⟩ := hcl.2.2 hs
  refine r_iconst (v := 0) dX7_holds_0 (by decide) ?_
  refine r_istore dX7_holds_1 (by decide) rfl rfl ?_
  dsimp only [List.set]
  refine r_aload_n dX7_holds_3 rfl ?_
  refine r_getR (j := 145) dX7_holds_4 k_X7_68 rfl (by decide) rfl rfl ?_
  refine r_iload_n dX7_holds_7 rfl ?_
  refine r_iald (c) dX7_holds_8 rfl rfl (show c < 60 from hc) ?_
  rw [h1]
  refine r_istore dX7_holds_9 (by decide) rfl rfl ?_
  dsimp only [List.set]
  exact holds_loop hG hc code [] fr h mk0 mk0 mk0 h2 h3 h4 h5 (Nat.zero_le _) (fun j b hj => by simp at hj) hlt
