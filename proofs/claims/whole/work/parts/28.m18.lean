/-! of -/
theorem RIc.pile {h h' : Hp} {b : Nat} {V : Hv} {T : Tb} (C : RIc h b V T) (hF : Fr bestF h h') : RIc h' b V T ∧ Fr scrF h h' :=
  C.sup (C.1.fr hF bestF_dom) (stF_scr (bestF_st hF)) (stF_calm C.calm (bestF_st hF))
set_option maxRecDepth 100000 in
theorem m_X7_of {G : WT} {l : Launch} (hG : GOK G) {h : Hp} {b : Nat} {V : Hv} {T : Tb} {i w : Int32} (C : RIc h b V T) : Cl G l 8 yX7_of cX7_of 3 (some .int) [.ref (gA G 134), .int i, .int w] h (fun r h' => r = some (.int (ofA V T i w)) ∧ RIc h' b V T ∧ Fr scrF h h') := by
  refine Cl.of hG (by decide) (Nat.le_of_ble_eq_true rfl) ?_
  show Wp G l 8 RX7 cX7_of 3 (some .int) 0 [.ref (gA G 134), .int i, .int w] [] h _
  have hE := C.1.2.1.1
  cases hi : dec i (T.1 7 0) with
  | none =>
    refine r_aload_n dX7_of_0 rfl ?_
    refine r_iload_n dX7_of_1 rfl ?_
    refine r_callV dX7_of_2 l_X7_220 o_X7_isEater v_X7_isEater rfl (by decide) rfl rfl (m_X7_isEater hG) (by decide) rfl (Nat.le_of_ble_eq_true rfl) (fun r2 h2 hq2 => ?_)
    obtain ⟨rfl, e2⟩ := hq2
    rw [e2]
    clear e2 h2
    rw [C.1.1.1, isE_dec (by omega), hi]
    refine r_if_ne (tgt := 12) dX7_of_5 (by decide) (fun c_5 => ?_) (fun c_5 => ?_)
    · exact absurd rfl c_5
    · refine r_ldcw dX7_of_8 n_X7_339 ?_
      refine r_ireturn dX7_of_11 ⟨_, rfl, rfl⟩ ?_
      exact ⟨by rw [ofA, hi]; rfl, C, Fr.rf⟩
  | some i1 =>
    obtain ⟨hi1, rfl, -⟩ := dec_some.mp hi
    have t7 := C.1.2.1.2.2.2.2.2.2.1 i1
    cases hw : dec (w - nI 11) 9 with
    | some a =>
      obtain ⟨ha, rfl⟩ := (dec_sub (by omega) (by omega)).mp hw
      refine r_aload_n dX7_of_0 rfl ?_
      refine r_iload_n dX7_of_1 rfl ?_
      refine r_callV dX7_of_2 l_X7_220 o_X7_isEater v_X7_isEater rfl (by decide) rfl rfl (m_X7_isEater hG) (by decide) rfl (Nat.le_of_ble_eq_true rfl) (fun r2 h2 hq2 => ?_)
      obtain ⟨rfl, e2⟩ := hq2
      rw [e2]
      clear e2 h2
      rw [C.1.1.1, isE_dec (by omega), hi]
      refine r_if_ne (tgt := 12) dX7_of_5 (by decide) (fun c_5 => ?_) (fun c_5 => ?_)
      · refine r_aload_n dX7_of_12 rfl ?_
        refine r_iload_n dX7_of_13 rfl ?_
        refine r_bipush (v := 11) dX7_of_14 (by decide) ?_
        refine r_bipush (v := 19) dX7_of_16 (by decide) ?_
        refine r_callV dX7_of_18 l_X7_212 o_X7_in v_X7_in rfl (by decide) rfl rfl (m_X7_in hG) (by decide) rfl (Nat.le_of_ble_eq_true rfl) (fun r18 h18 hq18 => ?_)
        obtain ⟨rfl, e18⟩ := hq18
        rw [e18]
        clear e18 h18
        rw [show inP (nI (11 + a)) 11 19 = (dec (nI (11 + a) - nI 11) 9).isSome from inP_dec (a := 11) (c := 19) (by omega) (by omega), hw]
        refine r_if_eq (tgt := 34) dX7_of_21 (by decide) (fun c_21 => ?_) (fun c_21 => ?_)
        · exact absurd c_21 (b01_n0.mpr rfl)
        · refine r_aload_n dX7_of_24 rfl ?_
          refine r_iload_n dX7_of_25 rfl ?_
          refine r_iload_n dX7_of_26 rfl ?_
          refine r_bipush (v := 10) dX7_of_27 (by decide) ?_
          refine r_isub dX7_of_29 ?_
          rw [show nI (11 + a) - 10 = nI (a + 1) by rw [show (10 : Int32) = nI 10 from rfl, pk_sub (by omega)]; congr 1; omega]
          refine r_callV dX7_of_30 l_X7_312 o_X7_worthOf v_X7_worthOf rfl (by decide) rfl rfl (m_X7_worthOf hG C.1.2.2.1 (C.1.1.lt C.1.2.1 hi1 (show a + 1 < 1000 by omega))) (by decide) rfl (Nat.le_of_ble_eq_true rfl) (fun r30 h30 hq30 => ?_)
          obtain ⟨rfl, F2⟩ := hq30
          refine r_ireturn dX7_of_33 ⟨_, rfl, rfl⟩ ?_
          exact ⟨by rw [ofA, hi, hw], C.pile (F2.wk (fun x i q => by simp only [bestF, supF, Bool.or_eq_false_iff] at q; exact q.1.1.1.1))⟩
      · exact absurd c_5 (b01_n0.mpr rfl)
    | none =>
      have es : ofA V T (nI i1) w = if w = 0 then nI (T.1 0 i1) else if w = 1 then nI (T.1 1 i1) else if w = 2 then nI (T.1 2 i1) else if w = 3 then nI (T.1 3 i1) else if w = 4 then T.2 i1 else if w = 5 then nI (wishS V (P0 V) T i1) else if w = 6 then nI (costS V (ltS T i1 (T.1 3 i1))) else farN := by rw [ofA, hi, hw]
      have fin : Wp G l 8 RX7 cX7_of 3 (some .int) 34 [.ref (gA G 134), .int (nI i1), .int w] [] h (fun r h' => r = some (.int (ofA V T (nI i1) w)) ∧ RIc h' b V T ∧ Fr scrF h h') := by
        obtain ⟨s1, s2, s3, s4, s5, s6⟩ := C.1.1.2.2.2.2 i1 hi1
        rw [es]
        by_cases q0 : w = 0
        · subst q0
          refine r_iload_n dX7_of_34 rfl ?_
          · refine r_tsw 76 dX7_of_35 rfl (by decide) rfl ?_
            refine r_aload_n dX7_of_76 rfl ?_
            refine r_getR (j := 135) dX7_of_77 k_X7_22 rfl (by decide) rfl rfl ?_
            refine r_iload_n dX7_of_80 rfl ?_
            refine r_iald (i1) dX7_of_81 rfl rfl (show i1 < 6 by omega) ?_
            refine r_ireturn dX7_of_82 ⟨_, rfl, rfl⟩ ?_
            exact ⟨by rw [if_pos rfl, s1], C, Fr.rf⟩
        · rw [if_neg q0]
          by_cases q1 : w = 1
          · subst q1
            refine r_iload_n dX7_of_34 rfl ?_
            · refine r_tsw 83 dX7_of_35 rfl (by decide) rfl ?_
              refine r_aload_n dX7_of_83 rfl ?_
              refine r_getR (j := 136) dX7_of_84 k_X7_26 rfl (by decide) rfl rfl ?_
              refine r_iload_n dX7_of_87 rfl ?_
              refine r_iald (i1) dX7_of_88 rfl rfl (show i1 < 6 by omega) ?_
              refine r_ireturn dX7_of_89 ⟨_, rfl, rfl⟩ ?_
              exact ⟨by rw [if_pos rfl, s2], C, Fr.rf⟩
          · rw [if_neg q1]
            by_cases q2 : w = 2
            · subst q2
              refine r_iload_n dX7_of_34 rfl ?_
              · refine r_tsw 90 dX7_of_35 rfl (by decide) rfl ?_
                refine r_aload_n dX7_of_90 rfl ?_
                refine r_getR (j := 137) dX7_of_91 k_X7_29 rfl (by decide) rfl rfl ?_
                refine r_iload_n dX7_of_94 rfl ?_
                refine r_iald (i1) dX7_of_95 rfl rfl (show i1 < 6 by omega) ?_
                refine r_ireturn dX7_of_96 ⟨_, rfl, rfl⟩ ?_
                exact ⟨by rw [if_pos rfl, s3], C, Fr.rf⟩
            · rw [if_neg q2]
              by_cases q3 : w = 3
              · subst q3
                refine r_iload_n dX7_of_34 rfl ?_
                · refine r_tsw 97 dX7_of_35 rfl (by decide) rfl ?_
                  refine r_aload_n dX7_of_97 rfl ?_
                  refine r_getR (j := 138) dX7_of_98 k_X7_32 rfl (by decide) rfl rfl ?_
                  refine r_iload_n dX7_of_101 rfl ?_
                  refine r_iald (i1) dX7_of_102 rfl rfl (show i1 < 6 by omega) ?_
                  refine r_ireturn dX7_of_103 ⟨_, rfl, rfl⟩ ?_
                  exact ⟨by rw [if_pos rfl, s4], C, Fr.rf⟩
              · rw [if_neg q3]
                by_cases q4 : w = 4
                · subst q4
                  refine r_iload_n dX7_of_34 rfl ?_
                  · refine r_tsw 104 dX7_of_35 rfl (by decide) rfl ?_
                    refine r_aload_n dX7_of_104 rfl ?_
                    refine r_getR (j := 139) dX7_of_105 k_X7_35 rfl (by decide) rfl rfl ?_
                    refine r_iload_n dX7_of_108 rfl ?_
                    refine r_iald (i1) dX7_of_109 rfl rfl (show i1 < 6 by omega) ?_
                    refine r_ireturn dX7_of_110 ⟨_, rfl, rfl⟩ ?_
                    exact ⟨by rw [if_pos rfl, s5], C, Fr.rf⟩
                · rw [if_neg q4]
                  by_cases q5 : w = 5
                  · subst q5
                    refine r_iload_n dX7_of_34 rfl ?_
                    · refine r_tsw 111 dX7_of_35 rfl (by decide) rfl ?_
                      refine r_aload_n dX7_of_111 rfl ?_
                      refine r_iload_n dX7_of_112 rfl ?_
                      refine r_callV dX7_of_113 l_X7_330 o_X7_wishOf v_X7_wishOf rfl (by decide) rfl rfl (m_X7_wishOf (pact := none) hG C.1 hi1) (by decide) rfl (Nat.le_of_ble_eq_true rfl) (fun r113 h113 hq113 => ?_)
                      obtain ⟨rfl, F2⟩ := hq113
                      refine r_ireturn dX7_of_116 ⟨_, rfl, rfl⟩ ?_
                      exact ⟨by rw [if_pos rfl]; rfl, C.pile F2⟩
                  · rw [if_neg q5]
                    by_cases q6 : w = 6
                    · subst q6
                      refine r_iload_n dX7_of_34 rfl ?_
                      · refine r_tsw 117 dX7_of_35 rfl (by decide) rfl ?_
                        refine r_aload_n dX7_of_117 rfl ?_
                        refine r_iload_n dX7_of_118 rfl ?_
                        refine r_aload_n dX7_of_119 rfl ?_
                        refine r_getR (j := 138) dX7_of_120 k_X7_32 rfl (by decide) rfl rfl ?_
                        refine r_iload_n dX7_of_123 rfl ?_
                        refine r_iald (i1) dX7_of_124 rfl rfl (show i1 < 6 by omega) ?_
                        rw [s4]
                        refine r_callV dX7_of_125 l_X7_309 o_X7_costOf v_X7_costOf rfl (by decide) rfl rfl (m_X7_costOf (free := false) hG C.1.2.2.2.2 C.1.2.2.1 (C.1.1.lt C.1.2.1 hi1 (show T.1 3 i1 < 1000 by omega))) (by decide) rfl (Nat.le_of_ble_eq_true rfl) (fun r125 h125 hq125 => ?_)
                        obtain ⟨rfl, F2⟩ := hq125
                        refine r_ireturn dX7_of_128 ⟨_, rfl, rfl⟩ ?_
                        exact ⟨by rw [if_pos rfl, if_neg Bool.false_ne_true], C.pile (F2.wk (fun x i q => by simp only [bestF, supF, Bool.or_eq_false_iff] at q; exact q.1.1.1.1))⟩
                    · rw [if_neg q6]
                      have z0 := lv_neT q0 (a := 0) rfl
                      have z1 := lv_neT q1 (a := 1) rfl
                      have z2 := lv_neT q2 (a := 2) rfl
                      have z3 := lv_neT q3 (a := 3) rfl
                      have z4 := lv_neT q4 (a := 4) rfl
                      have z5 := lv_neT q5 (a := 5) rfl
                      have z6 := lv_neT q6 (a := 6) rfl
                      refine r_iload_n dX7_of_34 rfl ?_
                      · refine r_tsw 129 dX7_of_35 rfl (by decide) (by rw [tswT, if_pos (by omega)]; rfl) ?_
                        refine r_ldcw dX7_of_129 n_X7_339 ?_
                        refine r_ireturn dX7_of_132 ⟨_, rfl, rfl⟩ ?_
                        exact ⟨rfl, C, Fr.rf⟩
      refine r_aload_n dX7_of_0 rfl ?_
      refine r_iload_n dX7_of_1 rfl ?_
      refine r_callV dX7_of_2 l_X7_220 o_X7_isEater v_X7_isEater rfl (by decide) rfl rfl (m_X7_isEater hG) (by decide) rfl (Nat.le_of_ble_eq_true rfl) (fun r2 h2 hq2 => ?_)
      obtain ⟨rfl, e2⟩ := hq2
      rw [e2]
      clear e2 h2
      rw [C.1.1.1, isE_dec (by omega), hi]
      refine r_if_ne (tgt := 12) dX7_of_5 (by decide) (fun c_5 => ?_) (fun c_5 => ?_)
      · refine r_aload_n dX7_of_12 rfl ?_
        refine r_iload_n dX7_of_13 rfl ?_
        refine r_bipush (v := 11) dX7_of_14 (by decide) ?_
        refine r_bipush (v := 19) dX7_of_16 (by decide) ?_
        refine r_callV dX7_of_18 l_X7_212 o_X7_in v_X7_in rfl (by decide) rfl rfl (m_X7_in hG) (by decide) rfl (Nat.le_of_ble_eq_true rfl) (fun r18 h18 hq18 => ?_)
        obtain ⟨rfl, e18⟩ := hq18
        rw [e18]
        clear e18 h18
        rw [show inP w 11 19 = (dec (w - nI 11) 9).isSome from inP_dec (a := 11) (c := 19) (by omega) (by omega), hw]
        refine r_if_eq (tgt := 34) dX7_of_21 (by decide) (fun c_21 => ?_) (fun c_21 => ?_)
        · exact fin
        · exact absurd rfl c_21
      · exact absurd c_5 (b01_n0.mpr rfl)
/-! guest -/
set_option maxRecDepth 100000 in
theorem m_X7_guest {G : WT} {l : Launch} (hG : GOK G) {h : Hp} {b : Nat} {V : Hv} {T : Tb} {n : Int32} (C : RIc h b V T) : Cl G l 9 yX7_guest cX7_guest 2 (some .int) [.ref (gA G 134), .int n] h (fun r h' => r = some (.int (guestA V T n)) ∧ RIc h' b V T ∧ Fr scrF h h') := by
  refine Cl.of hG (by decide) (Nat.le_of_ble_eq_true rfl) ?_
  show Wp G l 9 RX7 cX7_guest 2 (some .int) 0 [.ref (gA G 134), .int n] [] h _
  have hE := C.1.2.1.1
  cases hn : dec n 10 with
  | none =>
    refine r_aload_n dX7_guest_0 rfl ?_
    refine r_iload_n dX7_guest_1 rfl ?_
    refine r_iconst (v := 0) dX7_guest_2 (by decide) ?_
    refine r_bipush (v := 9) dX7_guest_3 (by decide) ?_
    refine r_callV dX7_guest_5 l_X7_212 o_X7_in v_X7_in rfl (by decide) rfl rfl (m_X7_in hG) (by decide) rfl (Nat.le_of_ble_eq_true rfl) (fun r5 h5 hq5 => ?_)
    obtain ⟨rfl, e5⟩ := hq5
    rw [e5]
    clear e5 h5
    rw [show inP n 0 9 = (dec n 10).isSome from inP_dec0 (c := 9) (by omega) rfl, hn]
    refine r_if_ne (tgt := 14) dX7_guest_8 (by decide) (fun c_8 => ?_) (fun c_8 => ?_)
    · exact absurd rfl c_8
    · refine r_bipush (v := -2) dX7_guest_11 (by decide) ?_
      refine r_ireturn dX7_guest_13 ⟨_, rfl, rfl⟩ ?_
      exact ⟨by rw [guestA, hn], C, Fr.rf⟩
  | some k =>
    obtain ⟨hk, rfl, -⟩ := dec_some.mp hn
    have es : guestA V T (nI k) = if T.1 7 0 = 5 then -3 else nI (bkS V (P0 V) (addEater T 0 0 k) (wishS V (P0 V) (addEater T 0 0 k))) := by rw [guestA, hn]
    refine r_aload_n dX7_guest_0 rfl ?_
    refine r_iload_n dX7_guest_1 rfl ?_
    refine r_iconst (v := 0) dX7_guest_2 (by decide) ?_
    refine r_bipush (v := 9) dX7_guest_3 (by decide) ?_
    refine r_callV dX7_guest_5 l_X7_212 o_X7_in v_X7_in rfl (by decide) rfl rfl (m_X7_in hG) (by decide) rfl (Nat.le_of_ble_eq_true rfl) (fun r5 h5 hq5 => ?_)
    obtain ⟨rfl, e5⟩ := hq5
    rw [e5]
    clear e5 h5
    rw [show inP (nI k) 0 9 = (dec (nI k) 10).isSome from inP_dec0 (c := 9) (by omega) rfl, hn]
    refine r_if_ne (tgt := 14) dX7_guest_8 (by decide) (fun c_8 => ?_) (fun c_8 => ?_)
    · refine r_aload_n dX7_guest_14 rfl ?_
      refine r_getI dX7_guest_15 k_X7_7 rfl (by decide) rfl ?_
      refine r_iconst (v := 5) dX7_guest_18 (by decide) ?_
      rw [C.1.1.1]
      refine r_icmp_ne (tgt := 25) dX7_guest_19 (by decide) (fun c_19 => ?_) (fun c_19 => ?_)
      · have y : ¬ T.1 7 0 = 5 := fun q => c_19 (by rw [q]; rfl)
        refine r_aload_n dX7_guest_25 rfl ?_
        refine r_aload_n dX7_guest_26 rfl ?_
        refine r_getI dX7_guest_27 k_X7_7 rfl (by decide) rfl ?_
        refine r_iconst (v := 0) dX7_guest_30 (by decide) ?_
        refine r_iconst (v := 0) dX7_guest_31 (by decide) ?_
        refine r_iload_n dX7_guest_32 rfl ?_
        rw [C.1.1.1]
        refine r_callV dX7_guest_33 l_X7_216 o_X7_lay v_X7_lay rfl (by decide) rfl rfl (m_X7_lay hG (show T.1 7 0 < 6 by omega)) (by decide) rfl (Nat.le_of_ble_eq_true rfl) (fun r33 h33 hq33 => ?_)
        obtain ⟨rfl, h2, h1⟩ := hq33
        have b0 : ∀ x, h33.1 134 x = h.1 134 x := fun x => by
          rw [h1, layV, if_neg (by omega), if_neg (by omega), if_neg (by omega), if_neg (by omega), if_neg (by omega)]
        have F2 : Fr scrF h h33 := (lay_fr h2 h1).wk (fun a i q => by
          simp only [scrF, Bool.or_eq_false_iff] at q
          exact q.1.1)
        refine r_aload_n dX7_guest_36 rfl ?_
        refine r_dup dX7_guest_37 rfl ?_
        refine r_getI dX7_guest_38 k_X7_7 rfl (by decide) rfl ?_
        refine r_iconst (v := 1) dX7_guest_41 (by decide) ?_
        refine r_iadd dX7_guest_42 ?_
        rw [b0, C.1.1.1, nI_1]
        have hR := lay_tb (k := 0) (n := 0) (w := k) C.1.1 h2 h1
        have F3 : Fr scrF h33 (setI h33 134 0 (nI (T.1 7 0 + 1))) := Fr.set rfl
        have D0 : SC (setI h33 134 0 (nI (T.1 7 0 + 1))) b V (addEater T 0 0 k) none false := by
          refine ⟨hR.1, addEater_ok C.1.2.1 y (by omega) (by omega) hk, C.1.2.2.1.fr (F2.tr F3) (fun j => ⟨rfl, rfl, rfl, rfl, rfl, rfl⟩) rfl, ⟨?_, C.1.2.2.2.1.2⟩, ?_⟩
          · rw [setI_nj (by decide), b0]; exact C.1.2.2.2.1.1
          · rw [setI_nj (by decide), b0]; exact C.1.2.2.2.2
        refine r_putI dX7_guest_43 k_X7_7 rfl (by decide) rfl rfl rfl rfl ?_
        refine r_aload_n dX7_guest_46 rfl ?_
        refine r_callV dX7_guest_47 l_X7_333 o_X7_layWishes v_X7_layWishes rfl (by decide) rfl rfl (m_X7_layWishes (pact := none) hG D0) (by decide) rfl (Nat.le_of_ble_eq_true rfl) (fun r47 h47 hq47 => ?_)
        obtain ⟨rfl, F4, hW⟩ := hq47
        have D4 := D0.fr F4 wshF_dom
        refine r_aload_n dX7_guest_50 rfl ?_
        refine r_callV dX7_guest_51 l_X7_324 o_X7_laySupper v_X7_laySupper rfl (by decide) rfl rfl (m_X7_laySupper hG D4 hW) (by decide) rfl (Nat.le_of_ble_eq_true rfl) (fun r51 h51 hq51 => ?_)
        obtain ⟨rfl, F5, hE5, hB5, hH5⟩ := hq51
        have D5 := D4.fr F5 supF_dom
        refine r_aload_n dX7_guest_54 rfl ?_
        refine r_dup dX7_guest_55 rfl ?_
        refine r_getI dX7_guest_56 k_X7_7 rfl (by decide) rfl ?_
        refine r_iconst (v := 1) dX7_guest_59 (by decide) ?_
        refine r_isub dX7_guest_60 ?_
        rw [D5.1.1, show (addEater T 0 0 k).1 7 0 = T.1 7 0 + 1 from rfl, nI_pred]
        refine r_putI dX7_guest_61 k_X7_7 rfl (by decide) rfl rfl rfl rfl ?_
        refine r_aload_n dX7_guest_64 rfl ?_
        refine r_getI dX7_guest_65 k_X7_112 rfl (by decide) rfl ?_
        refine r_ireturn dX7_guest_68 ⟨_, rfl, rfl⟩ ?_
        have FW : Fr scrF (setI h33 134 0 (nI (T.1 7 0 + 1))) h47 := goF_scr (wshF_go F4)
        have FS : Fr scrF h47 h51 := goF_scr (supF_go F5)
        have F6 : Fr scrF h51 (setI h51 134 0 (nI (T.1 7 0))) := Fr.set rfl
        have base : ∀ a i, keepDom a i → h51.1 a i = (setI h33 134 0 (nI (T.1 7 0 + 1))).1 a i := fun a i q => ((wshF_go F4).tr (supF_go F5)).1 a i (goF_dom a i q)
        have e2 : ∀ x, h51.1 138 x = h33.1 138 x := fun x => by rw [F5.1 _ _ rfl, F4.1 _ _ rfl, setI_ne (by decide)]
        have e3 : ∀ x, h51.1 139 x = h33.1 139 x := fun x => by rw [F5.1 _ _ rfl, F4.1 _ _ rfl, setI_ne (by decide)]
        have RT : RTb (setI h51 134 0 (nI (T.1 7 0))) T := by
          obtain ⟨r1, r2, r3, r4, r5⟩ := hR.2
          refine ⟨setI_at, ?_, ?_, ?_, fun e he => ?_⟩
          · rw [setI_nj (by decide), F5.1 _ _ rfl, F4.1 _ _ rfl, setI_nj (by decide)]; exact r2
          · rw [setI_nj (by decide), F5.1 _ _ rfl, F4.1 _ _ rfl, setI_nj (by decide)]; exact r3
          · rw [setI_nj (by decide), F5.1 _ _ rfl, F4.1 _ _ rfl, setI_nj (by decide)]; exact r4
          · obtain ⟨s1, s2, s3, s4, s5, s6⟩ := r5 e he
            refine ⟨?_, ?_, ?_, ?_, ?_, fun p hp => ?_⟩
            · rw [setI_ne (by decide), base _ _ (by simp [keepDom]), setI_ne (by decide)]; exact s1
            · rw [setI_ne (by decide), base _ _ (by simp [keepDom]), setI_ne (by decide)]; exact s2
            · rw [setI_ne (by decide), base _ _ (by simp [keepDom]), setI_ne (by decide)]; exact s3
            · rw [setI_ne (by decide), e2]; exact s4
            · rw [setI_ne (by decide), e3]; exact s5
            · rw [setI_ne (by decide), base _ _ (by simp [keepDom]), setI_ne (by decide)]; exact s6 p hp
        refine ⟨?_, C.end RT C.1.2.1 C.2.2 ((((F2.tr F3).tr FW).tr FS).tr F6) ⟨?_, ?_, ?_⟩⟩
        · rw [es, if_neg y, setI_nj (by decide), hB5, bkI, if_neg (show ¬ (addEater T 0 0 k).1 7 0 = 0 from Nat.succ_ne_zero _)]
          rfl
        · rw [setI_nj (by decide), F5.1 _ _ rfl, F4.1 _ _ rfl, setI_nj (by decide), b0]; exact C.calm.1
        · rw [setI_nj (by decide), F5.1 _ _ rfl, F4.1 _ _ rfl, setI_nj (by decide), b0]; exact C.calm.2.1
        · rw [setI_nj (by decide), F5.1 _ _ rfl, F4.1 _ _ rfl, setI_nj (by decide), b0]; exact C.calm.2.2
      · have y : T.1 7 0 = 5 := (nI_eq' (b := 5) (by omega) (by omega)).mp c_19
        refine r_bipush (v := -3) dX7_guest_22 (by decide) ?_
        refine r_ireturn dX7_guest_24 ⟨_, rfl, rfl⟩ ?_
        exact ⟨by rw [es, if_pos y], C, Fr.rf⟩
    · exact absurd c_8 (b01_n0.mpr rfl)
