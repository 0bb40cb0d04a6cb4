/-! the constructors of what holds others -/
/-- what a supper comes with -/
def shX3 (g : Nat → ClassId) (T : Nat → Nat) : va_W := (T 0, .inr (3, [.ref (T 1), .ref (T 2), .ref (T 3), .ref (T 4), .ref (T 5), .ref (T 6), .ref (T 7), .ref (T 8), .ref (T 9), .ref (T 17), .int 0, .int 0, .int (-5), .int (-1), .int 0, .int (-1), .int (-1)])) :: (shX1 g (fun j => T (17 + j)) ++ ((shX4 g (fun j => T (9 + j)) ++ ((T 8, .inl (g 0, (50, .inl (fun _ => 0)))) :: (T 7, .inl (g 0, (5, .inl (fun _ => 0)))) :: (T 6, .inl (g 0, (50, .inl (fun _ => 0)))) :: (T 5, .inl (g 0, (6, .inl (fun _ => 0)))) :: (T 4, .inl (g 0, (5, .inl (fun _ => 0)))) :: (T 3, .inl (g 0, (5, .inl (fun _ => 0)))) :: (T 2, .inl (g 0, (5, .inl (fun _ => 0)))) :: (T 1, .inl (g 0, (5, .inl (fun _ => 0)))) :: []))))
theorem df_3 : ∀ j, j < nfl 3 → defaultValue (cTy 3 j) = vp_V [.null, .null, .null, .null, .null, .null, .null, .null, .null, .null, .int 0, .int 0, .int 0, .int 0, .int 0, .int 0, .int 0] j := by
  intro j hj
  have hj : j < 17 := hj
  rcases (show j = 0 ∨ j = 1 ∨ j = 2 ∨ j = 3 ∨ j = 4 ∨ j = 5 ∨ j = 6 ∨ j = 7 ∨ j = 8 ∨ j = 9 ∨ j = 10 ∨ j = 11 ∨ j = 12 ∨ j = 13 ∨ j = 14 ∨ j = 15 ∨ j = 16 by omega) with rfl | rfl | rfl | rfl | rfl | rfl | rfl | rfl | rfl | rfl | rfl | rfl | rfl | rfl | rfl | rfl | rfl <;> rfl
set_option maxRecDepth 100000 in
set_option maxHeartbeats 8000000 in
theorem ct_X3 {G : WT} {l : Launch} (hG : GOK G) : CtC l (gD G) (tysO G) 2 yX3_init cX3_init 1 3 [.null, .null, .null, .null, .null, .null, .null, .null, .null, .null, .int 0, .int 0, .int 0, .int 0, .int 0, .int 0, .int 0] 24 643 (shX3 (gC G)) := by
  refine ct_of (by decide) rfl (Nat.le_of_ble_eq_true rfl) ?_
  intro p e s m args below meth c A Q h0 C ao hin fin
  refine c_aload C 0 dX3_init_0 rfl rfl ?_
  refine c_objI C dX3_init_1 wo_3 w_oi w_oc (Nat.le_of_ble_eq_true rfl) (Nat.le_of_ble_eq_true rfl) ?_
  refine c_aload C 0 dX3_init_4 rfl rfl ?_
  refine c_iconst C dX3_init_5 rfl ?_
  refine c_newa1 (N := 5) (t0 := 0) (ty := .int) (a0 := (5, .inl (fun _ => 0))) C dX3_init_6 wa_int rfl rfl (fun _ z => z) (fun _ => rfl) (by decide) rfl (Nat.le_of_ble_eq_true rfl) (Nat.le_of_ble_eq_true rfl) (Nat.le_of_ble_eq_true rfl) (fun q6 => ?_)
  refine c_putF (ci := 3) (fs' := [.ref q6, .null, .null, .null, .null, .null, .null, .null, .null, .null, .int 0, .int 0, .int 0, .int 0, .int 0, .int 0, .int 0]) C hin 0 dX3_init_8 k_X3_9 (by decide) (by decide) rfl rfl rfl rfl (Nat.le_of_ble_eq_true rfl) rfl ?_
  refine c_aload C 0 dX3_init_11 rfl rfl ?_
  refine c_iconst C dX3_init_12 rfl ?_
  refine c_newa1 (N := 5) (t0 := 0) (ty := .int) (a0 := (5, .inl (fun _ => 0))) C dX3_init_13 wa_int rfl rfl (fun _ z => z) (fun _ => rfl) (by decide) rfl (Nat.le_of_ble_eq_true rfl) (Nat.le_of_ble_eq_true rfl) (Nat.le_of_ble_eq_true rfl) (fun q13 => ?_)
  refine c_putF (ci := 3) (fs' := [.ref q6, .ref q13, .null, .null, .null, .null, .null, .null, .null, .null, .int 0, .int 0, .int 0, .int 0, .int 0, .int 0, .int 0]) C hin 1 dX3_init_15 k_X3_15 (by decide) (by decide) rfl rfl rfl rfl (Nat.le_of_ble_eq_true rfl) rfl ?_
  refine c_aload C 0 dX3_init_18 rfl rfl ?_
  refine c_iconst C dX3_init_19 rfl ?_
  refine c_newa1 (N := 5) (t0 := 0) (ty := .int) (a0 := (5, .inl (fun _ => 0))) C dX3_init_20 wa_int rfl rfl (fun _ z => z) (fun _ => rfl) (by decide) rfl (Nat.le_of_ble_eq_true rfl) (Nat.le_of_ble_eq_true rfl) (Nat.le_of_ble_eq_true rfl) (fun q20 => ?_)
  refine c_putF (ci := 3) (fs' := [.ref q6, .ref q13, .ref q20, .null, .null, .null, .null, .null, .null, .null, .int 0, .int 0, .int 0, .int 0, .int 0, .int 0, .int 0]) C hin 2 dX3_init_22 k_X3_18 (by decide) (by decide) rfl rfl rfl rfl (Nat.le_of_ble_eq_true rfl) rfl ?_
  refine c_aload C 0 dX3_init_25 rfl rfl ?_
  refine c_iconst C dX3_init_26 rfl ?_
  refine c_newa1 (N := 5) (t0 := 0) (ty := .int) (a0 := (5, .inl (fun _ => 0))) C dX3_init_27 wa_int rfl rfl (fun _ z => z) (fun _ => rfl) (by decide) rfl (Nat.le_of_ble_eq_true rfl) (Nat.le_of_ble_eq_true rfl) (Nat.le_of_ble_eq_true rfl) (fun q27 => ?_)
  refine c_putF (ci := 3) (fs' := [.ref q6, .ref q13, .ref q20, .ref q27, .null, .null, .null, .null, .null, .null, .int 0, .int 0, .int 0, .int 0, .int 0, .int 0, .int 0]) C hin 3 dX3_init_29 k_X3_21 (by decide) (by decide) rfl rfl rfl rfl (Nat.le_of_ble_eq_true rfl) rfl ?_
  refine c_aload C 0 dX3_init_32 rfl rfl ?_
  refine c_bipush C dX3_init_33 rfl ?_
  refine c_newa1 (N := 6) (t0 := 0) (ty := .int) (a0 := (6, .inl (fun _ => 0))) C dX3_init_35 wa_int rfl rfl (fun _ z => z) (fun _ => rfl) (by decide) rfl (Nat.le_of_ble_eq_true rfl) (Nat.le_of_ble_eq_true rfl) (Nat.le_of_ble_eq_true rfl) (fun q35 => ?_)
  refine c_putF (ci := 3) (fs' := [.ref q6, .ref q13, .ref q20, .ref q27, .ref q35, .null, .null, .null, .null, .null, .int 0, .int 0, .int 0, .int 0, .int 0, .int 0, .int 0]) C hin 4 dX3_init_37 k_X3_24 (by decide) (by decide) rfl rfl rfl rfl (Nat.le_of_ble_eq_true rfl) rfl ?_
  refine c_aload C 0 dX3_init_40 rfl rfl ?_
  refine c_bipush C dX3_init_41 rfl ?_
  refine c_newa1 (N := 50) (t0 := 0) (ty := .int) (a0 := (50, .inl (fun _ => 0))) C dX3_init_43 wa_int rfl rfl (fun _ z => z) (fun _ => rfl) (by decide) rfl (Nat.le_of_ble_eq_true rfl) (Nat.le_of_ble_eq_true rfl) (Nat.le_of_ble_eq_true rfl) (fun q43 => ?_)
  refine c_putF (ci := 3) (fs' := [.ref q6, .ref q13, .ref q20, .ref q27, .ref q35, .ref q43, .null, .null, .null, .null, .int 0, .int 0, .int 0, .int 0, .int 0, .int 0, .int 0]) C hin 5 dX3_init_45 k_X3_27 (by decide) (by decide) rfl rfl rfl rfl (Nat.le_of_ble_eq_true rfl) rfl ?_
  refine c_aload C 0 dX3_init_48 rfl rfl ?_
  refine c_iconst C dX3_init_49 rfl ?_
  refine c_newa1 (N := 5) (t0 := 0) (ty := .int) (a0 := (5, .inl (fun _ => 0))) C dX3_init_50 wa_int rfl rfl (fun _ z => z) (fun _ => rfl) (by decide) rfl (Nat.le_of_ble_eq_true rfl) (Nat.le_of_ble_eq_true rfl) (Nat.le_of_ble_eq_true rfl) (fun q50 => ?_)
  refine c_putF (ci := 3) (fs' := [.ref q6, .ref q13, .ref q20, .ref q27, .ref q35, .ref q43, .ref q50, .null, .null, .null, .int 0, .int 0, .int 0, .int 0, .int 0, .int 0, .int 0]) C hin 6 dX3_init_52 k_X3_30 (by decide) (by decide) rfl rfl rfl rfl (Nat.le_of_ble_eq_true rfl) rfl ?_
  refine c_aload C 0 dX3_init_55 rfl rfl ?_
  refine c_bipush C dX3_init_56 rfl ?_
  refine c_newa1 (N := 50) (t0 := 0) (ty := .int) (a0 := (50, .inl (fun _ => 0))) C dX3_init_58 wa_int rfl rfl (fun _ z => z) (fun _ => rfl) (by decide) rfl (Nat.le_of_ble_eq_true rfl) (Nat.le_of_ble_eq_true rfl) (Nat.le_of_ble_eq_true rfl) (fun q58 => ?_)
  refine c_putF (ci := 3) (fs' := [.ref q6, .ref q13, .ref q20, .ref q27, .ref q35, .ref q43, .ref q50, .ref q58, .null, .null, .int 0, .int 0, .int 0, .int 0, .int 0, .int 0, .int 0]) C hin 7 dX3_init_60 k_X3_33 (by decide) (by decide) rfl rfl rfl rfl (Nat.le_of_ble_eq_true rfl) rfl ?_
  refine c_aload C 0 dX3_init_63 rfl rfl ?_
  refine c_newC1 (nc := _) C ao (ct_X4 hG) dX3_init_64 dX3_init_67 dX3_init_68 (by decide) wc_X3_36 wi_4 o_X4_init rfl rfl l_X3_38 wn_4 df_4 (Nat.le_of_ble_eq_true rfl) (Nat.le_of_ble_eq_true rfl) ⟨Nat.le_of_ble_eq_true rfl, Nat.le_of_ble_eq_true rfl⟩ (Nat.le_of_ble_eq_true rfl) (fun T64 => ?_)
  refine c_putN (ci := 3) (fs' := [.ref q6, .ref q13, .ref q20, .ref q27, .ref q35, .ref q43, .ref q50, .ref q58, .ref (T64 0), .null, .int 0, .int 0, .int 0, .int 0, .int 0, .int 0, .int 0]) C 8 dX3_init_71 k_X3_39 (by decide) (by decide) rfl rfl rfl (Nat.le_of_ble_eq_true rfl) rfl ?_
  refine c_aload C 0 dX3_init_74 rfl rfl ?_
  refine c_newC1 (nc := _) C ao (ct_X1 hG) dX3_init_75 dX3_init_78 dX3_init_79 (by decide) wc_X3_43 wi_1 o_X1_init rfl rfl l_X3_45 wn_1 df_1 (Nat.le_of_ble_eq_true rfl) (Nat.le_of_ble_eq_true rfl) ⟨Nat.le_of_ble_eq_true rfl, Nat.le_of_ble_eq_true rfl⟩ (Nat.le_of_ble_eq_true rfl) (fun T75 => ?_)
  refine c_putN (ci := 3) (fs' := [.ref q6, .ref q13, .ref q20, .ref q27, .ref q35, .ref q43, .ref q50, .ref q58, .ref (T64 0), .ref (T75 0), .int 0, .int 0, .int 0, .int 0, .int 0, .int 0, .int 0]) C 9 dX3_init_82 k_X3_46 (by decide) (by decide) rfl rfl rfl (Nat.le_of_ble_eq_true rfl) rfl ?_
  refine c_aload C 0 dX3_init_85 rfl rfl ?_
  refine c_iconst C dX3_init_86 rfl ?_
  refine c_putN (ci := 3) (fs' := [.ref q6, .ref q13, .ref q20, .ref q27, .ref q35, .ref q43, .ref q50, .ref q58, .ref (T64 0), .ref (T75 0), .int 0, .int 0, .int 0, .int 0, .int 0, .int 0, .int 0]) C 10 dX3_init_87 k_X3_50 (by decide) (by decide) rfl rfl rfl (Nat.le_of_ble_eq_true rfl) rfl ?_
  refine c_aload C 0 dX3_init_90 rfl rfl ?_
  refine c_iconst C dX3_init_91 rfl ?_
  refine c_putN (ci := 3) (fs' := [.ref q6, .ref q13, .ref q20, .ref q27, .ref q35, .ref q43, .ref q50, .ref q58, .ref (T64 0), .ref (T75 0), .int 0, .int 0, .int 0, .int 0, .int 0, .int 0, .int 0]) C 11 dX3_init_92 k_X3_54 (by decide) (by decide) rfl rfl rfl (Nat.le_of_ble_eq_true rfl) rfl ?_
  refine c_aload C 0 dX3_init_95 rfl rfl ?_
  refine c_bipush C dX3_init_96 rfl ?_
  refine c_putN (ci := 3) (fs' := [.ref q6, .ref q13, .ref q20, .ref q27, .ref q35, .ref q43, .ref q50, .ref q58, .ref (T64 0), .ref (T75 0), .int 0, .int 0, .int (-5), .int 0, .int 0, .int 0, .int 0]) C 12 dX3_init_98 k_X3_57 (by decide) (by decide) rfl rfl rfl (Nat.le_of_ble_eq_true rfl) rfl ?_
  refine c_aload C 0 dX3_init_101 rfl rfl ?_
  refine c_iconst C dX3_init_102 rfl ?_
  refine c_putN (ci := 3) (fs' := [.ref q6, .ref q13, .ref q20, .ref q27, .ref q35, .ref q43, .ref q50, .ref q58, .ref (T64 0), .ref (T75 0), .int 0, .int 0, .int (-5), .int (-1), .int 0, .int 0, .int 0]) C 13 dX3_init_103 k_X3_60 (by decide) (by decide) rfl rfl rfl (Nat.le_of_ble_eq_true rfl) rfl ?_
  refine c_aload C 0 dX3_init_106 rfl rfl ?_
  refine c_iconst C dX3_init_107 rfl ?_
  refine c_putN (ci := 3) (fs' := [.ref q6, .ref q13, .ref q20, .ref q27, .ref q35, .ref q43, .ref q50, .ref q58, .ref (T64 0), .ref (T75 0), .int 0, .int 0, .int (-5), .int (-1), .int 0, .int 0, .int 0]) C 14 dX3_init_108 k_X3_63 (by decide) (by decide) rfl rfl rfl (Nat.le_of_ble_eq_true rfl) rfl ?_
  refine c_aload C 0 dX3_init_111 rfl rfl ?_
  refine c_iconst C dX3_init_112 rfl ?_
  refine c_putN (ci := 3) (fs' := [.ref q6, .ref q13, .ref q20, .ref q27, .ref q35, .ref q43, .ref q50, .ref q58, .ref (T64 0), .ref (T75 0), .int 0, .int 0, .int (-5), .int (-1), .int 0, .int (-1), .int 0]) C 15 dX3_init_113 k_X3_67 (by decide) (by decide) rfl rfl rfl (Nat.le_of_ble_eq_true rfl) rfl ?_
  refine c_aload C 0 dX3_init_116 rfl rfl ?_
  refine c_iconst C dX3_init_117 rfl ?_
  refine c_putN (ci := 3) (fs' := [.ref q6, .ref q13, .ref q20, .ref q27, .ref q35, .ref q43, .ref q50, .ref q58, .ref (T64 0), .ref (T75 0), .int 0, .int 0, .int (-5), .int (-1), .int 0, .int (-1), .int (-1)]) C 16 dX3_init_118 k_X3_70 (by decide) (by decide) rfl rfl rfl (Nat.le_of_ble_eq_true rfl) rfl ?_
  exact fin 121 _ (fun j => if j ≤ 0 then h0 else if j ≤ 1 then q6 else if j ≤ 2 then q13 else if j ≤ 3 then q20 else if j ≤ 4 then q27 else if j ≤ 5 then q35 else if j ≤ 6 then q43 else if j ≤ 7 then q50 else if j ≤ 8 then q58 else if j ≤ 16 then T64 (j - 9) else T75 (j - 17)) dX3_init_121 rfl
/-- what a reader comes with -/
def shX2 (g : Nat → ClassId) (T : Nat → Nat) : va_W := (T 0, .inr (2, [.ref (T 1), .int 0, .int 0, .int 0, .ref (T 2)])) :: (shX1 g (fun j => T (2 + j)) ++ ((T 1, .inl (g 1, (100, .inl (fun _ => 0)))) :: []))
theorem df_2 : ∀ j, j < nfl 2 → defaultValue (cTy 2 j) = vp_V [.null, .int 0, .int 0, .int 0, .null] j := by
  intro j hj
  have hj : j < 5 := hj
  rcases (show j = 0 ∨ j = 1 ∨ j = 2 ∨ j = 3 ∨ j = 4 by omega) with rfl | rfl | rfl | rfl | rfl <;> rfl
set_option maxRecDepth 100000 in
set_option maxHeartbeats 8000000 in
theorem ct_X2 {G : WT} {l : Launch} (hG : GOK G) : CtC l (gD G) (tysO G) 2 yX2_init cX2_init 1 2 [.null, .int 0, .int 0, .int 0, .null] 9 542 (shX2 (gC G)) := by
  refine ct_of (by decide) rfl (Nat.le_of_ble_eq_true rfl) ?_
  intro p e s m args below meth c A Q h0 C ao hin fin
  refine c_aload C 0 dX2_init_0 rfl rfl ?_
  refine c_objI C dX2_init_1 wo_2 w_oi w_oc (Nat.le_of_ble_eq_true rfl) (Nat.le_of_ble_eq_true rfl) ?_
  refine c_aload C 0 dX2_init_4 rfl rfl ?_
  refine c_bipush C dX2_init_5 rfl ?_
  refine c_newa1 (N := 100) (t0 := 1) (ty := .char) (a0 := (100, .inl (fun _ => 0))) C dX2_init_7 wa_char rfl rfl (fun _ z => z) (fun _ => rfl) (by decide) rfl (Nat.le_of_ble_eq_true rfl) (Nat.le_of_ble_eq_true rfl) (Nat.le_of_ble_eq_true rfl) (fun q7 => ?_)
  refine c_putF (ci := 2) (fs' := [.ref q7, .int 0, .int 0, .int 0, .null]) C hin 0 dX2_init_9 k_X2_9 (by decide) (by decide) rfl rfl rfl rfl (Nat.le_of_ble_eq_true rfl) rfl ?_
  refine c_aload C 0 dX2_init_12 rfl rfl ?_
  refine c_iconst C dX2_init_13 rfl ?_
  refine c_putN (ci := 2) (fs' := [.ref q7, .int 0, .int 0, .int 0, .null]) C 1 dX2_init_14 k_X2_15 (by decide) (by decide) rfl rfl rfl (Nat.le_of_ble_eq_true rfl) rfl ?_
  refine c_aload C 0 dX2_init_17 rfl rfl ?_
  refine c_iconst C dX2_init_18 rfl ?_
  refine c_putN (ci := 2) (fs' := [.ref q7, .int 0, .int 0, .int 0, .null]) C 2 dX2_init_19 k_X2_19 (by decide) (by decide) rfl rfl rfl (Nat.le_of_ble_eq_true rfl) rfl ?_
  refine c_aload C 0 dX2_init_22 rfl rfl ?_
  refine c_iconst C dX2_init_23 rfl ?_
  refine c_putN (ci := 2) (fs' := [.ref q7, .int 0, .int 0, .int 0, .null]) C 3 dX2_init_24 k_X2_22 (by decide) (by decide) rfl rfl rfl (Nat.le_of_ble_eq_true rfl) rfl ?_
  refine c_aload C 0 dX2_init_27 rfl rfl ?_
  refine c_newC1 (nc := _) C ao (ct_X1 hG) dX2_init_28 dX2_init_31 dX2_init_32 (by decide) wc_X2_25 wi_1 o_X1_init rfl rfl l_X2_27 wn_1 df_1 (Nat.le_of_ble_eq_true rfl) (Nat.le_of_ble_eq_true rfl) ⟨Nat.le_of_ble_eq_true rfl, Nat.le_of_ble_eq_true rfl⟩ (Nat.le_of_ble_eq_true rfl) (fun T28 => ?_)
  refine c_putN (ci := 2) (fs' := [.ref q7, .int 0, .int 0, .int 0, .ref (T28 0)]) C 4 dX2_init_35 k_X2_28 (by decide) (by decide) rfl rfl rfl (Nat.le_of_ble_eq_true rfl) rfl ?_
  exact fin 38 _ (fun j => if j ≤ 0 then h0 else if j ≤ 1 then q7 else T28 (j - 2)) dX2_init_38 rfl
