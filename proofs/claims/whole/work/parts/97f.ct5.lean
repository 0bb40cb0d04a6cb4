/-! the class's constructor -/
/-- what a ateleast comes with -/
def shX6 (g : Nat → ClassId) (T : Nat → Nat) : va_W := (T 0, .inr (6, [.ref (T 1), .ref (T 9), .ref (T 17), .ref (T 25), .ref (T 33), .ref (T 34), .ref (T 59), .ref (T 69), .ref (T 71), .ref (T 72), .ref (T 73), .int 0, .int 0])) :: (T 71, .inl (g 5, (6, .inr (.inr (.inr (.inr (va_up (va_up (va_up (va_up (va_up (va_up (fun _ => none) 0 (some (T 122))) 1 (some (T 124))) 2 (some (T 126))) 3 (some (T 128))) 4 (some (T 130))) 5 (some (T 132))))))))) :: (T 33, .inl (g 4, (6, .inr (.inr (.inr (.inr (va_up (va_up (va_up (va_up (va_up (va_up (fun _ => none) 0 (some (T 74))) 1 (some (T 82))) 2 (some (T 90))) 3 (some (T 98))) 4 (some (T 106))) 5 (some (T 114))))))))) :: (shX5 g (fun j => T (132 + j)) ++ ((shX5 g (fun j => T (130 + j)) ++ ((shX5 g (fun j => T (128 + j)) ++ ((shX5 g (fun j => T (126 + j)) ++ ((shX5 g (fun j => T (124 + j)) ++ ((shX5 g (fun j => T (122 + j)) ++ ((shX1 g (fun j => T (114 + j)) ++ ((shX1 g (fun j => T (106 + j)) ++ ((shX1 g (fun j => T (98 + j)) ++ ((shX1 g (fun j => T (90 + j)) ++ ((shX1 g (fun j => T (82 + j)) ++ ((shX1 g (fun j => T (74 + j)) ++ ((T 73, .inl (g 0, (5, .inl (fun _ => 0)))) :: (T 72, .inl (g 0, (5, .inl (fun _ => 0)))) :: (shX0 g (fun j => T (69 + j)) ++ ((shX2 g (fun j => T (59 + j)) ++ ((shX3 g (fun j => T (34 + j)) ++ ((shX1 g (fun j => T (25 + j)) ++ ((shX4 g (fun j => T (17 + j)) ++ ((shX4 g (fun j => T (9 + j)) ++ ((shX4 g (fun j => T (1 + j)) ++ ([]))))))))))))))))))))))))))))))))))))))
theorem df_6 : ∀ j, j < nfl 6 → defaultValue (cTy 6 j) = vp_V [.null, .null, .null, .null, .null, .null, .null, .null, .null, .null, .null, .int 0, .int 0] j := by
  intro j hj
  have hj : j < 13 := hj
  rcases (show j = 0 ∨ j = 1 ∨ j = 2 ∨ j = 3 ∨ j = 4 ∨ j = 5 ∨ j = 6 ∨ j = 7 ∨ j = 8 ∨ j = 9 ∨ j = 10 ∨ j = 11 ∨ j = 12 by omega) with rfl | rfl | rfl | rfl | rfl | rfl | rfl | rfl | rfl | rfl | rfl | rfl | rfl <;> rfl
set_option maxRecDepth 100000 in
set_option maxHeartbeats 8000000 in
theorem ct_X6 {G : WT} {l : Launch} (hG : GOK G) : CtC l (gD G) (tysO G) 3 yX6_init cX6_init 2 6 [.null, .null, .null, .null, .null, .null, .null, .null, .null, .null, .null, .int 0, .int 0] 133 4936 (shX6 (gC G)) := by
  refine ct_of (by decide) rfl (Nat.le_of_ble_eq_true rfl) ?_
  intro p e s m args below meth c A Q h0 C ao hin fin
  refine c_aload C 0 dX6_init_0 rfl rfl ?_
  refine c_objI C dX6_init_1 wo_6 w_oi w_oc (Nat.le_of_ble_eq_true rfl) (Nat.le_of_ble_eq_true rfl) ?_
  refine c_aload C 0 dX6_init_4 rfl rfl ?_
  refine c_newC1 (nc := _) C ao (ct_X4 hG) dX6_init_5 dX6_init_8 dX6_init_9 (by decide) wc_X6_9 wi_4 o_X4_init rfl rfl l_X6_11 wn_4 df_4 (Nat.le_of_ble_eq_true rfl) (Nat.le_of_ble_eq_true rfl) ⟨Nat.le_of_ble_eq_true rfl, Nat.le_of_ble_eq_true rfl⟩ (Nat.le_of_ble_eq_true rfl) (fun T5 => ?_)
  refine c_putF (ci := 6) (fs' := [.ref (T5 0), .null, .null, .null, .null, .null, .null, .null, .null, .null, .null, .int 0, .int 0]) C hin 0 dX6_init_12 k_X6_12 (by decide) (by decide) rfl rfl rfl rfl (Nat.le_of_ble_eq_true rfl) rfl ?_
  refine c_aload C 0 dX6_init_15 rfl rfl ?_
  refine c_newC1 (nc := _) C ao (ct_X4 hG) dX6_init_16 dX6_init_19 dX6_init_20 (by decide) wc_X6_9 wi_4 o_X4_init rfl rfl l_X6_11 wn_4 df_4 (Nat.le_of_ble_eq_true rfl) (Nat.le_of_ble_eq_true rfl) ⟨Nat.le_of_ble_eq_true rfl, Nat.le_of_ble_eq_true rfl⟩ (Nat.le_of_ble_eq_true rfl) (fun T16 => ?_)
  refine c_putF (ci := 6) (fs' := [.ref (T5 0), .ref (T16 0), .null, .null, .null, .null, .null, .null, .null, .null, .null, .int 0, .int 0]) C hin 1 dX6_init_23 k_X6_18 (by decide) (by decide) rfl rfl rfl rfl (Nat.le_of_ble_eq_true rfl) rfl ?_
  refine c_aload C 0 dX6_init_26 rfl rfl ?_
  refine c_newC1 (nc := _) C ao (ct_X4 hG) dX6_init_27 dX6_init_30 dX6_init_31 (by decide) wc_X6_9 wi_4 o_X4_init rfl rfl l_X6_11 wn_4 df_4 (Nat.le_of_ble_eq_true rfl) (Nat.le_of_ble_eq_true rfl) ⟨Nat.le_of_ble_eq_true rfl, Nat.le_of_ble_eq_true rfl⟩ (Nat.le_of_ble_eq_true rfl) (fun T27 => ?_)
  refine c_putF (ci := 6) (fs' := [.ref (T5 0), .ref (T16 0), .ref (T27 0), .null, .null, .null, .null, .null, .null, .null, .null, .int 0, .int 0]) C hin 2 dX6_init_34 k_X6_21 (by decide) (by decide) rfl rfl rfl rfl (Nat.le_of_ble_eq_true rfl) rfl ?_
  refine c_aload C 0 dX6_init_37 rfl rfl ?_
  refine c_newC1 (nc := _) C ao (ct_X1 hG) dX6_init_38 dX6_init_41 dX6_init_42 (by decide) wc_X6_24 wi_1 o_X1_init rfl rfl l_X6_26 wn_1 df_1 (Nat.le_of_ble_eq_true rfl) (Nat.le_of_ble_eq_true rfl) ⟨Nat.le_of_ble_eq_true rfl, Nat.le_of_ble_eq_true rfl⟩ (Nat.le_of_ble_eq_true rfl) (fun T38 => ?_)
  refine c_putF (ci := 6) (fs' := [.ref (T5 0), .ref (T16 0), .ref (T27 0), .ref (T38 0), .null, .null, .null, .null, .null, .null, .null, .int 0, .int 0]) C hin 3 dX6_init_45 k_X6_27 (by decide) (by decide) rfl rfl rfl rfl (Nat.le_of_ble_eq_true rfl) rfl ?_
  refine c_aload C 0 dX6_init_48 rfl rfl ?_
  refine c_bipush C dX6_init_49 rfl ?_
  refine c_newq1 (N := 6) (t0 := 4) C dX6_init_51 wc_X6_24 ao.1 rfl (by decide) rfl (Nat.le_of_ble_eq_true rfl) (Nat.le_of_ble_eq_true rfl) (Nat.le_of_ble_eq_true rfl) (fun q51 => ?_)
  refine c_putF (ci := 6) (fs' := [.ref (T5 0), .ref (T16 0), .ref (T27 0), .ref (T38 0), .ref q51, .null, .null, .null, .null, .null, .null, .int 0, .int 0]) C hin 4 dX6_init_54 k_X6_31 (by decide) (by decide) rfl rfl rfl rfl (Nat.le_of_ble_eq_true rfl) rfl ?_
  refine c_aload C 0 dX6_init_57 rfl rfl ?_
  refine c_newC2 (nc := _) C ao (ct_X3 hG) dX6_init_58 dX6_init_61 dX6_init_62 (by decide) wc_X6_35 wi_3 o_X3_init rfl rfl l_X6_37 wn_3 df_3 (Nat.le_of_ble_eq_true rfl) (Nat.le_of_ble_eq_true rfl) ⟨Nat.le_of_ble_eq_true rfl, Nat.le_of_ble_eq_true rfl⟩ (Nat.le_of_ble_eq_true rfl) (fun T58 => ?_)
  refine c_putF (ci := 6) (fs' := [.ref (T5 0), .ref (T16 0), .ref (T27 0), .ref (T38 0), .ref q51, .ref (T58 0), .null, .null, .null, .null, .null, .int 0, .int 0]) C hin 5 dX6_init_65 k_X6_38 (by decide) (by decide) rfl rfl rfl rfl (Nat.le_of_ble_eq_true rfl) rfl ?_
  refine c_aload C 0 dX6_init_68 rfl rfl ?_
  refine c_newC2 (nc := _) C ao (ct_X2 hG) dX6_init_69 dX6_init_72 dX6_init_73 (by decide) wc_X6_42 wi_2 o_X2_init rfl rfl l_X6_44 wn_2 df_2 (Nat.le_of_ble_eq_true rfl) (Nat.le_of_ble_eq_true rfl) ⟨Nat.le_of_ble_eq_true rfl, Nat.le_of_ble_eq_true rfl⟩ (Nat.le_of_ble_eq_true rfl) (fun T69 => ?_)
  refine c_putF (ci := 6) (fs' := [.ref (T5 0), .ref (T16 0), .ref (T27 0), .ref (T38 0), .ref q51, .ref (T58 0), .ref (T69 0), .null, .null, .null, .null, .int 0, .int 0]) C hin 6 dX6_init_76 k_X6_45 (by decide) (by decide) rfl rfl rfl rfl (Nat.le_of_ble_eq_true rfl) rfl ?_
  refine c_aload C 0 dX6_init_79 rfl rfl ?_
  refine c_newC2 (nc := _) C ao (ct_X0 hG) dX6_init_80 dX6_init_83 dX6_init_84 (by decide) wc_X6_49 wi_0 o_X0_init rfl rfl l_X6_51 wn_0 df_0 (Nat.le_of_ble_eq_true rfl) (Nat.le_of_ble_eq_true rfl) ⟨Nat.le_of_ble_eq_true rfl, Nat.le_of_ble_eq_true rfl⟩ (Nat.le_of_ble_eq_true rfl) (fun T80 => ?_)
  refine c_putF (ci := 6) (fs' := [.ref (T5 0), .ref (T16 0), .ref (T27 0), .ref (T38 0), .ref q51, .ref (T58 0), .ref (T69 0), .ref (T80 0), .null, .null, .null, .int 0, .int 0]) C hin 7 dX6_init_87 k_X6_52 (by decide) (by decide) rfl rfl rfl rfl (Nat.le_of_ble_eq_true rfl) rfl ?_
  refine c_aload C 0 dX6_init_90 rfl rfl ?_
  refine c_bipush C dX6_init_91 rfl ?_
  refine c_newq1 (N := 6) (t0 := 5) C dX6_init_93 wc_X6_56 ao.2 rfl (by decide) rfl (Nat.le_of_ble_eq_true rfl) (Nat.le_of_ble_eq_true rfl) (Nat.le_of_ble_eq_true rfl) (fun q93 => ?_)
  refine c_putF (ci := 6) (fs' := [.ref (T5 0), .ref (T16 0), .ref (T27 0), .ref (T38 0), .ref q51, .ref (T58 0), .ref (T69 0), .ref (T80 0), .ref q93, .null, .null, .int 0, .int 0]) C hin 8 dX6_init_96 k_X6_58 (by decide) (by decide) rfl rfl rfl rfl (Nat.le_of_ble_eq_true rfl) rfl ?_
  refine c_aload C 0 dX6_init_99 rfl rfl ?_
  refine c_iconst C dX6_init_100 rfl ?_
  refine c_newa3 (N := 5) (t0 := 0) (ty := .int) (a0 := (5, .inl (fun _ => 0))) C dX6_init_101 wa_int rfl rfl (fun _ z => z) (fun _ => rfl) (by decide) rfl (Nat.le_of_ble_eq_true rfl) (Nat.le_of_ble_eq_true rfl) (Nat.le_of_ble_eq_true rfl) (fun q101 => ?_)
  refine c_putF (ci := 6) (fs' := [.ref (T5 0), .ref (T16 0), .ref (T27 0), .ref (T38 0), .ref q51, .ref (T58 0), .ref (T69 0), .ref (T80 0), .ref q93, .ref q101, .null, .int 0, .int 0]) C hin 9 dX6_init_103 k_X6_62 (by decide) (by decide) rfl rfl rfl rfl (Nat.le_of_ble_eq_true rfl) rfl ?_
  refine c_aload C 0 dX6_init_106 rfl rfl ?_
  refine c_iconst C dX6_init_107 rfl ?_
  refine c_newa3 (N := 5) (t0 := 0) (ty := .int) (a0 := (5, .inl (fun _ => 0))) C dX6_init_108 wa_int rfl rfl (fun _ z => z) (fun _ => rfl) (by decide) rfl (Nat.le_of_ble_eq_true rfl) (Nat.le_of_ble_eq_true rfl) (Nat.le_of_ble_eq_true rfl) (fun q108 => ?_)
  refine c_putF (ci := 6) (fs' := [.ref (T5 0), .ref (T16 0), .ref (T27 0), .ref (T38 0), .ref q51, .ref (T58 0), .ref (T69 0), .ref (T80 0), .ref q93, .ref q101, .ref q108, .int 0, .int 0]) C hin 10 dX6_init_110 k_X6_66 (by decide) (by decide) rfl rfl rfl rfl (Nat.le_of_ble_eq_true rfl) rfl ?_
  refine c_aload C 0 dX6_init_113 rfl rfl ?_
  refine c_iconst C dX6_init_114 rfl ?_
  refine c_putN (ci := 6) (fs' := [.ref (T5 0), .ref (T16 0), .ref (T27 0), .ref (T38 0), .ref q51, .ref (T58 0), .ref (T69 0), .ref (T80 0), .ref q93, .ref q101, .ref q108, .int 0, .int 0]) C 11 dX6_init_115 k_X6_69 (by decide) (by decide) rfl rfl rfl (Nat.le_of_ble_eq_true rfl) rfl ?_
  refine c_aload C 0 dX6_init_118 rfl rfl ?_
  refine c_iconst C dX6_init_119 rfl ?_
  refine c_putN (ci := 6) (fs' := [.ref (T5 0), .ref (T16 0), .ref (T27 0), .ref (T38 0), .ref q51, .ref (T58 0), .ref (T69 0), .ref (T80 0), .ref q93, .ref q101, .ref q108, .int 0, .int 0]) C 12 dX6_init_120 k_X6_73 (by decide) (by decide) rfl rfl rfl (Nat.le_of_ble_eq_true rfl) rfl ?_
  refine c_iconst C dX6_init_123 rfl ?_
  refine c_istore (lv' := [(1, .int 0), (0, .ref h0)]) C dX6_init_124 rfl (Nat.le_of_ble_eq_true rfl) rfl ?_
  refine c_iload C 0 dX6_init_125 rfl rfl ?_
  refine c_bipush C dX6_init_126 rfl ?_
  refine c_icmp_ge (tgt := 150) C dX6_init_128 (by decide) (fun z => absurd z (by decide)) (fun _ => ?_)
  refine c_aload C 1 dX6_init_131 rfl rfl ?_
  refine c_getR (ci := 6) C 4 dX6_init_132 k_X6_31 (by decide) (by decide) rfl ?_
  refine c_iload C 0 dX6_init_135 rfl rfl ?_
  refine c_newC3 (nc := _) C ao (ct_X1 hG) dX6_init_136 dX6_init_139 dX6_init_140 (by decide) wc_X6_24 wi_1 o_X1_init rfl rfl l_X6_26 wn_1 df_1 (Nat.le_of_ble_eq_true rfl) (Nat.le_of_ble_eq_true rfl) ⟨Nat.le_of_ble_eq_true rfl, Nat.le_of_ble_eq_true rfl⟩ (Nat.le_of_ble_eq_true rfl) (fun T136_0 => ?_)
  refine c_astq2 (ci := 1) (j := 0) (t0 := 4) C dX6_init_143 (by decide) rfl rfl rfl rfl (by decide) (by decide) ?_
  refine c_iinc (lv' := [(1, .int 1), (0, .ref h0)]) C 0 dX6_init_144 rfl rfl (Nat.le_of_ble_eq_true rfl) rfl ?_
  refine c_goto (tgt := 125) C dX6_init_147 (by decide) ?_
  refine c_iload C 0 dX6_init_125 rfl rfl ?_
  refine c_bipush C dX6_init_126 rfl ?_
  refine c_icmp_ge (tgt := 150) C dX6_init_128 (by decide) (fun z => absurd z (by decide)) (fun _ => ?_)
  refine c_aload C 1 dX6_init_131 rfl rfl ?_
  refine c_getR (ci := 6) C 4 dX6_init_132 k_X6_31 (by decide) (by decide) rfl ?_
  refine c_iload C 0 dX6_init_135 rfl rfl ?_
  refine c_newC3 (nc := _) C ao (ct_X1 hG) dX6_init_136 dX6_init_139 dX6_init_140 (by decide) wc_X6_24 wi_1 o_X1_init rfl rfl l_X6_26 wn_1 df_1 (Nat.le_of_ble_eq_true rfl) (Nat.le_of_ble_eq_true rfl) ⟨Nat.le_of_ble_eq_true rfl, Nat.le_of_ble_eq_true rfl⟩ (Nat.le_of_ble_eq_true rfl) (fun T136_1 => ?_)
  refine c_astq2 (ci := 1) (j := 1) (t0 := 4) C dX6_init_143 (by decide) rfl rfl rfl rfl (by decide) (by decide) ?_
  refine c_iinc (lv' := [(1, .int 2), (0, .ref h0)]) C 0 dX6_init_144 rfl rfl (Nat.le_of_ble_eq_true rfl) rfl ?_
  refine c_goto (tgt := 125) C dX6_init_147 (by decide) ?_
  refine c_iload C 0 dX6_init_125 rfl rfl ?_
  refine c_bipush C dX6_init_126 rfl ?_
  refine c_icmp_ge (tgt := 150) C dX6_init_128 (by decide) (fun z => absurd z (by decide)) (fun _ => ?_)
  refine c_aload C 1 dX6_init_131 rfl rfl ?_
  refine c_getR (ci := 6) C 4 dX6_init_132 k_X6_31 (by decide) (by decide) rfl ?_
  refine c_iload C 0 dX6_init_135 rfl rfl ?_
  refine c_newC3 (nc := _) C ao (ct_X1 hG) dX6_init_136 dX6_init_139 dX6_init_140 (by decide) wc_X6_24 wi_1 o_X1_init rfl rfl l_X6_26 wn_1 df_1 (Nat.le_of_ble_eq_true rfl) (Nat.le_of_ble_eq_true rfl) ⟨Nat.le_of_ble_eq_true rfl, Nat.le_of_ble_eq_true rfl⟩ (Nat.le_of_ble_eq_true rfl) (fun T136_2 => ?_)
  refine c_astq2 (ci := 1) (j := 2) (t0 := 4) C dX6_init_143 (by decide) rfl rfl rfl rfl (by decide) (by decide) ?_
  refine c_iinc (lv' := [(1, .int 3), (0, .ref h0)]) C 0 dX6_init_144 rfl rfl (Nat.le_of_ble_eq_true rfl) rfl ?_
  refine c_goto (tgt := 125) C dX6_init_147 (by decide) ?_
  refine c_iload C 0 dX6_init_125 rfl rfl ?_
  refine c_bipush C dX6_init_126 rfl ?_
  refine c_icmp_ge (tgt := 150) C dX6_init_128 (by decide) (fun z => absurd z (by decide)) (fun _ => ?_)
  refine c_aload C 1 dX6_init_131 rfl rfl ?_
  refine c_getR (ci := 6) C 4 dX6_init_132 k_X6_31 (by decide) (by decide) rfl ?_
  refine c_iload C 0 dX6_init_135 rfl rfl ?_
  refine c_newC3 (nc := _) C ao (ct_X1 hG) dX6_init_136 dX6_init_139 dX6_init_140 (by decide) wc_X6_24 wi_1 o_X1_init rfl rfl l_X6_26 wn_1 df_1 (Nat.le_of_ble_eq_true rfl) (Nat.le_of_ble_eq_true rfl) ⟨Nat.le_of_ble_eq_true rfl, Nat.le_of_ble_eq_true rfl⟩ (Nat.le_of_ble_eq_true rfl) (fun T136_3 => ?_)
  refine c_astq2 (ci := 1) (j := 3) (t0 := 4) C dX6_init_143 (by decide) rfl rfl rfl rfl (by decide) (by decide) ?_
  refine c_iinc (lv' := [(1, .int 4), (0, .ref h0)]) C 0 dX6_init_144 rfl rfl (Nat.le_of_ble_eq_true rfl) rfl ?_
  refine c_goto (tgt := 125) C dX6_init_147 (by decide) ?_
  refine c_iload C 0 dX6_init_125 rfl rfl ?_
  refine c_bipush C dX6_init_126 rfl ?_
  refine c_icmp_ge (tgt := 150) C dX6_init_128 (by decide) (fun z => absurd z (by decide)) (fun _ => ?_)
  refine c_aload C 1 dX6_init_131 rfl rfl ?_
  refine c_getR (ci := 6) C 4 dX6_init_132 k_X6_31 (by decide) (by decide) rfl ?_
  refine c_iload C 0 dX6_init_135 rfl rfl ?_
  refine c_newC3 (nc := _) C ao (ct_X1 hG) dX6_init_136 dX6_init_139 dX6_init_140 (by decide) wc_X6_24 wi_1 o_X1_init rfl rfl l_X6_26 wn_1 df_1 (Nat.le_of_ble_eq_true rfl) (Nat.le_of_ble_eq_true rfl) ⟨Nat.le_of_ble_eq_true rfl, Nat.le_of_ble_eq_true rfl⟩ (Nat.le_of_ble_eq_true rfl) (fun T136_4 => ?_)
  refine c_astq2 (ci := 1) (j := 4) (t0 := 4) C dX6_init_143 (by decide) rfl rfl rfl rfl (by decide) (by decide) ?_
  refine c_iinc (lv' := [(1, .int 5), (0, .ref h0)]) C 0 dX6_init_144 rfl rfl (Nat.le_of_ble_eq_true rfl) rfl ?_
  refine c_goto (tgt := 125) C dX6_init_147 (by decide) ?_
  refine c_iload C 0 dX6_init_125 rfl rfl ?_
  refine c_bipush C dX6_init_126 rfl ?_
  refine c_icmp_ge (tgt := 150) C dX6_init_128 (by decide) (fun z => absurd z (by decide)) (fun _ => ?_)
  refine c_aload C 1 dX6_init_131 rfl rfl ?_
  refine c_getR (ci := 6) C 4 dX6_init_132 k_X6_31 (by decide) (by decide) rfl ?_
  refine c_iload C 0 dX6_init_135 rfl rfl ?_
  refine c_newC3 (nc := _) C ao (ct_X1 hG) dX6_init_136 dX6_init_139 dX6_init_140 (by decide) wc_X6_24 wi_1 o_X1_init rfl rfl l_X6_26 wn_1 df_1 (Nat.le_of_ble_eq_true rfl) (Nat.le_of_ble_eq_true rfl) ⟨Nat.le_of_ble_eq_true rfl, Nat.le_of_ble_eq_true rfl⟩ (Nat.le_of_ble_eq_true rfl) (fun T136_5 => ?_)
  refine c_astq2 (ci := 1) (j := 5) (t0 := 4) C dX6_init_143 (by decide) rfl rfl rfl rfl (by decide) (by decide) ?_
  refine c_iinc (lv' := [(1, .int 6), (0, .ref h0)]) C 0 dX6_init_144 rfl rfl (Nat.le_of_ble_eq_true rfl) rfl ?_
  refine c_goto (tgt := 125) C dX6_init_147 (by decide) ?_
  refine c_iload C 0 dX6_init_125 rfl rfl ?_
  refine c_bipush C dX6_init_126 rfl ?_
  refine c_icmp_ge (tgt := 150) C dX6_init_128 (by decide) (fun _ => ?_) (fun z => absurd (by decide) z)
  refine c_iconst C dX6_init_150 rfl ?_
  refine c_istore (lv' := [(1, .int 0), (0, .ref h0)]) C dX6_init_151 rfl (Nat.le_of_ble_eq_true rfl) rfl ?_
  refine c_iload C 0 dX6_init_152 rfl rfl ?_
  refine c_bipush C dX6_init_153 rfl ?_
  refine c_icmp_ge (tgt := 177) C dX6_init_155 (by decide) (fun z => absurd z (by decide)) (fun _ => ?_)
  refine c_aload C 1 dX6_init_158 rfl rfl ?_
  refine c_getR (ci := 6) C 8 dX6_init_159 k_X6_58 (by decide) (by decide) rfl ?_
  refine c_iload C 0 dX6_init_162 rfl rfl ?_
  refine c_newC3 (nc := _) C ao (ct_X5 hG) dX6_init_163 dX6_init_166 dX6_init_167 (by decide) wc_X6_56 wi_5 o_X5_init rfl rfl l_X6_77 wn_5 df_5 (Nat.le_of_ble_eq_true rfl) (Nat.le_of_ble_eq_true rfl) ⟨Nat.le_of_ble_eq_true rfl, Nat.le_of_ble_eq_true rfl⟩ (Nat.le_of_ble_eq_true rfl) (fun T163_0 => ?_)
  refine c_astq1 (ci := 5) (j := 0) (t0 := 5) C dX6_init_170 (by decide) rfl rfl rfl rfl (by decide) (by decide) ?_
  refine c_iinc (lv' := [(1, .int 1), (0, .ref h0)]) C 0 dX6_init_171 rfl rfl (Nat.le_of_ble_eq_true rfl) rfl ?_
  refine c_goto (tgt := 152) C dX6_init_174 (by decide) ?_
  refine c_iload C 0 dX6_init_152 rfl rfl ?_
  refine c_bipush C dX6_init_153 rfl ?_
  refine c_icmp_ge (tgt := 177) C dX6_init_155 (by decide) (fun z => absurd z (by decide)) (fun _ => ?_)
  refine c_aload C 1 dX6_init_158 rfl rfl ?_
  refine c_getR (ci := 6) C 8 dX6_init_159 k_X6_58 (by decide) (by decide) rfl ?_
  refine c_iload C 0 dX6_init_162 rfl rfl ?_
  refine c_newC3 (nc := _) C ao (ct_X5 hG) dX6_init_163 dX6_init_166 dX6_init_167 (by decide) wc_X6_56 wi_5 o_X5_init rfl rfl l_X6_77 wn_5 df_5 (Nat.le_of_ble_eq_true rfl) (Nat.le_of_ble_eq_true rfl) ⟨Nat.le_of_ble_eq_true rfl, Nat.le_of_ble_eq_true rfl⟩ (Nat.le_of_ble_eq_true rfl) (fun T163_1 => ?_)
  refine c_astq1 (ci := 5) (j := 1) (t0 := 5) C dX6_init_170 (by decide) rfl rfl rfl rfl (by decide) (by decide) ?_
  refine c_iinc (lv' := [(1, .int 2), (0, .ref h0)]) C 0 dX6_init_171 rfl rfl (Nat.le_of_ble_eq_true rfl) rfl ?_
  refine c_goto (tgt := 152) C dX6_init_174 (by decide) ?_
  refine c_iload C 0 dX6_init_152 rfl rfl ?_
  refine c_bipush C dX6_init_153 rfl ?_
  refine c_icmp_ge (tgt := 177) C dX6_init_155 (by decide) (fun z => absurd z (by decide)) (fun _ => ?_)
  refine c_aload C 1 dX6_init_158 rfl rfl ?_
  refine c_getR (ci := 6) C 8 dX6_init_159 k_X6_58 (by decide) (by decide) rfl ?_
  refine c_iload C 0 dX6_init_162 rfl rfl ?_
  refine c_newC3 (nc := _) C ao (ct_X5 hG) dX6_init_163 dX6_init_166 dX6_init_167 (by decide) wc_X6_56 wi_5 o_X5_init rfl rfl l_X6_77 wn_5 df_5 (Nat.le_of_ble_eq_true rfl) (Nat.le_of_ble_eq_true rfl) ⟨Nat.le_of_ble_eq_true rfl, Nat.le_of_ble_eq_true rfl⟩ (Nat.le_of_ble_eq_true rfl) (fun T163_2 => ?_)
  refine c_astq1 (ci := 5) (j := 2) (t0 := 5) C dX6_init_170 (by decide) rfl rfl rfl rfl (by decide) (by decide) ?_
  refine c_iinc (lv' := [(1, .int 3), (0, .ref h0)]) C 0 dX6_init_171 rfl rfl (Nat.le_of_ble_eq_true rfl) rfl ?_
  refine c_goto (tgt := 152) C dX6_init_174 (by decide) ?_
  refine c_iload C 0 dX6_init_152 rfl rfl ?_
  refine c_bipush C dX6_init_153 rfl ?_
  refine c_icmp_ge (tgt := 177) C dX6_init_155 (by decide) (fun z => absurd z (by decide)) (fun _ => ?_)
  refine c_aload C 1 dX6_init_158 rfl rfl ?_
  refine c_getR (ci := 6) C 8 dX6_init_159 k_X6_58 (by decide) (by decide) rfl ?_
  refine c_iload C 0 dX6_init_162 rfl rfl ?_
  refine c_newC3 (nc := _) C ao (ct_X5 hG) dX6_init_163 dX6_init_166 dX6_init_167 (by decide) wc_X6_56 wi_5 o_X5_init rfl rfl l_X6_77 wn_5 df_5 (Nat.le_of_ble_eq_true rfl) (Nat.le_of_ble_eq_true rfl) ⟨Nat.le_of_ble_eq_true rfl, Nat.le_of_ble_eq_true rfl⟩ (Nat.le_of_ble_eq_true rfl) (fun T163_3 => ?_)
  refine c_astq1 (ci := 5) (j := 3) (t0 := 5) C dX6_init_170 (by decide) rfl rfl rfl rfl (by decide) (by decide) ?_
  refine c_iinc (lv' := [(1, .int 4), (0, .ref h0)]) C 0 dX6_init_171 rfl rfl (Nat.le_of_ble_eq_true rfl) rfl ?_
  refine c_goto (tgt := 152) C dX6_init_174 (by decide) ?_
  refine c_iload C 0 dX6_init_152 rfl rfl ?_
  refine c_bipush C dX6_init_153 rfl ?_
  refine c_icmp_ge (tgt := 177) C dX6_init_155 (by decide) (fun z => absurd z (by decide)) (fun _ => ?_)
  refine c_aload C 1 dX6_init_158 rfl rfl ?_
  refine c_getR (ci := 6) C 8 dX6_init_159 k_X6_58 (by decide) (by decide) rfl ?_
  refine c_iload C 0 dX6_init_162 rfl rfl ?_
  refine c_newC3 (nc := _) C ao (ct_X5 hG) dX6_init_163 dX6_init_166 dX6_init_167 (by decide) wc_X6_56 wi_5 o_X5_init rfl rfl l_X6_77 wn_5 df_5 (Nat.le_of_ble_eq_true rfl) (Nat.le_of_ble_eq_true rfl) ⟨Nat.le_of_ble_eq_true rfl, Nat.le_of_ble_eq_true rfl⟩ (Nat.le_of_ble_eq_true rfl) (fun T163_4 => ?_)
  refine c_astq1 (ci := 5) (j := 4) (t0 := 5) C dX6_init_170 (by decide) rfl rfl rfl rfl (by decide) (by decide) ?_
  refine c_iinc (lv' := [(1, .int 5), (0, .ref h0)]) C 0 dX6_init_171 rfl rfl (Nat.le_of_ble_eq_true rfl) rfl ?_
  refine c_goto (tgt := 152) C dX6_init_174 (by decide) ?_
  refine c_iload C 0 dX6_init_152 rfl rfl ?_
  refine c_bipush C dX6_init_153 rfl ?_
  refine c_icmp_ge (tgt := 177) C dX6_init_155 (by decide) (fun z => absurd z (by decide)) (fun _ => ?_)
  refine c_aload C 1 dX6_init_158 rfl rfl ?_
  refine c_getR (ci := 6) C 8 dX6_init_159 k_X6_58 (by decide) (by decide) rfl ?_
  refine c_iload C 0 dX6_init_162 rfl rfl ?_
  refine c_newC3 (nc := _) C ao (ct_X5 hG) dX6_init_163 dX6_init_166 dX6_init_167 (by decide) wc_X6_56 wi_5 o_X5_init rfl rfl l_X6_77 wn_5 df_5 (Nat.le_of_ble_eq_true rfl) (Nat.le_of_ble_eq_true rfl) ⟨Nat.le_of_ble_eq_true rfl, Nat.le_of_ble_eq_true rfl⟩ (Nat.le_of_ble_eq_true rfl) (fun T163_5 => ?_)
  refine c_astq1 (ci := 5) (j := 5) (t0 := 5) C dX6_init_170 (by decide) rfl rfl rfl rfl (by decide) (by decide) ?_
  refine c_iinc (lv' := [(1, .int 6), (0, .ref h0)]) C 0 dX6_init_171 rfl rfl (Nat.le_of_ble_eq_true rfl) rfl ?_
  refine c_goto (tgt := 152) C dX6_init_174 (by decide) ?_
  refine c_iload C 0 dX6_init_152 rfl rfl ?_
  refine c_bipush C dX6_init_153 rfl ?_
  refine c_icmp_ge (tgt := 177) C dX6_init_155 (by decide) (fun _ => ?_) (fun z => absurd (by decide) z)
  exact fin 177 _ (fun j => if j ≤ 0 then h0 else if j ≤ 8 then T5 (j - 1) else if j ≤ 16 then T16 (j - 9) else if j ≤ 24 then T27 (j - 17) else if j ≤ 32 then T38 (j - 25) else if j ≤ 33 then q51 else if j ≤ 58 then T58 (j - 34) else if j ≤ 68 then T69 (j - 59) else if j ≤ 70 then T80 (j - 69) else if j ≤ 71 then q93 else if j ≤ 72 then q101 else if j ≤ 73 then q108 else if j ≤ 81 then T136_0 (j - 74) else if j ≤ 89 then T136_1 (j - 82) else if j ≤ 97 then T136_2 (j - 90) else if j ≤ 105 then T136_3 (j - 98) else if j ≤ 113 then T136_4 (j - 106) else if j ≤ 121 then T136_5 (j - 114) else if j ≤ 123 then T163_0 (j - 122) else if j ≤ 125 then T163_1 (j - 124) else if j ≤ 127 then T163_2 (j - 126) else if j ≤ 129 then T163_3 (j - 128) else if j ≤ 131 then T163_4 (j - 130) else T163_5 (j - 132)) dX6_init_177 rfl
