/-! the whole law -/
theorem c_astore {Z : ZT} {nc ns pc : Nat} {lv : List (Nat × Value)} {st : List Value} {ws : va_W} (C : CX Z) {k4 : Fin 4} {i x : Nat} {lv' : List (Nat × Value)} (hdg : decode (zcc Z) pc = .ok (.astore_n k4, 1)) (hi : (k4 : Nat) = i) (hn : i < zn Z) (hl : (i, Value.ref x) :: lv.filter (fun q => !(q.1 == i) && !(q.1 + 1 == i && q.2.category == 2)) = lv') (kk : Wc Z nc ns (pc + 1) lv' st ws) : Wc Z nc ns pc lv (.ref x :: st) ws := fun H locs lsm hlv hP hD hS => lv_astore_n C.1 C.2.1 hdg hi hlv hn hl (fun lsm' hlv' => kk H locs lsm' hlv' hP hD hS)
theorem LR.of4 {lsm : Array Slot} {a b c : Nat} {x : Int32} (h : lv_has lsm 4 [(3, .int x), (2, .ref c), (1, .ref b), (0, .ref a)]) : LR 4 [.ref a, .ref b, .ref c, .int x] lsm := by
  refine ⟨h.1, h.2.1, fun i v hi _ => ?_⟩
  match i, hi with
  | 0, hi => cases hi; exact lv_at h 3 rfl
  | 1, hi => cases hi; exact lv_at h 2 rfl
  | 2, hi => cases hi; exact lv_at h 1 rfl
  | 3, hi => cases hi; exact lv_at h 0 rfl
  | i + 4, hi => cases hi
theorem GOK_id {D : va_G} {g : Nat → ClassId} {a b : Nat} {K V xs : Nat → Nat} {z : Nat × Nat × (Nat → Int32)} : GOK ((fun k => k, D, g, 0, (a, b), (K, V), z) : WT) := ⟨fun i j _ _ h => h, fun i _ => Nat.zero_le _⟩
set_option maxHeartbeats 4000000 in
/-- from the entry, for every script of at most 3072 ints, the law comes to its end with true -/
theorem whole_start {p : Program} {e : Env} {s : State} {m : MethodId} {below : List Frame} {meth : Method} {c : Code} (l : Launch) (hflags : l.flags = flags0) {b L : Nat} {xs : Nat → Int32} (hL : L ≤ 3072) (C0 : lw_At p s m meth c b L xs) : W p l e room_1 s m #[Value.ref b] below meth c s.heap [] 0 0 (lw_Z below #[Value.ref b] s) (entryFrame m ([Value.ref b] : List Value).toArray 4) := by
  obtain ⟨tA, tB, K, V, hEX⟩ := entry_EX C0
  obtain ⟨hx, hb, hr, hml, hown, hts, hX, hbl, hlocks, hgv⟩ := C0
  obtain ⟨D, g, hK⟩ := entry_K hts
  have htb : ∀ w ∈ tb, w.before #[Value.ref b] s = true := fun w hw => hts w (List.mem_filter.mp hw).1
  have ao : AOs s := ⟨va_AO.of (hts _ wx_1), va_AO.of (hts _ wx_5)⟩
  have hl := lv_entry ([.ref b]) (n := 4) (Nat.le_of_ble_eq_true rfl)
  rw [lg_entry_eq]
  generalize (lg_sl ([.ref b]) ++ List.replicate (4 - (lg_sl ([.ref b])).length) Slot.unset).toArray = lsm at hl ⊢
  have C : CX (mkZ p l e room_1 s m #[Value.ref b] below meth c D [(g 0, .int), (g 1, .char), (g 2, .boolean), (g 3, .long), (g 4, .object RX1), (g 5, .object RX5)] RL cL_law 4 (fun q => s.heap.size ≤ q) (lw_Z below #[Value.ref b] s)) := ⟨hx, hb, hml, hown, htb, hK, fun q h => h⟩
  have G0 : GOK ((fun k => k, D, g, 0, (0, 0), (fun _ => 0, fun _ => 0), (0, 0, fun _ => 0)) : WT) := GOK_id (xs := fun k => k)
  have main : Wc (mkZ p l e room_1 s m #[Value.ref b] below meth c D [(g 0, .int), (g 1, .char), (g 2, .boolean), (g 3, .long), (g 4, .object RX1), (g 5, .object RX5)] RL cL_law 4 (fun q => s.heap.size ≤ q) (lw_Z below #[Value.ref b] s)) 0 0 0 [(0, .ref b)] [] ([] ++ []) := by
    refine c_newC (pre := []) C ao (ct_X6 (G := ((fun k => k, D, g, 0, (0, 0), (fun _ => 0, fun _ => 0), (0, 0, fun _ => 0)) : WT)) G0) dL_law_0 dL_law_3 dL_law_4 (by decide) wc_L_7 wi_6 o_X6_init rfl rfl l_L_9 wn_6 df_6 (Nat.le_of_ble_eq_true rfl) (Nat.le_of_ble_eq_true rfl) ⟨Nat.le_of_ble_eq_true rfl, Nat.le_of_ble_eq_true rfl⟩ (Nat.le_of_ble_eq_true rfl) (fun T6 => ?_)
    refine c_astore (lv' := [(1, .ref (T6 0)), (0, .ref b)]) C dL_law_7 rfl (Nat.le_of_ble_eq_true rfl) rfl ?_
    refine c_newC (pre := []) C ao (ct_X7 (G := ((fun k => k, D, g, 0, (0, 0), (fun _ => 0, fun _ => 0), (0, 0, fun _ => 0)) : WT)) G0) dL_law_8 dL_law_11 dL_law_12 (by decide) wc_L_10 wi_7 o_X7_init rfl rfl l_L_12 wn_7 df_7 (Nat.le_of_ble_eq_true rfl) (Nat.le_of_ble_eq_true rfl) ⟨Nat.le_of_ble_eq_true rfl, Nat.le_of_ble_eq_true rfl⟩ (Nat.le_of_ble_eq_true rfl) (fun T7 => ?_)
    refine c_astore (lv' := [(2, .ref (T7 0)), (1, .ref (T6 0)), (0, .ref b)]) C dL_law_15 rfl (Nat.le_of_ble_eq_true rfl) rfl ?_
    refine c_iconst C dL_law_16 (show Int32.ofInt 0 = (0 : Int32) from rfl) ?_
    refine c_istore (lv' := [(3, .int 0), (2, .ref (T7 0)), (1, .ref (T6 0)), (0, .ref b)]) C dL_law_17 rfl (Nat.le_of_ble_eq_true rfl) rfl ?_
    intro H locs lsm2 hlv hP hD hS
    have hD' : va_D (fun q => s.heap.size ≤ q) (wWd g T6 T7) := hD
    have hP' : va_P D vwCl (wWd g T6 T7) H := hP
    have hG : GOK (mkG T6 T7 D g s.heap.size tA tB K V b L xs) := start_GOK hD'
    have hP2 := start_P (B := s.heap.size) (tA := tA) (tB := tB) (K := K) (V := V) (b := b) (L := L) (xs := xs) hP'
    refine W.widen (k := 600000) (n := 7302250) (Nat.le_of_ble_eq_true rfl) (Nat.le_of_ble_eq_true rfl) ?_
    have lp := law_loop (l := l) hG (nc := 600000) (ns := 7302250) (show gL (mkG T6 T7 D g s.heap.size tA tB K V b L xs) ≤ 3072 from hL) L 0 hI (show L ≤ 0 + L by omega) (Nat.zero_le _) hI_good
    refine lp p e room_1 s m #[Value.ref b] below meth c H locs lsm2 (lw_Z below #[Value.ref b] s) ⟨hx, hb, hr, hml, hown, htb, ⟨Nat.le_of_ble_eq_true rfl, Nat.le_of_ble_eq_true rfl⟩, hK, hEX T6 T7 D g, hG⟩ ⟨Nat.le_of_ble_eq_true rfl, Nat.le_of_ble_eq_true rfl⟩ hP2 hS (LR.of4 hlv) ?_
    intro r h' H' locs' pc' ls' hq hP3 hS3 hret
    subst hq
    exact va_forget (fun q hq => hS3.2.2 q hq) (lw_ret hx hb hr hlocks hret.2)
  exact main s.heap [] lsm hl (vp_mem.mpr (fun q hq => absurd (show q ∈ ([] : va_W) from hq) List.not_mem_nil)) (vd_nod.mpr ⟨List.nodup_nil, fun q hq => absurd (show q ∈ ([] : va_W) from hq) List.not_mem_nil⟩) va_S.rf
