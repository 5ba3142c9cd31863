set_option maxHeartbeats 8000000 in
set_option maxRecDepth 100000 in
theorem lk_12 {p : Program} {l : Launch} {e : Env} {s : State} {m : MethodId} {below : List Frame} {meth : Method} {c : Code} {b L i C S : Nat} {xs : Nat → Int32} {E : EE} {Gc Gm : Nat → Nat} {x0 m0 o0 : Nat} {rf : Nat → Nat} {t0 t1 t2 : Int32} {H : Heap} {locs : List Loc} {ls : Array Slot} (hst : l.stackTraces = false) (C0 : lw_At p s m meth c b L xs) (hLB : L ≤ 3587) (hK : KS E s.heap.size s) (hN : NC s) (F9 : LF s Gc Gm x0 m0 o0 rf t0) (hi : i + 7 ≤ L) (hC : C + 2 ≤ 621377) (hSl : S + 12 ≤ 7231939) (hI : LI E s Gc x0 m0 o0 rf t0 t1 t2 H locs) (hl : lv_has ls 7 [(4, .int (nI i)), (3, .ref o0), (2, .ref m0), (1, .ref x0), (0, .ref b)]) (key : ∀ (H : Heap) (locs : List Loc) (ls : Array Slot), LI E s Gc x0 m0 o0 rf t0 t1 t2 H locs → lv_has ls 7 [(4, .int (nI i)), (3, .ref o0), (2, .ref m0), (1, .ref x0), (0, .ref b)] → W p l e room_1 s m #[Value.ref b] below meth c H locs (C + 2) (S + 12) (lw_Z below #[Value.ref b] s) (F0 m 971 ls [])) : W p l e room_1 s m #[Value.ref b] below meth c H locs C S (lw_Z below #[Value.ref b] s) (F0 m 806 ls []) := by
  obtain ⟨hx, hb, hr, hml, hown, hts0, hX, hbl, hlocks, hgv⟩ := id C0
  obtain ⟨hxc, hR, hGzc, hGzm, hd, hGco, hGmo, hoz, h2t⟩ := F9
  have hd2 : ∀ a, Gc a ≠ 0 → Gm a = 0 := fun a h => Decidable.byContradiction fun q => h (hd a q)
  have hts : ∀ w ∈ TS, w.before #[Value.ref b] s = true := fun w hw => hts0 w (List.mem_filter.mp hw).1
  have hbA : ¬ (fun q : Nat => s.heap.size ≤ q) b := Nat.not_le.mpr hbl
  have hAz : ∀ q, (fun q : Nat => s.heap.size ≤ q) q → s.heap.size ≤ q := fun q h => h
  have hC0 : C + 0 ≤ room_1.cells := (show C + 0 ≤ 621377 by omega)
  have hS0 : S + 0 ≤ room_1.slots := (show S + 0 ≤ 7231939 by omega)
  have hC2 : C + 2 ≤ room_1.cells := (show C + 2 ≤ 621377 by omega)
  have hS2 : S + 12 ≤ room_1.slots := (show S + 12 ≤ 7231939 by omega)
  have hiI : (nI i).toInt = (i : Int) := nI_toInt (by omega)
  obtain ⟨B, R, A, cd, pk, hT, hW, hM, hSIM, hV, ⟨fo, hro⟩, hS⟩ := hI
  obtain ⟨hI2, hI3, hI4, hI5, hI6, hI7, hI8, hpk⟩ := hV.c3
  refine lv_aload_n hx hb dL_law_806 rfl (lv_at hl 3 rfl) ?_
  have ha_1 := tx_1 hT hxc
  refine va_calli (rnV (fun H => TX E Gc B R H) (As := []) (rest := []) ⟨hx, hb, hml, hown, hts⟩ (x_X9_tick l E s.heap.size Gc hGzc B R hW x0  hxc) (cwV 0 hts (gdV ml_L_108 im_X9_tick se_X9_X9_tick in_X9 co_X9_tick rfl) rfl rfl rfl (by decide +kernel) ⟨Nat.le_of_ble_eq_true rfl, Nat.le_of_ble_eq_true rfl⟩) hT (fun U hU hW => hK.go hW hS hAz hU) (va_recv hK.1 (va_one ha_1) (ci := 9) (q0 := 0) rfl rfl) rfl rfl hl.1 rfl (lv_room (Nat.le_of_ble_eq_true rfl)) dL_law_807 ⟨hC0, hS0⟩) hS (fun q _ h => hGzc q (zn (L := [8, 5, 15, 11, 10, 9]) (by decide) h)) (fun q h => hGzc q (zn (L := [8, 5, 15, 11, 10, 9]) (by decide) h)) (fun r_1 u_1 t H locs ht9 hvm hwr_1 hB hz hk hS => ?_)
  obtain ⟨Z_1, eZ_1⟩ : ∃ z, z = u_1 := ⟨_, rfl⟩
  rw [← eZ_1] at hB hwr_1
  rw [ht9] at hB
  have hT : TX E Gc Z_1 R H := hB
  have hW : TW Gc Z_1 R := hwr_1.1
  have hC : C_X9_tick Gc B R x0 Z_1 r_1 := hwr_1.2.2
  have hM := hM.away hR (fun q hq hg => hk q hq (fun h => zn (L := [8, 5, 15, 11, 10, 9]) (by decide) h (hd q hg)))
  have hro := hro.kept (hk _ hro.lt (fun h => zn (L := [8, 5, 15, 11, 10, 9]) (by decide) h hGco))
  refine lv_pop hx hb dL_law_810 rfl ?_
  refine lv_aload_n hx hb dL_law_811 rfl (lv_at hl 2 rfl) ?_
  refine va_calli (rnV (fun H => MH E m0 rf t0 t1 t2 A cd pk H) (As := []) (rest := []) ⟨hx, hb, hml, hown, hts⟩ (u_X10_tick l E s.heap.size Gm hGzm m0 rf hR t0 t1 t2 A cd pk hI3 hI4 hI8) (cwV 0 hts (gdV ml_L_111 im_X10_tick se_X10_X10_tick in_X10 co_X10_tick rfl) rfl rfl rfl (by decide +kernel) ⟨Nat.le_of_ble_eq_true rfl, Nat.le_of_ble_eq_true rfl⟩) hM (fun U hU hW => hK.go hW hS hAz hU) (va_recv hK.1 (va_one hM.1) (ci := 10) (q0 := 0) rfl rfl) rfl rfl hl.1 rfl (lv_room (Nat.le_of_ble_eq_true rfl)) dL_law_812 ⟨hC0, hS0⟩) hS (fun q _ h => hGzm q h) (fun q h => hGzm q h) (fun r_2 ur_2 t H locs ht hvm hwr_2 hB hz hk hS => ?_)
  have hM : MH E m0 rf t0 t1 t2 (uA (uA (uA (uA (uA (uA (uA (uA (uA (uA A 8 (ur_2.1)) 9 (ur_2.2.1)) 10 (ur_2.2.2.1)) 13 (ur_2.2.2.2.1)) 15 (ur_2.2.2.2.2.1)) 16 (ur_2.2.2.2.2.2.1)) 18 (ur_2.2.2.2.2.2.2.1)) 20 (ur_2.2.2.2.2.2.2.2.1)) 30 (ur_2.2.2.2.2.2.2.2.2.1)) 36 (ur_2.2.2.2.2.2.2.2.2.2.1)) ur_2.2.2.2.2.2.2.2.2.2.2 pk H := by rw [ht] at hB; exact hB
  have hDr_2 : D_X10_tick t0 t1 t2 A cd pk (uA (uA (uA (uA (uA (uA (uA (uA (uA (uA A 8 (ur_2.1)) 9 (ur_2.2.1)) 10 (ur_2.2.2.1)) 13 (ur_2.2.2.2.1)) 15 (ur_2.2.2.2.2.1)) 16 (ur_2.2.2.2.2.2.1)) 18 (ur_2.2.2.2.2.2.2.1)) 20 (ur_2.2.2.2.2.2.2.2.1)) 30 (ur_2.2.2.2.2.2.2.2.2.1)) 36 (ur_2.2.2.2.2.2.2.2.2.2.1)) (ur_2.2.2.2.2.2.2.2.2.2.2) pk r_2 := hwr_2.2.2.2
  have hpr_2_0 : I3 (ur_2.1) := hwr_2.1
  have hpr_2_1 : I4 (ur_2.2.2.1) (ur_2.2.2.2.2.2.2.2.1) (A 29) (A 24) (A 11) (A 12) (ur_2.2.2.2.1) := hwr_2.2.1
  have hpr_2_2 : I8 (ur_2.2.2.2.2.2.2.2.1) (ur_2.2.2.2.2.2.2.2.2.1) (A 37) (ur_2.2.2.2.2.2.2.2.2.2.1) := hwr_2.2.2.1
  have hT := hT.other hd2 hk
  have hro := hro.kept (hk _ hro.lt (fun h => h hGmo))
  obtain ⟨A_3, cd_3, pk_3, hM, hD, hV2⟩ : ∃ (A2 : AA) (cd2 pk2 : Int32), MH E m0 rf t0 t1 t2 A2 cd2 pk2 H ∧ D_X10_tick t0 t1 t2 A cd pk  A2 cd2 pk2 r_2 ∧ RIV A2 pk2 := ⟨_, _, _, hM, hDr_2, ⟨⟨hI2, hpr_2_0, hpr_2_1, hI5, hI6, hI7, hpr_2_2⟩, hpk⟩⟩
  have hs_3 := s_tickC h2t hSIM hV hC hD
  obtain ⟨hSIM, ep_3, er_3⟩ := hs_3
  rw [← ep_3] at hSIM
  have hV := hV2
  obtain rfl := er_3
  refine lv_pop hx hb dL_law_815 rfl ?_
  refine lv_goto (tgt := 971) hx hb dL_law_816 (by decide) ?_
  refine W.widen (k := C + 2) (n := S + 12) (by omega) (by omega) ?_
  exact key _ _ _ ⟨Z_1, R, A_3, cd_3, pk_3, hT, hW, hM, hSIM, hV, ⟨_, hro⟩, hS⟩ (lv_sub hl [0, 1, 2, 3, 4] rfl)
set_option maxHeartbeats 8000000 in
set_option maxRecDepth 100000 in
theorem lk_13 {p : Program} {l : Launch} {e : Env} {s : State} {m : MethodId} {below : List Frame} {meth : Method} {c : Code} {b L i C S : Nat} {xs : Nat → Int32} {E : EE} {Gc Gm : Nat → Nat} {x0 m0 o0 : Nat} {rf : Nat → Nat} {t0 t1 t2 : Int32} {H : Heap} {locs : List Loc} {ls : Array Slot} (hst : l.stackTraces = false) (C0 : lw_At p s m meth c b L xs) (hLB : L ≤ 3587) (hK : KS E s.heap.size s) (hN : NC s) (F9 : LF s Gc Gm x0 m0 o0 rf t0) (hi : i + 7 ≤ L) (hC : C + 2 ≤ 621377) (hSl : S + 12 ≤ 7231939) (hI : LI E s Gc x0 m0 o0 rf t0 t1 t2 H locs) (hl : lv_has ls 7 [(4, .int (nI i)), (3, .ref o0), (2, .ref m0), (1, .ref x0), (0, .ref b)]) (key : ∀ (H : Heap) (locs : List Loc) (ls : Array Slot), LI E s Gc x0 m0 o0 rf t0 t1 t2 H locs → lv_has ls 7 [(4, .int (nI i)), (3, .ref o0), (2, .ref m0), (1, .ref x0), (0, .ref b)] → W p l e room_1 s m #[Value.ref b] below meth c H locs (C + 2) (S + 12) (lw_Z below #[Value.ref b] s) (F0 m 971 ls [])) : W p l e room_1 s m #[Value.ref b] below meth c H locs C S (lw_Z below #[Value.ref b] s) (F0 m 819 ls []) := by
  obtain ⟨hx, hb, hr, hml, hown, hts0, hX, hbl, hlocks, hgv⟩ := id C0
  obtain ⟨hxc, hR, hGzc, hGzm, hd, hGco, hGmo, hoz, h2t⟩ := F9
  have hd2 : ∀ a, Gc a ≠ 0 → Gm a = 0 := fun a h => Decidable.byContradiction fun q => h (hd a q)
  have hts : ∀ w ∈ TS, w.before #[Value.ref b] s = true := fun w hw => hts0 w (List.mem_filter.mp hw).1
  have hbA : ¬ (fun q : Nat => s.heap.size ≤ q) b := Nat.not_le.mpr hbl
  have hAz : ∀ q, (fun q : Nat => s.heap.size ≤ q) q → s.heap.size ≤ q := fun q h => h
  have hC0 : C + 0 ≤ room_1.cells := (show C + 0 ≤ 621377 by omega)
  have hS0 : S + 0 ≤ room_1.slots := (show S + 0 ≤ 7231939 by omega)
  have hC2 : C + 2 ≤ room_1.cells := (show C + 2 ≤ 621377 by omega)
  have hS2 : S + 12 ≤ room_1.slots := (show S + 12 ≤ 7231939 by omega)
  have hiI : (nI i).toInt = (i : Int) := nI_toInt (by omega)
  obtain ⟨B, R, A, cd, pk, hT, hW, hM, hSIM, hV, ⟨fo, hro⟩, hS⟩ := hI
  obtain ⟨hI2, hI3, hI4, hI5, hI6, hI7, hI8, hpk⟩ := hV.c3
  refine lv_aload_n hx hb dL_law_819 rfl (lv_at hl 3 rfl) ?_
  have ha_1 := tx_1 hT hxc
  refine va_calli (rnV (fun H => TX E Gc B R H) (As := []) (rest := []) ⟨hx, hb, hml, hown, hts⟩ (x_X9_packets l E s.heap.size Gc hGzc B R hW x0  hxc) (cwV 0 hts (gdV ml_L_112 im_X9_packets se_X9_X9_packets in_X9 co_X9_packets rfl) rfl rfl rfl (by decide +kernel) ⟨Nat.le_of_ble_eq_true rfl, Nat.le_of_ble_eq_true rfl⟩) hT (fun U hU hW => hK.go hW hS hAz hU) (va_recv hK.1 (va_one ha_1) (ci := 9) (q0 := 0) rfl rfl) rfl rfl hl.1 rfl (lv_room (Nat.le_of_ble_eq_true rfl)) dL_law_820 ⟨hC0, hS0⟩) hS (fun q _ h => h.elim) (fun q h => h.elim) (fun r_1 u_1 t H locs ht9 hvm hwr_1 hB hz hk hS => ?_)
  have hT := hT.kept (fun q hq => hk q hq (fun h => h))
  have hM := hM.kept (fun q hq => hk q hq (fun h => h))
  have hro := hro.kept (hk _ hro.lt (fun h => h))
  have hC : C_X9_packets Gc B R x0 r_1 := hwr_1
  refine lv_pop hx hb dL_law_823 rfl ?_
  refine lv_aload_n hx hb dL_law_824 rfl (lv_at hl 2 rfl) ?_
  refine va_calli (rnV (fun H => MH E m0 rf t0 t1 t2 A cd pk H) (As := []) (rest := []) ⟨hx, hb, hml, hown, hts⟩ (u_X10_packets l E s.heap.size Gm hGzm m0 rf hR t0 t1 t2 A cd pk ) (cwV 0 hts (gdV ml_L_115 im_X10_packets se_X10_X10_packets in_X10 co_X10_packets rfl) rfl rfl rfl (by decide +kernel) ⟨Nat.le_of_ble_eq_true rfl, Nat.le_of_ble_eq_true rfl⟩) hM (fun U hU hW => hK.go hW hS hAz hU) (va_recv hK.1 (va_one hM.1) (ci := 10) (q0 := 0) rfl rfl) rfl rfl hl.1 rfl (lv_room (Nat.le_of_ble_eq_true rfl)) dL_law_825 ⟨hC0, hS0⟩) hS (fun q _ h => hGzm q h) (fun q h => hGzm q h) (fun r_2 ur_2 t H locs ht hvm hwr_2 hB hz hk hS => ?_)
  have hM : MH E m0 rf t0 t1 t2 A ur_2 pk H := by rw [ht] at hB; exact hB
  have hDr_2 : D_X10_packets A cd pk A ur_2 pk r_2 := hwr_2
  have hT := hT.other hd2 hk
  have hro := hro.kept (hk _ hro.lt (fun h => h hGmo))
  have er_3 := (s_packets hSIM hC hDr_2).1
  obtain rfl := er_3
  refine lv_pop hx hb dL_law_828 rfl ?_
  refine lv_goto (tgt := 971) hx hb dL_law_829 (by decide) ?_
  refine W.widen (k := C + 2) (n := S + 12) (by omega) (by omega) ?_
  exact key _ _ _ ⟨B, R, A, ur_2, pk, hT, hW, hM, hSIM, hV, ⟨_, hro⟩, hS⟩ (lv_sub hl [0, 1, 2, 3, 4] rfl)
set_option maxHeartbeats 8000000 in
set_option maxRecDepth 100000 in
theorem lk_14 {p : Program} {l : Launch} {e : Env} {s : State} {m : MethodId} {below : List Frame} {meth : Method} {c : Code} {b L i C S : Nat} {xs : Nat → Int32} {E : EE} {Gc Gm : Nat → Nat} {x0 m0 o0 : Nat} {rf : Nat → Nat} {t0 t1 t2 : Int32} {H : Heap} {locs : List Loc} {ls : Array Slot} (hst : l.stackTraces = false) (C0 : lw_At p s m meth c b L xs) (hLB : L ≤ 3587) (hK : KS E s.heap.size s) (hN : NC s) (F9 : LF s Gc Gm x0 m0 o0 rf t0) (hi : i + 7 ≤ L) (hC : C + 2 ≤ 621377) (hSl : S + 12 ≤ 7231939) (hI : LI E s Gc x0 m0 o0 rf t0 t1 t2 H locs) (hl : lv_has ls 7 [(4, .int (nI i)), (3, .ref o0), (2, .ref m0), (1, .ref x0), (0, .ref b)]) (key : ∀ (H : Heap) (locs : List Loc) (ls : Array Slot), LI E s Gc x0 m0 o0 rf t0 t1 t2 H locs → lv_has ls 7 [(4, .int (nI i)), (3, .ref o0), (2, .ref m0), (1, .ref x0), (0, .ref b)] → W p l e room_1 s m #[Value.ref b] below meth c H locs (C + 2) (S + 12) (lw_Z below #[Value.ref b] s) (F0 m 971 ls [])) : W p l e room_1 s m #[Value.ref b] below meth c H locs C S (lw_Z below #[Value.ref b] s) (F0 m 832 ls []) := by
  obtain ⟨hx, hb, hr, hml, hown, hts0, hX, hbl, hlocks, hgv⟩ := id C0
  obtain ⟨hxc, hR, hGzc, hGzm, hd, hGco, hGmo, hoz, h2t⟩ := F9
  have hd2 : ∀ a, Gc a ≠ 0 → Gm a = 0 := fun a h => Decidable.byContradiction fun q => h (hd a q)
  have hts : ∀ w ∈ TS, w.before #[Value.ref b] s = true := fun w hw => hts0 w (List.mem_filter.mp hw).1
  have hbA : ¬ (fun q : Nat => s.heap.size ≤ q) b := Nat.not_le.mpr hbl
  have hAz : ∀ q, (fun q : Nat => s.heap.size ≤ q) q → s.heap.size ≤ q := fun q h => h
  have hC0 : C + 0 ≤ room_1.cells := (show C + 0 ≤ 621377 by omega)
  have hS0 : S + 0 ≤ room_1.slots := (show S + 0 ≤ 7231939 by omega)
  have hC2 : C + 2 ≤ room_1.cells := (show C + 2 ≤ 621377 by omega)
  have hS2 : S + 12 ≤ room_1.slots := (show S + 12 ≤ 7231939 by omega)
  have hiI : (nI i).toInt = (i : Int) := nI_toInt (by omega)
  obtain ⟨B, R, A, cd, pk, hT, hW, hM, hSIM, hV, ⟨fo, hro⟩, hS⟩ := hI
  obtain ⟨hI2, hI3, hI4, hI5, hI6, hI7, hI8, hpk⟩ := hV.c3
  refine lv_aload_n hx hb dL_law_832 rfl (lv_at hl 3 rfl) ?_
  refine lv_aload_n hx hb dL_law_833 rfl (lv_at hl 4 rfl) ?_
  refine lv_iload hx hb dL_law_834 (lv_at hl 0 rfl) ?_
  refine lv_iconst (v := 1) hx hb dL_law_836 (by decide) ?_
  refine lv_iadd hx hb dL_law_837 ?_
  refine lv_topi (fun x_1 ex_1 => ?_)
  have fx_1 : x_1.toInt = (i : Int) + 1 := by have h9 := s_add (x := nI i) (y := 1) (by rw [hiI, i_1]; omega) (by rw [hiI, i_1]; omega); rw [hiI, i_1] at h9; rw [ex_1]; exact h9
  have vi_2 : vp_in x_1 L := vp_in_iff.mpr (by omega)
  refine va_sld hx hb hX hbl hbA hS vi_2 dL_law_838 ?_
  refine lv_topi (fun x_3 ex_3 => ?_)
  refine lv_aload_n hx hb dL_law_839 rfl (lv_at hl 4 rfl) ?_
  refine lv_iload hx hb dL_law_840 (lv_at hl 0 rfl) ?_
  refine lv_iconst (v := 2) hx hb dL_law_842 (by decide) ?_
  refine lv_iadd hx hb dL_law_843 ?_
  refine lv_topi (fun x_4 ex_4 => ?_)
  have fx_4 : x_4.toInt = (i : Int) + 2 := by have h9 := s_add (x := nI i) (y := 2) (by rw [hiI, i_2]; omega) (by rw [hiI, i_2]; omega); rw [hiI, i_2] at h9; rw [ex_4]; exact h9
  have vi_5 : vp_in x_4 L := vp_in_iff.mpr (by omega)
  refine va_sld hx hb hX hbl hbA hS vi_5 dL_law_844 ?_
  refine lv_topi (fun x_6 ex_6 => ?_)
  have ha_7 := tx_1 hT hxc
  refine va_calli (rnV (fun H => TX E Gc B R H) (As := [.int x_3, .int x_6]) (rest := []) ⟨hx, hb, hml, hown, hts⟩ (x_X9_packet l E s.heap.size Gc hGzc B R hW x0 x_3 x_6 hxc) (cwV 2 hts (gdV ml_L_116 im_X9_packet se_X9_X9_packet in_X9 co_X9_packet rfl) rfl rfl rfl (by decide +kernel) ⟨Nat.le_of_ble_eq_true rfl, Nat.le_of_ble_eq_true rfl⟩) hT (fun U hU hW => hK.go hW hS hAz hU) (va_recv hK.1 (va_one ha_7) (ci := 9) (q0 := 0) rfl rfl) rfl rfl hl.1 rfl (lv_room (Nat.le_of_ble_eq_true rfl)) dL_law_845 ⟨hC0, hS0⟩) hS (fun q _ h => h.elim) (fun q h => h.elim) (fun r_7 u_7 t H locs ht9 hvm hwr_7 hB hz hk hS => ?_)
  have hT := hT.kept (fun q hq => hk q hq (fun h => h))
  have hM := hM.kept (fun q hq => hk q hq (fun h => h))
  have hro := hro.kept (hk _ hro.lt (fun h => h))
  have hC : C_X9_packet Gc B R x0 x_3 x_6 r_7 := hwr_7
  refine lv_pop hx hb dL_law_848 rfl ?_
  refine lv_aload_n hx hb dL_law_849 rfl (lv_at hl 2 rfl) ?_
  refine lv_aload_n hx hb dL_law_850 rfl (lv_at hl 4 rfl) ?_
  refine lv_iload hx hb dL_law_851 (lv_at hl 0 rfl) ?_
  refine lv_iconst (v := 1) hx hb dL_law_853 (by decide) ?_
  refine lv_iadd hx hb dL_law_854 ?_
  refine W.eq (g2 := F0 m 855 ls [.int x_1, .ref b, .ref m0]) (by rw [ex_1]) ?_
  refine va_sld hx hb hX hbl hbA hS vi_2 dL_law_855 ?_
  refine W.eq (g2 := F0 m 856 ls [.int x_3, .ref m0]) (by rw [ex_3]) ?_
  refine lv_aload_n hx hb dL_law_856 rfl (lv_at hl 4 rfl) ?_
  refine lv_iload hx hb dL_law_857 (lv_at hl 0 rfl) ?_
  refine lv_iconst (v := 2) hx hb dL_law_859 (by decide) ?_
  refine lv_iadd hx hb dL_law_860 ?_
  refine W.eq (g2 := F0 m 861 ls [.int x_4, .ref b, .int x_3, .ref m0]) (by rw [ex_4]) ?_
  refine va_sld hx hb hX hbl hbA hS vi_5 dL_law_861 ?_
  refine W.eq (g2 := F0 m 862 ls [.int x_6, .int x_3, .ref m0]) (by rw [ex_6]) ?_
  refine va_calli (rnV (fun H => MH E m0 rf t0 t1 t2 A cd pk H) (As := [.int x_3, .int x_6]) (rest := []) ⟨hx, hb, hml, hown, hts⟩ (u_X10_packet l E s.heap.size Gm hGzm m0 rf hR t0 t1 t2 A cd pk x_3 x_6 (show 0 ≤ pk.toInt ∧ pk.toInt ≤ 24 from by first | decide | omega)) (cwV 2 hts (gdV ml_L_119 im_X10_packet se_X10_X10_packet in_X10 co_X10_packet rfl) rfl rfl rfl (by decide +kernel) ⟨Nat.le_of_ble_eq_true rfl, Nat.le_of_ble_eq_true rfl⟩) hM (fun U hU hW => hK.go hW hS hAz hU) (va_recv hK.1 (va_one hM.1) (ci := 10) (q0 := 0) rfl rfl) rfl rfl hl.1 rfl (lv_room (Nat.le_of_ble_eq_true rfl)) dL_law_862 ⟨hC0, hS0⟩) hS (fun q _ h => hGzm q h) (fun q h => hGzm q h) (fun r_8 ur_8 t H locs ht hvm hwr_8 hB hz hk hS => ?_)
  have hM : MH E m0 rf t0 t1 t2 A ur_8 pk H := by rw [ht] at hB; exact hB
  have hDr_8 : D_X10_packet A cd pk x_3 x_6 A ur_8 pk r_8 := hwr_8
  have hT := hT.other hd2 hk
  have hro := hro.kept (hk _ hro.lt (fun h => h hGmo))
  have er_9 := (s_packet hSIM hV hC hDr_8).1
  obtain rfl := er_9
  refine lv_pop hx hb dL_law_865 rfl ?_
  refine lv_goto (tgt := 971) hx hb dL_law_866 (by decide) ?_
  refine W.widen (k := C + 2) (n := S + 12) (by omega) (by omega) ?_
  exact key _ _ _ ⟨B, R, A, ur_8, pk, hT, hW, hM, hSIM, hV, ⟨_, hro⟩, hS⟩ (lv_sub hl [0, 1, 2, 3, 4] rfl)
set_option maxHeartbeats 8000000 in
set_option maxRecDepth 100000 in
theorem lk_15 {p : Program} {l : Launch} {e : Env} {s : State} {m : MethodId} {below : List Frame} {meth : Method} {c : Code} {b L i C S : Nat} {xs : Nat → Int32} {E : EE} {Gc Gm : Nat → Nat} {x0 m0 o0 : Nat} {rf : Nat → Nat} {t0 t1 t2 : Int32} {H : Heap} {locs : List Loc} {ls : Array Slot} (hst : l.stackTraces = false) (C0 : lw_At p s m meth c b L xs) (hLB : L ≤ 3587) (hK : KS E s.heap.size s) (hN : NC s) (F9 : LF s Gc Gm x0 m0 o0 rf t0) (hi : i + 7 ≤ L) (hC : C + 2 ≤ 621377) (hSl : S + 12 ≤ 7231939) (hI : LI E s Gc x0 m0 o0 rf t0 t1 t2 H locs) (hl : lv_has ls 7 [(4, .int (nI i)), (3, .ref o0), (2, .ref m0), (1, .ref x0), (0, .ref b)]) (key : ∀ (H : Heap) (locs : List Loc) (ls : Array Slot), LI E s Gc x0 m0 o0 rf t0 t1 t2 H locs → lv_has ls 7 [(4, .int (nI i)), (3, .ref o0), (2, .ref m0), (1, .ref x0), (0, .ref b)] → W p l e room_1 s m #[Value.ref b] below meth c H locs (C + 2) (S + 12) (lw_Z below #[Value.ref b] s) (F0 m 971 ls [])) : W p l e room_1 s m #[Value.ref b] below meth c H locs C S (lw_Z below #[Value.ref b] s) (F0 m 869 ls []) := by
  obtain ⟨hx, hb, hr, hml, hown, hts0, hX, hbl, hlocks, hgv⟩ := id C0
  obtain ⟨hxc, hR, hGzc, hGzm, hd, hGco, hGmo, hoz, h2t⟩ := F9
  have hd2 : ∀ a, Gc a ≠ 0 → Gm a = 0 := fun a h => Decidable.byContradiction fun q => h (hd a q)
  have hts : ∀ w ∈ TS, w.before #[Value.ref b] s = true := fun w hw => hts0 w (List.mem_filter.mp hw).1
  have hbA : ¬ (fun q : Nat => s.heap.size ≤ q) b := Nat.not_le.mpr hbl
  have hAz : ∀ q, (fun q : Nat => s.heap.size ≤ q) q → s.heap.size ≤ q := fun q h => h
  have hC0 : C + 0 ≤ room_1.cells := (show C + 0 ≤ 621377 by omega)
  have hS0 : S + 0 ≤ room_1.slots := (show S + 0 ≤ 7231939 by omega)
  have hC2 : C + 2 ≤ room_1.cells := (show C + 2 ≤ 621377 by omega)
  have hS2 : S + 12 ≤ room_1.slots := (show S + 12 ≤ 7231939 by omega)
  have hiI : (nI i).toInt = (i : Int) := nI_toInt (by omega)
  obtain ⟨B, R, A, cd, pk, hT, hW, hM, hSIM, hV, ⟨fo, hro⟩, hS⟩ := hI
  obtain ⟨hI2, hI3, hI4, hI5, hI6, hI7, hI8, hpk⟩ := hV.c3
  refine lv_aload_n hx hb dL_law_869 rfl (lv_at hl 3 rfl) ?_
  refine lv_aload_n hx hb dL_law_870 rfl (lv_at hl 4 rfl) ?_
  refine lv_iload hx hb dL_law_871 (lv_at hl 0 rfl) ?_
  refine lv_iconst (v := 1) hx hb dL_law_873 (by decide) ?_
  refine lv_iadd hx hb dL_law_874 ?_
  refine lv_topi (fun x_1 ex_1 => ?_)
  have fx_1 : x_1.toInt = (i : Int) + 1 := by have h9 := s_add (x := nI i) (y := 1) (by rw [hiI, i_1]; omega) (by rw [hiI, i_1]; omega); rw [hiI, i_1] at h9; rw [ex_1]; exact h9
  have vi_2 : vp_in x_1 L := vp_in_iff.mpr (by omega)
  refine va_sld hx hb hX hbl hbA hS vi_2 dL_law_875 ?_
  refine lv_topi (fun x_3 ex_3 => ?_)
  refine lv_aload_n hx hb dL_law_876 rfl (lv_at hl 4 rfl) ?_
  refine lv_iload hx hb dL_law_877 (lv_at hl 0 rfl) ?_
  refine lv_iconst (v := 2) hx hb dL_law_879 (by decide) ?_
  refine lv_iadd hx hb dL_law_880 ?_
  refine lv_topi (fun x_4 ex_4 => ?_)
  have fx_4 : x_4.toInt = (i : Int) + 2 := by have h9 := s_add (x := nI i) (y := 2) (by rw [hiI, i_2]; omega) (by rw [hiI, i_2]; omega); rw [hiI, i_2] at h9; rw [ex_4]; exact h9
  have vi_5 : vp_in x_4 L := vp_in_iff.mpr (by omega)
  refine va_sld hx hb hX hbl hbA hS vi_5 dL_law_881 ?_
  refine lv_topi (fun x_6 ex_6 => ?_)
  have ha_7 := tx_1 hT hxc
  refine va_calli (rnV (fun H => TX E Gc B R H) (As := [.int x_3, .int x_6]) (rest := []) ⟨hx, hb, hml, hown, hts⟩ (x_X9_pair l E s.heap.size Gc hGzc B R hW x0 x_3 x_6 hxc) (cwV 2 hts (gdV ml_L_120 im_X9_pair se_X9_X9_pair in_X9 co_X9_pair rfl) rfl rfl rfl (by decide +kernel) ⟨Nat.le_of_ble_eq_true rfl, Nat.le_of_ble_eq_true rfl⟩) hT (fun U hU hW => hK.go hW hS hAz hU) (va_recv hK.1 (va_one ha_7) (ci := 9) (q0 := 0) rfl rfl) rfl rfl hl.1 rfl (lv_room (Nat.le_of_ble_eq_true rfl)) dL_law_882 ⟨hC0, hS0⟩) hS (fun q _ h => h.elim) (fun q h => h.elim) (fun r_7 u_7 t H locs ht9 hvm hwr_7 hB hz hk hS => ?_)
  have hT := hT.kept (fun q hq => hk q hq (fun h => h))
  have hM := hM.kept (fun q hq => hk q hq (fun h => h))
  have hro := hro.kept (hk _ hro.lt (fun h => h))
  have hC : C_X9_pair Gc B R x0 x_3 x_6 r_7 := hwr_7
  refine lv_pop hx hb dL_law_885 rfl ?_
  refine lv_aload_n hx hb dL_law_886 rfl (lv_at hl 2 rfl) ?_
  refine lv_aload_n hx hb dL_law_887 rfl (lv_at hl 4 rfl) ?_
  refine lv_iload hx hb dL_law_888 (lv_at hl 0 rfl) ?_
  refine lv_iconst (v := 1) hx hb dL_law_890 (by decide) ?_
  refine lv_iadd hx hb dL_law_891 ?_
  refine W.eq (g2 := F0 m 892 ls [.int x_1, .ref b, .ref m0]) (by rw [ex_1]) ?_
  refine va_sld hx hb hX hbl hbA hS vi_2 dL_law_892 ?_
  refine W.eq (g2 := F0 m 893 ls [.int x_3, .ref m0]) (by rw [ex_3]) ?_
  refine lv_aload_n hx hb dL_law_893 rfl (lv_at hl 4 rfl) ?_
  refine lv_iload hx hb dL_law_894 (lv_at hl 0 rfl) ?_
  refine lv_iconst (v := 2) hx hb dL_law_896 (by decide) ?_
  refine lv_iadd hx hb dL_law_897 ?_
  refine W.eq (g2 := F0 m 898 ls [.int x_4, .ref b, .int x_3, .ref m0]) (by rw [ex_4]) ?_
  refine va_sld hx hb hX hbl hbA hS vi_5 dL_law_898 ?_
  refine W.eq (g2 := F0 m 899 ls [.int x_6, .int x_3, .ref m0]) (by rw [ex_6]) ?_
  refine va_calli (rnV (fun H => MH E m0 rf t0 t1 t2 A cd pk H) (As := [.int x_3, .int x_6]) (rest := []) ⟨hx, hb, hml, hown, hts⟩ (u_X10_pair l E s.heap.size Gm hGzm m0 rf hR t0 t1 t2 A cd pk x_3 x_6) (cwV 2 hts (gdV ml_L_123 im_X10_pair se_X10_X10_pair in_X10 co_X10_pair rfl) rfl rfl rfl (by decide +kernel) ⟨Nat.le_of_ble_eq_true rfl, Nat.le_of_ble_eq_true rfl⟩) hM (fun U hU hW => hK.go hW hS hAz hU) (va_recv hK.1 (va_one hM.1) (ci := 10) (q0 := 0) rfl rfl) rfl rfl hl.1 rfl (lv_room (Nat.le_of_ble_eq_true rfl)) dL_law_899 ⟨hC0, hS0⟩) hS (fun q _ h => hGzm q h) (fun q h => hGzm q h) (fun r_8 ur_8 t H locs ht hvm hwr_8 hB hz hk hS => ?_)
  have hM : MH E m0 rf t0 t1 t2 A ur_8 pk H := by rw [ht] at hB; exact hB
  have hDr_8 : D_X10_pair A cd pk x_3 x_6 A ur_8 pk r_8 := hwr_8
  have hT := hT.other hd2 hk
  have hro := hro.kept (hk _ hro.lt (fun h => h hGmo))
  refine lv_pop hx hb dL_law_902 rfl ?_
  refine lv_goto (tgt := 971) hx hb dL_law_903 (by decide) ?_
  refine W.widen (k := C + 2) (n := S + 12) (by omega) (by omega) ?_
  exact key _ _ _ ⟨B, R, A, ur_8, pk, hT, hW, hM, hSIM, hV, ⟨_, hro⟩, hS⟩ (lv_sub hl [0, 1, 2, 3, 4] rfl)
set_option maxHeartbeats 8000000 in
set_option maxRecDepth 100000 in
theorem lk_16 {p : Program} {l : Launch} {e : Env} {s : State} {m : MethodId} {below : List Frame} {meth : Method} {c : Code} {b L i C S : Nat} {xs : Nat → Int32} {E : EE} {Gc Gm : Nat → Nat} {x0 m0 o0 : Nat} {rf : Nat → Nat} {t0 t1 t2 : Int32} {H : Heap} {locs : List Loc} {ls : Array Slot} (hst : l.stackTraces = false) (C0 : lw_At p s m meth c b L xs) (hLB : L ≤ 3587) (hK : KS E s.heap.size s) (hN : NC s) (F9 : LF s Gc Gm x0 m0 o0 rf t0) (hi : i + 7 ≤ L) (hC : C + 2 ≤ 621377) (hSl : S + 12 ≤ 7231939) (hI : LI E s Gc x0 m0 o0 rf t0 t1 t2 H locs) (hl : lv_has ls 7 [(4, .int (nI i)), (3, .ref o0), (2, .ref m0), (1, .ref x0), (0, .ref b)]) (key : ∀ (H : Heap) (locs : List Loc) (ls : Array Slot), LI E s Gc x0 m0 o0 rf t0 t1 t2 H locs → lv_has ls 7 [(4, .int (nI i)), (3, .ref o0), (2, .ref m0), (1, .ref x0), (0, .ref b)] → W p l e room_1 s m #[Value.ref b] below meth c H locs (C + 2) (S + 12) (lw_Z below #[Value.ref b] s) (F0 m 971 ls [])) : W p l e room_1 s m #[Value.ref b] below meth c H locs C S (lw_Z below #[Value.ref b] s) (F0 m 906 ls []) := by
  obtain ⟨hx, hb, hr, hml, hown, hts0, hX, hbl, hlocks, hgv⟩ := id C0
  obtain ⟨hxc, hR, hGzc, hGzm, hd, hGco, hGmo, hoz, h2t⟩ := F9
  have hd2 : ∀ a, Gc a ≠ 0 → Gm a = 0 := fun a h => Decidable.byContradiction fun q => h (hd a q)
  have hts : ∀ w ∈ TS, w.before #[Value.ref b] s = true := fun w hw => hts0 w (List.mem_filter.mp hw).1
  have hbA : ¬ (fun q : Nat => s.heap.size ≤ q) b := Nat.not_le.mpr hbl
  have hAz : ∀ q, (fun q : Nat => s.heap.size ≤ q) q → s.heap.size ≤ q := fun q h => h
  have hC0 : C + 0 ≤ room_1.cells := (show C + 0 ≤ 621377 by omega)
  have hS0 : S + 0 ≤ room_1.slots := (show S + 0 ≤ 7231939 by omega)
  have hC2 : C + 2 ≤ room_1.cells := (show C + 2 ≤ 621377 by omega)
  have hS2 : S + 12 ≤ room_1.slots := (show S + 12 ≤ 7231939 by omega)
  have hiI : (nI i).toInt = (i : Int) := nI_toInt (by omega)
  obtain ⟨B, R, A, cd, pk, hT, hW, hM, hSIM, hV, ⟨fo, hro⟩, hS⟩ := hI
  obtain ⟨hI2, hI3, hI4, hI5, hI6, hI7, hI8, hpk⟩ := hV.c3
  refine lv_aload_n hx hb dL_law_906 rfl (lv_at hl 3 rfl) ?_
  refine lv_aload_n hx hb dL_law_907 rfl (lv_at hl 4 rfl) ?_
  refine lv_iload hx hb dL_law_908 (lv_at hl 0 rfl) ?_
  refine lv_iconst (v := 1) hx hb dL_law_910 (by decide) ?_
  refine lv_iadd hx hb dL_law_911 ?_
  refine lv_topi (fun x_1 ex_1 => ?_)
  have fx_1 : x_1.toInt = (i : Int) + 1 := by have h9 := s_add (x := nI i) (y := 1) (by rw [hiI, i_1]; omega) (by rw [hiI, i_1]; omega); rw [hiI, i_1] at h9; rw [ex_1]; exact h9
  have vi_2 : vp_in x_1 L := vp_in_iff.mpr (by omega)
  refine va_sld hx hb hX hbl hbA hS vi_2 dL_law_912 ?_
  refine lv_topi (fun x_3 ex_3 => ?_)
  have ha_4 := tx_1 hT hxc
  refine va_calli (rnV (fun H => TX E Gc B R H) (As := [.int x_3]) (rest := []) ⟨hx, hb, hml, hown, hts⟩ (x_X9_completions l E s.heap.size Gc hGzc B R hW x0 x_3 hxc) (cwV 1 hts (gdV ml_L_124 im_X9_completions se_X9_X9_completions in_X9 co_X9_completions rfl) rfl rfl rfl (by decide +kernel) ⟨Nat.le_of_ble_eq_true rfl, Nat.le_of_ble_eq_true rfl⟩) hT (fun U hU hW => hK.go hW hS hAz hU) (va_recv hK.1 (va_one ha_4) (ci := 9) (q0 := 0) rfl rfl) rfl rfl hl.1 rfl (lv_room (Nat.le_of_ble_eq_true rfl)) dL_law_913 ⟨hC0, hS0⟩) hS (fun q _ h => h.elim) (fun q h => h.elim) (fun r_4 u_4 t H locs ht9 hvm hwr_4 hB hz hk hS => ?_)
  have hT := hT.kept (fun q hq => hk q hq (fun h => h))
  have hM := hM.kept (fun q hq => hk q hq (fun h => h))
  have hro := hro.kept (hk _ hro.lt (fun h => h))
  have hC : C_X9_completions Gc B R x0 x_3 r_4 := hwr_4
  refine lv_pop hx hb dL_law_916 rfl ?_
  refine lv_aload_n hx hb dL_law_917 rfl (lv_at hl 2 rfl) ?_
  refine lv_aload_n hx hb dL_law_918 rfl (lv_at hl 4 rfl) ?_
  refine lv_iload hx hb dL_law_919 (lv_at hl 0 rfl) ?_
  refine lv_iconst (v := 1) hx hb dL_law_921 (by decide) ?_
  refine lv_iadd hx hb dL_law_922 ?_
  refine W.eq (g2 := F0 m 923 ls [.int x_1, .ref b, .ref m0]) (by rw [ex_1]) ?_
  refine va_sld hx hb hX hbl hbA hS vi_2 dL_law_923 ?_
  refine W.eq (g2 := F0 m 924 ls [.int x_3, .ref m0]) (by rw [ex_3]) ?_
  refine va_calli (rnV (fun H => MH E m0 rf t0 t1 t2 A cd pk H) (As := [.int x_3]) (rest := []) ⟨hx, hb, hml, hown, hts⟩ (u_X10_completions l E s.heap.size Gm hGzm m0 rf hR t0 t1 t2 A cd pk x_3) (cwV 1 hts (gdV ml_L_127 im_X10_completions se_X10_X10_completions in_X10 co_X10_completions rfl) rfl rfl rfl (by decide +kernel) ⟨Nat.le_of_ble_eq_true rfl, Nat.le_of_ble_eq_true rfl⟩) hM (fun U hU hW => hK.go hW hS hAz hU) (va_recv hK.1 (va_one hM.1) (ci := 10) (q0 := 0) rfl rfl) rfl rfl hl.1 rfl (lv_room (Nat.le_of_ble_eq_true rfl)) dL_law_924 ⟨hC0, hS0⟩) hS (fun q _ h => hGzm q h) (fun q h => hGzm q h) (fun r_5 ur_5 t H locs ht hvm hwr_5 hB hz hk hS => ?_)
  have hM : MH E m0 rf t0 t1 t2 A ur_5 pk H := by rw [ht] at hB; exact hB
  have hDr_5 : D_X10_completions A cd pk x_3 A ur_5 pk r_5 := hwr_5
  have hT := hT.other hd2 hk
  have hro := hro.kept (hk _ hro.lt (fun h => h hGmo))
  have er_6 := (s_completions hSIM hC hDr_5).1
  obtain rfl := er_6
  refine lv_pop hx hb dL_law_927 rfl ?_
  refine lv_goto (tgt := 971) hx hb dL_law_928 (by decide) ?_
  refine W.widen (k := C + 2) (n := S + 12) (by omega) (by omega) ?_
  exact key _ _ _ ⟨B, R, A, ur_5, pk, hT, hW, hM, hSIM, hV, ⟨_, hro⟩, hS⟩ (lv_sub hl [0, 1, 2, 3, 4] rfl)
set_option maxHeartbeats 8000000 in
set_option maxRecDepth 100000 in
theorem lk_17 {p : Program} {l : Launch} {e : Env} {s : State} {m : MethodId} {below : List Frame} {meth : Method} {c : Code} {b L i C S : Nat} {xs : Nat → Int32} {E : EE} {Gc Gm : Nat → Nat} {x0 m0 o0 : Nat} {rf : Nat → Nat} {t0 t1 t2 : Int32} {H : Heap} {locs : List Loc} {ls : Array Slot} (hst : l.stackTraces = false) (C0 : lw_At p s m meth c b L xs) (hLB : L ≤ 3587) (hK : KS E s.heap.size s) (hN : NC s) (F9 : LF s Gc Gm x0 m0 o0 rf t0) (hi : i + 7 ≤ L) (hC : C + 2 ≤ 621377) (hSl : S + 12 ≤ 7231939) (hI : LI E s Gc x0 m0 o0 rf t0 t1 t2 H locs) (hl : lv_has ls 7 [(4, .int (nI i)), (3, .ref o0), (2, .ref m0), (1, .ref x0), (0, .ref b)]) (key : ∀ (H : Heap) (locs : List Loc) (ls : Array Slot), LI E s Gc x0 m0 o0 rf t0 t1 t2 H locs → lv_has ls 7 [(4, .int (nI i)), (3, .ref o0), (2, .ref m0), (1, .ref x0), (0, .ref b)] → W p l e room_1 s m #[Value.ref b] below meth c H locs (C + 2) (S + 12) (lw_Z below #[Value.ref b] s) (F0 m 971 ls [])) : W p l e room_1 s m #[Value.ref b] below meth c H locs C S (lw_Z below #[Value.ref b] s) (F0 m 931 ls []) := by
  obtain ⟨hx, hb, hr, hml, hown, hts0, hX, hbl, hlocks, hgv⟩ := id C0
  obtain ⟨hxc, hR, hGzc, hGzm, hd, hGco, hGmo, hoz, h2t⟩ := F9
  have hd2 : ∀ a, Gc a ≠ 0 → Gm a = 0 := fun a h => Decidable.byContradiction fun q => h (hd a q)
  have hts : ∀ w ∈ TS, w.before #[Value.ref b] s = true := fun w hw => hts0 w (List.mem_filter.mp hw).1
  have hbA : ¬ (fun q : Nat => s.heap.size ≤ q) b := Nat.not_le.mpr hbl
  have hAz : ∀ q, (fun q : Nat => s.heap.size ≤ q) q → s.heap.size ≤ q := fun q h => h
  have hC0 : C + 0 ≤ room_1.cells := (show C + 0 ≤ 621377 by omega)
  have hS0 : S + 0 ≤ room_1.slots := (show S + 0 ≤ 7231939 by omega)
  have hC2 : C + 2 ≤ room_1.cells := (show C + 2 ≤ 621377 by omega)
  have hS2 : S + 12 ≤ room_1.slots := (show S + 12 ≤ 7231939 by omega)
  have hiI : (nI i).toInt = (i : Int) := nI_toInt (by omega)
  obtain ⟨B, R, A, cd, pk, hT, hW, hM, hSIM, hV, ⟨fo, hro⟩, hS⟩ := hI
  obtain ⟨hI2, hI3, hI4, hI5, hI6, hI7, hI8, hpk⟩ := hV.c3
  refine lv_aload_n hx hb dL_law_931 rfl (lv_at hl 3 rfl) ?_
  refine lv_aload_n hx hb dL_law_932 rfl (lv_at hl 4 rfl) ?_
  refine lv_iload hx hb dL_law_933 (lv_at hl 0 rfl) ?_
  refine lv_iconst (v := 1) hx hb dL_law_935 (by decide) ?_
  refine lv_iadd hx hb dL_law_936 ?_
  refine lv_topi (fun x_1 ex_1 => ?_)
  have fx_1 : x_1.toInt = (i : Int) + 1 := by have h9 := s_add (x := nI i) (y := 1) (by rw [hiI, i_1]; omega) (by rw [hiI, i_1]; omega); rw [hiI, i_1] at h9; rw [ex_1]; exact h9
  have vi_2 : vp_in x_1 L := vp_in_iff.mpr (by omega)
  refine va_sld hx hb hX hbl hbA hS vi_2 dL_law_937 ?_
  refine lv_topi (fun x_3 ex_3 => ?_)
  refine lv_aload_n hx hb dL_law_938 rfl (lv_at hl 4 rfl) ?_
  refine lv_iload hx hb dL_law_939 (lv_at hl 0 rfl) ?_
  refine lv_iconst (v := 2) hx hb dL_law_941 (by decide) ?_
  refine lv_iadd hx hb dL_law_942 ?_
  refine lv_topi (fun x_4 ex_4 => ?_)
  have fx_4 : x_4.toInt = (i : Int) + 2 := by have h9 := s_add (x := nI i) (y := 2) (by rw [hiI, i_2]; omega) (by rw [hiI, i_2]; omega); rw [hiI, i_2] at h9; rw [ex_4]; exact h9
  have vi_5 : vp_in x_4 L := vp_in_iff.mpr (by omega)
  refine va_sld hx hb hX hbl hbA hS vi_5 dL_law_943 ?_
  refine lv_topi (fun x_6 ex_6 => ?_)
  refine lv_aload_n hx hb dL_law_944 rfl (lv_at hl 1 rfl) ?_
  refine va_calli (vx_runSW (hh := [(0, 10, 13, 13), (0, 10, 17, 43)]) (As := [.ref x0, .int x_3, .int x_6, .ref o0]) (rest := []) ⟨hx, hb, hml, hown, hts⟩ (w_L_poll l hst E s.heap.size Gc hGzc B R hW x0 x_3 x_6 o0 hxc hGco hoz) (vx_cwSW 4 hts (gdW ml_L_128 st_L_poll in_L co_L_poll rfl) rfl rfl rfl (by decide +kernel) ⟨Nat.le_of_ble_eq_true rfl, Nat.le_of_ble_eq_true rfl⟩) ⟨fun a U g mk q => ⟨q.1, q.2.1, KS.calling q.2.2.1, NC.vm q.2.2.2 rfl⟩, fun U hU hW => ⟨rfl, by rw [hU]; exact ⟨hT, _, hro⟩, hK.go hW hS hAz hU, hN.go hW⟩⟩ rfl rfl hl.1 rfl (lv_room (Nat.le_of_ble_eq_true rfl)) dL_law_945 ⟨hC2, hS2⟩) hS (fun q _ h => h.elim (fun h => hGzc q (zn (L := [5]) (by decide) h)) (fun e => by rw [e]; exact hoz)) (fun q h => h.elim (fun h => hGzc q (zn (L := [5]) (by decide) h)) (fun e => by rw [e]; exact hoz)) (fun r_7 u_7 t H locs ht9 hvm hwr_7 hB hz hk hS => ?_)
  rw [ht9] at hB
  obtain ⟨Z_7, y_7, f_7⟩ := u_7
  obtain ⟨hT, fo_7, hfo_7, hro2⟩ := hB
  have hro := hro2
  have hM := hM.away hR (fun q hq hg => hk q hq (fun h => h.elim (fun h => zn (L := [5]) (by decide) h (hd q hg)) (fun h => hg (by rw [h]; exact hGmo))))
  have hT : TX E Gc Z_7 R H := hT
  rcases hwr_7 with ⟨rfl, hW2, hF2, hC, ef_7⟩ | ⟨rfl, eB, hC⟩ | ⟨rfl, eB, hC⟩
  · have hW : TW Gc Z_7 R := hW2
    have hC : C_X9_poll Gc B R x0 x_3 x_6 Z_7 y_7 := hC
    have hfo : fo_7 0 = y_7.toInt64 := hfo_7.trans ef_7
    refine lv_istore (lv' := [(5, .int 0), (4, .int (nI i)), (3, .ref o0), (2, .ref m0), (1, .ref x0), (0, .ref b)]) hx hb dL_law_948 hl (by decide) rfl (fun ls hl => ?_)
    refine lv_aload_n hx hb dL_law_950 rfl (lv_at hl 3 rfl) ?_
    refine lv_aload_n hx hb dL_law_951 rfl (lv_at hl 5 rfl) ?_
    refine lv_iload hx hb dL_law_952 (lv_at hl 1 rfl) ?_
    refine lv_iconst (v := 1) hx hb dL_law_954 (by decide) ?_
    refine lv_iadd hx hb dL_law_955 ?_
    refine W.eq (g2 := F0 m 956 ls [.int x_1, .ref b, .ref m0]) (by rw [ex_1]) ?_
    refine va_sld hx hb hX hbl hbA hS vi_2 dL_law_956 ?_
    refine W.eq (g2 := F0 m 957 ls [.int x_3, .ref m0]) (by rw [ex_3]) ?_
    refine lv_aload_n hx hb dL_law_957 rfl (lv_at hl 5 rfl) ?_
    refine lv_iload hx hb dL_law_958 (lv_at hl 1 rfl) ?_
    refine lv_iconst (v := 2) hx hb dL_law_960 (by decide) ?_
    refine lv_iadd hx hb dL_law_961 ?_
    refine W.eq (g2 := F0 m 962 ls [.int x_4, .ref b, .int x_3, .ref m0]) (by rw [ex_4]) ?_
    refine va_sld hx hb hX hbl hbA hS vi_5 dL_law_962 ?_
    refine W.eq (g2 := F0 m 963 ls [.int x_6, .int x_3, .ref m0]) (by rw [ex_6]) ?_
    refine va_calli (rnV (fun H => MH E m0 rf t0 t1 t2 A cd pk H) (As := [.int x_3, .int x_6]) (rest := []) ⟨hx, hb, hml, hown, hts⟩ (u_X10_poll l E s.heap.size Gm hGzm m0 rf hR t0 t1 t2 A cd pk x_3 x_6 hI3) (cwV 2 hts (gdV ml_L_131 im_X10_poll se_X10_X10_poll in_X10 co_X10_poll rfl) rfl rfl rfl (by decide +kernel) ⟨Nat.le_of_ble_eq_true rfl, Nat.le_of_ble_eq_true rfl⟩) hM (fun U hU hW => hK.go hW hS hAz hU) (va_recv hK.1 (va_one hM.1) (ci := 10) (q0 := 0) rfl rfl) rfl rfl hl.1 rfl (lv_room (Nat.le_of_ble_eq_true rfl)) dL_law_963 ⟨hC2, hS2⟩) hS (fun q _ h => hGzm q h) (fun q h => hGzm q h) (fun r_8 ur_8 t H locs ht hvm hwr_8 hB hz hk hS => ?_)
    have hM : MH E m0 rf t0 t1 t2 (uA (uA A 8 (ur_8.1)) 9 (ur_8.2.1)) ur_8.2.2 pk H := by rw [ht] at hB; exact hB
    have hDr_8 : D_X10_poll A cd pk x_3 x_6 (uA (uA A 8 (ur_8.1)) 9 (ur_8.2.1)) (ur_8.2.2) pk r_8 := hwr_8.2
    have hpr_8_0 : I3 (ur_8.1) := hwr_8.1
    have hT := hT.other hd2 hk
    have hro := hro.kept (hk _ hro.lt (fun h => h hGmo))
    obtain ⟨A_9, cd_9, pk_9, hM, hD, hV2⟩ : ∃ (A2 : AA) (cd2 pk2 : Int32), MH E m0 rf t0 t1 t2 A2 cd2 pk2 H ∧ D_X10_poll A cd pk x_3 x_6 A2 cd2 pk2 r_8 ∧ RIV A2 pk2 := ⟨_, _, _, hM, hDr_8, ⟨⟨hI2, hpr_8_0, hI4, hI5, hI6, hI7, hI8⟩, hpk⟩⟩
    have hs_9 := s_pollC hSIM hV hC hD
    obtain ⟨hSIM, ep_9, hcd, er_9⟩ := hs_9
    rw [← ep_9] at hSIM
    have hV := hV2
    obtain rfl := er_9
    refine lv_istore (lv' := [(6, .int y_7), (5, .int 0), (4, .int (nI i)), (3, .ref o0), (2, .ref m0), (1, .ref x0), (0, .ref b)]) hx hb dL_law_966 hl (by decide) rfl (fun ls hl => ?_)
    refine lv_goto (tgt := 971) hx hb dL_law_968 (by decide) ?_
    refine W.widen (k := C + 2) (n := S + 12) (by omega) (by omega) ?_
    exact key _ _ _ ⟨Z_7, R, A_9, cd_9, pk_9, hT, hW, hM, hSIM, hV, ⟨_, hro⟩, hS⟩ (lv_sub hl [2, 3, 4, 5, 6] rfl)
  · have eB : Z_7 = B := eB
    rw [eB] at hT
    have hC : X_X9_poll Gc B R x0 x_3 x_6 IAE := hC
    refine lv_istore (lv' := [(5, .int 1), (4, .int (nI i)), (3, .ref o0), (2, .ref m0), (1, .ref x0), (0, .ref b)]) hx hb dL_law_948 hl (by decide) rfl (fun ls hl => ?_)
    refine lv_aload_n hx hb dL_law_950 rfl (lv_at hl 3 rfl) ?_
    refine lv_aload_n hx hb dL_law_951 rfl (lv_at hl 5 rfl) ?_
    refine lv_iload hx hb dL_law_952 (lv_at hl 1 rfl) ?_
    refine lv_iconst (v := 1) hx hb dL_law_954 (by decide) ?_
    refine lv_iadd hx hb dL_law_955 ?_
    refine W.eq (g2 := F0 m 956 ls [.int x_1, .ref b, .ref m0]) (by rw [ex_1]) ?_
    refine va_sld hx hb hX hbl hbA hS vi_2 dL_law_956 ?_
    refine W.eq (g2 := F0 m 957 ls [.int x_3, .ref m0]) (by rw [ex_3]) ?_
    refine lv_aload_n hx hb dL_law_957 rfl (lv_at hl 5 rfl) ?_
    refine lv_iload hx hb dL_law_958 (lv_at hl 1 rfl) ?_
    refine lv_iconst (v := 2) hx hb dL_law_960 (by decide) ?_
    refine lv_iadd hx hb dL_law_961 ?_
    refine W.eq (g2 := F0 m 962 ls [.int x_4, .ref b, .int x_3, .ref m0]) (by rw [ex_4]) ?_
    refine va_sld hx hb hX hbl hbA hS vi_5 dL_law_962 ?_
    refine W.eq (g2 := F0 m 963 ls [.int x_6, .int x_3, .ref m0]) (by rw [ex_6]) ?_
    refine va_calli (rnV (fun H => MH E m0 rf t0 t1 t2 A cd pk H) (As := [.int x_3, .int x_6]) (rest := []) ⟨hx, hb, hml, hown, hts⟩ (u_X10_poll l E s.heap.size Gm hGzm m0 rf hR t0 t1 t2 A cd pk x_3 x_6 hI3) (cwV 2 hts (gdV ml_L_131 im_X10_poll se_X10_X10_poll in_X10 co_X10_poll rfl) rfl rfl rfl (by decide +kernel) ⟨Nat.le_of_ble_eq_true rfl, Nat.le_of_ble_eq_true rfl⟩) hM (fun U hU hW => hK.go hW hS hAz hU) (va_recv hK.1 (va_one hM.1) (ci := 10) (q0 := 0) rfl rfl) rfl rfl hl.1 rfl (lv_room (Nat.le_of_ble_eq_true rfl)) dL_law_963 ⟨hC2, hS2⟩) hS (fun q _ h => hGzm q h) (fun q h => hGzm q h) (fun r_10 ur_10 t H locs ht hvm hwr_10 hB hz hk hS => ?_)
    have hM : MH E m0 rf t0 t1 t2 (uA (uA A 8 (ur_10.1)) 9 (ur_10.2.1)) ur_10.2.2 pk H := by rw [ht] at hB; exact hB
    have hDr_10 : D_X10_poll A cd pk x_3 x_6 (uA (uA A 8 (ur_10.1)) 9 (ur_10.2.1)) (ur_10.2.2) pk r_10 := hwr_10.2
    have hpr_10_0 : I3 (ur_10.1) := hwr_10.1
    have hT := hT.other hd2 hk
    have hro := hro.kept (hk _ hro.lt (fun h => h hGmo))
    obtain ⟨A_11, cd_11, pk_11, hM, hD, hV2⟩ : ∃ (A2 : AA) (cd2 pk2 : Int32), MH E m0 rf t0 t1 t2 A2 cd2 pk2 H ∧ D_X10_poll A cd pk x_3 x_6 A2 cd2 pk2 r_10 ∧ RIV A2 pk2 := ⟨_, _, _, hM, hDr_10, ⟨⟨hI2, hpr_10_0, hI4, hI5, hI6, hI7, hI8⟩, hpk⟩⟩
    obtain ⟨hSIM, ep_11, hE_11⟩ := sx_pollC hSIM hC hD
    rw [← ep_11] at hSIM
    have hcd : cd_11 = 1 := hE_11.elim (fun h => h.2) (fun h => absurd h.1 (by decide))
    have hV := hV2
    refine lv_istore (lv' := [(6, .int r_10), (5, .int 1), (4, .int (nI i)), (3, .ref o0), (2, .ref m0), (1, .ref x0), (0, .ref b)]) hx hb dL_law_966 hl (by decide) rfl (fun ls hl => ?_)
    refine lv_goto (tgt := 971) hx hb dL_law_968 (by decide) ?_
    refine W.widen (k := C + 2) (n := S + 12) (by omega) (by omega) ?_
    exact key _ _ _ ⟨B, R, A_11, cd_11, pk_11, hT, hW, hM, hSIM, hV, ⟨_, hro⟩, hS⟩ (lv_sub hl [2, 3, 4, 5, 6] rfl)
  · have eB : Z_7 = B := eB
    rw [eB] at hT
    have hC : X_X9_poll Gc B R x0 x_3 x_6 NSE := hC
    refine lv_istore (lv' := [(5, .int 2), (4, .int (nI i)), (3, .ref o0), (2, .ref m0), (1, .ref x0), (0, .ref b)]) hx hb dL_law_948 hl (by decide) rfl (fun ls hl => ?_)
    refine lv_aload_n hx hb dL_law_950 rfl (lv_at hl 3 rfl) ?_
    refine lv_aload_n hx hb dL_law_951 rfl (lv_at hl 5 rfl) ?_
    refine lv_iload hx hb dL_law_952 (lv_at hl 1 rfl) ?_
    refine lv_iconst (v := 1) hx hb dL_law_954 (by decide) ?_
    refine lv_iadd hx hb dL_law_955 ?_
    refine W.eq (g2 := F0 m 956 ls [.int x_1, .ref b, .ref m0]) (by rw [ex_1]) ?_
    refine va_sld hx hb hX hbl hbA hS vi_2 dL_law_956 ?_
    refine W.eq (g2 := F0 m 957 ls [.int x_3, .ref m0]) (by rw [ex_3]) ?_
    refine lv_aload_n hx hb dL_law_957 rfl (lv_at hl 5 rfl) ?_
    refine lv_iload hx hb dL_law_958 (lv_at hl 1 rfl) ?_
    refine lv_iconst (v := 2) hx hb dL_law_960 (by decide) ?_
    refine lv_iadd hx hb dL_law_961 ?_
    refine W.eq (g2 := F0 m 962 ls [.int x_4, .ref b, .int x_3, .ref m0]) (by rw [ex_4]) ?_
    refine va_sld hx hb hX hbl hbA hS vi_5 dL_law_962 ?_
    refine W.eq (g2 := F0 m 963 ls [.int x_6, .int x_3, .ref m0]) (by rw [ex_6]) ?_
    refine va_calli (rnV (fun H => MH E m0 rf t0 t1 t2 A cd pk H) (As := [.int x_3, .int x_6]) (rest := []) ⟨hx, hb, hml, hown, hts⟩ (u_X10_poll l E s.heap.size Gm hGzm m0 rf hR t0 t1 t2 A cd pk x_3 x_6 hI3) (cwV 2 hts (gdV ml_L_131 im_X10_poll se_X10_X10_poll in_X10 co_X10_poll rfl) rfl rfl rfl (by decide +kernel) ⟨Nat.le_of_ble_eq_true rfl, Nat.le_of_ble_eq_true rfl⟩) hM (fun U hU hW => hK.go hW hS hAz hU) (va_recv hK.1 (va_one hM.1) (ci := 10) (q0 := 0) rfl rfl) rfl rfl hl.1 rfl (lv_room (Nat.le_of_ble_eq_true rfl)) dL_law_963 ⟨hC2, hS2⟩) hS (fun q _ h => hGzm q h) (fun q h => hGzm q h) (fun r_12 ur_12 t H locs ht hvm hwr_12 hB hz hk hS => ?_)
    have hM : MH E m0 rf t0 t1 t2 (uA (uA A 8 (ur_12.1)) 9 (ur_12.2.1)) ur_12.2.2 pk H := by rw [ht] at hB; exact hB
    have hDr_12 : D_X10_poll A cd pk x_3 x_6 (uA (uA A 8 (ur_12.1)) 9 (ur_12.2.1)) (ur_12.2.2) pk r_12 := hwr_12.2
    have hpr_12_0 : I3 (ur_12.1) := hwr_12.1
    have hT := hT.other hd2 hk
    have hro := hro.kept (hk _ hro.lt (fun h => h hGmo))
    obtain ⟨A_13, cd_13, pk_13, hM, hD, hV2⟩ : ∃ (A2 : AA) (cd2 pk2 : Int32), MH E m0 rf t0 t1 t2 A2 cd2 pk2 H ∧ D_X10_poll A cd pk x_3 x_6 A2 cd2 pk2 r_12 ∧ RIV A2 pk2 := ⟨_, _, _, hM, hDr_12, ⟨⟨hI2, hpr_12_0, hI4, hI5, hI6, hI7, hI8⟩, hpk⟩⟩
    obtain ⟨hSIM, ep_13, hE_13⟩ := sx_pollC hSIM hC hD
    rw [← ep_13] at hSIM
    have hcd : cd_13 = 2 := hE_13.elim (fun h => absurd h.1 (by decide)) (fun h => h.2)
    have hV := hV2
    refine lv_istore (lv' := [(6, .int r_12), (5, .int 2), (4, .int (nI i)), (3, .ref o0), (2, .ref m0), (1, .ref x0), (0, .ref b)]) hx hb dL_law_966 hl (by decide) rfl (fun ls hl => ?_)
    refine lv_goto (tgt := 971) hx hb dL_law_968 (by decide) ?_
    refine W.widen (k := C + 2) (n := S + 12) (by omega) (by omega) ?_
    exact key _ _ _ ⟨B, R, A_13, cd_13, pk_13, hT, hW, hM, hSIM, hV, ⟨_, hro⟩, hS⟩ (lv_sub hl [2, 3, 4, 5, 6] rfl)
