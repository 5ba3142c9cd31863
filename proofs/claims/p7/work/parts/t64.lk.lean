set_option maxHeartbeats 8000000 in
set_option maxRecDepth 100000 in
theorem lk_4 {p : Program} {l : Launch} {e : Env} {s : State} {m : MethodId} {below : List Frame} {meth : Method} {c : Code} {b L i C S : Nat} {xs : Nat → Int32} {E : EE} {Gc Gm : Nat → Nat} {x0 m0 o0 : Nat} {rf : Nat → Nat} {t0 t1 t2 : Int32} {H : Heap} {locs : List Loc} {ls : Array Slot} (hst : l.stackTraces = false) (C0 : lw_At p s m meth c b L xs) (hLB : L ≤ 3587) (hK : KS E s.heap.size s) (hN : NC s) (F9 : LF s Gc Gm x0 m0 o0 rf t0) (hi : i + 7 ≤ L) (hC : C + 2 ≤ 621377) (hSl : S + 12 ≤ 7231939) (hI : LI E s Gc x0 m0 o0 rf t0 t1 t2 H locs) (hl : lv_has ls 7 [(4, .int (nI i)), (3, .ref o0), (2, .ref m0), (1, .ref x0), (0, .ref b)]) (key : ∀ (H : Heap) (locs : List Loc) (ls : Array Slot), LI E s Gc x0 m0 o0 rf t0 t1 t2 H locs → lv_has ls 7 [(4, .int (nI i)), (3, .ref o0), (2, .ref m0), (1, .ref x0), (0, .ref b)] → W p l e room_1 s m #[Value.ref b] below meth c H locs (C + 2) (S + 12) (lw_Z below #[Value.ref b] s) (F0 m 971 ls [])) : W p l e room_1 s m #[Value.ref b] below meth c H locs C S (lw_Z below #[Value.ref b] s) (F0 m 364 ls []) := by
  obtain ⟨hx, hb, hr, hml, hown, hts0, hX, hbl, hlocks, hgv⟩ := id C0
  obtain ⟨hxc, hR, hGzc, hGzm, hd, hGco, hGmo, hoz, h2t⟩ := F9
  have hd2 : ∀ a, Gc a ≠ 0 → Gm a = 0 := fun a h => Decidable.byContradiction fun q => h (hd a q)
  have hts : ∀ w ∈ TS, w.before #[Value.ref b] s = true := fun w hw => hts0 w (List.mem_filter.mp hw).1
  have hbA : ¬ (fun q : Nat => s.heap.size ≤ q) b := Nat.not_le.mpr hbl
  have hAz : ∀ q, (fun q : Nat => s.heap.size ≤ q) q → s.heap.size ≤ q := fun q h => h
  have hC0 : C + 0 ≤ room_1.cells := (show C + 0 ≤ 621377 by omega)
  have hS0 : S + 0 ≤ room_1.slots := (show S + 0 ≤ 7231939 by omega)
  have hC2 : C + 2 ≤ room_1.cells := (show C + 2 ≤ 621377 by omega)
  have hS2 : S + 12 ≤ room_1.slots := (show S + 12 ≤ 7231939 by omega)
  have hiI : (nI i).toInt = (i : Int) := nI_toInt (by omega)
  obtain ⟨B, R, A, cd, pk, hT, hW, hM, hSIM, hV, ⟨fo, hro⟩, hS⟩ := hI
  obtain ⟨hI2, hI3, hI4, hI5, hI6, hI7, hI8, hpk⟩ := hV.c3
  refine lv_aload_n hx hb dL_law_364 rfl (lv_at hl 3 rfl) ?_
  refine lv_aload_n hx hb dL_law_365 rfl (lv_at hl 4 rfl) ?_
  refine lv_iload hx hb dL_law_366 (lv_at hl 0 rfl) ?_
  refine lv_iconst (v := 1) hx hb dL_law_368 (by decide) ?_
  refine lv_iadd hx hb dL_law_369 ?_
  refine lv_topi (fun x_1 ex_1 => ?_)
  have fx_1 : x_1.toInt = (i : Int) + 1 := by have h9 := s_add (x := nI i) (y := 1) (by rw [hiI, i_1]; omega) (by rw [hiI, i_1]; omega); rw [hiI, i_1] at h9; rw [ex_1]; exact h9
  have vi_2 : vp_in x_1 L := vp_in_iff.mpr (by omega)
  refine va_sld hx hb hX hbl hbA hS vi_2 dL_law_370 ?_
  refine lv_topi (fun x_3 ex_3 => ?_)
  have ha_4 := tx_1 hT hxc
  refine va_calli (rnV (fun H => TX E Gc B R H) (As := [.int x_3]) (rest := []) ⟨hx, hb, hml, hown, hts⟩ (x_X9_reset l E s.heap.size Gc hGzc B R hW x0 x_3 hxc) (cwV 1 hts (gdV ml_L_70 im_X9_reset se_X9_X9_reset in_X9 co_X9_reset rfl) rfl rfl rfl (by decide +kernel) ⟨Nat.le_of_ble_eq_true rfl, Nat.le_of_ble_eq_true rfl⟩) hT (fun U hU hW => hK.go hW hS hAz hU) (va_recv hK.1 (va_one ha_4) (ci := 9) (q0 := 0) rfl rfl) rfl rfl hl.1 rfl (lv_room (Nat.le_of_ble_eq_true rfl)) dL_law_371 ⟨hC0, hS0⟩) hS (fun q _ h => hGzc q (zn (L := [8, 9, 10, 11, 16, 17]) (by decide) h)) (fun q h => hGzc q (zn (L := [8, 9, 10, 11, 16, 17]) (by decide) h)) (fun r_4 u_4 t H locs ht9 hvm hwr_4 hB hz hk hS => ?_)
  obtain ⟨Z_4, eZ_4⟩ : ∃ z, z = u_4 := ⟨_, rfl⟩
  rw [← eZ_4] at hB hwr_4
  rw [ht9] at hB
  have hT : TX E Gc Z_4 R H := hB
  have hW : TW Gc Z_4 R := hwr_4.1
  have hC : C_X9_reset Gc B R x0 x_3 Z_4 r_4 := hwr_4.2.2.2
  have hM := hM.away hR (fun q hq hg => hk q hq (fun h => zn (L := [8, 9, 10, 11, 16, 17]) (by decide) h (hd q hg)))
  have hro := hro.kept (hk _ hro.lt (fun h => zn (L := [8, 9, 10, 11, 16, 17]) (by decide) h hGco))
  refine lv_pop hx hb dL_law_374 rfl ?_
  refine lv_aload_n hx hb dL_law_375 rfl (lv_at hl 2 rfl) ?_
  refine lv_aload_n hx hb dL_law_376 rfl (lv_at hl 4 rfl) ?_
  refine lv_iload hx hb dL_law_377 (lv_at hl 0 rfl) ?_
  refine lv_iconst (v := 1) hx hb dL_law_379 (by decide) ?_
  refine lv_iadd hx hb dL_law_380 ?_
  refine W.eq (g2 := F0 m 381 ls [.int x_1, .ref b, .ref m0]) (by rw [ex_1]) ?_
  refine va_sld hx hb hX hbl hbA hS vi_2 dL_law_381 ?_
  refine W.eq (g2 := F0 m 382 ls [.int x_3, .ref m0]) (by rw [ex_3]) ?_
  refine va_calli (rnV (fun H => MH E m0 rf t0 t1 t2 A cd pk H) (As := [.int x_3]) (rest := []) ⟨hx, hb, hml, hown, hts⟩ (u_X10_reset l E s.heap.size Gm hGzm m0 rf hR t0 t1 t2 A cd pk x_3 hI4 hI8) (cwV 1 hts (gdV ml_L_74 im_X10_reset se_X10_X10_reset in_X10 co_X10_reset rfl) rfl rfl rfl (by decide +kernel) ⟨Nat.le_of_ble_eq_true rfl, Nat.le_of_ble_eq_true rfl⟩) hM (fun U hU hW => hK.go hW hS hAz hU) (va_recv hK.1 (va_one hM.1) (ci := 10) (q0 := 0) rfl rfl) rfl rfl hl.1 rfl (lv_room (Nat.le_of_ble_eq_true rfl)) dL_law_382 ⟨hC0, hS0⟩) hS (fun q _ h => hGzm q h) (fun q h => hGzm q h) (fun r_5 ur_5 t H locs ht hvm hwr_5 hB hz hk hS => ?_)
  have hM : MH E m0 rf t0 t1 t2 (uA (uA (uA (uA (uA (uA (uA (uA (uA (uA (uA (uA A 10 (ur_5.1)) 15 (ur_5.2.1)) 16 (ur_5.2.2.1)) 17 (ur_5.2.2.2.1)) 18 (ur_5.2.2.2.2.1)) 19 (ur_5.2.2.2.2.2.1)) 20 (ur_5.2.2.2.2.2.2.1)) 21 (ur_5.2.2.2.2.2.2.2.1)) 30 (ur_5.2.2.2.2.2.2.2.2.1)) 31 (ur_5.2.2.2.2.2.2.2.2.2.1)) 36 (ur_5.2.2.2.2.2.2.2.2.2.2.1)) 37 (ur_5.2.2.2.2.2.2.2.2.2.2.2.1)) ur_5.2.2.2.2.2.2.2.2.2.2.2.2 pk H := by rw [ht] at hB; exact hB
  have hDr_5 : D_X10_reset A cd pk x_3 (uA (uA (uA (uA (uA (uA (uA (uA (uA (uA (uA (uA A 10 (ur_5.1)) 15 (ur_5.2.1)) 16 (ur_5.2.2.1)) 17 (ur_5.2.2.2.1)) 18 (ur_5.2.2.2.2.1)) 19 (ur_5.2.2.2.2.2.1)) 20 (ur_5.2.2.2.2.2.2.1)) 21 (ur_5.2.2.2.2.2.2.2.1)) 30 (ur_5.2.2.2.2.2.2.2.2.1)) 31 (ur_5.2.2.2.2.2.2.2.2.2.1)) 36 (ur_5.2.2.2.2.2.2.2.2.2.2.1)) 37 (ur_5.2.2.2.2.2.2.2.2.2.2.2.1)) (ur_5.2.2.2.2.2.2.2.2.2.2.2.2) pk r_5 := hwr_5.2.2.2
  have hpr_5_0 : I4 (ur_5.1) (ur_5.2.2.2.2.2.2.1) (A 29) (A 24) (A 11) (A 12) (A 13) := hwr_5.1
  have hpr_5_1 : I8 (ur_5.2.2.2.2.2.2.1) (ur_5.2.2.2.2.2.2.2.2.1) (ur_5.2.2.2.2.2.2.2.2.2.2.2.1) (ur_5.2.2.2.2.2.2.2.2.2.2.1) := hwr_5.2.1
  have hpr_5_2 : r_5 = bI (0 ≤ x_3.toInt ∧ x_3.toInt < 4) := hwr_5.2.2.1
  have hT := hT.other hd2 hk
  have hro := hro.kept (hk _ hro.lt (fun h => h hGmo))
  obtain ⟨A_6, cd_6, pk_6, hM, hD, hV2⟩ : ∃ (A2 : AA) (cd2 pk2 : Int32), MH E m0 rf t0 t1 t2 A2 cd2 pk2 H ∧ D_X10_reset A cd pk x_3 A2 cd2 pk2 r_5 ∧ RIV A2 pk2 := ⟨_, _, _, hM, hDr_5, ⟨⟨hI2, hI3, hpr_5_0, hI5, hI6, hI7, hpr_5_1⟩, hpk⟩⟩
  have hs_6 := s_resetC h2t hSIM hV hC hD
  obtain ⟨hSIM, ep_6, er_6⟩ := hs_6
  rw [← ep_6] at hSIM
  have hV := hV2
  obtain rfl := er_6
  refine lv_pop hx hb dL_law_385 rfl ?_
  refine lv_goto (tgt := 971) hx hb dL_law_386 (by decide) ?_
  refine W.widen (k := C + 2) (n := S + 12) (by omega) (by omega) ?_
  exact key _ _ _ ⟨Z_4, R, A_6, cd_6, pk_6, hT, hW, hM, hSIM, hV, ⟨_, hro⟩, hS⟩ (lv_sub hl [0, 1, 2, 3, 4] rfl)
set_option maxHeartbeats 8000000 in
set_option maxRecDepth 100000 in
theorem lk_5 {p : Program} {l : Launch} {e : Env} {s : State} {m : MethodId} {below : List Frame} {meth : Method} {c : Code} {b L i C S : Nat} {xs : Nat → Int32} {E : EE} {Gc Gm : Nat → Nat} {x0 m0 o0 : Nat} {rf : Nat → Nat} {t0 t1 t2 : Int32} {H : Heap} {locs : List Loc} {ls : Array Slot} (hst : l.stackTraces = false) (C0 : lw_At p s m meth c b L xs) (hLB : L ≤ 3587) (hK : KS E s.heap.size s) (hN : NC s) (F9 : LF s Gc Gm x0 m0 o0 rf t0) (hi : i + 7 ≤ L) (hC : C + 2 ≤ 621377) (hSl : S + 12 ≤ 7231939) (hI : LI E s Gc x0 m0 o0 rf t0 t1 t2 H locs) (hl : lv_has ls 7 [(4, .int (nI i)), (3, .ref o0), (2, .ref m0), (1, .ref x0), (0, .ref b)]) (key : ∀ (H : Heap) (locs : List Loc) (ls : Array Slot), LI E s Gc x0 m0 o0 rf t0 t1 t2 H locs → lv_has ls 7 [(4, .int (nI i)), (3, .ref o0), (2, .ref m0), (1, .ref x0), (0, .ref b)] → W p l e room_1 s m #[Value.ref b] below meth c H locs (C + 2) (S + 12) (lw_Z below #[Value.ref b] s) (F0 m 971 ls [])) : W p l e room_1 s m #[Value.ref b] below meth c H locs C S (lw_Z below #[Value.ref b] s) (F0 m 389 ls []) := by
  obtain ⟨hx, hb, hr, hml, hown, hts0, hX, hbl, hlocks, hgv⟩ := id C0
  obtain ⟨hxc, hR, hGzc, hGzm, hd, hGco, hGmo, hoz, h2t⟩ := F9
  have hd2 : ∀ a, Gc a ≠ 0 → Gm a = 0 := fun a h => Decidable.byContradiction fun q => h (hd a q)
  have hts : ∀ w ∈ TS, w.before #[Value.ref b] s = true := fun w hw => hts0 w (List.mem_filter.mp hw).1
  have hbA : ¬ (fun q : Nat => s.heap.size ≤ q) b := Nat.not_le.mpr hbl
  have hAz : ∀ q, (fun q : Nat => s.heap.size ≤ q) q → s.heap.size ≤ q := fun q h => h
  have hC0 : C + 0 ≤ room_1.cells := (show C + 0 ≤ 621377 by omega)
  have hS0 : S + 0 ≤ room_1.slots := (show S + 0 ≤ 7231939 by omega)
  have hC2 : C + 2 ≤ room_1.cells := (show C + 2 ≤ 621377 by omega)
  have hS2 : S + 12 ≤ room_1.slots := (show S + 12 ≤ 7231939 by omega)
  have hiI : (nI i).toInt = (i : Int) := nI_toInt (by omega)
  obtain ⟨B, R, A, cd, pk, hT, hW, hM, hSIM, hV, ⟨fo, hro⟩, hS⟩ := hI
  obtain ⟨hI2, hI3, hI4, hI5, hI6, hI7, hI8, hpk⟩ := hV.c3
  refine lv_aload_n hx hb dL_law_389 rfl (lv_at hl 3 rfl) ?_
  refine lv_aload_n hx hb dL_law_390 rfl (lv_at hl 4 rfl) ?_
  refine lv_iload hx hb dL_law_391 (lv_at hl 0 rfl) ?_
  refine lv_iconst (v := 1) hx hb dL_law_393 (by decide) ?_
  refine lv_iadd hx hb dL_law_394 ?_
  refine lv_topi (fun x_1 ex_1 => ?_)
  have fx_1 : x_1.toInt = (i : Int) + 1 := by have h9 := s_add (x := nI i) (y := 1) (by rw [hiI, i_1]; omega) (by rw [hiI, i_1]; omega); rw [hiI, i_1] at h9; rw [ex_1]; exact h9
  have vi_2 : vp_in x_1 L := vp_in_iff.mpr (by omega)
  refine va_sld hx hb hX hbl hbA hS vi_2 dL_law_395 ?_
  refine lv_topi (fun x_3 ex_3 => ?_)
  refine lv_aload_n hx hb dL_law_396 rfl (lv_at hl 4 rfl) ?_
  refine lv_iload hx hb dL_law_397 (lv_at hl 0 rfl) ?_
  refine lv_iconst (v := 2) hx hb dL_law_399 (by decide) ?_
  refine lv_iadd hx hb dL_law_400 ?_
  refine lv_topi (fun x_4 ex_4 => ?_)
  have fx_4 : x_4.toInt = (i : Int) + 2 := by have h9 := s_add (x := nI i) (y := 2) (by rw [hiI, i_2]; omega) (by rw [hiI, i_2]; omega); rw [hiI, i_2] at h9; rw [ex_4]; exact h9
  have vi_5 : vp_in x_4 L := vp_in_iff.mpr (by omega)
  refine va_sld hx hb hX hbl hbA hS vi_5 dL_law_401 ?_
  refine lv_topi (fun x_6 ex_6 => ?_)
  refine lv_aload_n hx hb dL_law_402 rfl (lv_at hl 4 rfl) ?_
  refine lv_iload hx hb dL_law_403 (lv_at hl 0 rfl) ?_
  refine lv_iconst (v := 3) hx hb dL_law_405 (by decide) ?_
  refine lv_iadd hx hb dL_law_406 ?_
  refine lv_topi (fun x_7 ex_7 => ?_)
  have fx_7 : x_7.toInt = (i : Int) + 3 := by have h9 := s_add (x := nI i) (y := 3) (by rw [hiI, i_3]; omega) (by rw [hiI, i_3]; omega); rw [hiI, i_3] at h9; rw [ex_7]; exact h9
  have vi_8 : vp_in x_7 L := vp_in_iff.mpr (by omega)
  refine va_sld hx hb hX hbl hbA hS vi_8 dL_law_407 ?_
  refine lv_topi (fun x_9 ex_9 => ?_)
  refine lv_aload_n hx hb dL_law_408 rfl (lv_at hl 1 rfl) ?_
  refine va_calli (vx_runSW (hh := [(0, 12, 15, 13), (0, 12, 19, 22)]) (As := [.ref x0, .int x_3, .int x_6, .int x_9, .ref o0]) (rest := []) ⟨hx, hb, hml, hown, hts⟩ (w_L_send l hst E s.heap.size Gc hGzc B R hW x0 x_3 x_6 x_9 o0 hxc hGco hoz) (vx_cwSW 5 hts (gdW ml_L_75 st_L_send in_L co_L_send rfl) rfl rfl rfl (by decide +kernel) ⟨Nat.le_of_ble_eq_true rfl, Nat.le_of_ble_eq_true rfl⟩) ⟨fun a U g mk q => ⟨q.1, q.2.1, KS.calling q.2.2.1, NC.vm q.2.2.2 rfl⟩, fun U hU hW => ⟨rfl, by rw [hU]; exact ⟨hT, _, hro⟩, hK.go hW hS hAz hU, hN.go hW⟩⟩ rfl rfl hl.1 rfl (lv_room (Nat.le_of_ble_eq_true rfl)) dL_law_409 ⟨hC2, hS2⟩) hS (fun q _ h => h.elim (fun h => hGzc q (zn (L := [9, 11, 13]) (by decide) h)) (fun e => by rw [e]; exact hoz)) (fun q h => h.elim (fun h => hGzc q (zn (L := [9, 11, 13]) (by decide) h)) (fun e => by rw [e]; exact hoz)) (fun r_10 u_10 t H locs ht9 hvm hwr_10 hB hz hk hS => ?_)
  rw [ht9] at hB
  obtain ⟨Z_10, y_10, f_10⟩ := u_10
  obtain ⟨hT, fo_10, hfo_10, hro2⟩ := hB
  have hro := hro2
  have hM := hM.away hR (fun q hq hg => hk q hq (fun h => h.elim (fun h => zn (L := [9, 11, 13]) (by decide) h (hd q hg)) (fun h => hg (by rw [h]; exact hGmo))))
  have hT : TX E Gc Z_10 R H := hT
  rcases hwr_10 with ⟨rfl, hW2, hF2, hC, ef_10⟩ | ⟨rfl, eB, hC⟩ | ⟨rfl, eB, hC⟩
  · have hW : TW Gc Z_10 R := hW2
    have hC : C_X9_send Gc B R x0 x_3 x_6 x_9 Z_10 y_10 := hC
    have hfo : fo_10 0 = y_10.toInt64 := hfo_10.trans ef_10
    refine lv_istore (lv' := [(5, .int 0), (4, .int (nI i)), (3, .ref o0), (2, .ref m0), (1, .ref x0), (0, .ref b)]) hx hb dL_law_412 hl (by decide) rfl (fun ls hl => ?_)
    refine lv_aload_n hx hb dL_law_414 rfl (lv_at hl 3 rfl) ?_
    refine lv_aload_n hx hb dL_law_415 rfl (lv_at hl 5 rfl) ?_
    refine lv_iload hx hb dL_law_416 (lv_at hl 1 rfl) ?_
    refine lv_iconst (v := 1) hx hb dL_law_418 (by decide) ?_
    refine lv_iadd hx hb dL_law_419 ?_
    refine W.eq (g2 := F0 m 420 ls [.int x_1, .ref b, .ref m0]) (by rw [ex_1]) ?_
    refine va_sld hx hb hX hbl hbA hS vi_2 dL_law_420 ?_
    refine W.eq (g2 := F0 m 421 ls [.int x_3, .ref m0]) (by rw [ex_3]) ?_
    refine lv_aload_n hx hb dL_law_421 rfl (lv_at hl 5 rfl) ?_
    refine lv_iload hx hb dL_law_422 (lv_at hl 1 rfl) ?_
    refine lv_iconst (v := 2) hx hb dL_law_424 (by decide) ?_
    refine lv_iadd hx hb dL_law_425 ?_
    refine W.eq (g2 := F0 m 426 ls [.int x_4, .ref b, .int x_3, .ref m0]) (by rw [ex_4]) ?_
    refine va_sld hx hb hX hbl hbA hS vi_5 dL_law_426 ?_
    refine W.eq (g2 := F0 m 427 ls [.int x_6, .int x_3, .ref m0]) (by rw [ex_6]) ?_
    refine lv_aload_n hx hb dL_law_427 rfl (lv_at hl 5 rfl) ?_
    refine lv_iload hx hb dL_law_428 (lv_at hl 1 rfl) ?_
    refine lv_iconst (v := 3) hx hb dL_law_430 (by decide) ?_
    refine lv_iadd hx hb dL_law_431 ?_
    refine W.eq (g2 := F0 m 432 ls [.int x_7, .ref b, .int x_6, .int x_3, .ref m0]) (by rw [ex_7]) ?_
    refine va_sld hx hb hX hbl hbA hS vi_8 dL_law_432 ?_
    refine W.eq (g2 := F0 m 433 ls [.int x_9, .int x_6, .int x_3, .ref m0]) (by rw [ex_9]) ?_
    refine va_calli (rnV (fun H => MH E m0 rf t0 t1 t2 A cd pk H) (As := [.int x_3, .int x_6, .int x_9]) (rest := []) ⟨hx, hb, hml, hown, hts⟩ (u_X10_send l E s.heap.size Gm hGzm m0 rf hR t0 t1 t2 A cd pk x_3 x_6 x_9 hI4 hI6 hI8) (cwV 3 hts (gdV ml_L_78 im_X10_send se_X10_X10_send in_X10 co_X10_send rfl) rfl rfl rfl (by decide +kernel) ⟨Nat.le_of_ble_eq_true rfl, Nat.le_of_ble_eq_true rfl⟩) hM (fun U hU hW => hK.go hW hS hAz hU) (va_recv hK.1 (va_one hM.1) (ci := 10) (q0 := 0) rfl rfl) rfl rfl hl.1 rfl (lv_room (Nat.le_of_ble_eq_true rfl)) dL_law_433 ⟨hC2, hS2⟩) hS (fun q _ h => hGzm q h) (fun q h => hGzm q h) (fun r_11 ur_11 t H locs ht hvm hwr_11 hB hz hk hS => ?_)
    have hM : MH E m0 rf t0 t1 t2 (uA (uA (uA (uA (uA (uA (uA (uA (uA (uA (uA A 11 (ur_11.1)) 20 (ur_11.2.1)) 21 (ur_11.2.2.1)) 22 (ur_11.2.2.2.1)) 23 (ur_11.2.2.2.2.1)) 24 (ur_11.2.2.2.2.2.1)) 25 (ur_11.2.2.2.2.2.2.1)) 26 (ur_11.2.2.2.2.2.2.2.1)) 27 (ur_11.2.2.2.2.2.2.2.2.1)) 28 (ur_11.2.2.2.2.2.2.2.2.2.1)) 29 (ur_11.2.2.2.2.2.2.2.2.2.2.1)) ur_11.2.2.2.2.2.2.2.2.2.2.2 pk H := by rw [ht] at hB; exact hB
    have hDr_11 : D_X10_send A cd pk x_3 x_6 x_9 (uA (uA (uA (uA (uA (uA (uA (uA (uA (uA (uA A 11 (ur_11.1)) 20 (ur_11.2.1)) 21 (ur_11.2.2.1)) 22 (ur_11.2.2.2.1)) 23 (ur_11.2.2.2.2.1)) 24 (ur_11.2.2.2.2.2.1)) 25 (ur_11.2.2.2.2.2.2.1)) 26 (ur_11.2.2.2.2.2.2.2.1)) 27 (ur_11.2.2.2.2.2.2.2.2.1)) 28 (ur_11.2.2.2.2.2.2.2.2.2.1)) 29 (ur_11.2.2.2.2.2.2.2.2.2.2.1)) (ur_11.2.2.2.2.2.2.2.2.2.2.2) pk r_11 := hwr_11.2.2.2
    have hpr_11_0 : I4 (A 10) (ur_11.2.1) (ur_11.2.2.2.2.2.2.2.2.2.2.1) (ur_11.2.2.2.2.2.1) (ur_11.1) (A 12) (A 13) := hwr_11.1
    have hpr_11_1 : I6 (ur_11.2.2.2.1) (ur_11.2.2.2.2.1) (ur_11.2.2.2.2.2.1) (ur_11.2.2.2.2.2.2.1) (ur_11.2.2.2.2.2.2.2.1) := hwr_11.2.1
    have hpr_11_2 : I8 (ur_11.2.1) (A 30) (A 37) (A 36) := hwr_11.2.2.1
    have hT := hT.other hd2 hk
    have hro := hro.kept (hk _ hro.lt (fun h => h hGmo))
    obtain ⟨A_12, cd_12, pk_12, hM, hD, hV2⟩ : ∃ (A2 : AA) (cd2 pk2 : Int32), MH E m0 rf t0 t1 t2 A2 cd2 pk2 H ∧ D_X10_send A cd pk x_3 x_6 x_9 A2 cd2 pk2 r_11 ∧ RIV A2 pk2 := ⟨_, _, _, hM, hDr_11, ⟨⟨hI2, hI3, hpr_11_0, hI5, hpr_11_1, hI7, hpr_11_2⟩, hpk⟩⟩
    have hs_12 := s_sendC hSIM hV hC hD
    obtain ⟨hSIM, ep_12, hcd, er_12⟩ := hs_12
    rw [← ep_12] at hSIM
    have hV := hV2
    obtain rfl := er_12
    refine lv_istore (lv' := [(6, .int y_10), (5, .int 0), (4, .int (nI i)), (3, .ref o0), (2, .ref m0), (1, .ref x0), (0, .ref b)]) hx hb dL_law_436 hl (by decide) rfl (fun ls hl => ?_)
    refine lv_aload_n hx hb dL_law_438 rfl (lv_at hl 4 rfl) ?_
    refine va_calli (rnV (fun H => MH E m0 rf t0 t1 t2 A_12 cd_12 pk_12 H) (As := []) (rest := []) ⟨hx, hb, hml, hown, hts⟩ (u_X10_thrown l E s.heap.size Gm hGzm m0 rf hR t0 t1 t2 A_12 cd_12 pk_12 ) (cwV 0 hts (gdV ml_L_79 im_X10_thrown se_X10_X10_thrown in_X10 co_X10_thrown rfl) rfl rfl rfl (by decide +kernel) ⟨Nat.le_of_ble_eq_true rfl, Nat.le_of_ble_eq_true rfl⟩) hM (fun U hU hW => hK.go hW hS hAz hU) (va_recv hK.1 (va_one hM.1) (ci := 10) (q0 := 0) rfl rfl) rfl rfl hl.1 rfl (lv_room (Nat.le_of_ble_eq_true rfl)) dL_law_439 ⟨hC2, hS2⟩) hS (fun q _ h => h.elim) (fun q h => h.elim) (fun r_13 ur_13 t H locs ht hvm hwr_13 hB hz hk hS => ?_)
    have hM := hM.kept (fun q hq => hk q hq (fun h => h))
    have hDr_13 : D_X10_thrown A_12 cd_12 pk_12 r_13 := hwr_13.2
    have hpr_13_0 : r_13 = cd_12 := hwr_13.1
    have hT := hT.kept (fun q hq => hk q hq (fun h => h))
    have hro := hro.kept (hk _ hro.lt (fun h => h))
    obtain rfl : r_13 = 0 := hpr_13_0.trans hcd
    refine lv_iload hx hb dL_law_442 (lv_at hl 1 rfl) ?_
    refine lv_icmp_eq (tgt := 449) hx hb dL_law_444 (by decide) (fun c_14 => ?_) (fun c_14 => absurd c_14 (by decide))
    refine lv_iload hx hb dL_law_449 (lv_at hl 1 rfl) ?_
    refine lv_if_ne (tgt := 466) hx hb dL_law_451 (by decide) (fun c_15 => absurd c_15 (by decide)) (fun c_15 => ?_)
    refine lv_aload_n hx hb dL_law_454 rfl (lv_at hl 3 rfl) ?_
    refine lv_iconst (v := 0) hx hb dL_law_455 (by decide) ?_
    refine va_lald (D := DG E) hx hb hK.1 (va_one hro) 0 2 rfl rfl (show vp_in (0) 1 from vp_in_iff.mpr ⟨by decide, by decide⟩) dL_law_456 ?_
    refine W.eq (g2 := F0 m 457 ls [.long (y_10.toInt64)]) (by rw [show fo_10 (0 : Int32).toNatClampNeg = y_10.toInt64 from hfo]) ?_
    refine lv_iload hx hb dL_law_457 (lv_at hl 0 rfl) ?_
    refine lv_i2l hx hb dL_law_459 rfl ?_
    refine W.lcmp hx hb dL_law_460 ?_
    refine W.eq (g2 := F0 m 461 ls [.int 0]) (by rw [lg_cmp_s]) ?_
    refine lv_if_eq (tgt := 466) hx hb dL_law_461 (by decide) (fun c_16 => ?_) (fun c_16 => absurd c_16 (by decide))
    refine lv_goto (tgt := 971) hx hb dL_law_466 (by decide) ?_
    refine W.widen (k := C + 2) (n := S + 12) (by omega) (by omega) ?_
    exact key _ _ _ ⟨Z_10, R, A_12, cd_12, pk_12, hT, hW, hM, hSIM, hV, ⟨_, hro⟩, hS⟩ (lv_sub hl [2, 3, 4, 5, 6] rfl)
  · have eB : Z_10 = B := eB
    rw [eB] at hT
    have hC : X_X9_send Gc B R x0 x_3 x_6 x_9 IAE := hC
    refine lv_istore (lv' := [(5, .int 1), (4, .int (nI i)), (3, .ref o0), (2, .ref m0), (1, .ref x0), (0, .ref b)]) hx hb dL_law_412 hl (by decide) rfl (fun ls hl => ?_)
    refine lv_aload_n hx hb dL_law_414 rfl (lv_at hl 3 rfl) ?_
    refine lv_aload_n hx hb dL_law_415 rfl (lv_at hl 5 rfl) ?_
    refine lv_iload hx hb dL_law_416 (lv_at hl 1 rfl) ?_
    refine lv_iconst (v := 1) hx hb dL_law_418 (by decide) ?_
    refine lv_iadd hx hb dL_law_419 ?_
    refine W.eq (g2 := F0 m 420 ls [.int x_1, .ref b, .ref m0]) (by rw [ex_1]) ?_
    refine va_sld hx hb hX hbl hbA hS vi_2 dL_law_420 ?_
    refine W.eq (g2 := F0 m 421 ls [.int x_3, .ref m0]) (by rw [ex_3]) ?_
    refine lv_aload_n hx hb dL_law_421 rfl (lv_at hl 5 rfl) ?_
    refine lv_iload hx hb dL_law_422 (lv_at hl 1 rfl) ?_
    refine lv_iconst (v := 2) hx hb dL_law_424 (by decide) ?_
    refine lv_iadd hx hb dL_law_425 ?_
    refine W.eq (g2 := F0 m 426 ls [.int x_4, .ref b, .int x_3, .ref m0]) (by rw [ex_4]) ?_
    refine va_sld hx hb hX hbl hbA hS vi_5 dL_law_426 ?_
    refine W.eq (g2 := F0 m 427 ls [.int x_6, .int x_3, .ref m0]) (by rw [ex_6]) ?_
    refine lv_aload_n hx hb dL_law_427 rfl (lv_at hl 5 rfl) ?_
    refine lv_iload hx hb dL_law_428 (lv_at hl 1 rfl) ?_
    refine lv_iconst (v := 3) hx hb dL_law_430 (by decide) ?_
    refine lv_iadd hx hb dL_law_431 ?_
    refine W.eq (g2 := F0 m 432 ls [.int x_7, .ref b, .int x_6, .int x_3, .ref m0]) (by rw [ex_7]) ?_
    refine va_sld hx hb hX hbl hbA hS vi_8 dL_law_432 ?_
    refine W.eq (g2 := F0 m 433 ls [.int x_9, .int x_6, .int x_3, .ref m0]) (by rw [ex_9]) ?_
    refine va_calli (rnV (fun H => MH E m0 rf t0 t1 t2 A cd pk H) (As := [.int x_3, .int x_6, .int x_9]) (rest := []) ⟨hx, hb, hml, hown, hts⟩ (u_X10_send l E s.heap.size Gm hGzm m0 rf hR t0 t1 t2 A cd pk x_3 x_6 x_9 hI4 hI6 hI8) (cwV 3 hts (gdV ml_L_78 im_X10_send se_X10_X10_send in_X10 co_X10_send rfl) rfl rfl rfl (by decide +kernel) ⟨Nat.le_of_ble_eq_true rfl, Nat.le_of_ble_eq_true rfl⟩) hM (fun U hU hW => hK.go hW hS hAz hU) (va_recv hK.1 (va_one hM.1) (ci := 10) (q0 := 0) rfl rfl) rfl rfl hl.1 rfl (lv_room (Nat.le_of_ble_eq_true rfl)) dL_law_433 ⟨hC2, hS2⟩) hS (fun q _ h => hGzm q h) (fun q h => hGzm q h) (fun r_17 ur_17 t H locs ht hvm hwr_17 hB hz hk hS => ?_)
    have hM : MH E m0 rf t0 t1 t2 (uA (uA (uA (uA (uA (uA (uA (uA (uA (uA (uA A 11 (ur_17.1)) 20 (ur_17.2.1)) 21 (ur_17.2.2.1)) 22 (ur_17.2.2.2.1)) 23 (ur_17.2.2.2.2.1)) 24 (ur_17.2.2.2.2.2.1)) 25 (ur_17.2.2.2.2.2.2.1)) 26 (ur_17.2.2.2.2.2.2.2.1)) 27 (ur_17.2.2.2.2.2.2.2.2.1)) 28 (ur_17.2.2.2.2.2.2.2.2.2.1)) 29 (ur_17.2.2.2.2.2.2.2.2.2.2.1)) ur_17.2.2.2.2.2.2.2.2.2.2.2 pk H := by rw [ht] at hB; exact hB
    have hDr_17 : D_X10_send A cd pk x_3 x_6 x_9 (uA (uA (uA (uA (uA (uA (uA (uA (uA (uA (uA A 11 (ur_17.1)) 20 (ur_17.2.1)) 21 (ur_17.2.2.1)) 22 (ur_17.2.2.2.1)) 23 (ur_17.2.2.2.2.1)) 24 (ur_17.2.2.2.2.2.1)) 25 (ur_17.2.2.2.2.2.2.1)) 26 (ur_17.2.2.2.2.2.2.2.1)) 27 (ur_17.2.2.2.2.2.2.2.2.1)) 28 (ur_17.2.2.2.2.2.2.2.2.2.1)) 29 (ur_17.2.2.2.2.2.2.2.2.2.2.1)) (ur_17.2.2.2.2.2.2.2.2.2.2.2) pk r_17 := hwr_17.2.2.2
    have hpr_17_0 : I4 (A 10) (ur_17.2.1) (ur_17.2.2.2.2.2.2.2.2.2.2.1) (ur_17.2.2.2.2.2.1) (ur_17.1) (A 12) (A 13) := hwr_17.1
    have hpr_17_1 : I6 (ur_17.2.2.2.1) (ur_17.2.2.2.2.1) (ur_17.2.2.2.2.2.1) (ur_17.2.2.2.2.2.2.1) (ur_17.2.2.2.2.2.2.2.1) := hwr_17.2.1
    have hpr_17_2 : I8 (ur_17.2.1) (A 30) (A 37) (A 36) := hwr_17.2.2.1
    have hT := hT.other hd2 hk
    have hro := hro.kept (hk _ hro.lt (fun h => h hGmo))
    obtain ⟨A_18, cd_18, pk_18, hM, hD, hV2⟩ : ∃ (A2 : AA) (cd2 pk2 : Int32), MH E m0 rf t0 t1 t2 A2 cd2 pk2 H ∧ D_X10_send A cd pk x_3 x_6 x_9 A2 cd2 pk2 r_17 ∧ RIV A2 pk2 := ⟨_, _, _, hM, hDr_17, ⟨⟨hI2, hI3, hpr_17_0, hI5, hpr_17_1, hI7, hpr_17_2⟩, hpk⟩⟩
    obtain ⟨hSIM, ep_18, hE_18⟩ := sx_sendC hSIM hC hD
    rw [← ep_18] at hSIM
    have hcd : cd_18 = 1 := hE_18.elim (fun h => h.2) (fun h => absurd h.1 (by decide))
    have hV := hV2
    refine lv_istore (lv' := [(6, .int r_17), (5, .int 1), (4, .int (nI i)), (3, .ref o0), (2, .ref m0), (1, .ref x0), (0, .ref b)]) hx hb dL_law_436 hl (by decide) rfl (fun ls hl => ?_)
    refine lv_aload_n hx hb dL_law_438 rfl (lv_at hl 4 rfl) ?_
    refine va_calli (rnV (fun H => MH E m0 rf t0 t1 t2 A_18 cd_18 pk_18 H) (As := []) (rest := []) ⟨hx, hb, hml, hown, hts⟩ (u_X10_thrown l E s.heap.size Gm hGzm m0 rf hR t0 t1 t2 A_18 cd_18 pk_18 ) (cwV 0 hts (gdV ml_L_79 im_X10_thrown se_X10_X10_thrown in_X10 co_X10_thrown rfl) rfl rfl rfl (by decide +kernel) ⟨Nat.le_of_ble_eq_true rfl, Nat.le_of_ble_eq_true rfl⟩) hM (fun U hU hW => hK.go hW hS hAz hU) (va_recv hK.1 (va_one hM.1) (ci := 10) (q0 := 0) rfl rfl) rfl rfl hl.1 rfl (lv_room (Nat.le_of_ble_eq_true rfl)) dL_law_439 ⟨hC2, hS2⟩) hS (fun q _ h => h.elim) (fun q h => h.elim) (fun r_19 ur_19 t H locs ht hvm hwr_19 hB hz hk hS => ?_)
    have hM := hM.kept (fun q hq => hk q hq (fun h => h))
    have hDr_19 : D_X10_thrown A_18 cd_18 pk_18 r_19 := hwr_19.2
    have hpr_19_0 : r_19 = cd_18 := hwr_19.1
    have hT := hT.kept (fun q hq => hk q hq (fun h => h))
    have hro := hro.kept (hk _ hro.lt (fun h => h))
    obtain rfl : r_19 = 1 := hpr_19_0.trans hcd
    refine lv_iload hx hb dL_law_442 (lv_at hl 1 rfl) ?_
    refine lv_icmp_eq (tgt := 449) hx hb dL_law_444 (by decide) (fun c_20 => ?_) (fun c_20 => absurd c_20 (by decide))
    refine lv_iload hx hb dL_law_449 (lv_at hl 1 rfl) ?_
    refine lv_if_ne (tgt := 466) hx hb dL_law_451 (by decide) (fun c_21 => ?_) (fun c_21 => absurd c_21 (by decide))
    refine lv_goto (tgt := 971) hx hb dL_law_466 (by decide) ?_
    refine W.widen (k := C + 2) (n := S + 12) (by omega) (by omega) ?_
    exact key _ _ _ ⟨B, R, A_18, cd_18, pk_18, hT, hW, hM, hSIM, hV, ⟨_, hro⟩, hS⟩ (lv_sub hl [2, 3, 4, 5, 6] rfl)
  · have eB : Z_10 = B := eB
    rw [eB] at hT
    have hC : X_X9_send Gc B R x0 x_3 x_6 x_9 ISE := hC
    refine lv_istore (lv' := [(5, .int 2), (4, .int (nI i)), (3, .ref o0), (2, .ref m0), (1, .ref x0), (0, .ref b)]) hx hb dL_law_412 hl (by decide) rfl (fun ls hl => ?_)
    refine lv_aload_n hx hb dL_law_414 rfl (lv_at hl 3 rfl) ?_
    refine lv_aload_n hx hb dL_law_415 rfl (lv_at hl 5 rfl) ?_
    refine lv_iload hx hb dL_law_416 (lv_at hl 1 rfl) ?_
    refine lv_iconst (v := 1) hx hb dL_law_418 (by decide) ?_
    refine lv_iadd hx hb dL_law_419 ?_
    refine W.eq (g2 := F0 m 420 ls [.int x_1, .ref b, .ref m0]) (by rw [ex_1]) ?_
    refine va_sld hx hb hX hbl hbA hS vi_2 dL_law_420 ?_
    refine W.eq (g2 := F0 m 421 ls [.int x_3, .ref m0]) (by rw [ex_3]) ?_
    refine lv_aload_n hx hb dL_law_421 rfl (lv_at hl 5 rfl) ?_
    refine lv_iload hx hb dL_law_422 (lv_at hl 1 rfl) ?_
    refine lv_iconst (v := 2) hx hb dL_law_424 (by decide) ?_
    refine lv_iadd hx hb dL_law_425 ?_
    refine W.eq (g2 := F0 m 426 ls [.int x_4, .ref b, .int x_3, .ref m0]) (by rw [ex_4]) ?_
    refine va_sld hx hb hX hbl hbA hS vi_5 dL_law_426 ?_
    refine W.eq (g2 := F0 m 427 ls [.int x_6, .int x_3, .ref m0]) (by rw [ex_6]) ?_
    refine lv_aload_n hx hb dL_law_427 rfl (lv_at hl 5 rfl) ?_
    refine lv_iload hx hb dL_law_428 (lv_at hl 1 rfl) ?_
    refine lv_iconst (v := 3) hx hb dL_law_430 (by decide) ?_
    refine lv_iadd hx hb dL_law_431 ?_
    refine W.eq (g2 := F0 m 432 ls [.int x_7, .ref b, .int x_6, .int x_3, .ref m0]) (by rw [ex_7]) ?_
    refine va_sld hx hb hX hbl hbA hS vi_8 dL_law_432 ?_
    refine W.eq (g2 := F0 m 433 ls [.int x_9, .int x_6, .int x_3, .ref m0]) (by rw [ex_9]) ?_
    refine va_calli (rnV (fun H => MH E m0 rf t0 t1 t2 A cd pk H) (As := [.int x_3, .int x_6, .int x_9]) (rest := []) ⟨hx, hb, hml, hown, hts⟩ (u_X10_send l E s.heap.size Gm hGzm m0 rf hR t0 t1 t2 A cd pk x_3 x_6 x_9 hI4 hI6 hI8) (cwV 3 hts (gdV ml_L_78 im_X10_send se_X10_X10_send in_X10 co_X10_send rfl) rfl rfl rfl (by decide +kernel) ⟨Nat.le_of_ble_eq_true rfl, Nat.le_of_ble_eq_true rfl⟩) hM (fun U hU hW => hK.go hW hS hAz hU) (va_recv hK.1 (va_one hM.1) (ci := 10) (q0 := 0) rfl rfl) rfl rfl hl.1 rfl (lv_room (Nat.le_of_ble_eq_true rfl)) dL_law_433 ⟨hC2, hS2⟩) hS (fun q _ h => hGzm q h) (fun q h => hGzm q h) (fun r_22 ur_22 t H locs ht hvm hwr_22 hB hz hk hS => ?_)
    have hM : MH E m0 rf t0 t1 t2 (uA (uA (uA (uA (uA (uA (uA (uA (uA (uA (uA A 11 (ur_22.1)) 20 (ur_22.2.1)) 21 (ur_22.2.2.1)) 22 (ur_22.2.2.2.1)) 23 (ur_22.2.2.2.2.1)) 24 (ur_22.2.2.2.2.2.1)) 25 (ur_22.2.2.2.2.2.2.1)) 26 (ur_22.2.2.2.2.2.2.2.1)) 27 (ur_22.2.2.2.2.2.2.2.2.1)) 28 (ur_22.2.2.2.2.2.2.2.2.2.1)) 29 (ur_22.2.2.2.2.2.2.2.2.2.2.1)) ur_22.2.2.2.2.2.2.2.2.2.2.2 pk H := by rw [ht] at hB; exact hB
    have hDr_22 : D_X10_send A cd pk x_3 x_6 x_9 (uA (uA (uA (uA (uA (uA (uA (uA (uA (uA (uA A 11 (ur_22.1)) 20 (ur_22.2.1)) 21 (ur_22.2.2.1)) 22 (ur_22.2.2.2.1)) 23 (ur_22.2.2.2.2.1)) 24 (ur_22.2.2.2.2.2.1)) 25 (ur_22.2.2.2.2.2.2.1)) 26 (ur_22.2.2.2.2.2.2.2.1)) 27 (ur_22.2.2.2.2.2.2.2.2.1)) 28 (ur_22.2.2.2.2.2.2.2.2.2.1)) 29 (ur_22.2.2.2.2.2.2.2.2.2.2.1)) (ur_22.2.2.2.2.2.2.2.2.2.2.2) pk r_22 := hwr_22.2.2.2
    have hpr_22_0 : I4 (A 10) (ur_22.2.1) (ur_22.2.2.2.2.2.2.2.2.2.2.1) (ur_22.2.2.2.2.2.1) (ur_22.1) (A 12) (A 13) := hwr_22.1
    have hpr_22_1 : I6 (ur_22.2.2.2.1) (ur_22.2.2.2.2.1) (ur_22.2.2.2.2.2.1) (ur_22.2.2.2.2.2.2.1) (ur_22.2.2.2.2.2.2.2.1) := hwr_22.2.1
    have hpr_22_2 : I8 (ur_22.2.1) (A 30) (A 37) (A 36) := hwr_22.2.2.1
    have hT := hT.other hd2 hk
    have hro := hro.kept (hk _ hro.lt (fun h => h hGmo))
    obtain ⟨A_23, cd_23, pk_23, hM, hD, hV2⟩ : ∃ (A2 : AA) (cd2 pk2 : Int32), MH E m0 rf t0 t1 t2 A2 cd2 pk2 H ∧ D_X10_send A cd pk x_3 x_6 x_9 A2 cd2 pk2 r_22 ∧ RIV A2 pk2 := ⟨_, _, _, hM, hDr_22, ⟨⟨hI2, hI3, hpr_22_0, hI5, hpr_22_1, hI7, hpr_22_2⟩, hpk⟩⟩
    obtain ⟨hSIM, ep_23, hE_23⟩ := sx_sendC hSIM hC hD
    rw [← ep_23] at hSIM
    have hcd : cd_23 = 2 := hE_23.elim (fun h => absurd h.1 (by decide)) (fun h => h.2)
    have hV := hV2
    refine lv_istore (lv' := [(6, .int r_22), (5, .int 2), (4, .int (nI i)), (3, .ref o0), (2, .ref m0), (1, .ref x0), (0, .ref b)]) hx hb dL_law_436 hl (by decide) rfl (fun ls hl => ?_)
    refine lv_aload_n hx hb dL_law_438 rfl (lv_at hl 4 rfl) ?_
    refine va_calli (rnV (fun H => MH E m0 rf t0 t1 t2 A_23 cd_23 pk_23 H) (As := []) (rest := []) ⟨hx, hb, hml, hown, hts⟩ (u_X10_thrown l E s.heap.size Gm hGzm m0 rf hR t0 t1 t2 A_23 cd_23 pk_23 ) (cwV 0 hts (gdV ml_L_79 im_X10_thrown se_X10_X10_thrown in_X10 co_X10_thrown rfl) rfl rfl rfl (by decide +kernel) ⟨Nat.le_of_ble_eq_true rfl, Nat.le_of_ble_eq_true rfl⟩) hM (fun U hU hW => hK.go hW hS hAz hU) (va_recv hK.1 (va_one hM.1) (ci := 10) (q0 := 0) rfl rfl) rfl rfl hl.1 rfl (lv_room (Nat.le_of_ble_eq_true rfl)) dL_law_439 ⟨hC2, hS2⟩) hS (fun q _ h => h.elim) (fun q h => h.elim) (fun r_24 ur_24 t H locs ht hvm hwr_24 hB hz hk hS => ?_)
    have hM := hM.kept (fun q hq => hk q hq (fun h => h))
    have hDr_24 : D_X10_thrown A_23 cd_23 pk_23 r_24 := hwr_24.2
    have hpr_24_0 : r_24 = cd_23 := hwr_24.1
    have hT := hT.kept (fun q hq => hk q hq (fun h => h))
    have hro := hro.kept (hk _ hro.lt (fun h => h))
    obtain rfl : r_24 = 2 := hpr_24_0.trans hcd
    refine lv_iload hx hb dL_law_442 (lv_at hl 1 rfl) ?_
    refine lv_icmp_eq (tgt := 449) hx hb dL_law_444 (by decide) (fun c_25 => ?_) (fun c_25 => absurd c_25 (by decide))
    refine lv_iload hx hb dL_law_449 (lv_at hl 1 rfl) ?_
    refine lv_if_ne (tgt := 466) hx hb dL_law_451 (by decide) (fun c_26 => ?_) (fun c_26 => absurd c_26 (by decide))
    refine lv_goto (tgt := 971) hx hb dL_law_466 (by decide) ?_
    refine W.widen (k := C + 2) (n := S + 12) (by omega) (by omega) ?_
    exact key _ _ _ ⟨B, R, A_23, cd_23, pk_23, hT, hW, hM, hSIM, hV, ⟨_, hro⟩, hS⟩ (lv_sub hl [2, 3, 4, 5, 6] rfl)
set_option maxHeartbeats 8000000 in
set_option maxRecDepth 100000 in
theorem lk_6 {p : Program} {l : Launch} {e : Env} {s : State} {m : MethodId} {below : List Frame} {meth : Method} {c : Code} {b L i C S : Nat} {xs : Nat → Int32} {E : EE} {Gc Gm : Nat → Nat} {x0 m0 o0 : Nat} {rf : Nat → Nat} {t0 t1 t2 : Int32} {H : Heap} {locs : List Loc} {ls : Array Slot} (hst : l.stackTraces = false) (C0 : lw_At p s m meth c b L xs) (hLB : L ≤ 3587) (hK : KS E s.heap.size s) (hN : NC s) (F9 : LF s Gc Gm x0 m0 o0 rf t0) (hi : i + 7 ≤ L) (hC : C + 2 ≤ 621377) (hSl : S + 12 ≤ 7231939) (hI : LI E s Gc x0 m0 o0 rf t0 t1 t2 H locs) (hl : lv_has ls 7 [(4, .int (nI i)), (3, .ref o0), (2, .ref m0), (1, .ref x0), (0, .ref b)]) (key : ∀ (H : Heap) (locs : List Loc) (ls : Array Slot), LI E s Gc x0 m0 o0 rf t0 t1 t2 H locs → lv_has ls 7 [(4, .int (nI i)), (3, .ref o0), (2, .ref m0), (1, .ref x0), (0, .ref b)] → W p l e room_1 s m #[Value.ref b] below meth c H locs (C + 2) (S + 12) (lw_Z below #[Value.ref b] s) (F0 m 971 ls [])) : W p l e room_1 s m #[Value.ref b] below meth c H locs C S (lw_Z below #[Value.ref b] s) (F0 m 469 ls []) := by
  obtain ⟨hx, hb, hr, hml, hown, hts0, hX, hbl, hlocks, hgv⟩ := id C0
  obtain ⟨hxc, hR, hGzc, hGzm, hd, hGco, hGmo, hoz, h2t⟩ := F9
  have hd2 : ∀ a, Gc a ≠ 0 → Gm a = 0 := fun a h => Decidable.byContradiction fun q => h (hd a q)
  have hts : ∀ w ∈ TS, w.before #[Value.ref b] s = true := fun w hw => hts0 w (List.mem_filter.mp hw).1
  have hbA : ¬ (fun q : Nat => s.heap.size ≤ q) b := Nat.not_le.mpr hbl
  have hAz : ∀ q, (fun q : Nat => s.heap.size ≤ q) q → s.heap.size ≤ q := fun q h => h
  have hC0 : C + 0 ≤ room_1.cells := (show C + 0 ≤ 621377 by omega)
  have hS0 : S + 0 ≤ room_1.slots := (show S + 0 ≤ 7231939 by omega)
  have hC2 : C + 2 ≤ room_1.cells := (show C + 2 ≤ 621377 by omega)
  have hS2 : S + 12 ≤ room_1.slots := (show S + 12 ≤ 7231939 by omega)
  have hiI : (nI i).toInt = (i : Int) := nI_toInt (by omega)
  obtain ⟨B, R, A, cd, pk, hT, hW, hM, hSIM, hV, ⟨fo, hro⟩, hS⟩ := hI
  obtain ⟨hI2, hI3, hI4, hI5, hI6, hI7, hI8, hpk⟩ := hV.c3
  refine lv_aload_n hx hb dL_law_469 rfl (lv_at hl 3 rfl) ?_
  refine lv_aload_n hx hb dL_law_470 rfl (lv_at hl 4 rfl) ?_
  refine lv_iload hx hb dL_law_471 (lv_at hl 0 rfl) ?_
  refine lv_iconst (v := 1) hx hb dL_law_473 (by decide) ?_
  refine lv_iadd hx hb dL_law_474 ?_
  refine lv_topi (fun x_1 ex_1 => ?_)
  have fx_1 : x_1.toInt = (i : Int) + 1 := by have h9 := s_add (x := nI i) (y := 1) (by rw [hiI, i_1]; omega) (by rw [hiI, i_1]; omega); rw [hiI, i_1] at h9; rw [ex_1]; exact h9
  have vi_2 : vp_in x_1 L := vp_in_iff.mpr (by omega)
  refine va_sld hx hb hX hbl hbA hS vi_2 dL_law_475 ?_
  refine lv_topi (fun x_3 ex_3 => ?_)
  refine lv_aload_n hx hb dL_law_476 rfl (lv_at hl 4 rfl) ?_
  refine lv_iload hx hb dL_law_477 (lv_at hl 0 rfl) ?_
  refine lv_iconst (v := 2) hx hb dL_law_479 (by decide) ?_
  refine lv_iadd hx hb dL_law_480 ?_
  refine lv_topi (fun x_4 ex_4 => ?_)
  have fx_4 : x_4.toInt = (i : Int) + 2 := by have h9 := s_add (x := nI i) (y := 2) (by rw [hiI, i_2]; omega) (by rw [hiI, i_2]; omega); rw [hiI, i_2] at h9; rw [ex_4]; exact h9
  have vi_5 : vp_in x_4 L := vp_in_iff.mpr (by omega)
  refine va_sld hx hb hX hbl hbA hS vi_5 dL_law_481 ?_
  refine lv_topi (fun x_6 ex_6 => ?_)
  refine W.jv (P := fun v_7 : Int32 => v_7 = if x_6.toInt = 0 then 0 else 1) (f := fun v_7 => F0 m 490 ls ([.int v_7, .int x_3, .ref x0])) (fun v_7 hv_7 => ?_) (fun key_7 => ?_)
  · have hv_7 : v_7 = if x_6.toInt = 0 then 0 else 1 := hv_7
    refine lv_aload_n hx hb dL_law_490 rfl (lv_at hl 4 rfl) ?_
    refine lv_iload hx hb dL_law_491 (lv_at hl 0 rfl) ?_
    refine lv_iconst (v := 3) hx hb dL_law_493 (by decide) ?_
    refine lv_iadd hx hb dL_law_494 ?_
    refine lv_topi (fun x_8 ex_8 => ?_)
    have fx_8 : x_8.toInt = (i : Int) + 3 := by have h9 := s_add (x := nI i) (y := 3) (by rw [hiI, i_3]; omega) (by rw [hiI, i_3]; omega); rw [hiI, i_3] at h9; rw [ex_8]; exact h9
    have vi_9 : vp_in x_8 L := vp_in_iff.mpr (by omega)
    refine va_sld hx hb hX hbl hbA hS vi_9 dL_law_495 ?_
    refine lv_topi (fun x_10 ex_10 => ?_)
    refine lv_aload_n hx hb dL_law_496 rfl (lv_at hl 4 rfl) ?_
    refine lv_iload hx hb dL_law_497 (lv_at hl 0 rfl) ?_
    refine lv_iconst (v := 4) hx hb dL_law_499 (by decide) ?_
    refine lv_iadd hx hb dL_law_500 ?_
    refine lv_topi (fun x_11 ex_11 => ?_)
    have fx_11 : x_11.toInt = (i : Int) + 4 := by have h9 := s_add (x := nI i) (y := 4) (by rw [hiI, i_4]; omega) (by rw [hiI, i_4]; omega); rw [hiI, i_4] at h9; rw [ex_11]; exact h9
    have vi_12 : vp_in x_11 L := vp_in_iff.mpr (by omega)
    refine va_sld hx hb hX hbl hbA hS vi_12 dL_law_501 ?_
    refine lv_topi (fun x_13 ex_13 => ?_)
    refine lv_aload_n hx hb dL_law_502 rfl (lv_at hl 4 rfl) ?_
    refine lv_iload hx hb dL_law_503 (lv_at hl 0 rfl) ?_
    refine lv_iconst (v := 5) hx hb dL_law_505 (by decide) ?_
    refine lv_iadd hx hb dL_law_506 ?_
    refine lv_topi (fun x_14 ex_14 => ?_)
    have fx_14 : x_14.toInt = (i : Int) + 5 := by have h9 := s_add (x := nI i) (y := 5) (by rw [hiI, i_5]; omega) (by rw [hiI, i_5]; omega); rw [hiI, i_5] at h9; rw [ex_14]; exact h9
    have vi_15 : vp_in x_14 L := vp_in_iff.mpr (by omega)
    refine va_sld hx hb hX hbl hbA hS vi_15 dL_law_507 ?_
    refine lv_topi (fun x_16 ex_16 => ?_)
    refine lv_aload_n hx hb dL_law_508 rfl (lv_at hl 4 rfl) ?_
    refine lv_iload hx hb dL_law_509 (lv_at hl 0 rfl) ?_
    refine lv_bipush (v := 6) hx hb dL_law_511 (by decide) ?_
    refine lv_iadd hx hb dL_law_513 ?_
    refine lv_topi (fun x_17 ex_17 => ?_)
    have fx_17 : x_17.toInt = (i : Int) + 6 := by have h9 := s_add (x := nI i) (y := 6) (by rw [hiI, i_6]; omega) (by rw [hiI, i_6]; omega); rw [hiI, i_6] at h9; rw [ex_17]; exact h9
    have vi_18 : vp_in x_17 L := vp_in_iff.mpr (by omega)
    refine va_sld hx hb hX hbl hbA hS vi_18 dL_law_514 ?_
    refine lv_topi (fun x_19 ex_19 => ?_)
    refine lv_aload_n hx hb dL_law_515 rfl (lv_at hl 1 rfl) ?_
    refine va_calli (vx_runSW (hh := [(0, 18, 21, 13), (0, 18, 25, 22)]) (As := [.ref x0, .int x_3, .int v_7, .int x_10, .int x_13, .int x_16, .int x_19, .ref o0]) (rest := []) ⟨hx, hb, hml, hown, hts⟩ (w_L_move l hst E s.heap.size Gc hGzc B R hW x0 x_3 v_7 x_10 x_13 x_16 x_19 o0 hxc hGco hoz) (vx_cwSW 8 hts (gdW ml_L_83 st_L_move in_L co_L_move rfl) rfl rfl rfl (by decide +kernel) ⟨Nat.le_of_ble_eq_true rfl, Nat.le_of_ble_eq_true rfl⟩) ⟨fun a U g mk q => ⟨q.1, q.2.1, KS.calling q.2.2.1, NC.vm q.2.2.2 rfl⟩, fun U hU hW => ⟨rfl, by rw [hU]; exact ⟨hT, _, hro⟩, hK.go hW hS hAz hU, hN.go hW⟩⟩ rfl rfl hl.1 rfl (lv_room (Nat.le_of_ble_eq_true rfl)) dL_law_516 ⟨hC2, hS2⟩) hS (fun q _ h => h.elim (fun h => hGzc q (zn (L := [9, 11, 13]) (by decide) h)) (fun e => by rw [e]; exact hoz)) (fun q h => h.elim (fun h => hGzc q (zn (L := [9, 11, 13]) (by decide) h)) (fun e => by rw [e]; exact hoz)) (fun r_20 u_20 t H locs ht9 hvm hwr_20 hB hz hk hS => ?_)
    rw [ht9] at hB
    obtain ⟨Z_20, y_20, f_20⟩ := u_20
    obtain ⟨hT, fo_20, hfo_20, hro2⟩ := hB
    have hro := hro2
    have hM := hM.away hR (fun q hq hg => hk q hq (fun h => h.elim (fun h => zn (L := [9, 11, 13]) (by decide) h (hd q hg)) (fun h => hg (by rw [h]; exact hGmo))))
    have hT : TX E Gc Z_20 R H := hT
    rcases hwr_20 with ⟨rfl, hW2, hF2, hC, ef_20⟩ | ⟨rfl, eB, hC⟩ | ⟨rfl, eB, hC⟩
    · have hW : TW Gc Z_20 R := hW2
      have hC : C_X9_move Gc B R x0 x_3 v_7 x_10 x_13 x_16 x_19 Z_20 y_20 := hC
      have hfo : fo_20 0 = y_20.toInt64 := hfo_20.trans ef_20
      refine lv_istore (lv' := [(5, .int 0), (4, .int (nI i)), (3, .ref o0), (2, .ref m0), (1, .ref x0), (0, .ref b)]) hx hb dL_law_519 hl (by decide) rfl (fun ls hl => ?_)
      refine lv_aload_n hx hb dL_law_521 rfl (lv_at hl 3 rfl) ?_
      refine lv_aload_n hx hb dL_law_522 rfl (lv_at hl 5 rfl) ?_
      refine lv_iload hx hb dL_law_523 (lv_at hl 1 rfl) ?_
      refine lv_iconst (v := 1) hx hb dL_law_525 (by decide) ?_
      refine lv_iadd hx hb dL_law_526 ?_
      refine W.eq (g2 := F0 m 527 ls [.int x_1, .ref b, .ref m0]) (by rw [ex_1]) ?_
      refine va_sld hx hb hX hbl hbA hS vi_2 dL_law_527 ?_
      refine W.eq (g2 := F0 m 528 ls [.int x_3, .ref m0]) (by rw [ex_3]) ?_
      refine lv_aload_n hx hb dL_law_528 rfl (lv_at hl 5 rfl) ?_
      refine lv_iload hx hb dL_law_529 (lv_at hl 1 rfl) ?_
      refine lv_iconst (v := 2) hx hb dL_law_531 (by decide) ?_
      refine lv_iadd hx hb dL_law_532 ?_
      refine W.eq (g2 := F0 m 533 ls [.int x_4, .ref b, .int x_3, .ref m0]) (by rw [ex_4]) ?_
      refine va_sld hx hb hX hbl hbA hS vi_5 dL_law_533 ?_
      refine W.eq (g2 := F0 m 534 ls [.int x_6, .int x_3, .ref m0]) (by rw [ex_6]) ?_
      refine W.jv (P := fun v_21 : Int32 => v_21 = if x_6.toInt = 0 then 0 else 1) (f := fun v_21 => F0 m 542 ls ([.int v_21, .int x_3, .ref m0])) (fun v_21 hv_21 => ?_) (fun key_21 => ?_)
      · have hv_21 : v_21 = if x_6.toInt = 0 then 0 else 1 := hv_21
        have ev_21 : v_21 = v_7 := hv_21.trans hv_7.symm
        subst ev_21
        refine lv_aload_n hx hb dL_law_542 rfl (lv_at hl 5 rfl) ?_
        refine lv_iload hx hb dL_law_543 (lv_at hl 1 rfl) ?_
        refine lv_iconst (v := 3) hx hb dL_law_545 (by decide) ?_
        refine lv_iadd hx hb dL_law_546 ?_
        refine W.eq (g2 := F0 m 547 ls [.int x_8, .ref b, .int v_21, .int x_3, .ref m0]) (by rw [ex_8]) ?_
        refine va_sld hx hb hX hbl hbA hS vi_9 dL_law_547 ?_
        refine W.eq (g2 := F0 m 548 ls [.int x_10, .int v_21, .int x_3, .ref m0]) (by rw [ex_10]) ?_
        refine lv_aload_n hx hb dL_law_548 rfl (lv_at hl 5 rfl) ?_
        refine lv_iload hx hb dL_law_549 (lv_at hl 1 rfl) ?_
        refine lv_iconst (v := 4) hx hb dL_law_551 (by decide) ?_
        refine lv_iadd hx hb dL_law_552 ?_
        refine W.eq (g2 := F0 m 553 ls [.int x_11, .ref b, .int x_10, .int v_21, .int x_3, .ref m0]) (by rw [ex_11]) ?_
        refine va_sld hx hb hX hbl hbA hS vi_12 dL_law_553 ?_
        refine W.eq (g2 := F0 m 554 ls [.int x_13, .int x_10, .int v_21, .int x_3, .ref m0]) (by rw [ex_13]) ?_
        refine lv_aload_n hx hb dL_law_554 rfl (lv_at hl 5 rfl) ?_
        refine lv_iload hx hb dL_law_555 (lv_at hl 1 rfl) ?_
        refine lv_iconst (v := 5) hx hb dL_law_557 (by decide) ?_
        refine lv_iadd hx hb dL_law_558 ?_
        refine W.eq (g2 := F0 m 559 ls [.int x_14, .ref b, .int x_13, .int x_10, .int v_21, .int x_3, .ref m0]) (by rw [ex_14]) ?_
        refine va_sld hx hb hX hbl hbA hS vi_15 dL_law_559 ?_
        refine W.eq (g2 := F0 m 560 ls [.int x_16, .int x_13, .int x_10, .int v_21, .int x_3, .ref m0]) (by rw [ex_16]) ?_
        refine lv_aload_n hx hb dL_law_560 rfl (lv_at hl 5 rfl) ?_
        refine lv_iload hx hb dL_law_561 (lv_at hl 1 rfl) ?_
        refine lv_bipush (v := 6) hx hb dL_law_563 (by decide) ?_
        refine lv_iadd hx hb dL_law_565 ?_
        refine W.eq (g2 := F0 m 566 ls [.int x_17, .ref b, .int x_16, .int x_13, .int x_10, .int v_21, .int x_3, .ref m0]) (by rw [ex_17]) ?_
        refine va_sld hx hb hX hbl hbA hS vi_18 dL_law_566 ?_
        refine W.eq (g2 := F0 m 567 ls [.int x_19, .int x_16, .int x_13, .int x_10, .int v_21, .int x_3, .ref m0]) (by rw [ex_19]) ?_
        refine va_calli (rnV (fun H => MH E m0 rf t0 t1 t2 A cd pk H) (As := [.int x_3, .int v_21, .int x_10, .int x_13, .int x_16, .int x_19]) (rest := []) ⟨hx, hb, hml, hown, hts⟩ (u_X10_move l E s.heap.size Gm hGzm m0 rf hR t0 t1 t2 A cd pk x_3 v_21 x_10 x_13 x_16 x_19 hI4 hI6 hI8) (cwV 6 hts (gdV ml_L_86 im_X10_move se_X10_X10_move in_X10 co_X10_move rfl) rfl rfl rfl (by decide +kernel) ⟨Nat.le_of_ble_eq_true rfl, Nat.le_of_ble_eq_true rfl⟩) hM (fun U hU hW => hK.go hW hS hAz hU) (va_recv hK.1 (va_one hM.1) (ci := 10) (q0 := 0) rfl rfl) rfl rfl hl.1 rfl (lv_room (Nat.le_of_ble_eq_true rfl)) dL_law_567 ⟨hC2, hS2⟩) hS (fun q _ h => hGzm q h) (fun q h => hGzm q h) (fun r_22 ur_22 t H locs ht hvm hwr_22 hB hz hk hS => ?_)
        have hM : MH E m0 rf t0 t1 t2 (uA (uA (uA (uA (uA (uA (uA (uA (uA (uA (uA A 11 (ur_22.1)) 20 (ur_22.2.1)) 21 (ur_22.2.2.1)) 22 (ur_22.2.2.2.1)) 23 (ur_22.2.2.2.2.1)) 24 (ur_22.2.2.2.2.2.1)) 25 (ur_22.2.2.2.2.2.2.1)) 26 (ur_22.2.2.2.2.2.2.2.1)) 27 (ur_22.2.2.2.2.2.2.2.2.1)) 28 (ur_22.2.2.2.2.2.2.2.2.2.1)) 29 (ur_22.2.2.2.2.2.2.2.2.2.2.1)) ur_22.2.2.2.2.2.2.2.2.2.2.2 pk H := by rw [ht] at hB; exact hB
        have hDr_22 : D_X10_move A cd pk x_3 v_21 x_10 x_13 x_16 x_19 (uA (uA (uA (uA (uA (uA (uA (uA (uA (uA (uA A 11 (ur_22.1)) 20 (ur_22.2.1)) 21 (ur_22.2.2.1)) 22 (ur_22.2.2.2.1)) 23 (ur_22.2.2.2.2.1)) 24 (ur_22.2.2.2.2.2.1)) 25 (ur_22.2.2.2.2.2.2.1)) 26 (ur_22.2.2.2.2.2.2.2.1)) 27 (ur_22.2.2.2.2.2.2.2.2.1)) 28 (ur_22.2.2.2.2.2.2.2.2.2.1)) 29 (ur_22.2.2.2.2.2.2.2.2.2.2.1)) (ur_22.2.2.2.2.2.2.2.2.2.2.2) pk r_22 := hwr_22.2.2.2
        have hpr_22_0 : I4 (A 10) (ur_22.2.1) (ur_22.2.2.2.2.2.2.2.2.2.2.1) (ur_22.2.2.2.2.2.1) (ur_22.1) (A 12) (A 13) := hwr_22.1
        have hpr_22_1 : I6 (ur_22.2.2.2.1) (ur_22.2.2.2.2.1) (ur_22.2.2.2.2.2.1) (ur_22.2.2.2.2.2.2.1) (ur_22.2.2.2.2.2.2.2.1) := hwr_22.2.1
        have hpr_22_2 : I8 (ur_22.2.1) (A 30) (A 37) (A 36) := hwr_22.2.2.1
        have hT := hT.other hd2 hk
        have hro := hro.kept (hk _ hro.lt (fun h => h hGmo))
        obtain ⟨A_23, cd_23, pk_23, hM, hD, hV2⟩ : ∃ (A2 : AA) (cd2 pk2 : Int32), MH E m0 rf t0 t1 t2 A2 cd2 pk2 H ∧ D_X10_move A cd pk x_3 v_21 x_10 x_13 x_16 x_19 A2 cd2 pk2 r_22 ∧ RIV A2 pk2 := ⟨_, _, _, hM, hDr_22, ⟨⟨hI2, hI3, hpr_22_0, hI5, hpr_22_1, hI7, hpr_22_2⟩, hpk⟩⟩
        have hs_23 := s_moveC hSIM hV hC hD
        obtain ⟨hSIM, ep_23, hcd, er_23⟩ := hs_23
        rw [← ep_23] at hSIM
        have hV := hV2
        obtain rfl := er_23
        refine lv_istore (lv' := [(6, .int y_20), (5, .int 0), (4, .int (nI i)), (3, .ref o0), (2, .ref m0), (1, .ref x0), (0, .ref b)]) hx hb dL_law_570 hl (by decide) rfl (fun ls hl => ?_)
        refine lv_goto (tgt := 971) hx hb dL_law_572 (by decide) ?_
        refine W.widen (k := C + 2) (n := S + 12) (by omega) (by omega) ?_
        exact key _ _ _ ⟨Z_20, R, A_23, cd_23, pk_23, hT, hW, hM, hSIM, hV, ⟨_, hro⟩, hS⟩ (lv_sub hl [2, 3, 4, 5, 6] rfl)
      · refine lv_if_eq (tgt := 541) hx hb dL_law_534 (by decide) (fun c_24 => ?_) (fun c_24 => ?_)
        · simp only [lt_I, le_I, eq_I, i_0, i_1, i_2, i_3, i_4, i_5, i_6, i_7, i_8, i_10, i_12, i_16, i_20, i_23, i_24, i_31, i_32, i_63, i_64, i_m1, i_9, i_11, i_13, i_25, i_60, i_75, i_79, i_80, i_96, i_100] at c_24
          refine lv_iconst (v := 0) hx hb dL_law_541 (by decide) ?_
          exact key_21 0 (by first | rw [if_pos (by omega)] | rw [if_neg (by omega)])
        · simp only [lt_I, le_I, eq_I, i_0, i_1, i_2, i_3, i_4, i_5, i_6, i_7, i_8, i_10, i_12, i_16, i_20, i_23, i_24, i_31, i_32, i_63, i_64, i_m1, i_9, i_11, i_13, i_25, i_60, i_75, i_79, i_80, i_96, i_100] at c_24
          refine lv_iconst (v := 1) hx hb dL_law_537 (by decide) ?_
          refine lv_goto (tgt := 542) hx hb dL_law_538 (by decide) ?_
          exact key_21 1 (by first | rw [if_pos (by omega)] | rw [if_neg (by omega)])
    · have eB : Z_20 = B := eB
      rw [eB] at hT
      have hC : X_X9_move Gc B R x0 x_3 v_7 x_10 x_13 x_16 x_19 IAE := hC
      refine lv_istore (lv' := [(5, .int 1), (4, .int (nI i)), (3, .ref o0), (2, .ref m0), (1, .ref x0), (0, .ref b)]) hx hb dL_law_519 hl (by decide) rfl (fun ls hl => ?_)
      refine lv_aload_n hx hb dL_law_521 rfl (lv_at hl 3 rfl) ?_
      refine lv_aload_n hx hb dL_law_522 rfl (lv_at hl 5 rfl) ?_
      refine lv_iload hx hb dL_law_523 (lv_at hl 1 rfl) ?_
      refine lv_iconst (v := 1) hx hb dL_law_525 (by decide) ?_
      refine lv_iadd hx hb dL_law_526 ?_
      refine W.eq (g2 := F0 m 527 ls [.int x_1, .ref b, .ref m0]) (by rw [ex_1]) ?_
      refine va_sld hx hb hX hbl hbA hS vi_2 dL_law_527 ?_
      refine W.eq (g2 := F0 m 528 ls [.int x_3, .ref m0]) (by rw [ex_3]) ?_
      refine lv_aload_n hx hb dL_law_528 rfl (lv_at hl 5 rfl) ?_
      refine lv_iload hx hb dL_law_529 (lv_at hl 1 rfl) ?_
      refine lv_iconst (v := 2) hx hb dL_law_531 (by decide) ?_
      refine lv_iadd hx hb dL_law_532 ?_
      refine W.eq (g2 := F0 m 533 ls [.int x_4, .ref b, .int x_3, .ref m0]) (by rw [ex_4]) ?_
      refine va_sld hx hb hX hbl hbA hS vi_5 dL_law_533 ?_
      refine W.eq (g2 := F0 m 534 ls [.int x_6, .int x_3, .ref m0]) (by rw [ex_6]) ?_
      refine W.jv (P := fun v_25 : Int32 => v_25 = if x_6.toInt = 0 then 0 else 1) (f := fun v_25 => F0 m 542 ls ([.int v_25, .int x_3, .ref m0])) (fun v_25 hv_25 => ?_) (fun key_25 => ?_)
      · have hv_25 : v_25 = if x_6.toInt = 0 then 0 else 1 := hv_25
        have ev_25 : v_25 = v_7 := hv_25.trans hv_7.symm
        subst ev_25
        refine lv_aload_n hx hb dL_law_542 rfl (lv_at hl 5 rfl) ?_
        refine lv_iload hx hb dL_law_543 (lv_at hl 1 rfl) ?_
        refine lv_iconst (v := 3) hx hb dL_law_545 (by decide) ?_
        refine lv_iadd hx hb dL_law_546 ?_
        refine W.eq (g2 := F0 m 547 ls [.int x_8, .ref b, .int v_25, .int x_3, .ref m0]) (by rw [ex_8]) ?_
        refine va_sld hx hb hX hbl hbA hS vi_9 dL_law_547 ?_
        refine W.eq (g2 := F0 m 548 ls [.int x_10, .int v_25, .int x_3, .ref m0]) (by rw [ex_10]) ?_
        refine lv_aload_n hx hb dL_law_548 rfl (lv_at hl 5 rfl) ?_
        refine lv_iload hx hb dL_law_549 (lv_at hl 1 rfl) ?_
        refine lv_iconst (v := 4) hx hb dL_law_551 (by decide) ?_
        refine lv_iadd hx hb dL_law_552 ?_
        refine W.eq (g2 := F0 m 553 ls [.int x_11, .ref b, .int x_10, .int v_25, .int x_3, .ref m0]) (by rw [ex_11]) ?_
        refine va_sld hx hb hX hbl hbA hS vi_12 dL_law_553 ?_
        refine W.eq (g2 := F0 m 554 ls [.int x_13, .int x_10, .int v_25, .int x_3, .ref m0]) (by rw [ex_13]) ?_
        refine lv_aload_n hx hb dL_law_554 rfl (lv_at hl 5 rfl) ?_
        refine lv_iload hx hb dL_law_555 (lv_at hl 1 rfl) ?_
        refine lv_iconst (v := 5) hx hb dL_law_557 (by decide) ?_
        refine lv_iadd hx hb dL_law_558 ?_
        refine W.eq (g2 := F0 m 559 ls [.int x_14, .ref b, .int x_13, .int x_10, .int v_25, .int x_3, .ref m0]) (by rw [ex_14]) ?_
        refine va_sld hx hb hX hbl hbA hS vi_15 dL_law_559 ?_
        refine W.eq (g2 := F0 m 560 ls [.int x_16, .int x_13, .int x_10, .int v_25, .int x_3, .ref m0]) (by rw [ex_16]) ?_
        refine lv_aload_n hx hb dL_law_560 rfl (lv_at hl 5 rfl) ?_
        refine lv_iload hx hb dL_law_561 (lv_at hl 1 rfl) ?_
        refine lv_bipush (v := 6) hx hb dL_law_563 (by decide) ?_
        refine lv_iadd hx hb dL_law_565 ?_
        refine W.eq (g2 := F0 m 566 ls [.int x_17, .ref b, .int x_16, .int x_13, .int x_10, .int v_25, .int x_3, .ref m0]) (by rw [ex_17]) ?_
        refine va_sld hx hb hX hbl hbA hS vi_18 dL_law_566 ?_
        refine W.eq (g2 := F0 m 567 ls [.int x_19, .int x_16, .int x_13, .int x_10, .int v_25, .int x_3, .ref m0]) (by rw [ex_19]) ?_
        refine va_calli (rnV (fun H => MH E m0 rf t0 t1 t2 A cd pk H) (As := [.int x_3, .int v_25, .int x_10, .int x_13, .int x_16, .int x_19]) (rest := []) ⟨hx, hb, hml, hown, hts⟩ (u_X10_move l E s.heap.size Gm hGzm m0 rf hR t0 t1 t2 A cd pk x_3 v_25 x_10 x_13 x_16 x_19 hI4 hI6 hI8) (cwV 6 hts (gdV ml_L_86 im_X10_move se_X10_X10_move in_X10 co_X10_move rfl) rfl rfl rfl (by decide +kernel) ⟨Nat.le_of_ble_eq_true rfl, Nat.le_of_ble_eq_true rfl⟩) hM (fun U hU hW => hK.go hW hS hAz hU) (va_recv hK.1 (va_one hM.1) (ci := 10) (q0 := 0) rfl rfl) rfl rfl hl.1 rfl (lv_room (Nat.le_of_ble_eq_true rfl)) dL_law_567 ⟨hC2, hS2⟩) hS (fun q _ h => hGzm q h) (fun q h => hGzm q h) (fun r_26 ur_26 t H locs ht hvm hwr_26 hB hz hk hS => ?_)
        have hM : MH E m0 rf t0 t1 t2 (uA (uA (uA (uA (uA (uA (uA (uA (uA (uA (uA A 11 (ur_26.1)) 20 (ur_26.2.1)) 21 (ur_26.2.2.1)) 22 (ur_26.2.2.2.1)) 23 (ur_26.2.2.2.2.1)) 24 (ur_26.2.2.2.2.2.1)) 25 (ur_26.2.2.2.2.2.2.1)) 26 (ur_26.2.2.2.2.2.2.2.1)) 27 (ur_26.2.2.2.2.2.2.2.2.1)) 28 (ur_26.2.2.2.2.2.2.2.2.2.1)) 29 (ur_26.2.2.2.2.2.2.2.2.2.2.1)) ur_26.2.2.2.2.2.2.2.2.2.2.2 pk H := by rw [ht] at hB; exact hB
        have hDr_26 : D_X10_move A cd pk x_3 v_25 x_10 x_13 x_16 x_19 (uA (uA (uA (uA (uA (uA (uA (uA (uA (uA (uA A 11 (ur_26.1)) 20 (ur_26.2.1)) 21 (ur_26.2.2.1)) 22 (ur_26.2.2.2.1)) 23 (ur_26.2.2.2.2.1)) 24 (ur_26.2.2.2.2.2.1)) 25 (ur_26.2.2.2.2.2.2.1)) 26 (ur_26.2.2.2.2.2.2.2.1)) 27 (ur_26.2.2.2.2.2.2.2.2.1)) 28 (ur_26.2.2.2.2.2.2.2.2.2.1)) 29 (ur_26.2.2.2.2.2.2.2.2.2.2.1)) (ur_26.2.2.2.2.2.2.2.2.2.2.2) pk r_26 := hwr_26.2.2.2
        have hpr_26_0 : I4 (A 10) (ur_26.2.1) (ur_26.2.2.2.2.2.2.2.2.2.2.1) (ur_26.2.2.2.2.2.1) (ur_26.1) (A 12) (A 13) := hwr_26.1
        have hpr_26_1 : I6 (ur_26.2.2.2.1) (ur_26.2.2.2.2.1) (ur_26.2.2.2.2.2.1) (ur_26.2.2.2.2.2.2.1) (ur_26.2.2.2.2.2.2.2.1) := hwr_26.2.1
        have hpr_26_2 : I8 (ur_26.2.1) (A 30) (A 37) (A 36) := hwr_26.2.2.1
        have hT := hT.other hd2 hk
        have hro := hro.kept (hk _ hro.lt (fun h => h hGmo))
        obtain ⟨A_27, cd_27, pk_27, hM, hD, hV2⟩ : ∃ (A2 : AA) (cd2 pk2 : Int32), MH E m0 rf t0 t1 t2 A2 cd2 pk2 H ∧ D_X10_move A cd pk x_3 v_25 x_10 x_13 x_16 x_19 A2 cd2 pk2 r_26 ∧ RIV A2 pk2 := ⟨_, _, _, hM, hDr_26, ⟨⟨hI2, hI3, hpr_26_0, hI5, hpr_26_1, hI7, hpr_26_2⟩, hpk⟩⟩
        obtain ⟨hSIM, ep_27, hE_27⟩ := sx_moveC hSIM hC hD
        rw [← ep_27] at hSIM
        have hcd : cd_27 = 1 := hE_27.elim (fun h => h.2) (fun h => absurd h.1 (by decide))
        have hV := hV2
        refine lv_istore (lv' := [(6, .int r_26), (5, .int 1), (4, .int (nI i)), (3, .ref o0), (2, .ref m0), (1, .ref x0), (0, .ref b)]) hx hb dL_law_570 hl (by decide) rfl (fun ls hl => ?_)
        refine lv_goto (tgt := 971) hx hb dL_law_572 (by decide) ?_
        refine W.widen (k := C + 2) (n := S + 12) (by omega) (by omega) ?_
        exact key _ _ _ ⟨B, R, A_27, cd_27, pk_27, hT, hW, hM, hSIM, hV, ⟨_, hro⟩, hS⟩ (lv_sub hl [2, 3, 4, 5, 6] rfl)
      · refine lv_if_eq (tgt := 541) hx hb dL_law_534 (by decide) (fun c_28 => ?_) (fun c_28 => ?_)
        · simp only [lt_I, le_I, eq_I, i_0, i_1, i_2, i_3, i_4, i_5, i_6, i_7, i_8, i_10, i_12, i_16, i_20, i_23, i_24, i_31, i_32, i_63, i_64, i_m1, i_9, i_11, i_13, i_25, i_60, i_75, i_79, i_80, i_96, i_100] at c_28
          refine lv_iconst (v := 0) hx hb dL_law_541 (by decide) ?_
          exact key_25 0 (by first | rw [if_pos (by omega)] | rw [if_neg (by omega)])
        · simp only [lt_I, le_I, eq_I, i_0, i_1, i_2, i_3, i_4, i_5, i_6, i_7, i_8, i_10, i_12, i_16, i_20, i_23, i_24, i_31, i_32, i_63, i_64, i_m1, i_9, i_11, i_13, i_25, i_60, i_75, i_79, i_80, i_96, i_100] at c_28
          refine lv_iconst (v := 1) hx hb dL_law_537 (by decide) ?_
          refine lv_goto (tgt := 542) hx hb dL_law_538 (by decide) ?_
          exact key_25 1 (by first | rw [if_pos (by omega)] | rw [if_neg (by omega)])
    · have eB : Z_20 = B := eB
      rw [eB] at hT
      have hC : X_X9_move Gc B R x0 x_3 v_7 x_10 x_13 x_16 x_19 ISE := hC
      refine lv_istore (lv' := [(5, .int 2), (4, .int (nI i)), (3, .ref o0), (2, .ref m0), (1, .ref x0), (0, .ref b)]) hx hb dL_law_519 hl (by decide) rfl (fun ls hl => ?_)
      refine lv_aload_n hx hb dL_law_521 rfl (lv_at hl 3 rfl) ?_
      refine lv_aload_n hx hb dL_law_522 rfl (lv_at hl 5 rfl) ?_
      refine lv_iload hx hb dL_law_523 (lv_at hl 1 rfl) ?_
      refine lv_iconst (v := 1) hx hb dL_law_525 (by decide) ?_
      refine lv_iadd hx hb dL_law_526 ?_
      refine W.eq (g2 := F0 m 527 ls [.int x_1, .ref b, .ref m0]) (by rw [ex_1]) ?_
      refine va_sld hx hb hX hbl hbA hS vi_2 dL_law_527 ?_
      refine W.eq (g2 := F0 m 528 ls [.int x_3, .ref m0]) (by rw [ex_3]) ?_
      refine lv_aload_n hx hb dL_law_528 rfl (lv_at hl 5 rfl) ?_
      refine lv_iload hx hb dL_law_529 (lv_at hl 1 rfl) ?_
      refine lv_iconst (v := 2) hx hb dL_law_531 (by decide) ?_
      refine lv_iadd hx hb dL_law_532 ?_
      refine W.eq (g2 := F0 m 533 ls [.int x_4, .ref b, .int x_3, .ref m0]) (by rw [ex_4]) ?_
      refine va_sld hx hb hX hbl hbA hS vi_5 dL_law_533 ?_
      refine W.eq (g2 := F0 m 534 ls [.int x_6, .int x_3, .ref m0]) (by rw [ex_6]) ?_
      refine W.jv (P := fun v_29 : Int32 => v_29 = if x_6.toInt = 0 then 0 else 1) (f := fun v_29 => F0 m 542 ls ([.int v_29, .int x_3, .ref m0])) (fun v_29 hv_29 => ?_) (fun key_29 => ?_)
      · have hv_29 : v_29 = if x_6.toInt = 0 then 0 else 1 := hv_29
        have ev_29 : v_29 = v_7 := hv_29.trans hv_7.symm
        subst ev_29
        refine lv_aload_n hx hb dL_law_542 rfl (lv_at hl 5 rfl) ?_
        refine lv_iload hx hb dL_law_543 (lv_at hl 1 rfl) ?_
        refine lv_iconst (v := 3) hx hb dL_law_545 (by decide) ?_
        refine lv_iadd hx hb dL_law_546 ?_
        refine W.eq (g2 := F0 m 547 ls [.int x_8, .ref b, .int v_29, .int x_3, .ref m0]) (by rw [ex_8]) ?_
        refine va_sld hx hb hX hbl hbA hS vi_9 dL_law_547 ?_
        refine W.eq (g2 := F0 m 548 ls [.int x_10, .int v_29, .int x_3, .ref m0]) (by rw [ex_10]) ?_
        refine lv_aload_n hx hb dL_law_548 rfl (lv_at hl 5 rfl) ?_
        refine lv_iload hx hb dL_law_549 (lv_at hl 1 rfl) ?_
        refine lv_iconst (v := 4) hx hb dL_law_551 (by decide) ?_
        refine lv_iadd hx hb dL_law_552 ?_
        refine W.eq (g2 := F0 m 553 ls [.int x_11, .ref b, .int x_10, .int v_29, .int x_3, .ref m0]) (by rw [ex_11]) ?_
        refine va_sld hx hb hX hbl hbA hS vi_12 dL_law_553 ?_
        refine W.eq (g2 := F0 m 554 ls [.int x_13, .int x_10, .int v_29, .int x_3, .ref m0]) (by rw [ex_13]) ?_
        refine lv_aload_n hx hb dL_law_554 rfl (lv_at hl 5 rfl) ?_
        refine lv_iload hx hb dL_law_555 (lv_at hl 1 rfl) ?_
        refine lv_iconst (v := 5) hx hb dL_law_557 (by decide) ?_
        refine lv_iadd hx hb dL_law_558 ?_
        refine W.eq (g2 := F0 m 559 ls [.int x_14, .ref b, .int x_13, .int x_10, .int v_29, .int x_3, .ref m0]) (by rw [ex_14]) ?_
        refine va_sld hx hb hX hbl hbA hS vi_15 dL_law_559 ?_
        refine W.eq (g2 := F0 m 560 ls [.int x_16, .int x_13, .int x_10, .int v_29, .int x_3, .ref m0]) (by rw [ex_16]) ?_
        refine lv_aload_n hx hb dL_law_560 rfl (lv_at hl 5 rfl) ?_
        refine lv_iload hx hb dL_law_561 (lv_at hl 1 rfl) ?_
        refine lv_bipush (v := 6) hx hb dL_law_563 (by decide) ?_
        refine lv_iadd hx hb dL_law_565 ?_
        refine W.eq (g2 := F0 m 566 ls [.int x_17, .ref b, .int x_16, .int x_13, .int x_10, .int v_29, .int x_3, .ref m0]) (by rw [ex_17]) ?_
        refine va_sld hx hb hX hbl hbA hS vi_18 dL_law_566 ?_
        refine W.eq (g2 := F0 m 567 ls [.int x_19, .int x_16, .int x_13, .int x_10, .int v_29, .int x_3, .ref m0]) (by rw [ex_19]) ?_
        refine va_calli (rnV (fun H => MH E m0 rf t0 t1 t2 A cd pk H) (As := [.int x_3, .int v_29, .int x_10, .int x_13, .int x_16, .int x_19]) (rest := []) ⟨hx, hb, hml, hown, hts⟩ (u_X10_move l E s.heap.size Gm hGzm m0 rf hR t0 t1 t2 A cd pk x_3 v_29 x_10 x_13 x_16 x_19 hI4 hI6 hI8) (cwV 6 hts (gdV ml_L_86 im_X10_move se_X10_X10_move in_X10 co_X10_move rfl) rfl rfl rfl (by decide +kernel) ⟨Nat.le_of_ble_eq_true rfl, Nat.le_of_ble_eq_true rfl⟩) hM (fun U hU hW => hK.go hW hS hAz hU) (va_recv hK.1 (va_one hM.1) (ci := 10) (q0 := 0) rfl rfl) rfl rfl hl.1 rfl (lv_room (Nat.le_of_ble_eq_true rfl)) dL_law_567 ⟨hC2, hS2⟩) hS (fun q _ h => hGzm q h) (fun q h => hGzm q h) (fun r_30 ur_30 t H locs ht hvm hwr_30 hB hz hk hS => ?_)
        have hM : MH E m0 rf t0 t1 t2 (uA (uA (uA (uA (uA (uA (uA (uA (uA (uA (uA A 11 (ur_30.1)) 20 (ur_30.2.1)) 21 (ur_30.2.2.1)) 22 (ur_30.2.2.2.1)) 23 (ur_30.2.2.2.2.1)) 24 (ur_30.2.2.2.2.2.1)) 25 (ur_30.2.2.2.2.2.2.1)) 26 (ur_30.2.2.2.2.2.2.2.1)) 27 (ur_30.2.2.2.2.2.2.2.2.1)) 28 (ur_30.2.2.2.2.2.2.2.2.2.1)) 29 (ur_30.2.2.2.2.2.2.2.2.2.2.1)) ur_30.2.2.2.2.2.2.2.2.2.2.2 pk H := by rw [ht] at hB; exact hB
        have hDr_30 : D_X10_move A cd pk x_3 v_29 x_10 x_13 x_16 x_19 (uA (uA (uA (uA (uA (uA (uA (uA (uA (uA (uA A 11 (ur_30.1)) 20 (ur_30.2.1)) 21 (ur_30.2.2.1)) 22 (ur_30.2.2.2.1)) 23 (ur_30.2.2.2.2.1)) 24 (ur_30.2.2.2.2.2.1)) 25 (ur_30.2.2.2.2.2.2.1)) 26 (ur_30.2.2.2.2.2.2.2.1)) 27 (ur_30.2.2.2.2.2.2.2.2.1)) 28 (ur_30.2.2.2.2.2.2.2.2.2.1)) 29 (ur_30.2.2.2.2.2.2.2.2.2.2.1)) (ur_30.2.2.2.2.2.2.2.2.2.2.2) pk r_30 := hwr_30.2.2.2
        have hpr_30_0 : I4 (A 10) (ur_30.2.1) (ur_30.2.2.2.2.2.2.2.2.2.2.1) (ur_30.2.2.2.2.2.1) (ur_30.1) (A 12) (A 13) := hwr_30.1
        have hpr_30_1 : I6 (ur_30.2.2.2.1) (ur_30.2.2.2.2.1) (ur_30.2.2.2.2.2.1) (ur_30.2.2.2.2.2.2.1) (ur_30.2.2.2.2.2.2.2.1) := hwr_30.2.1
        have hpr_30_2 : I8 (ur_30.2.1) (A 30) (A 37) (A 36) := hwr_30.2.2.1
        have hT := hT.other hd2 hk
        have hro := hro.kept (hk _ hro.lt (fun h => h hGmo))
        obtain ⟨A_31, cd_31, pk_31, hM, hD, hV2⟩ : ∃ (A2 : AA) (cd2 pk2 : Int32), MH E m0 rf t0 t1 t2 A2 cd2 pk2 H ∧ D_X10_move A cd pk x_3 v_29 x_10 x_13 x_16 x_19 A2 cd2 pk2 r_30 ∧ RIV A2 pk2 := ⟨_, _, _, hM, hDr_30, ⟨⟨hI2, hI3, hpr_30_0, hI5, hpr_30_1, hI7, hpr_30_2⟩, hpk⟩⟩
        obtain ⟨hSIM, ep_31, hE_31⟩ := sx_moveC hSIM hC hD
        rw [← ep_31] at hSIM
        have hcd : cd_31 = 2 := hE_31.elim (fun h => absurd h.1 (by decide)) (fun h => h.2)
        have hV := hV2
        refine lv_istore (lv' := [(6, .int r_30), (5, .int 2), (4, .int (nI i)), (3, .ref o0), (2, .ref m0), (1, .ref x0), (0, .ref b)]) hx hb dL_law_570 hl (by decide) rfl (fun ls hl => ?_)
        refine lv_goto (tgt := 971) hx hb dL_law_572 (by decide) ?_
        refine W.widen (k := C + 2) (n := S + 12) (by omega) (by omega) ?_
        exact key _ _ _ ⟨B, R, A_31, cd_31, pk_31, hT, hW, hM, hSIM, hV, ⟨_, hro⟩, hS⟩ (lv_sub hl [2, 3, 4, 5, 6] rfl)
      · refine lv_if_eq (tgt := 541) hx hb dL_law_534 (by decide) (fun c_32 => ?_) (fun c_32 => ?_)
        · simp only [lt_I, le_I, eq_I, i_0, i_1, i_2, i_3, i_4, i_5, i_6, i_7, i_8, i_10, i_12, i_16, i_20, i_23, i_24, i_31, i_32, i_63, i_64, i_m1, i_9, i_11, i_13, i_25, i_60, i_75, i_79, i_80, i_96, i_100] at c_32
          refine lv_iconst (v := 0) hx hb dL_law_541 (by decide) ?_
          exact key_29 0 (by first | rw [if_pos (by omega)] | rw [if_neg (by omega)])
        · simp only [lt_I, le_I, eq_I, i_0, i_1, i_2, i_3, i_4, i_5, i_6, i_7, i_8, i_10, i_12, i_16, i_20, i_23, i_24, i_31, i_32, i_63, i_64, i_m1, i_9, i_11, i_13, i_25, i_60, i_75, i_79, i_80, i_96, i_100] at c_32
          refine lv_iconst (v := 1) hx hb dL_law_537 (by decide) ?_
          refine lv_goto (tgt := 542) hx hb dL_law_538 (by decide) ?_
          exact key_29 1 (by first | rw [if_pos (by omega)] | rw [if_neg (by omega)])
  · refine lv_if_eq (tgt := 489) hx hb dL_law_482 (by decide) (fun c_33 => ?_) (fun c_33 => ?_)
    · simp only [lt_I, le_I, eq_I, i_0, i_1, i_2, i_3, i_4, i_5, i_6, i_7, i_8, i_10, i_12, i_16, i_20, i_23, i_24, i_31, i_32, i_63, i_64, i_m1, i_9, i_11, i_13, i_25, i_60, i_75, i_79, i_80, i_96, i_100] at c_33
      refine lv_iconst (v := 0) hx hb dL_law_489 (by decide) ?_
      exact key_7 0 (by first | rw [if_pos (by omega)] | rw [if_neg (by omega)])
    · simp only [lt_I, le_I, eq_I, i_0, i_1, i_2, i_3, i_4, i_5, i_6, i_7, i_8, i_10, i_12, i_16, i_20, i_23, i_24, i_31, i_32, i_63, i_64, i_m1, i_9, i_11, i_13, i_25, i_60, i_75, i_79, i_80, i_96, i_100] at c_33
      refine lv_iconst (v := 1) hx hb dL_law_485 (by decide) ?_
      refine lv_goto (tgt := 490) hx hb dL_law_486 (by decide) ?_
      exact key_7 1 (by first | rw [if_pos (by omega)] | rw [if_neg (by omega)])
set_option maxHeartbeats 8000000 in
set_option maxRecDepth 100000 in
theorem lk_7 {p : Program} {l : Launch} {e : Env} {s : State} {m : MethodId} {below : List Frame} {meth : Method} {c : Code} {b L i C S : Nat} {xs : Nat → Int32} {E : EE} {Gc Gm : Nat → Nat} {x0 m0 o0 : Nat} {rf : Nat → Nat} {t0 t1 t2 : Int32} {H : Heap} {locs : List Loc} {ls : Array Slot} (hst : l.stackTraces = false) (C0 : lw_At p s m meth c b L xs) (hLB : L ≤ 3587) (hK : KS E s.heap.size s) (hN : NC s) (F9 : LF s Gc Gm x0 m0 o0 rf t0) (hi : i + 7 ≤ L) (hC : C + 2 ≤ 621377) (hSl : S + 12 ≤ 7231939) (hI : LI E s Gc x0 m0 o0 rf t0 t1 t2 H locs) (hl : lv_has ls 7 [(4, .int (nI i)), (3, .ref o0), (2, .ref m0), (1, .ref x0), (0, .ref b)]) (key : ∀ (H : Heap) (locs : List Loc) (ls : Array Slot), LI E s Gc x0 m0 o0 rf t0 t1 t2 H locs → lv_has ls 7 [(4, .int (nI i)), (3, .ref o0), (2, .ref m0), (1, .ref x0), (0, .ref b)] → W p l e room_1 s m #[Value.ref b] below meth c H locs (C + 2) (S + 12) (lw_Z below #[Value.ref b] s) (F0 m 971 ls [])) : W p l e room_1 s m #[Value.ref b] below meth c H locs C S (lw_Z below #[Value.ref b] s) (F0 m 575 ls []) := by
  obtain ⟨hx, hb, hr, hml, hown, hts0, hX, hbl, hlocks, hgv⟩ := id C0
  obtain ⟨hxc, hR, hGzc, hGzm, hd, hGco, hGmo, hoz, h2t⟩ := F9
  have hd2 : ∀ a, Gc a ≠ 0 → Gm a = 0 := fun a h => Decidable.byContradiction fun q => h (hd a q)
  have hts : ∀ w ∈ TS, w.before #[Value.ref b] s = true := fun w hw => hts0 w (List.mem_filter.mp hw).1
  have hbA : ¬ (fun q : Nat => s.heap.size ≤ q) b := Nat.not_le.mpr hbl
  have hAz : ∀ q, (fun q : Nat => s.heap.size ≤ q) q → s.heap.size ≤ q := fun q h => h
  have hC0 : C + 0 ≤ room_1.cells := (show C + 0 ≤ 621377 by omega)
  have hS0 : S + 0 ≤ room_1.slots := (show S + 0 ≤ 7231939 by omega)
  have hC2 : C + 2 ≤ room_1.cells := (show C + 2 ≤ 621377 by omega)
  have hS2 : S + 12 ≤ room_1.slots := (show S + 12 ≤ 7231939 by omega)
  have hiI : (nI i).toInt = (i : Int) := nI_toInt (by omega)
  obtain ⟨B, R, A, cd, pk, hT, hW, hM, hSIM, hV, ⟨fo, hro⟩, hS⟩ := hI
  obtain ⟨hI2, hI3, hI4, hI5, hI6, hI7, hI8, hpk⟩ := hV.c3
  refine lv_aload_n hx hb dL_law_575 rfl (lv_at hl 3 rfl) ?_
  refine lv_aload_n hx hb dL_law_576 rfl (lv_at hl 4 rfl) ?_
  refine lv_iload hx hb dL_law_577 (lv_at hl 0 rfl) ?_
  refine lv_iconst (v := 1) hx hb dL_law_579 (by decide) ?_
  refine lv_iadd hx hb dL_law_580 ?_
  refine lv_topi (fun x_1 ex_1 => ?_)
  have fx_1 : x_1.toInt = (i : Int) + 1 := by have h9 := s_add (x := nI i) (y := 1) (by rw [hiI, i_1]; omega) (by rw [hiI, i_1]; omega); rw [hiI, i_1] at h9; rw [ex_1]; exact h9
  have vi_2 : vp_in x_1 L := vp_in_iff.mpr (by omega)
  refine va_sld hx hb hX hbl hbA hS vi_2 dL_law_581 ?_
  refine lv_topi (fun x_3 ex_3 => ?_)
  refine lv_aload_n hx hb dL_law_582 rfl (lv_at hl 4 rfl) ?_
  refine lv_iload hx hb dL_law_583 (lv_at hl 0 rfl) ?_
  refine lv_iconst (v := 2) hx hb dL_law_585 (by decide) ?_
  refine lv_iadd hx hb dL_law_586 ?_
  refine lv_topi (fun x_4 ex_4 => ?_)
  have fx_4 : x_4.toInt = (i : Int) + 2 := by have h9 := s_add (x := nI i) (y := 2) (by rw [hiI, i_2]; omega) (by rw [hiI, i_2]; omega); rw [hiI, i_2] at h9; rw [ex_4]; exact h9
  have vi_5 : vp_in x_4 L := vp_in_iff.mpr (by omega)
  refine va_sld hx hb hX hbl hbA hS vi_5 dL_law_587 ?_
  refine lv_topi (fun x_6 ex_6 => ?_)
  refine lv_aload_n hx hb dL_law_588 rfl (lv_at hl 4 rfl) ?_
  refine lv_iload hx hb dL_law_589 (lv_at hl 0 rfl) ?_
  refine lv_iconst (v := 3) hx hb dL_law_591 (by decide) ?_
  refine lv_iadd hx hb dL_law_592 ?_
  refine lv_topi (fun x_7 ex_7 => ?_)
  have fx_7 : x_7.toInt = (i : Int) + 3 := by have h9 := s_add (x := nI i) (y := 3) (by rw [hiI, i_3]; omega) (by rw [hiI, i_3]; omega); rw [hiI, i_3] at h9; rw [ex_7]; exact h9
  have vi_8 : vp_in x_7 L := vp_in_iff.mpr (by omega)
  refine va_sld hx hb hX hbl hbA hS vi_8 dL_law_593 ?_
  refine lv_topi (fun x_9 ex_9 => ?_)
  refine lv_aload_n hx hb dL_law_594 rfl (lv_at hl 4 rfl) ?_
  refine lv_iload hx hb dL_law_595 (lv_at hl 0 rfl) ?_
  refine lv_iconst (v := 4) hx hb dL_law_597 (by decide) ?_
  refine lv_iadd hx hb dL_law_598 ?_
  refine lv_topi (fun x_10 ex_10 => ?_)
  have fx_10 : x_10.toInt = (i : Int) + 4 := by have h9 := s_add (x := nI i) (y := 4) (by rw [hiI, i_4]; omega) (by rw [hiI, i_4]; omega); rw [hiI, i_4] at h9; rw [ex_10]; exact h9
  have vi_11 : vp_in x_10 L := vp_in_iff.mpr (by omega)
  refine va_sld hx hb hX hbl hbA hS vi_11 dL_law_599 ?_
  refine lv_topi (fun x_12 ex_12 => ?_)
  refine lv_aload_n hx hb dL_law_600 rfl (lv_at hl 4 rfl) ?_
  refine lv_iload hx hb dL_law_601 (lv_at hl 0 rfl) ?_
  refine lv_iconst (v := 5) hx hb dL_law_603 (by decide) ?_
  refine lv_iadd hx hb dL_law_604 ?_
  refine lv_topi (fun x_13 ex_13 => ?_)
  have fx_13 : x_13.toInt = (i : Int) + 5 := by have h9 := s_add (x := nI i) (y := 5) (by rw [hiI, i_5]; omega) (by rw [hiI, i_5]; omega); rw [hiI, i_5] at h9; rw [ex_13]; exact h9
  have vi_14 : vp_in x_13 L := vp_in_iff.mpr (by omega)
  refine va_sld hx hb hX hbl hbA hS vi_14 dL_law_605 ?_
  refine lv_topi (fun x_15 ex_15 => ?_)
  refine lv_aload_n hx hb dL_law_606 rfl (lv_at hl 1 rfl) ?_
  refine va_calli (vx_runSW (hh := [(0, 16, 19, 13), (0, 16, 23, 22)]) (As := [.ref x0, .int x_3, .int x_6, .int x_9, .int x_12, .int x_15, .ref o0]) (rest := []) ⟨hx, hb, hml, hown, hts⟩ (w_L_add l hst E s.heap.size Gc hGzc B R hW x0 x_3 x_6 x_9 x_12 x_15 o0 hxc hGco hoz) (vx_cwSW 7 hts (gdW ml_L_87 st_L_add in_L co_L_add rfl) rfl rfl rfl (by decide +kernel) ⟨Nat.le_of_ble_eq_true rfl, Nat.le_of_ble_eq_true rfl⟩) ⟨fun a U g mk q => ⟨q.1, q.2.1, KS.calling q.2.2.1, NC.vm q.2.2.2 rfl⟩, fun U hU hW => ⟨rfl, by rw [hU]; exact ⟨hT, _, hro⟩, hK.go hW hS hAz hU, hN.go hW⟩⟩ rfl rfl hl.1 rfl (lv_room (Nat.le_of_ble_eq_true rfl)) dL_law_607 ⟨hC2, hS2⟩) hS (fun q _ h => h.elim (fun h => hGzc q (zn (L := [9, 11, 13]) (by decide) h)) (fun e => by rw [e]; exact hoz)) (fun q h => h.elim (fun h => hGzc q (zn (L := [9, 11, 13]) (by decide) h)) (fun e => by rw [e]; exact hoz)) (fun r_16 u_16 t H locs ht9 hvm hwr_16 hB hz hk hS => ?_)
  rw [ht9] at hB
  obtain ⟨Z_16, y_16, f_16⟩ := u_16
  obtain ⟨hT, fo_16, hfo_16, hro2⟩ := hB
  have hro := hro2
  have hM := hM.away hR (fun q hq hg => hk q hq (fun h => h.elim (fun h => zn (L := [9, 11, 13]) (by decide) h (hd q hg)) (fun h => hg (by rw [h]; exact hGmo))))
  have hT : TX E Gc Z_16 R H := hT
  rcases hwr_16 with ⟨rfl, hW2, hF2, hC, ef_16⟩ | ⟨rfl, eB, hC⟩ | ⟨rfl, eB, hC⟩
  · have hW : TW Gc Z_16 R := hW2
    have hC : C_X9_add Gc B R x0 x_3 x_6 x_9 x_12 x_15 Z_16 y_16 := hC
    have hfo : fo_16 0 = y_16.toInt64 := hfo_16.trans ef_16
    refine lv_istore (lv' := [(5, .int 0), (4, .int (nI i)), (3, .ref o0), (2, .ref m0), (1, .ref x0), (0, .ref b)]) hx hb dL_law_610 hl (by decide) rfl (fun ls hl => ?_)
    refine lv_aload_n hx hb dL_law_612 rfl (lv_at hl 3 rfl) ?_
    refine lv_aload_n hx hb dL_law_613 rfl (lv_at hl 5 rfl) ?_
    refine lv_iload hx hb dL_law_614 (lv_at hl 1 rfl) ?_
    refine lv_iconst (v := 1) hx hb dL_law_616 (by decide) ?_
    refine lv_iadd hx hb dL_law_617 ?_
    refine W.eq (g2 := F0 m 618 ls [.int x_1, .ref b, .ref m0]) (by rw [ex_1]) ?_
    refine va_sld hx hb hX hbl hbA hS vi_2 dL_law_618 ?_
    refine W.eq (g2 := F0 m 619 ls [.int x_3, .ref m0]) (by rw [ex_3]) ?_
    refine lv_aload_n hx hb dL_law_619 rfl (lv_at hl 5 rfl) ?_
    refine lv_iload hx hb dL_law_620 (lv_at hl 1 rfl) ?_
    refine lv_iconst (v := 2) hx hb dL_law_622 (by decide) ?_
    refine lv_iadd hx hb dL_law_623 ?_
    refine W.eq (g2 := F0 m 624 ls [.int x_4, .ref b, .int x_3, .ref m0]) (by rw [ex_4]) ?_
    refine va_sld hx hb hX hbl hbA hS vi_5 dL_law_624 ?_
    refine W.eq (g2 := F0 m 625 ls [.int x_6, .int x_3, .ref m0]) (by rw [ex_6]) ?_
    refine lv_aload_n hx hb dL_law_625 rfl (lv_at hl 5 rfl) ?_
    refine lv_iload hx hb dL_law_626 (lv_at hl 1 rfl) ?_
    refine lv_iconst (v := 3) hx hb dL_law_628 (by decide) ?_
    refine lv_iadd hx hb dL_law_629 ?_
    refine W.eq (g2 := F0 m 630 ls [.int x_7, .ref b, .int x_6, .int x_3, .ref m0]) (by rw [ex_7]) ?_
    refine va_sld hx hb hX hbl hbA hS vi_8 dL_law_630 ?_
    refine W.eq (g2 := F0 m 631 ls [.int x_9, .int x_6, .int x_3, .ref m0]) (by rw [ex_9]) ?_
    refine lv_aload_n hx hb dL_law_631 rfl (lv_at hl 5 rfl) ?_
    refine lv_iload hx hb dL_law_632 (lv_at hl 1 rfl) ?_
    refine lv_iconst (v := 4) hx hb dL_law_634 (by decide) ?_
    refine lv_iadd hx hb dL_law_635 ?_
    refine W.eq (g2 := F0 m 636 ls [.int x_10, .ref b, .int x_9, .int x_6, .int x_3, .ref m0]) (by rw [ex_10]) ?_
    refine va_sld hx hb hX hbl hbA hS vi_11 dL_law_636 ?_
    refine W.eq (g2 := F0 m 637 ls [.int x_12, .int x_9, .int x_6, .int x_3, .ref m0]) (by rw [ex_12]) ?_
    refine lv_aload_n hx hb dL_law_637 rfl (lv_at hl 5 rfl) ?_
    refine lv_iload hx hb dL_law_638 (lv_at hl 1 rfl) ?_
    refine lv_iconst (v := 5) hx hb dL_law_640 (by decide) ?_
    refine lv_iadd hx hb dL_law_641 ?_
    refine W.eq (g2 := F0 m 642 ls [.int x_13, .ref b, .int x_12, .int x_9, .int x_6, .int x_3, .ref m0]) (by rw [ex_13]) ?_
    refine va_sld hx hb hX hbl hbA hS vi_14 dL_law_642 ?_
    refine W.eq (g2 := F0 m 643 ls [.int x_15, .int x_12, .int x_9, .int x_6, .int x_3, .ref m0]) (by rw [ex_15]) ?_
    refine va_calli (rnV (fun H => MH E m0 rf t0 t1 t2 A cd pk H) (As := [.int x_3, .int x_6, .int x_9, .int x_12, .int x_15]) (rest := []) ⟨hx, hb, hml, hown, hts⟩ (u_X10_add l E s.heap.size Gm hGzm m0 rf hR t0 t1 t2 A cd pk x_3 x_6 x_9 x_12 x_15 hI4 hI6 hI8) (cwV 5 hts (gdV ml_L_90 im_X10_add se_X10_X10_add in_X10 co_X10_add rfl) rfl rfl rfl (by decide +kernel) ⟨Nat.le_of_ble_eq_true rfl, Nat.le_of_ble_eq_true rfl⟩) hM (fun U hU hW => hK.go hW hS hAz hU) (va_recv hK.1 (va_one hM.1) (ci := 10) (q0 := 0) rfl rfl) rfl rfl hl.1 rfl (lv_room (Nat.le_of_ble_eq_true rfl)) dL_law_643 ⟨hC2, hS2⟩) hS (fun q _ h => hGzm q h) (fun q h => hGzm q h) (fun r_17 ur_17 t H locs ht hvm hwr_17 hB hz hk hS => ?_)
    have hM : MH E m0 rf t0 t1 t2 (uA (uA (uA (uA (uA (uA (uA (uA (uA (uA (uA A 11 (ur_17.1)) 20 (ur_17.2.1)) 21 (ur_17.2.2.1)) 22 (ur_17.2.2.2.1)) 23 (ur_17.2.2.2.2.1)) 24 (ur_17.2.2.2.2.2.1)) 25 (ur_17.2.2.2.2.2.2.1)) 26 (ur_17.2.2.2.2.2.2.2.1)) 27 (ur_17.2.2.2.2.2.2.2.2.1)) 28 (ur_17.2.2.2.2.2.2.2.2.2.1)) 29 (ur_17.2.2.2.2.2.2.2.2.2.2.1)) ur_17.2.2.2.2.2.2.2.2.2.2.2 pk H := by rw [ht] at hB; exact hB
    have hDr_17 : D_X10_add A cd pk x_3 x_6 x_9 x_12 x_15 (uA (uA (uA (uA (uA (uA (uA (uA (uA (uA (uA A 11 (ur_17.1)) 20 (ur_17.2.1)) 21 (ur_17.2.2.1)) 22 (ur_17.2.2.2.1)) 23 (ur_17.2.2.2.2.1)) 24 (ur_17.2.2.2.2.2.1)) 25 (ur_17.2.2.2.2.2.2.1)) 26 (ur_17.2.2.2.2.2.2.2.1)) 27 (ur_17.2.2.2.2.2.2.2.2.1)) 28 (ur_17.2.2.2.2.2.2.2.2.2.1)) 29 (ur_17.2.2.2.2.2.2.2.2.2.2.1)) (ur_17.2.2.2.2.2.2.2.2.2.2.2) pk r_17 := hwr_17.2.2.2
    have hpr_17_0 : I4 (A 10) (ur_17.2.1) (ur_17.2.2.2.2.2.2.2.2.2.2.1) (ur_17.2.2.2.2.2.1) (ur_17.1) (A 12) (A 13) := hwr_17.1
    have hpr_17_1 : I6 (ur_17.2.2.2.1) (ur_17.2.2.2.2.1) (ur_17.2.2.2.2.2.1) (ur_17.2.2.2.2.2.2.1) (ur_17.2.2.2.2.2.2.2.1) := hwr_17.2.1
    have hpr_17_2 : I8 (ur_17.2.1) (A 30) (A 37) (A 36) := hwr_17.2.2.1
    have hT := hT.other hd2 hk
    have hro := hro.kept (hk _ hro.lt (fun h => h hGmo))
    obtain ⟨A_18, cd_18, pk_18, hM, hD, hV2⟩ : ∃ (A2 : AA) (cd2 pk2 : Int32), MH E m0 rf t0 t1 t2 A2 cd2 pk2 H ∧ D_X10_add A cd pk x_3 x_6 x_9 x_12 x_15 A2 cd2 pk2 r_17 ∧ RIV A2 pk2 := ⟨_, _, _, hM, hDr_17, ⟨⟨hI2, hI3, hpr_17_0, hI5, hpr_17_1, hI7, hpr_17_2⟩, hpk⟩⟩
    have hs_18 := s_addC hSIM hV hC hD
    obtain ⟨hSIM, ep_18, hcd, er_18⟩ := hs_18
    rw [← ep_18] at hSIM
    have hV := hV2
    obtain rfl := er_18
    refine lv_istore (lv' := [(6, .int y_16), (5, .int 0), (4, .int (nI i)), (3, .ref o0), (2, .ref m0), (1, .ref x0), (0, .ref b)]) hx hb dL_law_646 hl (by decide) rfl (fun ls hl => ?_)
    refine lv_goto (tgt := 971) hx hb dL_law_648 (by decide) ?_
    refine W.widen (k := C + 2) (n := S + 12) (by omega) (by omega) ?_
    exact key _ _ _ ⟨Z_16, R, A_18, cd_18, pk_18, hT, hW, hM, hSIM, hV, ⟨_, hro⟩, hS⟩ (lv_sub hl [2, 3, 4, 5, 6] rfl)
  · have eB : Z_16 = B := eB
    rw [eB] at hT
    have hC : X_X9_add Gc B R x0 x_3 x_6 x_9 x_12 x_15 IAE := hC
    refine lv_istore (lv' := [(5, .int 1), (4, .int (nI i)), (3, .ref o0), (2, .ref m0), (1, .ref x0), (0, .ref b)]) hx hb dL_law_610 hl (by decide) rfl (fun ls hl => ?_)
    refine lv_aload_n hx hb dL_law_612 rfl (lv_at hl 3 rfl) ?_
    refine lv_aload_n hx hb dL_law_613 rfl (lv_at hl 5 rfl) ?_
    refine lv_iload hx hb dL_law_614 (lv_at hl 1 rfl) ?_
    refine lv_iconst (v := 1) hx hb dL_law_616 (by decide) ?_
    refine lv_iadd hx hb dL_law_617 ?_
    refine W.eq (g2 := F0 m 618 ls [.int x_1, .ref b, .ref m0]) (by rw [ex_1]) ?_
    refine va_sld hx hb hX hbl hbA hS vi_2 dL_law_618 ?_
    refine W.eq (g2 := F0 m 619 ls [.int x_3, .ref m0]) (by rw [ex_3]) ?_
    refine lv_aload_n hx hb dL_law_619 rfl (lv_at hl 5 rfl) ?_
    refine lv_iload hx hb dL_law_620 (lv_at hl 1 rfl) ?_
    refine lv_iconst (v := 2) hx hb dL_law_622 (by decide) ?_
    refine lv_iadd hx hb dL_law_623 ?_
    refine W.eq (g2 := F0 m 624 ls [.int x_4, .ref b, .int x_3, .ref m0]) (by rw [ex_4]) ?_
    refine va_sld hx hb hX hbl hbA hS vi_5 dL_law_624 ?_
    refine W.eq (g2 := F0 m 625 ls [.int x_6, .int x_3, .ref m0]) (by rw [ex_6]) ?_
    refine lv_aload_n hx hb dL_law_625 rfl (lv_at hl 5 rfl) ?_
    refine lv_iload hx hb dL_law_626 (lv_at hl 1 rfl) ?_
    refine lv_iconst (v := 3) hx hb dL_law_628 (by decide) ?_
    refine lv_iadd hx hb dL_law_629 ?_
    refine W.eq (g2 := F0 m 630 ls [.int x_7, .ref b, .int x_6, .int x_3, .ref m0]) (by rw [ex_7]) ?_
    refine va_sld hx hb hX hbl hbA hS vi_8 dL_law_630 ?_
    refine W.eq (g2 := F0 m 631 ls [.int x_9, .int x_6, .int x_3, .ref m0]) (by rw [ex_9]) ?_
    refine lv_aload_n hx hb dL_law_631 rfl (lv_at hl 5 rfl) ?_
    refine lv_iload hx hb dL_law_632 (lv_at hl 1 rfl) ?_
    refine lv_iconst (v := 4) hx hb dL_law_634 (by decide) ?_
    refine lv_iadd hx hb dL_law_635 ?_
    refine W.eq (g2 := F0 m 636 ls [.int x_10, .ref b, .int x_9, .int x_6, .int x_3, .ref m0]) (by rw [ex_10]) ?_
    refine va_sld hx hb hX hbl hbA hS vi_11 dL_law_636 ?_
    refine W.eq (g2 := F0 m 637 ls [.int x_12, .int x_9, .int x_6, .int x_3, .ref m0]) (by rw [ex_12]) ?_
    refine lv_aload_n hx hb dL_law_637 rfl (lv_at hl 5 rfl) ?_
    refine lv_iload hx hb dL_law_638 (lv_at hl 1 rfl) ?_
    refine lv_iconst (v := 5) hx hb dL_law_640 (by decide) ?_
    refine lv_iadd hx hb dL_law_641 ?_
    refine W.eq (g2 := F0 m 642 ls [.int x_13, .ref b, .int x_12, .int x_9, .int x_6, .int x_3, .ref m0]) (by rw [ex_13]) ?_
    refine va_sld hx hb hX hbl hbA hS vi_14 dL_law_642 ?_
    refine W.eq (g2 := F0 m 643 ls [.int x_15, .int x_12, .int x_9, .int x_6, .int x_3, .ref m0]) (by rw [ex_15]) ?_
    refine va_calli (rnV (fun H => MH E m0 rf t0 t1 t2 A cd pk H) (As := [.int x_3, .int x_6, .int x_9, .int x_12, .int x_15]) (rest := []) ⟨hx, hb, hml, hown, hts⟩ (u_X10_add l E s.heap.size Gm hGzm m0 rf hR t0 t1 t2 A cd pk x_3 x_6 x_9 x_12 x_15 hI4 hI6 hI8) (cwV 5 hts (gdV ml_L_90 im_X10_add se_X10_X10_add in_X10 co_X10_add rfl) rfl rfl rfl (by decide +kernel) ⟨Nat.le_of_ble_eq_true rfl, Nat.le_of_ble_eq_true rfl⟩) hM (fun U hU hW => hK.go hW hS hAz hU) (va_recv hK.1 (va_one hM.1) (ci := 10) (q0 := 0) rfl rfl) rfl rfl hl.1 rfl (lv_room (Nat.le_of_ble_eq_true rfl)) dL_law_643 ⟨hC2, hS2⟩) hS (fun q _ h => hGzm q h) (fun q h => hGzm q h) (fun r_19 ur_19 t H locs ht hvm hwr_19 hB hz hk hS => ?_)
    have hM : MH E m0 rf t0 t1 t2 (uA (uA (uA (uA (uA (uA (uA (uA (uA (uA (uA A 11 (ur_19.1)) 20 (ur_19.2.1)) 21 (ur_19.2.2.1)) 22 (ur_19.2.2.2.1)) 23 (ur_19.2.2.2.2.1)) 24 (ur_19.2.2.2.2.2.1)) 25 (ur_19.2.2.2.2.2.2.1)) 26 (ur_19.2.2.2.2.2.2.2.1)) 27 (ur_19.2.2.2.2.2.2.2.2.1)) 28 (ur_19.2.2.2.2.2.2.2.2.2.1)) 29 (ur_19.2.2.2.2.2.2.2.2.2.2.1)) ur_19.2.2.2.2.2.2.2.2.2.2.2 pk H := by rw [ht] at hB; exact hB
    have hDr_19 : D_X10_add A cd pk x_3 x_6 x_9 x_12 x_15 (uA (uA (uA (uA (uA (uA (uA (uA (uA (uA (uA A 11 (ur_19.1)) 20 (ur_19.2.1)) 21 (ur_19.2.2.1)) 22 (ur_19.2.2.2.1)) 23 (ur_19.2.2.2.2.1)) 24 (ur_19.2.2.2.2.2.1)) 25 (ur_19.2.2.2.2.2.2.1)) 26 (ur_19.2.2.2.2.2.2.2.1)) 27 (ur_19.2.2.2.2.2.2.2.2.1)) 28 (ur_19.2.2.2.2.2.2.2.2.2.1)) 29 (ur_19.2.2.2.2.2.2.2.2.2.2.1)) (ur_19.2.2.2.2.2.2.2.2.2.2.2) pk r_19 := hwr_19.2.2.2
    have hpr_19_0 : I4 (A 10) (ur_19.2.1) (ur_19.2.2.2.2.2.2.2.2.2.2.1) (ur_19.2.2.2.2.2.1) (ur_19.1) (A 12) (A 13) := hwr_19.1
    have hpr_19_1 : I6 (ur_19.2.2.2.1) (ur_19.2.2.2.2.1) (ur_19.2.2.2.2.2.1) (ur_19.2.2.2.2.2.2.1) (ur_19.2.2.2.2.2.2.2.1) := hwr_19.2.1
    have hpr_19_2 : I8 (ur_19.2.1) (A 30) (A 37) (A 36) := hwr_19.2.2.1
    have hT := hT.other hd2 hk
    have hro := hro.kept (hk _ hro.lt (fun h => h hGmo))
    obtain ⟨A_20, cd_20, pk_20, hM, hD, hV2⟩ : ∃ (A2 : AA) (cd2 pk2 : Int32), MH E m0 rf t0 t1 t2 A2 cd2 pk2 H ∧ D_X10_add A cd pk x_3 x_6 x_9 x_12 x_15 A2 cd2 pk2 r_19 ∧ RIV A2 pk2 := ⟨_, _, _, hM, hDr_19, ⟨⟨hI2, hI3, hpr_19_0, hI5, hpr_19_1, hI7, hpr_19_2⟩, hpk⟩⟩
    obtain ⟨hSIM, ep_20, hE_20⟩ := sx_addC hSIM hC hD
    rw [← ep_20] at hSIM
    have hcd : cd_20 = 1 := hE_20.elim (fun h => h.2) (fun h => absurd h.1 (by decide))
    have hV := hV2
    refine lv_istore (lv' := [(6, .int r_19), (5, .int 1), (4, .int (nI i)), (3, .ref o0), (2, .ref m0), (1, .ref x0), (0, .ref b)]) hx hb dL_law_646 hl (by decide) rfl (fun ls hl => ?_)
    refine lv_goto (tgt := 971) hx hb dL_law_648 (by decide) ?_
    refine W.widen (k := C + 2) (n := S + 12) (by omega) (by omega) ?_
    exact key _ _ _ ⟨B, R, A_20, cd_20, pk_20, hT, hW, hM, hSIM, hV, ⟨_, hro⟩, hS⟩ (lv_sub hl [2, 3, 4, 5, 6] rfl)
  · have eB : Z_16 = B := eB
    rw [eB] at hT
    have hC : X_X9_add Gc B R x0 x_3 x_6 x_9 x_12 x_15 ISE := hC
    refine lv_istore (lv' := [(5, .int 2), (4, .int (nI i)), (3, .ref o0), (2, .ref m0), (1, .ref x0), (0, .ref b)]) hx hb dL_law_610 hl (by decide) rfl (fun ls hl => ?_)
    refine lv_aload_n hx hb dL_law_612 rfl (lv_at hl 3 rfl) ?_
    refine lv_aload_n hx hb dL_law_613 rfl (lv_at hl 5 rfl) ?_
    refine lv_iload hx hb dL_law_614 (lv_at hl 1 rfl) ?_
    refine lv_iconst (v := 1) hx hb dL_law_616 (by decide) ?_
    refine lv_iadd hx hb dL_law_617 ?_
    refine W.eq (g2 := F0 m 618 ls [.int x_1, .ref b, .ref m0]) (by rw [ex_1]) ?_
    refine va_sld hx hb hX hbl hbA hS vi_2 dL_law_618 ?_
    refine W.eq (g2 := F0 m 619 ls [.int x_3, .ref m0]) (by rw [ex_3]) ?_
    refine lv_aload_n hx hb dL_law_619 rfl (lv_at hl 5 rfl) ?_
    refine lv_iload hx hb dL_law_620 (lv_at hl 1 rfl) ?_
    refine lv_iconst (v := 2) hx hb dL_law_622 (by decide) ?_
    refine lv_iadd hx hb dL_law_623 ?_
    refine W.eq (g2 := F0 m 624 ls [.int x_4, .ref b, .int x_3, .ref m0]) (by rw [ex_4]) ?_
    refine va_sld hx hb hX hbl hbA hS vi_5 dL_law_624 ?_
    refine W.eq (g2 := F0 m 625 ls [.int x_6, .int x_3, .ref m0]) (by rw [ex_6]) ?_
    refine lv_aload_n hx hb dL_law_625 rfl (lv_at hl 5 rfl) ?_
    refine lv_iload hx hb dL_law_626 (lv_at hl 1 rfl) ?_
    refine lv_iconst (v := 3) hx hb dL_law_628 (by decide) ?_
    refine lv_iadd hx hb dL_law_629 ?_
    refine W.eq (g2 := F0 m 630 ls [.int x_7, .ref b, .int x_6, .int x_3, .ref m0]) (by rw [ex_7]) ?_
    refine va_sld hx hb hX hbl hbA hS vi_8 dL_law_630 ?_
    refine W.eq (g2 := F0 m 631 ls [.int x_9, .int x_6, .int x_3, .ref m0]) (by rw [ex_9]) ?_
    refine lv_aload_n hx hb dL_law_631 rfl (lv_at hl 5 rfl) ?_
    refine lv_iload hx hb dL_law_632 (lv_at hl 1 rfl) ?_
    refine lv_iconst (v := 4) hx hb dL_law_634 (by decide) ?_
    refine lv_iadd hx hb dL_law_635 ?_
    refine W.eq (g2 := F0 m 636 ls [.int x_10, .ref b, .int x_9, .int x_6, .int x_3, .ref m0]) (by rw [ex_10]) ?_
    refine va_sld hx hb hX hbl hbA hS vi_11 dL_law_636 ?_
    refine W.eq (g2 := F0 m 637 ls [.int x_12, .int x_9, .int x_6, .int x_3, .ref m0]) (by rw [ex_12]) ?_
    refine lv_aload_n hx hb dL_law_637 rfl (lv_at hl 5 rfl) ?_
    refine lv_iload hx hb dL_law_638 (lv_at hl 1 rfl) ?_
    refine lv_iconst (v := 5) hx hb dL_law_640 (by decide) ?_
    refine lv_iadd hx hb dL_law_641 ?_
    refine W.eq (g2 := F0 m 642 ls [.int x_13, .ref b, .int x_12, .int x_9, .int x_6, .int x_3, .ref m0]) (by rw [ex_13]) ?_
    refine va_sld hx hb hX hbl hbA hS vi_14 dL_law_642 ?_
    refine W.eq (g2 := F0 m 643 ls [.int x_15, .int x_12, .int x_9, .int x_6, .int x_3, .ref m0]) (by rw [ex_15]) ?_
    refine va_calli (rnV (fun H => MH E m0 rf t0 t1 t2 A cd pk H) (As := [.int x_3, .int x_6, .int x_9, .int x_12, .int x_15]) (rest := []) ⟨hx, hb, hml, hown, hts⟩ (u_X10_add l E s.heap.size Gm hGzm m0 rf hR t0 t1 t2 A cd pk x_3 x_6 x_9 x_12 x_15 hI4 hI6 hI8) (cwV 5 hts (gdV ml_L_90 im_X10_add se_X10_X10_add in_X10 co_X10_add rfl) rfl rfl rfl (by decide +kernel) ⟨Nat.le_of_ble_eq_true rfl, Nat.le_of_ble_eq_true rfl⟩) hM (fun U hU hW => hK.go hW hS hAz hU) (va_recv hK.1 (va_one hM.1) (ci := 10) (q0 := 0) rfl rfl) rfl rfl hl.1 rfl (lv_room (Nat.le_of_ble_eq_true rfl)) dL_law_643 ⟨hC2, hS2⟩) hS (fun q _ h => hGzm q h) (fun q h => hGzm q h) (fun r_21 ur_21 t H locs ht hvm hwr_21 hB hz hk hS => ?_)
    have hM : MH E m0 rf t0 t1 t2 (uA (uA (uA (uA (uA (uA (uA (uA (uA (uA (uA A 11 (ur_21.1)) 20 (ur_21.2.1)) 21 (ur_21.2.2.1)) 22 (ur_21.2.2.2.1)) 23 (ur_21.2.2.2.2.1)) 24 (ur_21.2.2.2.2.2.1)) 25 (ur_21.2.2.2.2.2.2.1)) 26 (ur_21.2.2.2.2.2.2.2.1)) 27 (ur_21.2.2.2.2.2.2.2.2.1)) 28 (ur_21.2.2.2.2.2.2.2.2.2.1)) 29 (ur_21.2.2.2.2.2.2.2.2.2.2.1)) ur_21.2.2.2.2.2.2.2.2.2.2.2 pk H := by rw [ht] at hB; exact hB
    have hDr_21 : D_X10_add A cd pk x_3 x_6 x_9 x_12 x_15 (uA (uA (uA (uA (uA (uA (uA (uA (uA (uA (uA A 11 (ur_21.1)) 20 (ur_21.2.1)) 21 (ur_21.2.2.1)) 22 (ur_21.2.2.2.1)) 23 (ur_21.2.2.2.2.1)) 24 (ur_21.2.2.2.2.2.1)) 25 (ur_21.2.2.2.2.2.2.1)) 26 (ur_21.2.2.2.2.2.2.2.1)) 27 (ur_21.2.2.2.2.2.2.2.2.1)) 28 (ur_21.2.2.2.2.2.2.2.2.2.1)) 29 (ur_21.2.2.2.2.2.2.2.2.2.2.1)) (ur_21.2.2.2.2.2.2.2.2.2.2.2) pk r_21 := hwr_21.2.2.2
    have hpr_21_0 : I4 (A 10) (ur_21.2.1) (ur_21.2.2.2.2.2.2.2.2.2.2.1) (ur_21.2.2.2.2.2.1) (ur_21.1) (A 12) (A 13) := hwr_21.1
    have hpr_21_1 : I6 (ur_21.2.2.2.1) (ur_21.2.2.2.2.1) (ur_21.2.2.2.2.2.1) (ur_21.2.2.2.2.2.2.1) (ur_21.2.2.2.2.2.2.2.1) := hwr_21.2.1
    have hpr_21_2 : I8 (ur_21.2.1) (A 30) (A 37) (A 36) := hwr_21.2.2.1
    have hT := hT.other hd2 hk
    have hro := hro.kept (hk _ hro.lt (fun h => h hGmo))
    obtain ⟨A_22, cd_22, pk_22, hM, hD, hV2⟩ : ∃ (A2 : AA) (cd2 pk2 : Int32), MH E m0 rf t0 t1 t2 A2 cd2 pk2 H ∧ D_X10_add A cd pk x_3 x_6 x_9 x_12 x_15 A2 cd2 pk2 r_21 ∧ RIV A2 pk2 := ⟨_, _, _, hM, hDr_21, ⟨⟨hI2, hI3, hpr_21_0, hI5, hpr_21_1, hI7, hpr_21_2⟩, hpk⟩⟩
    obtain ⟨hSIM, ep_22, hE_22⟩ := sx_addC hSIM hC hD
    rw [← ep_22] at hSIM
    have hcd : cd_22 = 2 := hE_22.elim (fun h => absurd h.1 (by decide)) (fun h => h.2)
    have hV := hV2
    refine lv_istore (lv' := [(6, .int r_21), (5, .int 2), (4, .int (nI i)), (3, .ref o0), (2, .ref m0), (1, .ref x0), (0, .ref b)]) hx hb dL_law_646 hl (by decide) rfl (fun ls hl => ?_)
    refine lv_goto (tgt := 971) hx hb dL_law_648 (by decide) ?_
    refine W.widen (k := C + 2) (n := S + 12) (by omega) (by omega) ?_
    exact key _ _ _ ⟨B, R, A_22, cd_22, pk_22, hT, hW, hM, hSIM, hV, ⟨_, hro⟩, hS⟩ (lv_sub hl [2, 3, 4, 5, 6] rfl)
