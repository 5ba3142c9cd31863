section
set_option maxHeartbeats 8000000 in
set_option maxRecDepth 100000 in
theorem lk_8 {p : Program} {l : Launch} {e : Env} {s : State} {m : MethodId} {below : List Frame} {meth : Method} {c : Code} {b L i C S : Nat} {xs : Nat → Int32} {E : EE} {Gc Gm : Nat → Nat} {x0 m0 o0 : Nat} {rf : Nat → Nat} {t0 t1 t2 : Int32} {H : Heap} {locs : List Loc} {ls : Array Slot} (hst : l.stackTraces = false) (C0 : lw_At p s m meth c b L xs) (hLB : L ≤ 3587) (hK : KS E s.heap.size s) (hN : NC s) (F9 : LF s Gc Gm x0 m0 o0 rf t0) (hi : i + 7 ≤ L) (hC : C + 2 ≤ 621377) (hSl : S + 12 ≤ 7231939) (hI : LI E s Gc x0 m0 o0 rf t0 t1 t2 H locs) (hl : lv_has ls 7 [(4, .int (nI i)), (3, .ref o0), (2, .ref m0), (1, .ref x0), (0, .ref b)]) (key : ∀ (H : Heap) (locs : List Loc) (ls : Array Slot), LI E s Gc x0 m0 o0 rf t0 t1 t2 H locs → lv_has ls 7 [(4, .int (nI i)), (3, .ref o0), (2, .ref m0), (1, .ref x0), (0, .ref b)] → W p l e room_1 s m #[Value.ref b] below meth c H locs (C + 2) (S + 12) (lw_Z below #[Value.ref b] s) (F0 m 971 ls [])) : W p l e room_1 s m #[Value.ref b] below meth c H locs C S (lw_Z below #[Value.ref b] s) (F0 m 623 ls []) := by
  obtain ⟨hx, hb, hr, hml, hown, hts0, hX, hbl, hlocks, hgv⟩ := id C0
  obtain ⟨hxc, hR, hGzc, hGzm, hd, hGco, hGmo, hoz, h2t⟩ := F9
  have hd2 : ∀ a, Gc a ≠ 0 → Gm a = 0 := fun a h => Decidable.byContradiction fun q => h (hd a q)
  have hts : ∀ w ∈ TS, w.before #[Value.ref b] s = true := fun w hw => hts0 w (List.mem_filter.mp hw).1
  have hbA : ¬ (fun q : Nat => s.heap.size ≤ q) b := Nat.not_le.mpr hbl
  have hAz : ∀ q, (fun q : Nat => s.heap.size ≤ q) q → s.heap.size ≤ q := fun q h => h
  have hC0 : C + 0 ≤ room_1.cells := (show C + 0 ≤ 621377 by omega)
  have hS0 : S + 0 ≤ room_1.slots := (show S + 0 ≤ 7231939 by omega)
  have hC2 : C + 2 ≤ room_1.cells := (show C + 2 ≤ 621377 by omega)
  have hS2 : S + 12 ≤ room_1.slots := (show S + 12 ≤ 7231939 by omega)
  have hiI : (nI i).toInt = (i : Int) := nI_toInt (by omega)
  obtain ⟨B, R, A, cd, pk, hT, hW, hM, hSIM, hV, ⟨fo, hro⟩, hS⟩ := hI
  obtain ⟨hI2, hI3, hI4, hI5, hI6, hI7, hI8, hpk⟩ := hV.c3
  refine lv_aload_n hx hb dL_law_623 rfl (lv_at hl 3 rfl) ?_
  refine lv_aload_n hx hb dL_law_624 rfl (lv_at hl 4 rfl) ?_
  refine lv_iload hx hb dL_law_625 (lv_at hl 0 rfl) ?_
  refine lv_iconst (v := 1) hx hb dL_law_627 (by decide) ?_
  refine lv_iadd hx hb dL_law_628 ?_
  refine lv_topi (fun x_1 ex_1 => ?_)
  have fx_1 : x_1.toInt = (i : Int) + 1 := by have h9 := s_add (x := nI i) (y := 1) (by rw [hiI, i_1]; omega) (by rw [hiI, i_1]; omega); rw [hiI, i_1] at h9; rw [ex_1]; exact h9
  have vi_2 : vp_in x_1 L := vp_in_iff.mpr (by omega)
  refine va_sld hx hb hX hbl hbA hS vi_2 dL_law_629 ?_
  refine lv_topi (fun x_3 ex_3 => ?_)
  refine lv_aload_n hx hb dL_law_630 rfl (lv_at hl 4 rfl) ?_
  refine lv_iload hx hb dL_law_631 (lv_at hl 0 rfl) ?_
  refine lv_iconst (v := 2) hx hb dL_law_633 (by decide) ?_
  refine lv_iadd hx hb dL_law_634 ?_
  refine lv_topi (fun x_4 ex_4 => ?_)
  have fx_4 : x_4.toInt = (i : Int) + 2 := by have h9 := s_add (x := nI i) (y := 2) (by rw [hiI, i_2]; omega) (by rw [hiI, i_2]; omega); rw [hiI, i_2] at h9; rw [ex_4]; exact h9
  have vi_5 : vp_in x_4 L := vp_in_iff.mpr (by omega)
  refine va_sld hx hb hX hbl hbA hS vi_5 dL_law_635 ?_
  refine lv_topi (fun x_6 ex_6 => ?_)
  refine lv_aload_n hx hb dL_law_636 rfl (lv_at hl 4 rfl) ?_
  refine lv_iload hx hb dL_law_637 (lv_at hl 0 rfl) ?_
  refine lv_iconst (v := 3) hx hb dL_law_639 (by decide) ?_
  refine lv_iadd hx hb dL_law_640 ?_
  refine lv_topi (fun x_7 ex_7 => ?_)
  have fx_7 : x_7.toInt = (i : Int) + 3 := by have h9 := s_add (x := nI i) (y := 3) (by rw [hiI, i_3]; omega) (by rw [hiI, i_3]; omega); rw [hiI, i_3] at h9; rw [ex_7]; exact h9
  have vi_8 : vp_in x_7 L := vp_in_iff.mpr (by omega)
  refine va_sld hx hb hX hbl hbA hS vi_8 dL_law_641 ?_
  refine lv_topi (fun x_9 ex_9 => ?_)
  refine lv_aload_n hx hb dL_law_642 rfl (lv_at hl 1 rfl) ?_
  refine va_calli (vx_runSW (hh := [(0, 12, 15, 13), (0, 12, 19, 22)]) (As := [.ref x0, .int x_3, .int x_6, .int x_9, .ref o0]) (rest := []) ⟨hx, hb, hml, hown, hts⟩ (w_L_receive l hst E s.heap.size Gc hGzc B R hW x0 x_3 x_6 x_9 o0 hxc hGco hoz) (vx_cwSW 5 hts (gdW ml_L_87 st_L_receive in_L co_L_receive rfl) rfl rfl rfl (by decide +kernel) ⟨Nat.le_of_ble_eq_true rfl, Nat.le_of_ble_eq_true rfl⟩) ⟨fun a U g mk q => ⟨q.1, q.2.1, KS.calling q.2.2.1, NC.vm q.2.2.2 rfl⟩, fun U hU hW => ⟨rfl, by rw [hU]; exact ⟨hT, _, hro⟩, hK.go hW hS hAz hU, hN.go hW⟩⟩ rfl rfl hl.1 rfl (lv_room (Nat.le_of_ble_eq_true rfl)) dL_law_643 ⟨hC2, hS2⟩) hS (fun q _ h => h.elim (fun h => hGzc q (zn (L := [11, 13]) (by decide) h)) (fun e => by rw [e]; exact hoz)) (fun q h => h.elim (fun h => hGzc q (zn (L := [11, 13]) (by decide) h)) (fun e => by rw [e]; exact hoz)) (fun r_10 u_10 t H locs ht9 hvm hwr_10 hB hz hk hS => ?_)
  rw [ht9] at hB
  obtain ⟨Z_10, y_10, f_10⟩ := u_10
  obtain ⟨hT, fo_10, hfo_10, hro2⟩ := hB
  have hro := hro2
  have hM := hM.away hR (fun q hq hg => hk q hq (fun h => h.elim (fun h => zn (L := [11, 13]) (by decide) h (hd q hg)) (fun h => hg (by rw [h]; exact hGmo))))
  have hT : TX E Gc Z_10 R H := hT
  rcases hwr_10 with ⟨rfl, hW2, hF2, hC, ef_10⟩ | ⟨rfl, eB, hC⟩ | ⟨rfl, eB, hC⟩
  · have hW : TW Gc Z_10 R := hW2
    have hC : C_X9_receive Gc B R x0 x_3 x_6 x_9 Z_10 y_10 := hC
    have hfo : fo_10 0 = y_10.toInt64 := hfo_10.trans ef_10
    refine lv_istore (lv' := [(5, .int 0), (4, .int (nI i)), (3, .ref o0), (2, .ref m0), (1, .ref x0), (0, .ref b)]) hx hb dL_law_646 hl (by decide) rfl (fun ls hl => ?_)
    refine lv_aload_n hx hb dL_law_648 rfl (lv_at hl 3 rfl) ?_
    refine lv_aload_n hx hb dL_law_649 rfl (lv_at hl 5 rfl) ?_
    refine lv_iload hx hb dL_law_650 (lv_at hl 1 rfl) ?_
    refine lv_iconst (v := 1) hx hb dL_law_652 (by decide) ?_
    refine lv_iadd hx hb dL_law_653 ?_
    refine W.eq (g2 := F0 m 654 ls [.int x_1, .ref b, .ref m0]) (by rw [ex_1]) ?_
    refine va_sld hx hb hX hbl hbA hS vi_2 dL_law_654 ?_
    refine W.eq (g2 := F0 m 655 ls [.int x_3, .ref m0]) (by rw [ex_3]) ?_
    refine lv_aload_n hx hb dL_law_655 rfl (lv_at hl 5 rfl) ?_
    refine lv_iload hx hb dL_law_656 (lv_at hl 1 rfl) ?_
    refine lv_iconst (v := 2) hx hb dL_law_658 (by decide) ?_
    refine lv_iadd hx hb dL_law_659 ?_
    refine W.eq (g2 := F0 m 660 ls [.int x_4, .ref b, .int x_3, .ref m0]) (by rw [ex_4]) ?_
    refine va_sld hx hb hX hbl hbA hS vi_5 dL_law_660 ?_
    refine W.eq (g2 := F0 m 661 ls [.int x_6, .int x_3, .ref m0]) (by rw [ex_6]) ?_
    refine lv_aload_n hx hb dL_law_661 rfl (lv_at hl 5 rfl) ?_
    refine lv_iload hx hb dL_law_662 (lv_at hl 1 rfl) ?_
    refine lv_iconst (v := 3) hx hb dL_law_664 (by decide) ?_
    refine lv_iadd hx hb dL_law_665 ?_
    refine W.eq (g2 := F0 m 666 ls [.int x_7, .ref b, .int x_6, .int x_3, .ref m0]) (by rw [ex_7]) ?_
    refine va_sld hx hb hX hbl hbA hS vi_8 dL_law_666 ?_
    refine W.eq (g2 := F0 m 667 ls [.int x_9, .int x_6, .int x_3, .ref m0]) (by rw [ex_9]) ?_
    refine va_calli (rnV (fun H => MH E m0 rf t0 t1 t2 A cd pk H) (As := [.int x_3, .int x_6, .int x_9]) (rest := []) ⟨hx, hb, hml, hown, hts⟩ (u_X10_receive l E s.heap.size Gm hGzm m0 rf hR t0 t1 t2 A cd pk x_3 x_6 x_9 hI5 hI8) (cwV 3 hts (gdV ml_L_89 im_X10_receive se_X10_X10_receive in_X10 co_X10_receive rfl) rfl rfl rfl (by decide +kernel) ⟨Nat.le_of_ble_eq_true rfl, Nat.le_of_ble_eq_true rfl⟩) hM (fun U hU hW => hK.go hW hS hAz hU) (va_recv hK.1 (va_one hM.1) (ci := 10) (q0 := 0) rfl rfl) rfl rfl hl.1 rfl (lv_room (Nat.le_of_ble_eq_true rfl)) dL_law_667 ⟨hC2, hS2⟩) hS (fun q _ h => hGzm q h) (fun q h => hGzm q h) (fun r_11 ur_11 t H locs ht hvm hwr_11 hB hz hk hS => ?_)
    have hM : MH E m0 rf t0 t1 t2 (uA (uA (uA (uA (uA (uA A 30 (ur_11.1)) 31 (ur_11.2.1)) 32 (ur_11.2.2.1)) 33 (ur_11.2.2.2.1)) 34 (ur_11.2.2.2.2.1)) 35 (ur_11.2.2.2.2.2.1)) ur_11.2.2.2.2.2.2 pk H := by rw [ht] at hB; exact hB
    have hDr_11 : D_X10_receive A cd pk x_3 x_6 x_9 (uA (uA (uA (uA (uA (uA A 30 (ur_11.1)) 31 (ur_11.2.1)) 32 (ur_11.2.2.1)) 33 (ur_11.2.2.2.1)) 34 (ur_11.2.2.2.2.1)) 35 (ur_11.2.2.2.2.2.1)) (ur_11.2.2.2.2.2.2) pk r_11 := hwr_11.2.2
    have hpr_11_0 : I5 (ur_11.2.2.1) (ur_11.2.2.2.1) (ur_11.2.2.2.2.2.1) := hwr_11.1
    have hpr_11_1 : I8 (A 20) (ur_11.1) (A 37) (A 36) := hwr_11.2.1
    have hT := hT.other hd2 hk
    have hro := hro.kept (hk _ hro.lt (fun h => h hGmo))
    obtain ⟨A_12, cd_12, pk_12, hM, hD, hV2⟩ : ∃ (A2 : AA) (cd2 pk2 : Int32), MH E m0 rf t0 t1 t2 A2 cd2 pk2 H ∧ D_X10_receive A cd pk x_3 x_6 x_9 A2 cd2 pk2 r_11 ∧ RIV A2 pk2 := ⟨_, _, _, hM, hDr_11, ⟨⟨hI2, hI3, hI4, hpr_11_0, hI6, hI7, hpr_11_1⟩, hpk⟩⟩
    have hs_12 := s_receiveC hSIM hV hC hD
    obtain ⟨hSIM, ep_12, hcd, er_12⟩ := hs_12
    rw [← ep_12] at hSIM
    have hV := hV2
    obtain rfl := er_12
    refine lv_istore (lv' := [(6, .int y_10), (5, .int 0), (4, .int (nI i)), (3, .ref o0), (2, .ref m0), (1, .ref x0), (0, .ref b)]) hx hb dL_law_670 hl (by decide) rfl (fun ls hl => ?_)
    refine lv_goto (tgt := 971) hx hb dL_law_672 (by decide) ?_
    refine W.widen (k := C + 2) (n := S + 12) (by omega) (by omega) ?_
    exact key _ _ _ ⟨Z_10, R, A_12, cd_12, pk_12, hT, hW, hM, hSIM, hV, ⟨_, hro⟩, hS⟩ (lv_sub hl [2, 3, 4, 5, 6] rfl)
  · have eB : Z_10 = B := eB
    rw [eB] at hT
    have hC : X_X9_receive Gc B R x0 x_3 x_6 x_9 IAE := hC
    refine lv_istore (lv' := [(5, .int 1), (4, .int (nI i)), (3, .ref o0), (2, .ref m0), (1, .ref x0), (0, .ref b)]) hx hb dL_law_646 hl (by decide) rfl (fun ls hl => ?_)
    refine lv_aload_n hx hb dL_law_648 rfl (lv_at hl 3 rfl) ?_
    refine lv_aload_n hx hb dL_law_649 rfl (lv_at hl 5 rfl) ?_
    refine lv_iload hx hb dL_law_650 (lv_at hl 1 rfl) ?_
    refine lv_iconst (v := 1) hx hb dL_law_652 (by decide) ?_
    refine lv_iadd hx hb dL_law_653 ?_
    refine W.eq (g2 := F0 m 654 ls [.int x_1, .ref b, .ref m0]) (by rw [ex_1]) ?_
    refine va_sld hx hb hX hbl hbA hS vi_2 dL_law_654 ?_
    refine W.eq (g2 := F0 m 655 ls [.int x_3, .ref m0]) (by rw [ex_3]) ?_
    refine lv_aload_n hx hb dL_law_655 rfl (lv_at hl 5 rfl) ?_
    refine lv_iload hx hb dL_law_656 (lv_at hl 1 rfl) ?_
    refine lv_iconst (v := 2) hx hb dL_law_658 (by decide) ?_
    refine lv_iadd hx hb dL_law_659 ?_
    refine W.eq (g2 := F0 m 660 ls [.int x_4, .ref b, .int x_3, .ref m0]) (by rw [ex_4]) ?_
    refine va_sld hx hb hX hbl hbA hS vi_5 dL_law_660 ?_
    refine W.eq (g2 := F0 m 661 ls [.int x_6, .int x_3, .ref m0]) (by rw [ex_6]) ?_
    refine lv_aload_n hx hb dL_law_661 rfl (lv_at hl 5 rfl) ?_
    refine lv_iload hx hb dL_law_662 (lv_at hl 1 rfl) ?_
    refine lv_iconst (v := 3) hx hb dL_law_664 (by decide) ?_
    refine lv_iadd hx hb dL_law_665 ?_
    refine W.eq (g2 := F0 m 666 ls [.int x_7, .ref b, .int x_6, .int x_3, .ref m0]) (by rw [ex_7]) ?_
    refine va_sld hx hb hX hbl hbA hS vi_8 dL_law_666 ?_
    refine W.eq (g2 := F0 m 667 ls [.int x_9, .int x_6, .int x_3, .ref m0]) (by rw [ex_9]) ?_
    refine va_calli (rnV (fun H => MH E m0 rf t0 t1 t2 A cd pk H) (As := [.int x_3, .int x_6, .int x_9]) (rest := []) ⟨hx, hb, hml, hown, hts⟩ (u_X10_receive l E s.heap.size Gm hGzm m0 rf hR t0 t1 t2 A cd pk x_3 x_6 x_9 hI5 hI8) (cwV 3 hts (gdV ml_L_89 im_X10_receive se_X10_X10_receive in_X10 co_X10_receive rfl) rfl rfl rfl (by decide +kernel) ⟨Nat.le_of_ble_eq_true rfl, Nat.le_of_ble_eq_true rfl⟩) hM (fun U hU hW => hK.go hW hS hAz hU) (va_recv hK.1 (va_one hM.1) (ci := 10) (q0 := 0) rfl rfl) rfl rfl hl.1 rfl (lv_room (Nat.le_of_ble_eq_true rfl)) dL_law_667 ⟨hC2, hS2⟩) hS (fun q _ h => hGzm q h) (fun q h => hGzm q h) (fun r_13 ur_13 t H locs ht hvm hwr_13 hB hz hk hS => ?_)
    have hM : MH E m0 rf t0 t1 t2 (uA (uA (uA (uA (uA (uA A 30 (ur_13.1)) 31 (ur_13.2.1)) 32 (ur_13.2.2.1)) 33 (ur_13.2.2.2.1)) 34 (ur_13.2.2.2.2.1)) 35 (ur_13.2.2.2.2.2.1)) ur_13.2.2.2.2.2.2 pk H := by rw [ht] at hB; exact hB
    have hDr_13 : D_X10_receive A cd pk x_3 x_6 x_9 (uA (uA (uA (uA (uA (uA A 30 (ur_13.1)) 31 (ur_13.2.1)) 32 (ur_13.2.2.1)) 33 (ur_13.2.2.2.1)) 34 (ur_13.2.2.2.2.1)) 35 (ur_13.2.2.2.2.2.1)) (ur_13.2.2.2.2.2.2) pk r_13 := hwr_13.2.2
    have hpr_13_0 : I5 (ur_13.2.2.1) (ur_13.2.2.2.1) (ur_13.2.2.2.2.2.1) := hwr_13.1
    have hpr_13_1 : I8 (A 20) (ur_13.1) (A 37) (A 36) := hwr_13.2.1
    have hT := hT.other hd2 hk
    have hro := hro.kept (hk _ hro.lt (fun h => h hGmo))
    obtain ⟨A_14, cd_14, pk_14, hM, hD, hV2⟩ : ∃ (A2 : AA) (cd2 pk2 : Int32), MH E m0 rf t0 t1 t2 A2 cd2 pk2 H ∧ D_X10_receive A cd pk x_3 x_6 x_9 A2 cd2 pk2 r_13 ∧ RIV A2 pk2 := ⟨_, _, _, hM, hDr_13, ⟨⟨hI2, hI3, hI4, hpr_13_0, hI6, hI7, hpr_13_1⟩, hpk⟩⟩
    obtain ⟨hSIM, ep_14, hE_14⟩ := sx_receiveC hSIM hC hD
    rw [← ep_14] at hSIM
    have hcd : cd_14 = 1 := hE_14.elim (fun h => h.2) (fun h => absurd h.1 (by decide))
    have hV := hV2
    refine lv_istore (lv' := [(6, .int r_13), (5, .int 1), (4, .int (nI i)), (3, .ref o0), (2, .ref m0), (1, .ref x0), (0, .ref b)]) hx hb dL_law_670 hl (by decide) rfl (fun ls hl => ?_)
    refine lv_goto (tgt := 971) hx hb dL_law_672 (by decide) ?_
    refine W.widen (k := C + 2) (n := S + 12) (by omega) (by omega) ?_
    exact key _ _ _ ⟨B, R, A_14, cd_14, pk_14, hT, hW, hM, hSIM, hV, ⟨_, hro⟩, hS⟩ (lv_sub hl [2, 3, 4, 5, 6] rfl)
  · have eB : Z_10 = B := eB
    rw [eB] at hT
    have hC : X_X9_receive Gc B R x0 x_3 x_6 x_9 ISE := hC
    refine lv_istore (lv' := [(5, .int 2), (4, .int (nI i)), (3, .ref o0), (2, .ref m0), (1, .ref x0), (0, .ref b)]) hx hb dL_law_646 hl (by decide) rfl (fun ls hl => ?_)
    refine lv_aload_n hx hb dL_law_648 rfl (lv_at hl 3 rfl) ?_
    refine lv_aload_n hx hb dL_law_649 rfl (lv_at hl 5 rfl) ?_
    refine lv_iload hx hb dL_law_650 (lv_at hl 1 rfl) ?_
    refine lv_iconst (v := 1) hx hb dL_law_652 (by decide) ?_
    refine lv_iadd hx hb dL_law_653 ?_
    refine W.eq (g2 := F0 m 654 ls [.int x_1, .ref b, .ref m0]) (by rw [ex_1]) ?_
    refine va_sld hx hb hX hbl hbA hS vi_2 dL_law_654 ?_
    refine W.eq (g2 := F0 m 655 ls [.int x_3, .ref m0]) (by rw [ex_3]) ?_
    refine lv_aload_n hx hb dL_law_655 rfl (lv_at hl 5 rfl) ?_
    refine lv_iload hx hb dL_law_656 (lv_at hl 1 rfl) ?_
    refine lv_iconst (v := 2) hx hb dL_law_658 (by decide) ?_
    refine lv_iadd hx hb dL_law_659 ?_
    refine W.eq (g2 := F0 m 660 ls [.int x_4, .ref b, .int x_3, .ref m0]) (by rw [ex_4]) ?_
    refine va_sld hx hb hX hbl hbA hS vi_5 dL_law_660 ?_
    refine W.eq (g2 := F0 m 661 ls [.int x_6, .int x_3, .ref m0]) (by rw [ex_6]) ?_
    refine lv_aload_n hx hb dL_law_661 rfl (lv_at hl 5 rfl) ?_
    refine lv_iload hx hb dL_law_662 (lv_at hl 1 rfl) ?_
    refine lv_iconst (v := 3) hx hb dL_law_664 (by decide) ?_
    refine lv_iadd hx hb dL_law_665 ?_
    refine W.eq (g2 := F0 m 666 ls [.int x_7, .ref b, .int x_6, .int x_3, .ref m0]) (by rw [ex_7]) ?_
    refine va_sld hx hb hX hbl hbA hS vi_8 dL_law_666 ?_
    refine W.eq (g2 := F0 m 667 ls [.int x_9, .int x_6, .int x_3, .ref m0]) (by rw [ex_9]) ?_
    refine va_calli (rnV (fun H => MH E m0 rf t0 t1 t2 A cd pk H) (As := [.int x_3, .int x_6, .int x_9]) (rest := []) ⟨hx, hb, hml, hown, hts⟩ (u_X10_receive l E s.heap.size Gm hGzm m0 rf hR t0 t1 t2 A cd pk x_3 x_6 x_9 hI5 hI8) (cwV 3 hts (gdV ml_L_89 im_X10_receive se_X10_X10_receive in_X10 co_X10_receive rfl) rfl rfl rfl (by decide +kernel) ⟨Nat.le_of_ble_eq_true rfl, Nat.le_of_ble_eq_true rfl⟩) hM (fun U hU hW => hK.go hW hS hAz hU) (va_recv hK.1 (va_one hM.1) (ci := 10) (q0 := 0) rfl rfl) rfl rfl hl.1 rfl (lv_room (Nat.le_of_ble_eq_true rfl)) dL_law_667 ⟨hC2, hS2⟩) hS (fun q _ h => hGzm q h) (fun q h => hGzm q h) (fun r_15 ur_15 t H locs ht hvm hwr_15 hB hz hk hS => ?_)
    have hM : MH E m0 rf t0 t1 t2 (uA (uA (uA (uA (uA (uA A 30 (ur_15.1)) 31 (ur_15.2.1)) 32 (ur_15.2.2.1)) 33 (ur_15.2.2.2.1)) 34 (ur_15.2.2.2.2.1)) 35 (ur_15.2.2.2.2.2.1)) ur_15.2.2.2.2.2.2 pk H := by rw [ht] at hB; exact hB
    have hDr_15 : D_X10_receive A cd pk x_3 x_6 x_9 (uA (uA (uA (uA (uA (uA A 30 (ur_15.1)) 31 (ur_15.2.1)) 32 (ur_15.2.2.1)) 33 (ur_15.2.2.2.1)) 34 (ur_15.2.2.2.2.1)) 35 (ur_15.2.2.2.2.2.1)) (ur_15.2.2.2.2.2.2) pk r_15 := hwr_15.2.2
    have hpr_15_0 : I5 (ur_15.2.2.1) (ur_15.2.2.2.1) (ur_15.2.2.2.2.2.1) := hwr_15.1
    have hpr_15_1 : I8 (A 20) (ur_15.1) (A 37) (A 36) := hwr_15.2.1
    have hT := hT.other hd2 hk
    have hro := hro.kept (hk _ hro.lt (fun h => h hGmo))
    obtain ⟨A_16, cd_16, pk_16, hM, hD, hV2⟩ : ∃ (A2 : AA) (cd2 pk2 : Int32), MH E m0 rf t0 t1 t2 A2 cd2 pk2 H ∧ D_X10_receive A cd pk x_3 x_6 x_9 A2 cd2 pk2 r_15 ∧ RIV A2 pk2 := ⟨_, _, _, hM, hDr_15, ⟨⟨hI2, hI3, hI4, hpr_15_0, hI6, hI7, hpr_15_1⟩, hpk⟩⟩
    obtain ⟨hSIM, ep_16, hE_16⟩ := sx_receiveC hSIM hC hD
    rw [← ep_16] at hSIM
    have hcd : cd_16 = 2 := hE_16.elim (fun h => absurd h.1 (by decide)) (fun h => h.2)
    have hV := hV2
    refine lv_istore (lv' := [(6, .int r_15), (5, .int 2), (4, .int (nI i)), (3, .ref o0), (2, .ref m0), (1, .ref x0), (0, .ref b)]) hx hb dL_law_670 hl (by decide) rfl (fun ls hl => ?_)
    refine lv_goto (tgt := 971) hx hb dL_law_672 (by decide) ?_
    refine W.widen (k := C + 2) (n := S + 12) (by omega) (by omega) ?_
    exact key _ _ _ ⟨B, R, A_16, cd_16, pk_16, hT, hW, hM, hSIM, hV, ⟨_, hro⟩, hS⟩ (lv_sub hl [2, 3, 4, 5, 6] rfl)
set_option maxHeartbeats 8000000 in
set_option maxRecDepth 100000 in
theorem lk_9 {p : Program} {l : Launch} {e : Env} {s : State} {m : MethodId} {below : List Frame} {meth : Method} {c : Code} {b L i C S : Nat} {xs : Nat → Int32} {E : EE} {Gc Gm : Nat → Nat} {x0 m0 o0 : Nat} {rf : Nat → Nat} {t0 t1 t2 : Int32} {H : Heap} {locs : List Loc} {ls : Array Slot} (hst : l.stackTraces = false) (C0 : lw_At p s m meth c b L xs) (hLB : L ≤ 3587) (hK : KS E s.heap.size s) (hN : NC s) (F9 : LF s Gc Gm x0 m0 o0 rf t0) (hi : i + 7 ≤ L) (hC : C + 2 ≤ 621377) (hSl : S + 12 ≤ 7231939) (hI : LI E s Gc x0 m0 o0 rf t0 t1 t2 H locs) (hl : lv_has ls 7 [(4, .int (nI i)), (3, .ref o0), (2, .ref m0), (1, .ref x0), (0, .ref b)]) (key : ∀ (H : Heap) (locs : List Loc) (ls : Array Slot), LI E s Gc x0 m0 o0 rf t0 t1 t2 H locs → lv_has ls 7 [(4, .int (nI i)), (3, .ref o0), (2, .ref m0), (1, .ref x0), (0, .ref b)] → W p l e room_1 s m #[Value.ref b] below meth c H locs (C + 2) (S + 12) (lw_Z below #[Value.ref b] s) (F0 m 971 ls [])) : W p l e room_1 s m #[Value.ref b] below meth c H locs C S (lw_Z below #[Value.ref b] s) (F0 m 675 ls []) := by
  obtain ⟨hx, hb, hr, hml, hown, hts0, hX, hbl, hlocks, hgv⟩ := id C0
  obtain ⟨hxc, hR, hGzc, hGzm, hd, hGco, hGmo, hoz, h2t⟩ := F9
  have hd2 : ∀ a, Gc a ≠ 0 → Gm a = 0 := fun a h => Decidable.byContradiction fun q => h (hd a q)
  have hts : ∀ w ∈ TS, w.before #[Value.ref b] s = true := fun w hw => hts0 w (List.mem_filter.mp hw).1
  have hbA : ¬ (fun q : Nat => s.heap.size ≤ q) b := Nat.not_le.mpr hbl
  have hAz : ∀ q, (fun q : Nat => s.heap.size ≤ q) q → s.heap.size ≤ q := fun q h => h
  have hC0 : C + 0 ≤ room_1.cells := (show C + 0 ≤ 621377 by omega)
  have hS0 : S + 0 ≤ room_1.slots := (show S + 0 ≤ 7231939 by omega)
  have hC2 : C + 2 ≤ room_1.cells := (show C + 2 ≤ 621377 by omega)
  have hS2 : S + 12 ≤ room_1.slots := (show S + 12 ≤ 7231939 by omega)
  have hiI : (nI i).toInt = (i : Int) := nI_toInt (by omega)
  obtain ⟨B, R, A, cd, pk, hT, hW, hM, hSIM, hV, ⟨fo, hro⟩, hS⟩ := hI
  obtain ⟨hI2, hI3, hI4, hI5, hI6, hI7, hI8, hpk⟩ := hV.c3
  refine lv_aload_n hx hb dL_law_675 rfl (lv_at hl 3 rfl) ?_
  refine lv_aload_n hx hb dL_law_676 rfl (lv_at hl 4 rfl) ?_
  refine lv_iload hx hb dL_law_677 (lv_at hl 0 rfl) ?_
  refine lv_iconst (v := 1) hx hb dL_law_679 (by decide) ?_
  refine lv_iadd hx hb dL_law_680 ?_
  refine lv_topi (fun x_1 ex_1 => ?_)
  have fx_1 : x_1.toInt = (i : Int) + 1 := by have h9 := s_add (x := nI i) (y := 1) (by rw [hiI, i_1]; omega) (by rw [hiI, i_1]; omega); rw [hiI, i_1] at h9; rw [ex_1]; exact h9
  have vi_2 : vp_in x_1 L := vp_in_iff.mpr (by omega)
  refine va_sld hx hb hX hbl hbA hS vi_2 dL_law_681 ?_
  refine lv_topi (fun x_3 ex_3 => ?_)
  have ha_4 := tx_1 hT hxc
  refine va_calli (rnV (fun H => TX E Gc B R H) (As := [.int x_3]) (rest := []) ⟨hx, hb, hml, hown, hts⟩ (x_X9_push l E s.heap.size Gc hGzc B R hW x0 x_3 hxc) (cwV 1 hts (gdV ml_L_90 im_X9_push se_X9_X9_push in_X9 co_X9_push rfl) rfl rfl rfl (by decide +kernel) ⟨Nat.le_of_ble_eq_true rfl, Nat.le_of_ble_eq_true rfl⟩) hT (fun U hU hW => hK.go hW hS hAz hU) (va_recv hK.1 (va_one ha_4) (ci := 9) (q0 := 0) rfl rfl) rfl rfl hl.1 rfl (lv_room (Nat.le_of_ble_eq_true rfl)) dL_law_682 ⟨hC0, hS0⟩) hS (fun q _ h => hGzc q (zn (L := [9, 4, 31, 32]) (by decide) h)) (fun q h => hGzc q (zn (L := [9, 4, 31, 32]) (by decide) h)) (fun r_4 u_4 t H locs ht9 hvm hwr_4 hB hz hk hS => ?_)
  obtain ⟨Z_4, eZ_4⟩ : ∃ z, z = u_4 := ⟨_, rfl⟩
  rw [← eZ_4] at hB hwr_4
  rw [ht9] at hB
  have hT : TX E Gc Z_4 R H := hB
  have hW : TW Gc Z_4 R := hwr_4.1
  have hC : C_X9_push Gc B R x0 x_3 Z_4 r_4 := hwr_4.2.2
  have hM := hM.away hR (fun q hq hg => hk q hq (fun h => zn (L := [9, 4, 31, 32]) (by decide) h (hd q hg)))
  have hro := hro.kept (hk _ hro.lt (fun h => zn (L := [9, 4, 31, 32]) (by decide) h hGco))
  refine lv_pop hx hb dL_law_685 rfl ?_
  refine lv_aload_n hx hb dL_law_686 rfl (lv_at hl 2 rfl) ?_
  refine lv_aload_n hx hb dL_law_687 rfl (lv_at hl 4 rfl) ?_
  refine lv_iload hx hb dL_law_688 (lv_at hl 0 rfl) ?_
  refine lv_iconst (v := 1) hx hb dL_law_690 (by decide) ?_
  refine lv_iadd hx hb dL_law_691 ?_
  refine W.eq (g2 := F0 m 692 ls [.int x_1, .ref b, .ref m0]) (by rw [ex_1]) ?_
  refine va_sld hx hb hX hbl hbA hS vi_2 dL_law_692 ?_
  refine W.eq (g2 := F0 m 693 ls [.int x_3, .ref m0]) (by rw [ex_3]) ?_
  refine va_calli (rnV (fun H => MH E m0 rf t0 t1 t2 A cd pk H) (As := [.int x_3]) (rest := []) ⟨hx, hb, hml, hown, hts⟩ (u_X10_push l E s.heap.size Gm hGzm m0 rf hR t0 t1 t2 A cd pk x_3 hI4 hI6 hI7 (show 0 ≤ pk.toInt ∧ pk.toInt ≤ 24 from by first | decide | omega)) (cwV 1 hts (gdV ml_L_94 im_X10_push se_X10_X10_push in_X10 co_X10_push rfl) rfl rfl rfl (by decide +kernel) ⟨Nat.le_of_ble_eq_true rfl, Nat.le_of_ble_eq_true rfl⟩) hM (fun U hU hW => hK.go hW hS hAz hU) (va_recv hK.1 (va_one hM.1) (ci := 10) (q0 := 0) rfl rfl) rfl rfl hl.1 rfl (lv_room (Nat.le_of_ble_eq_true rfl)) dL_law_693 ⟨hC0, hS0⟩) hS (fun q _ h => hGzm q h) (fun q h => hGzm q h) (fun r_5 ur_5 t H locs ht hvm hwr_5 hB hz hk hS => ?_)
  have hM : MH E m0 rf t0 t1 t2 (uA (uA (uA (uA (uA (uA (uA (uA (uA (uA A 41 (ur_5.1)) 42 (ur_5.2.1)) 43 (ur_5.2.2.1)) 44 (ur_5.2.2.2.1)) 45 (ur_5.2.2.2.2.1)) 46 (ur_5.2.2.2.2.2.1)) 47 (ur_5.2.2.2.2.2.2.1)) 48 (ur_5.2.2.2.2.2.2.2.1)) 13 (ur_5.2.2.2.2.2.2.2.2.1)) 15 (ur_5.2.2.2.2.2.2.2.2.2.1)) ur_5.2.2.2.2.2.2.2.2.2.2.2 ur_5.2.2.2.2.2.2.2.2.2.2.1 H := by rw [ht] at hB; exact hB
  have hDr_5 : D_X10_push A cd pk x_3 (uA (uA (uA (uA (uA (uA (uA (uA (uA (uA A 41 (ur_5.1)) 42 (ur_5.2.1)) 43 (ur_5.2.2.1)) 44 (ur_5.2.2.2.1)) 45 (ur_5.2.2.2.2.1)) 46 (ur_5.2.2.2.2.2.1)) 47 (ur_5.2.2.2.2.2.2.1)) 48 (ur_5.2.2.2.2.2.2.2.1)) 13 (ur_5.2.2.2.2.2.2.2.2.1)) 15 (ur_5.2.2.2.2.2.2.2.2.2.1)) (ur_5.2.2.2.2.2.2.2.2.2.2.2) (ur_5.2.2.2.2.2.2.2.2.2.2.1) r_5 := hwr_5.2.2.2
  have hpr_5_0 : I4 (A 10) (A 20) (A 29) (A 24) (A 11) (A 12) (ur_5.2.2.2.2.2.2.2.2.1) := hwr_5.1
  have hpr_5_1 : I7 (ur_5.1) (ur_5.2.1) (ur_5.2.2.2.1) (ur_5.2.2.2.2.1) (ur_5.2.2.2.2.2.1) := hwr_5.2.1
  have hpr_5_2 : 0 ≤ ur_5.2.2.2.2.2.2.2.2.2.2.1.toInt ∧ ur_5.2.2.2.2.2.2.2.2.2.2.1.toInt ≤ 24 := hwr_5.2.2.1
  have hT := hT.other hd2 hk
  have hro := hro.kept (hk _ hro.lt (fun h => h hGmo))
  obtain ⟨A_6, cd_6, pk_6, hM, hD, hV2⟩ : ∃ (A2 : AA) (cd2 pk2 : Int32), MH E m0 rf t0 t1 t2 A2 cd2 pk2 H ∧ D_X10_push A cd pk x_3 A2 cd2 pk2 r_5 ∧ RIV A2 pk2 := ⟨_, _, _, hM, hDr_5, ⟨⟨hI2, hI3, hpr_5_0, hI5, hI6, hpr_5_1, hI8⟩, hpr_5_2⟩⟩
  have hs_6 := s_pushC h2t hSIM hV hC hD
  obtain ⟨hSIM, er_6⟩ := hs_6
  have hV := hV2
  obtain rfl := er_6
  refine lv_pop hx hb dL_law_696 rfl ?_
  refine lv_goto (tgt := 971) hx hb dL_law_697 (by decide) ?_
  refine W.widen (k := C + 2) (n := S + 12) (by omega) (by omega) ?_
  exact key _ _ _ ⟨Z_4, R, A_6, cd_6, pk_6, hT, hW, hM, hSIM, hV, ⟨_, hro⟩, hS⟩ (lv_sub hl [0, 1, 2, 3, 4] rfl)
set_option maxHeartbeats 8000000 in
set_option maxRecDepth 100000 in
theorem lk_10 {p : Program} {l : Launch} {e : Env} {s : State} {m : MethodId} {below : List Frame} {meth : Method} {c : Code} {b L i C S : Nat} {xs : Nat → Int32} {E : EE} {Gc Gm : Nat → Nat} {x0 m0 o0 : Nat} {rf : Nat → Nat} {t0 t1 t2 : Int32} {H : Heap} {locs : List Loc} {ls : Array Slot} (hst : l.stackTraces = false) (C0 : lw_At p s m meth c b L xs) (hLB : L ≤ 3587) (hK : KS E s.heap.size s) (hN : NC s) (F9 : LF s Gc Gm x0 m0 o0 rf t0) (hi : i + 7 ≤ L) (hC : C + 2 ≤ 621377) (hSl : S + 12 ≤ 7231939) (hI : LI E s Gc x0 m0 o0 rf t0 t1 t2 H locs) (hl : lv_has ls 7 [(4, .int (nI i)), (3, .ref o0), (2, .ref m0), (1, .ref x0), (0, .ref b)]) (key : ∀ (H : Heap) (locs : List Loc) (ls : Array Slot), LI E s Gc x0 m0 o0 rf t0 t1 t2 H locs → lv_has ls 7 [(4, .int (nI i)), (3, .ref o0), (2, .ref m0), (1, .ref x0), (0, .ref b)] → W p l e room_1 s m #[Value.ref b] below meth c H locs (C + 2) (S + 12) (lw_Z below #[Value.ref b] s) (F0 m 971 ls [])) : W p l e room_1 s m #[Value.ref b] below meth c H locs C S (lw_Z below #[Value.ref b] s) (F0 m 700 ls []) := by
  obtain ⟨hx, hb, hr, hml, hown, hts0, hX, hbl, hlocks, hgv⟩ := id C0
  obtain ⟨hxc, hR, hGzc, hGzm, hd, hGco, hGmo, hoz, h2t⟩ := F9
  have hd2 : ∀ a, Gc a ≠ 0 → Gm a = 0 := fun a h => Decidable.byContradiction fun q => h (hd a q)
  have hts : ∀ w ∈ TS, w.before #[Value.ref b] s = true := fun w hw => hts0 w (List.mem_filter.mp hw).1
  have hbA : ¬ (fun q : Nat => s.heap.size ≤ q) b := Nat.not_le.mpr hbl
  have hAz : ∀ q, (fun q : Nat => s.heap.size ≤ q) q → s.heap.size ≤ q := fun q h => h
  have hC0 : C + 0 ≤ room_1.cells := (show C + 0 ≤ 621377 by omega)
  have hS0 : S + 0 ≤ room_1.slots := (show S + 0 ≤ 7231939 by omega)
  have hC2 : C + 2 ≤ room_1.cells := (show C + 2 ≤ 621377 by omega)
  have hS2 : S + 12 ≤ room_1.slots := (show S + 12 ≤ 7231939 by omega)
  have hiI : (nI i).toInt = (i : Int) := nI_toInt (by omega)
  obtain ⟨B, R, A, cd, pk, hT, hW, hM, hSIM, hV, ⟨fo, hro⟩, hS⟩ := hI
  obtain ⟨hI2, hI3, hI4, hI5, hI6, hI7, hI8, hpk⟩ := hV.c3
  refine lv_aload_n hx hb dL_law_700 rfl (lv_at hl 3 rfl) ?_
  refine lv_aload_n hx hb dL_law_701 rfl (lv_at hl 4 rfl) ?_
  refine lv_iload hx hb dL_law_702 (lv_at hl 0 rfl) ?_
  refine lv_iconst (v := 1) hx hb dL_law_704 (by decide) ?_
  refine lv_iadd hx hb dL_law_705 ?_
  refine lv_topi (fun x_1 ex_1 => ?_)
  have fx_1 : x_1.toInt = (i : Int) + 1 := by have h9 := s_add (x := nI i) (y := 1) (by rw [hiI, i_1]; omega) (by rw [hiI, i_1]; omega); rw [hiI, i_1] at h9; rw [ex_1]; exact h9
  have vi_2 : vp_in x_1 L := vp_in_iff.mpr (by omega)
  refine va_sld hx hb hX hbl hbA hS vi_2 dL_law_706 ?_
  refine lv_topi (fun x_3 ex_3 => ?_)
  have ha_4 := tx_1 hT hxc
  refine va_calli (rnV (fun H => TX E Gc B R H) (As := [.int x_3]) (rest := []) ⟨hx, hb, hml, hown, hts⟩ (x_X9_deliver l E s.heap.size Gc hGzc B R hW x0 x_3 hxc) (cwV 1 hts (gdV ml_L_95 im_X9_deliver se_X9_X9_deliver in_X9 co_X9_deliver rfl) rfl rfl rfl (by decide +kernel) ⟨Nat.le_of_ble_eq_true rfl, Nat.le_of_ble_eq_true rfl⟩) hT (fun U hU hW => hK.go hW hS hAz hU) (va_recv hK.1 (va_one ha_4) (ci := 9) (q0 := 0) rfl rfl) rfl rfl hl.1 rfl (lv_room (Nat.le_of_ble_eq_true rfl)) dL_law_707 ⟨hC0, hS0⟩) hS (fun q _ h => hGzc q (zn (L := [8, 9, 10, 4, 31, 32, 14, 13, 5, 15, 11, 16, 17, 30]) (by decide) h)) (fun q h => hGzc q (zn (L := [8, 9, 10, 4, 31, 32, 14, 13, 5, 15, 11, 16, 17, 30]) (by decide) h)) (fun r_4 u_4 t H locs ht9 hvm hwr_4 hB hz hk hS => ?_)
  obtain ⟨Z_4, Q_4⟩ := u_4
  rw [ht9] at hB
  have hT : TX E Gc Z_4 Q_4 H := hB
  have hW : TW Gc Z_4 Q_4 := hwr_4.1
  have hC : C_X9_deliver Gc B R x0 x_3 Z_4 Q_4 r_4 := hwr_4.2.2.2.2
  have hM := hM.away hR (fun q hq hg => hk q hq (fun h => zn (L := [8, 9, 10, 4, 31, 32, 14, 13, 5, 15, 11, 16, 17, 30]) (by decide) h (hd q hg)))
  have hro := hro.kept (hk _ hro.lt (fun h => zn (L := [8, 9, 10, 4, 31, 32, 14, 13, 5, 15, 11, 16, 17, 30]) (by decide) h hGco))
  refine lv_pop hx hb dL_law_710 rfl ?_
  refine lv_aload_n hx hb dL_law_711 rfl (lv_at hl 2 rfl) ?_
  refine lv_aload_n hx hb dL_law_712 rfl (lv_at hl 4 rfl) ?_
  refine lv_iload hx hb dL_law_713 (lv_at hl 0 rfl) ?_
  refine lv_iconst (v := 1) hx hb dL_law_715 (by decide) ?_
  refine lv_iadd hx hb dL_law_716 ?_
  refine W.eq (g2 := F0 m 717 ls [.int x_1, .ref b, .ref m0]) (by rw [ex_1]) ?_
  refine va_sld hx hb hX hbl hbA hS vi_2 dL_law_717 ?_
  refine W.eq (g2 := F0 m 718 ls [.int x_3, .ref m0]) (by rw [ex_3]) ?_
  refine va_calli (rnV (fun H => MH E m0 rf t0 t1 t2 A cd pk H) (As := [.int x_3]) (rest := []) ⟨hx, hb, hml, hown, hts⟩ (u_X10_deliver l E s.heap.size Gm hGzm m0 rf hR t0 t1 t2 A cd pk x_3 hI2 hI3 hI4 hI5 hI6 hI7 hI8 (show 0 ≤ pk.toInt ∧ pk.toInt ≤ 24 from by first | decide | omega)) (cwV 1 hts (gdV ml_L_98 im_X10_deliver se_X10_X10_deliver in_X10 co_X10_deliver rfl) rfl rfl rfl (by decide +kernel) ⟨Nat.le_of_ble_eq_true rfl, Nat.le_of_ble_eq_true rfl⟩) hM (fun U hU hW => hK.go hW hS hAz hU) (va_recv hK.1 (va_one hM.1) (ci := 10) (q0 := 0) rfl rfl) rfl rfl hl.1 rfl (lv_room (Nat.le_of_ble_eq_true rfl)) dL_law_718 ⟨hC0, hS0⟩) hS (fun q _ h => hGzm q h) (fun q h => hGzm q h) (fun r_5 ur_5 t H locs ht hvm hwr_5 hB hz hk hS => ?_)
  have hM : MH E m0 rf t0 t1 t2 ur_5.1 ur_5.2.1 ur_5.2.2 H := by rw [ht] at hB; exact hB
  have hDr_5 : D_X10_deliver t0 t1 t2 A cd pk x_3 ur_5.1 (ur_5.2.1) (ur_5.2.2) r_5 := hwr_5.2.2.2.2.2.2.2.2
  have hpr_5_0 : I2 (ur_5.1 5) (ur_5.1 6) := hwr_5.1
  have hpr_5_1 : I3 (ur_5.1 8) := hwr_5.2.1
  have hpr_5_2 : I4 (ur_5.1 10) (ur_5.1 20) (ur_5.1 29) (ur_5.1 24) (ur_5.1 11) (ur_5.1 12) (ur_5.1 13) := hwr_5.2.2.1
  have hpr_5_3 : I5 (ur_5.1 32) (ur_5.1 33) (ur_5.1 35) := hwr_5.2.2.2.1
  have hpr_5_4 : I6 (ur_5.1 22) (ur_5.1 23) (ur_5.1 24) (ur_5.1 25) (ur_5.1 26) := hwr_5.2.2.2.2.1
  have hpr_5_5 : I7 (ur_5.1 41) (ur_5.1 42) (ur_5.1 44) (ur_5.1 45) (ur_5.1 46) := hwr_5.2.2.2.2.2.1
  have hpr_5_6 : I8 (ur_5.1 20) (ur_5.1 30) (ur_5.1 37) (ur_5.1 36) := hwr_5.2.2.2.2.2.2.1
  have hpr_5_7 : 0 ≤ ur_5.2.2.toInt ∧ ur_5.2.2.toInt ≤ 24 := hwr_5.2.2.2.2.2.2.2.1
  have hT := hT.other hd2 hk
  have hro := hro.kept (hk _ hro.lt (fun h => h hGmo))
  obtain ⟨A_6, cd_6, pk_6, hM, hD, hV2⟩ : ∃ (A2 : AA) (cd2 pk2 : Int32), MH E m0 rf t0 t1 t2 A2 cd2 pk2 H ∧ D_X10_deliver t0 t1 t2 A cd pk x_3 A2 cd2 pk2 r_5 ∧ RIV A2 pk2 := ⟨_, _, _, hM, hDr_5, ⟨⟨hpr_5_0, hpr_5_1, hpr_5_2, hpr_5_3, hpr_5_4, hpr_5_5, hpr_5_6⟩, hpr_5_7⟩⟩
  have hs_6 := s_deliverC h2t hSIM hV hC hD
  obtain ⟨hSIM, er_6⟩ := hs_6
  have hV := hV2
  obtain rfl := er_6
  refine lv_pop hx hb dL_law_721 rfl ?_
  refine lv_goto (tgt := 971) hx hb dL_law_722 (by decide) ?_
  refine W.widen (k := C + 2) (n := S + 12) (by omega) (by omega) ?_
  exact key _ _ _ ⟨Z_4, Q_4, A_6, cd_6, pk_6, hT, hW, hM, hSIM, hV, ⟨_, hro⟩, hS⟩ (lv_sub hl [0, 1, 2, 3, 4] rfl)
set_option maxHeartbeats 8000000 in
set_option maxRecDepth 100000 in
theorem lk_11 {p : Program} {l : Launch} {e : Env} {s : State} {m : MethodId} {below : List Frame} {meth : Method} {c : Code} {b L i C S : Nat} {xs : Nat → Int32} {E : EE} {Gc Gm : Nat → Nat} {x0 m0 o0 : Nat} {rf : Nat → Nat} {t0 t1 t2 : Int32} {H : Heap} {locs : List Loc} {ls : Array Slot} (hst : l.stackTraces = false) (C0 : lw_At p s m meth c b L xs) (hLB : L ≤ 3587) (hK : KS E s.heap.size s) (hN : NC s) (F9 : LF s Gc Gm x0 m0 o0 rf t0) (hi : i + 7 ≤ L) (hC : C + 2 ≤ 621377) (hSl : S + 12 ≤ 7231939) (hI : LI E s Gc x0 m0 o0 rf t0 t1 t2 H locs) (hl : lv_has ls 7 [(4, .int (nI i)), (3, .ref o0), (2, .ref m0), (1, .ref x0), (0, .ref b)]) (key : ∀ (H : Heap) (locs : List Loc) (ls : Array Slot), LI E s Gc x0 m0 o0 rf t0 t1 t2 H locs → lv_has ls 7 [(4, .int (nI i)), (3, .ref o0), (2, .ref m0), (1, .ref x0), (0, .ref b)] → W p l e room_1 s m #[Value.ref b] below meth c H locs (C + 2) (S + 12) (lw_Z below #[Value.ref b] s) (F0 m 971 ls [])) : W p l e room_1 s m #[Value.ref b] below meth c H locs C S (lw_Z below #[Value.ref b] s) (F0 m 725 ls []) := by
  obtain ⟨hx, hb, hr, hml, hown, hts0, hX, hbl, hlocks, hgv⟩ := id C0
  obtain ⟨hxc, hR, hGzc, hGzm, hd, hGco, hGmo, hoz, h2t⟩ := F9
  have hd2 : ∀ a, Gc a ≠ 0 → Gm a = 0 := fun a h => Decidable.byContradiction fun q => h (hd a q)
  have hts : ∀ w ∈ TS, w.before #[Value.ref b] s = true := fun w hw => hts0 w (List.mem_filter.mp hw).1
  have hbA : ¬ (fun q : Nat => s.heap.size ≤ q) b := Nat.not_le.mpr hbl
  have hAz : ∀ q, (fun q : Nat => s.heap.size ≤ q) q → s.heap.size ≤ q := fun q h => h
  have hC0 : C + 0 ≤ room_1.cells := (show C + 0 ≤ 621377 by omega)
  have hS0 : S + 0 ≤ room_1.slots := (show S + 0 ≤ 7231939 by omega)
  have hC2 : C + 2 ≤ room_1.cells := (show C + 2 ≤ 621377 by omega)
  have hS2 : S + 12 ≤ room_1.slots := (show S + 12 ≤ 7231939 by omega)
  have hiI : (nI i).toInt = (i : Int) := nI_toInt (by omega)
  obtain ⟨B, R, A, cd, pk, hT, hW, hM, hSIM, hV, ⟨fo, hro⟩, hS⟩ := hI
  obtain ⟨hI2, hI3, hI4, hI5, hI6, hI7, hI8, hpk⟩ := hV.c3
  refine lv_aload_n hx hb dL_law_725 rfl (lv_at hl 3 rfl) ?_
  refine lv_aload_n hx hb dL_law_726 rfl (lv_at hl 4 rfl) ?_
  refine lv_iload hx hb dL_law_727 (lv_at hl 0 rfl) ?_
  refine lv_iconst (v := 1) hx hb dL_law_729 (by decide) ?_
  refine lv_iadd hx hb dL_law_730 ?_
  refine lv_topi (fun x_1 ex_1 => ?_)
  have fx_1 : x_1.toInt = (i : Int) + 1 := by have h9 := s_add (x := nI i) (y := 1) (by rw [hiI, i_1]; omega) (by rw [hiI, i_1]; omega); rw [hiI, i_1] at h9; rw [ex_1]; exact h9
  have vi_2 : vp_in x_1 L := vp_in_iff.mpr (by omega)
  refine va_sld hx hb hX hbl hbA hS vi_2 dL_law_731 ?_
  refine lv_topi (fun x_3 ex_3 => ?_)
  refine lv_aload_n hx hb dL_law_732 rfl (lv_at hl 4 rfl) ?_
  refine lv_iload hx hb dL_law_733 (lv_at hl 0 rfl) ?_
  refine lv_iconst (v := 2) hx hb dL_law_735 (by decide) ?_
  refine lv_iadd hx hb dL_law_736 ?_
  refine lv_topi (fun x_4 ex_4 => ?_)
  have fx_4 : x_4.toInt = (i : Int) + 2 := by have h9 := s_add (x := nI i) (y := 2) (by rw [hiI, i_2]; omega) (by rw [hiI, i_2]; omega); rw [hiI, i_2] at h9; rw [ex_4]; exact h9
  have vi_5 : vp_in x_4 L := vp_in_iff.mpr (by omega)
  refine va_sld hx hb hX hbl hbA hS vi_5 dL_law_737 ?_
  refine lv_topi (fun x_6 ex_6 => ?_)
  refine W.jv (P := fun v_7 : Int32 => v_7 = if x_6.toInt = 0 then 0 else 1) (f := fun v_7 => F0 m 746 ls ([.int v_7, .int x_3, .ref x0])) (fun v_7 hv_7 => ?_) (fun key_7 => ?_)
  · have hv_7 : v_7 = if x_6.toInt = 0 then 0 else 1 := hv_7
    have ha_8 := tx_1 hT hxc
    refine va_calli (rnV (fun H => TX E Gc B R H) (As := [.int x_3, .int v_7]) (rest := []) ⟨hx, hb, hml, hown, hts⟩ (x_X9_spoil l E s.heap.size Gc hGzc B R hW x0 x_3 v_7 hxc) (cwV 2 hts (gdV ml_L_99 im_X9_spoil se_X9_X9_spoil in_X9 co_X9_spoil rfl) rfl rfl rfl (by decide +kernel) ⟨Nat.le_of_ble_eq_true rfl, Nat.le_of_ble_eq_true rfl⟩) hT (fun U hU hW => hK.go hW hS hAz hU) (va_recv hK.1 (va_one ha_8) (ci := 9) (q0 := 0) rfl rfl) rfl rfl hl.1 rfl (lv_room (Nat.le_of_ble_eq_true rfl)) dL_law_746 ⟨hC0, hS0⟩) hS (fun q _ h => hGzc q (zn (L := [4, 30, 31, 32]) (by decide) h)) (fun q h => hGzc q (zn (L := [4, 30, 31, 32]) (by decide) h)) (fun r_8 u_8 t H locs ht9 hvm hwr_8 hB hz hk hS => ?_)
    obtain ⟨Z_8, Q_8⟩ := u_8
    rw [ht9] at hB
    have hT : TX E Gc Z_8 Q_8 H := hB
    have hW : TW Gc Z_8 Q_8 := hwr_8.1
    have hC : C_X9_spoil Gc B R x0 x_3 v_7 Z_8 Q_8 r_8 := hwr_8.2.2.2.2
    have hM := hM.away hR (fun q hq hg => hk q hq (fun h => zn (L := [4, 30, 31, 32]) (by decide) h (hd q hg)))
    have hro := hro.kept (hk _ hro.lt (fun h => zn (L := [4, 30, 31, 32]) (by decide) h hGco))
    refine lv_pop hx hb dL_law_749 rfl ?_
    refine lv_aload_n hx hb dL_law_750 rfl (lv_at hl 2 rfl) ?_
    refine lv_aload_n hx hb dL_law_751 rfl (lv_at hl 4 rfl) ?_
    refine lv_iload hx hb dL_law_752 (lv_at hl 0 rfl) ?_
    refine lv_iconst (v := 1) hx hb dL_law_754 (by decide) ?_
    refine lv_iadd hx hb dL_law_755 ?_
    refine W.eq (g2 := F0 m 756 ls [.int x_1, .ref b, .ref m0]) (by rw [ex_1]) ?_
    refine va_sld hx hb hX hbl hbA hS vi_2 dL_law_756 ?_
    refine W.eq (g2 := F0 m 757 ls [.int x_3, .ref m0]) (by rw [ex_3]) ?_
    refine lv_aload_n hx hb dL_law_757 rfl (lv_at hl 4 rfl) ?_
    refine lv_iload hx hb dL_law_758 (lv_at hl 0 rfl) ?_
    refine lv_iconst (v := 2) hx hb dL_law_760 (by decide) ?_
    refine lv_iadd hx hb dL_law_761 ?_
    refine W.eq (g2 := F0 m 762 ls [.int x_4, .ref b, .int x_3, .ref m0]) (by rw [ex_4]) ?_
    refine va_sld hx hb hX hbl hbA hS vi_5 dL_law_762 ?_
    refine W.eq (g2 := F0 m 763 ls [.int x_6, .int x_3, .ref m0]) (by rw [ex_6]) ?_
    refine W.jv (P := fun v_9 : Int32 => v_9 = if x_6.toInt = 0 then 0 else 1) (f := fun v_9 => F0 m 771 ls ([.int v_9, .int x_3, .ref m0])) (fun v_9 hv_9 => ?_) (fun key_9 => ?_)
    · have hv_9 : v_9 = if x_6.toInt = 0 then 0 else 1 := hv_9
      have ev_9 : v_9 = v_7 := hv_9.trans hv_7.symm
      subst ev_9
      refine va_calli (rnV (fun H => MH E m0 rf t0 t1 t2 A cd pk H) (As := [.int x_3, .int v_9]) (rest := []) ⟨hx, hb, hml, hown, hts⟩ (u_X10_spoil l E s.heap.size Gm hGzm m0 rf hR t0 t1 t2 A cd pk x_3 v_9 hI7 (show 0 ≤ pk.toInt ∧ pk.toInt ≤ 24 from by first | decide | omega)) (cwV 2 hts (gdV ml_L_103 im_X10_spoil se_X10_X10_spoil in_X10 co_X10_spoil rfl) rfl rfl rfl (by decide +kernel) ⟨Nat.le_of_ble_eq_true rfl, Nat.le_of_ble_eq_true rfl⟩) hM (fun U hU hW => hK.go hW hS hAz hU) (va_recv hK.1 (va_one hM.1) (ci := 10) (q0 := 0) rfl rfl) rfl rfl hl.1 rfl (lv_room (Nat.le_of_ble_eq_true rfl)) dL_law_771 ⟨hC0, hS0⟩) hS (fun q _ h => hGzm q h) (fun q h => hGzm q h) (fun r_10 ur_10 t H locs ht hvm hwr_10 hB hz hk hS => ?_)
      have hM : MH E m0 rf t0 t1 t2 (uA (uA (uA (uA (uA (uA (uA (uA A 41 (ur_10.1)) 42 (ur_10.2.1)) 43 (ur_10.2.2.1)) 44 (ur_10.2.2.2.1)) 45 (ur_10.2.2.2.2.1)) 46 (ur_10.2.2.2.2.2.1)) 47 (ur_10.2.2.2.2.2.2.1)) 48 (ur_10.2.2.2.2.2.2.2.1)) ur_10.2.2.2.2.2.2.2.2.2 ur_10.2.2.2.2.2.2.2.2.1 H := by rw [ht] at hB; exact hB
      have hDr_10 : D_X10_spoil A cd pk x_3 v_9 (uA (uA (uA (uA (uA (uA (uA (uA A 41 (ur_10.1)) 42 (ur_10.2.1)) 43 (ur_10.2.2.1)) 44 (ur_10.2.2.2.1)) 45 (ur_10.2.2.2.2.1)) 46 (ur_10.2.2.2.2.2.1)) 47 (ur_10.2.2.2.2.2.2.1)) 48 (ur_10.2.2.2.2.2.2.2.1)) (ur_10.2.2.2.2.2.2.2.2.2) (ur_10.2.2.2.2.2.2.2.2.1) r_10 := hwr_10.2.2
      have hpr_10_0 : I7 (ur_10.1) (ur_10.2.1) (ur_10.2.2.2.1) (ur_10.2.2.2.2.1) (ur_10.2.2.2.2.2.1) := hwr_10.1
      have hpr_10_1 : 0 ≤ ur_10.2.2.2.2.2.2.2.2.1.toInt ∧ ur_10.2.2.2.2.2.2.2.2.1.toInt ≤ 24 := hwr_10.2.1
      have hT := hT.other hd2 hk
      have hro := hro.kept (hk _ hro.lt (fun h => h hGmo))
      obtain ⟨A_11, cd_11, pk_11, hM, hD, hV2⟩ : ∃ (A2 : AA) (cd2 pk2 : Int32), MH E m0 rf t0 t1 t2 A2 cd2 pk2 H ∧ D_X10_spoil A cd pk x_3 v_9 A2 cd2 pk2 r_10 ∧ RIV A2 pk2 := ⟨_, _, _, hM, hDr_10, ⟨⟨hI2, hI3, hI4, hI5, hI6, hpr_10_0, hI8⟩, hpr_10_1⟩⟩
      have hs_11 := s_spoilC hSIM hV hC hD
      obtain ⟨hSIM, er_11⟩ := hs_11
      have hV := hV2
      obtain rfl := er_11
      refine lv_pop hx hb dL_law_774 rfl ?_
      refine lv_goto (tgt := 971) hx hb dL_law_775 (by decide) ?_
      refine W.widen (k := C + 2) (n := S + 12) (by omega) (by omega) ?_
      exact key _ _ _ ⟨Z_8, Q_8, A_11, cd_11, pk_11, hT, hW, hM, hSIM, hV, ⟨_, hro⟩, hS⟩ (lv_sub hl [0, 1, 2, 3, 4] rfl)
    · refine lv_if_eq (tgt := 770) hx hb dL_law_763 (by decide) (fun c_12 => ?_) (fun c_12 => ?_)
      · simp only [lt_I, le_I, eq_I, i_0, i_1, i_2, i_3, i_4, i_5, i_6, i_7, i_8, i_10, i_12, i_16, i_20, i_23, i_24, i_31, i_32, i_63, i_64, i_m1, i_9, i_11, i_13, i_25, i_60, i_75, i_79, i_80, i_96, i_100] at c_12
        refine lv_iconst (v := 0) hx hb dL_law_770 (by decide) ?_
        exact key_9 0 (by first | rw [if_pos (by omega)] | rw [if_neg (by omega)])
      · simp only [lt_I, le_I, eq_I, i_0, i_1, i_2, i_3, i_4, i_5, i_6, i_7, i_8, i_10, i_12, i_16, i_20, i_23, i_24, i_31, i_32, i_63, i_64, i_m1, i_9, i_11, i_13, i_25, i_60, i_75, i_79, i_80, i_96, i_100] at c_12
        refine lv_iconst (v := 1) hx hb dL_law_766 (by decide) ?_
        refine lv_goto (tgt := 771) hx hb dL_law_767 (by decide) ?_
        exact key_9 1 (by first | rw [if_pos (by omega)] | rw [if_neg (by omega)])
  · refine lv_if_eq (tgt := 745) hx hb dL_law_738 (by decide) (fun c_13 => ?_) (fun c_13 => ?_)
    · simp only [lt_I, le_I, eq_I, i_0, i_1, i_2, i_3, i_4, i_5, i_6, i_7, i_8, i_10, i_12, i_16, i_20, i_23, i_24, i_31, i_32, i_63, i_64, i_m1, i_9, i_11, i_13, i_25, i_60, i_75, i_79, i_80, i_96, i_100] at c_13
      refine lv_iconst (v := 0) hx hb dL_law_745 (by decide) ?_
      exact key_7 0 (by first | rw [if_pos (by omega)] | rw [if_neg (by omega)])
    · simp only [lt_I, le_I, eq_I, i_0, i_1, i_2, i_3, i_4, i_5, i_6, i_7, i_8, i_10, i_12, i_16, i_20, i_23, i_24, i_31, i_32, i_63, i_64, i_m1, i_9, i_11, i_13, i_25, i_60, i_75, i_79, i_80, i_96, i_100] at c_13
      refine lv_iconst (v := 1) hx hb dL_law_741 (by decide) ?_
      refine lv_goto (tgt := 746) hx hb dL_law_742 (by decide) ?_
      exact key_7 1 (by first | rw [if_pos (by omega)] | rw [if_neg (by omega)])
end
section
set_option maxHeartbeats 8000000 in
set_option maxRecDepth 100000 in
theorem lk_12 {p : Program} {l : Launch} {e : Env} {s : State} {m : MethodId} {below : List Frame} {meth : Method} {c : Code} {b L i C S : Nat} {xs : Nat → Int32} {E : EE} {Gc Gm : Nat → Nat} {x0 m0 o0 : Nat} {rf : Nat → Nat} {t0 t1 t2 : Int32} {H : Heap} {locs : List Loc} {ls : Array Slot} (hst : l.stackTraces = false) (C0 : lw_At p s m meth c b L xs) (hLB : L ≤ 3587) (hK : KS E s.heap.size s) (hN : NC s) (F9 : LF s Gc Gm x0 m0 o0 rf t0) (hi : i + 7 ≤ L) (hC : C + 2 ≤ 621377) (hSl : S + 12 ≤ 7231939) (hI : LI E s Gc x0 m0 o0 rf t0 t1 t2 H locs) (hl : lv_has ls 7 [(4, .int (nI i)), (3, .ref o0), (2, .ref m0), (1, .ref x0), (0, .ref b)]) (key : ∀ (H : Heap) (locs : List Loc) (ls : Array Slot), LI E s Gc x0 m0 o0 rf t0 t1 t2 H locs → lv_has ls 7 [(4, .int (nI i)), (3, .ref o0), (2, .ref m0), (1, .ref x0), (0, .ref b)] → W p l e room_1 s m #[Value.ref b] below meth c H locs (C + 2) (S + 12) (lw_Z below #[Value.ref b] s) (F0 m 971 ls [])) : W p l e room_1 s m #[Value.ref b] below meth c H locs C S (lw_Z below #[Value.ref b] s) (F0 m 778 ls []) := by
  obtain ⟨hx, hb, hr, hml, hown, hts0, hX, hbl, hlocks, hgv⟩ := id C0
  obtain ⟨hxc, hR, hGzc, hGzm, hd, hGco, hGmo, hoz, h2t⟩ := F9
  have hd2 : ∀ a, Gc a ≠ 0 → Gm a = 0 := fun a h => Decidable.byContradiction fun q => h (hd a q)
  have hts : ∀ w ∈ TS, w.before #[Value.ref b] s = true := fun w hw => hts0 w (List.mem_filter.mp hw).1
  have hbA : ¬ (fun q : Nat => s.heap.size ≤ q) b := Nat.not_le.mpr hbl
  have hAz : ∀ q, (fun q : Nat => s.heap.size ≤ q) q → s.heap.size ≤ q := fun q h => h
  have hC0 : C + 0 ≤ room_1.cells := (show C + 0 ≤ 621377 by omega)
  have hS0 : S + 0 ≤ room_1.slots := (show S + 0 ≤ 7231939 by omega)
  have hC2 : C + 2 ≤ room_1.cells := (show C + 2 ≤ 621377 by omega)
  have hS2 : S + 12 ≤ room_1.slots := (show S + 12 ≤ 7231939 by omega)
  have hiI : (nI i).toInt = (i : Int) := nI_toInt (by omega)
  obtain ⟨B, R, A, cd, pk, hT, hW, hM, hSIM, hV, ⟨fo, hro⟩, hS⟩ := hI
  obtain ⟨hI2, hI3, hI4, hI5, hI6, hI7, hI8, hpk⟩ := hV.c3
  refine lv_aload_n hx hb dL_law_778 rfl (lv_at hl 3 rfl) ?_
  have ha_1 := tx_1 hT hxc
  refine va_calli (rnV (fun H => TX E Gc B R H) (As := []) (rest := []) ⟨hx, hb, hml, hown, hts⟩ (x_X9_tick l E s.heap.size Gc hGzc B R hW x0  hxc) (cwV 0 hts (gdV ml_L_104 im_X9_tick se_X9_X9_tick in_X9 co_X9_tick rfl) rfl rfl rfl (by decide +kernel) ⟨Nat.le_of_ble_eq_true rfl, Nat.le_of_ble_eq_true rfl⟩) hT (fun U hU hW => hK.go hW hS hAz hU) (va_recv hK.1 (va_one ha_1) (ci := 9) (q0 := 0) rfl rfl) rfl rfl hl.1 rfl (lv_room (Nat.le_of_ble_eq_true rfl)) dL_law_779 ⟨hC0, hS0⟩) hS (fun q _ h => hGzc q (zn (L := [8, 5, 15, 11, 10, 9]) (by decide) h)) (fun q h => hGzc q (zn (L := [8, 5, 15, 11, 10, 9]) (by decide) h)) (fun r_1 u_1 t H locs ht9 hvm hwr_1 hB hz hk hS => ?_)
  obtain ⟨Z_1, eZ_1⟩ : ∃ z, z = u_1 := ⟨_, rfl⟩
  rw [← eZ_1] at hB hwr_1
  rw [ht9] at hB
  have hT : TX E Gc Z_1 R H := hB
  have hW : TW Gc Z_1 R := hwr_1.1
  have hC : C_X9_tick Gc B R x0 Z_1 r_1 := hwr_1.2.2
  have hM := hM.away hR (fun q hq hg => hk q hq (fun h => zn (L := [8, 5, 15, 11, 10, 9]) (by decide) h (hd q hg)))
  have hro := hro.kept (hk _ hro.lt (fun h => zn (L := [8, 5, 15, 11, 10, 9]) (by decide) h hGco))
  refine lv_pop hx hb dL_law_782 rfl ?_
  refine lv_aload_n hx hb dL_law_783 rfl (lv_at hl 2 rfl) ?_
  refine va_calli (rnV (fun H => MH E m0 rf t0 t1 t2 A cd pk H) (As := []) (rest := []) ⟨hx, hb, hml, hown, hts⟩ (u_X10_tick l E s.heap.size Gm hGzm m0 rf hR t0 t1 t2 A cd pk hI3 hI4 hI8) (cwV 0 hts (gdV ml_L_108 im_X10_tick se_X10_X10_tick in_X10 co_X10_tick rfl) rfl rfl rfl (by decide +kernel) ⟨Nat.le_of_ble_eq_true rfl, Nat.le_of_ble_eq_true rfl⟩) hM (fun U hU hW => hK.go hW hS hAz hU) (va_recv hK.1 (va_one hM.1) (ci := 10) (q0 := 0) rfl rfl) rfl rfl hl.1 rfl (lv_room (Nat.le_of_ble_eq_true rfl)) dL_law_784 ⟨hC0, hS0⟩) hS (fun q _ h => hGzm q h) (fun q h => hGzm q h) (fun r_2 ur_2 t H locs ht hvm hwr_2 hB hz hk hS => ?_)
  have hM : MH E m0 rf t0 t1 t2 (uA (uA (uA (uA (uA (uA (uA (uA (uA (uA A 8 (ur_2.1)) 9 (ur_2.2.1)) 10 (ur_2.2.2.1)) 13 (ur_2.2.2.2.1)) 15 (ur_2.2.2.2.2.1)) 16 (ur_2.2.2.2.2.2.1)) 18 (ur_2.2.2.2.2.2.2.1)) 20 (ur_2.2.2.2.2.2.2.2.1)) 30 (ur_2.2.2.2.2.2.2.2.2.1)) 36 (ur_2.2.2.2.2.2.2.2.2.2.1)) ur_2.2.2.2.2.2.2.2.2.2.2 pk H := by rw [ht] at hB; exact hB
  have hDr_2 : D_X10_tick t0 t1 t2 A cd pk (uA (uA (uA (uA (uA (uA (uA (uA (uA (uA A 8 (ur_2.1)) 9 (ur_2.2.1)) 10 (ur_2.2.2.1)) 13 (ur_2.2.2.2.1)) 15 (ur_2.2.2.2.2.1)) 16 (ur_2.2.2.2.2.2.1)) 18 (ur_2.2.2.2.2.2.2.1)) 20 (ur_2.2.2.2.2.2.2.2.1)) 30 (ur_2.2.2.2.2.2.2.2.2.1)) 36 (ur_2.2.2.2.2.2.2.2.2.2.1)) (ur_2.2.2.2.2.2.2.2.2.2.2) pk r_2 := hwr_2.2.2.2
  have hpr_2_0 : I3 (ur_2.1) := hwr_2.1
  have hpr_2_1 : I4 (ur_2.2.2.1) (ur_2.2.2.2.2.2.2.2.1) (A 29) (A 24) (A 11) (A 12) (ur_2.2.2.2.1) := hwr_2.2.1
  have hpr_2_2 : I8 (ur_2.2.2.2.2.2.2.2.1) (ur_2.2.2.2.2.2.2.2.2.1) (A 37) (ur_2.2.2.2.2.2.2.2.2.2.1) := hwr_2.2.2.1
  have hT := hT.other hd2 hk
  have hro := hro.kept (hk _ hro.lt (fun h => h hGmo))
  obtain ⟨A_3, cd_3, pk_3, hM, hD, hV2⟩ : ∃ (A2 : AA) (cd2 pk2 : Int32), MH E m0 rf t0 t1 t2 A2 cd2 pk2 H ∧ D_X10_tick t0 t1 t2 A cd pk  A2 cd2 pk2 r_2 ∧ RIV A2 pk2 := ⟨_, _, _, hM, hDr_2, ⟨⟨hI2, hpr_2_0, hpr_2_1, hI5, hI6, hI7, hpr_2_2⟩, hpk⟩⟩
  have hs_3 := s_tickC h2t hSIM hV hC hD
  obtain ⟨hSIM, ep_3, er_3⟩ := hs_3
  rw [← ep_3] at hSIM
  have hV := hV2
  obtain rfl := er_3
  refine lv_pop hx hb dL_law_787 rfl ?_
  refine lv_goto (tgt := 971) hx hb dL_law_788 (by decide) ?_
  refine W.widen (k := C + 2) (n := S + 12) (by omega) (by omega) ?_
  exact key _ _ _ ⟨Z_1, R, A_3, cd_3, pk_3, hT, hW, hM, hSIM, hV, ⟨_, hro⟩, hS⟩ (lv_sub hl [0, 1, 2, 3, 4] rfl)
set_option maxHeartbeats 8000000 in
set_option maxRecDepth 100000 in
theorem lk_13 {p : Program} {l : Launch} {e : Env} {s : State} {m : MethodId} {below : List Frame} {meth : Method} {c : Code} {b L i C S : Nat} {xs : Nat → Int32} {E : EE} {Gc Gm : Nat → Nat} {x0 m0 o0 : Nat} {rf : Nat → Nat} {t0 t1 t2 : Int32} {H : Heap} {locs : List Loc} {ls : Array Slot} (hst : l.stackTraces = false) (C0 : lw_At p s m meth c b L xs) (hLB : L ≤ 3587) (hK : KS E s.heap.size s) (hN : NC s) (F9 : LF s Gc Gm x0 m0 o0 rf t0) (hi : i + 7 ≤ L) (hC : C + 2 ≤ 621377) (hSl : S + 12 ≤ 7231939) (hI : LI E s Gc x0 m0 o0 rf t0 t1 t2 H locs) (hl : lv_has ls 7 [(4, .int (nI i)), (3, .ref o0), (2, .ref m0), (1, .ref x0), (0, .ref b)]) (key : ∀ (H : Heap) (locs : List Loc) (ls : Array Slot), LI E s Gc x0 m0 o0 rf t0 t1 t2 H locs → lv_has ls 7 [(4, .int (nI i)), (3, .ref o0), (2, .ref m0), (1, .ref x0), (0, .ref b)] → W p l e room_1 s m #[Value.ref b] below meth c H locs (C + 2) (S + 12) (lw_Z below #[Value.ref b] s) (F0 m 971 ls [])) : W p l e room_1 s m #[Value.ref b] below meth c H locs C S (lw_Z below #[Value.ref b] s) (F0 m 791 ls []) := by
  obtain ⟨hx, hb, hr, hml, hown, hts0, hX, hbl, hlocks, hgv⟩ := id C0
  obtain ⟨hxc, hR, hGzc, hGzm, hd, hGco, hGmo, hoz, h2t⟩ := F9
  have hd2 : ∀ a, Gc a ≠ 0 → Gm a = 0 := fun a h => Decidable.byContradiction fun q => h (hd a q)
  have hts : ∀ w ∈ TS, w.before #[Value.ref b] s = true := fun w hw => hts0 w (List.mem_filter.mp hw).1
  have hbA : ¬ (fun q : Nat => s.heap.size ≤ q) b := Nat.not_le.mpr hbl
  have hAz : ∀ q, (fun q : Nat => s.heap.size ≤ q) q → s.heap.size ≤ q := fun q h => h
  have hC0 : C + 0 ≤ room_1.cells := (show C + 0 ≤ 621377 by omega)
  have hS0 : S + 0 ≤ room_1.slots := (show S + 0 ≤ 7231939 by omega)
  have hC2 : C + 2 ≤ room_1.cells := (show C + 2 ≤ 621377 by omega)
  have hS2 : S + 12 ≤ room_1.slots := (show S + 12 ≤ 7231939 by omega)
  have hiI : (nI i).toInt = (i : Int) := nI_toInt (by omega)
  obtain ⟨B, R, A, cd, pk, hT, hW, hM, hSIM, hV, ⟨fo, hro⟩, hS⟩ := hI
  obtain ⟨hI2, hI3, hI4, hI5, hI6, hI7, hI8, hpk⟩ := hV.c3
  refine lv_aload_n hx hb dL_law_791 rfl (lv_at hl 3 rfl) ?_
  have ha_1 := tx_1 hT hxc
  refine va_calli (rnV (fun H => TX E Gc B R H) (As := []) (rest := []) ⟨hx, hb, hml, hown, hts⟩ (x_X9_packets l E s.heap.size Gc hGzc B R hW x0  hxc) (cwV 0 hts (gdV ml_L_109 im_X9_packets se_X9_X9_packets in_X9 co_X9_packets rfl) rfl rfl rfl (by decide +kernel) ⟨Nat.le_of_ble_eq_true rfl, Nat.le_of_ble_eq_true rfl⟩) hT (fun U hU hW => hK.go hW hS hAz hU) (va_recv hK.1 (va_one ha_1) (ci := 9) (q0 := 0) rfl rfl) rfl rfl hl.1 rfl (lv_room (Nat.le_of_ble_eq_true rfl)) dL_law_792 ⟨hC0, hS0⟩) hS (fun q _ h => h.elim) (fun q h => h.elim) (fun r_1 u_1 t H locs ht9 hvm hwr_1 hB hz hk hS => ?_)
  have hT := hT.kept (fun q hq => hk q hq (fun h => h))
  have hM := hM.kept (fun q hq => hk q hq (fun h => h))
  have hro := hro.kept (hk _ hro.lt (fun h => h))
  have hC : C_X9_packets Gc B R x0 r_1 := hwr_1
  refine lv_pop hx hb dL_law_795 rfl ?_
  refine lv_aload_n hx hb dL_law_796 rfl (lv_at hl 2 rfl) ?_
  refine va_calli (rnV (fun H => MH E m0 rf t0 t1 t2 A cd pk H) (As := []) (rest := []) ⟨hx, hb, hml, hown, hts⟩ (u_X10_packets l E s.heap.size Gm hGzm m0 rf hR t0 t1 t2 A cd pk ) (cwV 0 hts (gdV ml_L_112 im_X10_packets se_X10_X10_packets in_X10 co_X10_packets rfl) rfl rfl rfl (by decide +kernel) ⟨Nat.le_of_ble_eq_true rfl, Nat.le_of_ble_eq_true rfl⟩) hM (fun U hU hW => hK.go hW hS hAz hU) (va_recv hK.1 (va_one hM.1) (ci := 10) (q0 := 0) rfl rfl) rfl rfl hl.1 rfl (lv_room (Nat.le_of_ble_eq_true rfl)) dL_law_797 ⟨hC0, hS0⟩) hS (fun q _ h => hGzm q h) (fun q h => hGzm q h) (fun r_2 ur_2 t H locs ht hvm hwr_2 hB hz hk hS => ?_)
  have hM : MH E m0 rf t0 t1 t2 A ur_2 pk H := by rw [ht] at hB; exact hB
  have hDr_2 : D_X10_packets A cd pk A ur_2 pk r_2 := hwr_2
  have hT := hT.other hd2 hk
  have hro := hro.kept (hk _ hro.lt (fun h => h hGmo))
  have er_3 := (s_packets hSIM hC hDr_2).1
  obtain rfl := er_3
  refine lv_pop hx hb dL_law_800 rfl ?_
  refine lv_goto (tgt := 971) hx hb dL_law_801 (by decide) ?_
  refine W.widen (k := C + 2) (n := S + 12) (by omega) (by omega) ?_
  exact key _ _ _ ⟨B, R, A, ur_2, pk, hT, hW, hM, hSIM, hV, ⟨_, hro⟩, hS⟩ (lv_sub hl [0, 1, 2, 3, 4] rfl)
set_option maxHeartbeats 8000000 in
set_option maxRecDepth 100000 in
theorem lk_14 {p : Program} {l : Launch} {e : Env} {s : State} {m : MethodId} {below : List Frame} {meth : Method} {c : Code} {b L i C S : Nat} {xs : Nat → Int32} {E : EE} {Gc Gm : Nat → Nat} {x0 m0 o0 : Nat} {rf : Nat → Nat} {t0 t1 t2 : Int32} {H : Heap} {locs : List Loc} {ls : Array Slot} (hst : l.stackTraces = false) (C0 : lw_At p s m meth c b L xs) (hLB : L ≤ 3587) (hK : KS E s.heap.size s) (hN : NC s) (F9 : LF s Gc Gm x0 m0 o0 rf t0) (hi : i + 7 ≤ L) (hC : C + 2 ≤ 621377) (hSl : S + 12 ≤ 7231939) (hI : LI E s Gc x0 m0 o0 rf t0 t1 t2 H locs) (hl : lv_has ls 7 [(4, .int (nI i)), (3, .ref o0), (2, .ref m0), (1, .ref x0), (0, .ref b)]) (key : ∀ (H : Heap) (locs : List Loc) (ls : Array Slot), LI E s Gc x0 m0 o0 rf t0 t1 t2 H locs → lv_has ls 7 [(4, .int (nI i)), (3, .ref o0), (2, .ref m0), (1, .ref x0), (0, .ref b)] → W p l e room_1 s m #[Value.ref b] below meth c H locs (C + 2) (S + 12) (lw_Z below #[Value.ref b] s) (F0 m 971 ls [])) : W p l e room_1 s m #[Value.ref b] below meth c H locs C S (lw_Z below #[Value.ref b] s) (F0 m 804 ls []) := by
  obtain ⟨hx, hb, hr, hml, hown, hts0, hX, hbl, hlocks, hgv⟩ := id C0
  obtain ⟨hxc, hR, hGzc, hGzm, hd, hGco, hGmo, hoz, h2t⟩ := F9
  have hd2 : ∀ a, Gc a ≠ 0 → Gm a = 0 := fun a h => Decidable.byContradiction fun q => h (hd a q)
  have hts : ∀ w ∈ TS, w.before #[Value.ref b] s = true := fun w hw => hts0 w (List.mem_filter.mp hw).1
  have hbA : ¬ (fun q : Nat => s.heap.size ≤ q) b := Nat.not_le.mpr hbl
  have hAz : ∀ q, (fun q : Nat => s.heap.size ≤ q) q → s.heap.size ≤ q := fun q h => h
  have hC0 : C + 0 ≤ room_1.cells := (show C + 0 ≤ 621377 by omega)
  have hS0 : S + 0 ≤ room_1.slots := (show S + 0 ≤ 7231939 by omega)
  have hC2 : C + 2 ≤ room_1.cells := (show C + 2 ≤ 621377 by omega)
  have hS2 : S + 12 ≤ room_1.slots := (show S + 12 ≤ 7231939 by omega)
  have hiI : (nI i).toInt = (i : Int) := nI_toInt (by omega)
  obtain ⟨B, R, A, cd, pk, hT, hW, hM, hSIM, hV, ⟨fo, hro⟩, hS⟩ := hI
  obtain ⟨hI2, hI3, hI4, hI5, hI6, hI7, hI8, hpk⟩ := hV.c3
  refine lv_aload_n hx hb dL_law_804 rfl (lv_at hl 3 rfl) ?_
  refine lv_aload_n hx hb dL_law_805 rfl (lv_at hl 4 rfl) ?_
  refine lv_iload hx hb dL_law_806 (lv_at hl 0 rfl) ?_
  refine lv_iconst (v := 1) hx hb dL_law_808 (by decide) ?_
  refine lv_iadd hx hb dL_law_809 ?_
  refine lv_topi (fun x_1 ex_1 => ?_)
  have fx_1 : x_1.toInt = (i : Int) + 1 := by have h9 := s_add (x := nI i) (y := 1) (by rw [hiI, i_1]; omega) (by rw [hiI, i_1]; omega); rw [hiI, i_1] at h9; rw [ex_1]; exact h9
  have vi_2 : vp_in x_1 L := vp_in_iff.mpr (by omega)
  refine va_sld hx hb hX hbl hbA hS vi_2 dL_law_810 ?_
  refine lv_topi (fun x_3 ex_3 => ?_)
  refine lv_aload_n hx hb dL_law_811 rfl (lv_at hl 4 rfl) ?_
  refine lv_iload hx hb dL_law_812 (lv_at hl 0 rfl) ?_
  refine lv_iconst (v := 2) hx hb dL_law_814 (by decide) ?_
  refine lv_iadd hx hb dL_law_815 ?_
  refine lv_topi (fun x_4 ex_4 => ?_)
  have fx_4 : x_4.toInt = (i : Int) + 2 := by have h9 := s_add (x := nI i) (y := 2) (by rw [hiI, i_2]; omega) (by rw [hiI, i_2]; omega); rw [hiI, i_2] at h9; rw [ex_4]; exact h9
  have vi_5 : vp_in x_4 L := vp_in_iff.mpr (by omega)
  refine va_sld hx hb hX hbl hbA hS vi_5 dL_law_816 ?_
  refine lv_topi (fun x_6 ex_6 => ?_)
  have ha_7 := tx_1 hT hxc
  refine va_calli (rnV (fun H => TX E Gc B R H) (As := [.int x_3, .int x_6]) (rest := []) ⟨hx, hb, hml, hown, hts⟩ (x_X9_packet l E s.heap.size Gc hGzc B R hW x0 x_3 x_6 hxc) (cwV 2 hts (gdV ml_L_113 im_X9_packet se_X9_X9_packet in_X9 co_X9_packet rfl) rfl rfl rfl (by decide +kernel) ⟨Nat.le_of_ble_eq_true rfl, Nat.le_of_ble_eq_true rfl⟩) hT (fun U hU hW => hK.go hW hS hAz hU) (va_recv hK.1 (va_one ha_7) (ci := 9) (q0 := 0) rfl rfl) rfl rfl hl.1 rfl (lv_room (Nat.le_of_ble_eq_true rfl)) dL_law_817 ⟨hC0, hS0⟩) hS (fun q _ h => h.elim) (fun q h => h.elim) (fun r_7 u_7 t H locs ht9 hvm hwr_7 hB hz hk hS => ?_)
  have hT := hT.kept (fun q hq => hk q hq (fun h => h))
  have hM := hM.kept (fun q hq => hk q hq (fun h => h))
  have hro := hro.kept (hk _ hro.lt (fun h => h))
  have hC : C_X9_packet Gc B R x0 x_3 x_6 r_7 := hwr_7
  refine lv_pop hx hb dL_law_820 rfl ?_
  refine lv_aload_n hx hb dL_law_821 rfl (lv_at hl 2 rfl) ?_
  refine lv_aload_n hx hb dL_law_822 rfl (lv_at hl 4 rfl) ?_
  refine lv_iload hx hb dL_law_823 (lv_at hl 0 rfl) ?_
  refine lv_iconst (v := 1) hx hb dL_law_825 (by decide) ?_
  refine lv_iadd hx hb dL_law_826 ?_
  refine W.eq (g2 := F0 m 827 ls [.int x_1, .ref b, .ref m0]) (by rw [ex_1]) ?_
  refine va_sld hx hb hX hbl hbA hS vi_2 dL_law_827 ?_
  refine W.eq (g2 := F0 m 828 ls [.int x_3, .ref m0]) (by rw [ex_3]) ?_
  refine lv_aload_n hx hb dL_law_828 rfl (lv_at hl 4 rfl) ?_
  refine lv_iload hx hb dL_law_829 (lv_at hl 0 rfl) ?_
  refine lv_iconst (v := 2) hx hb dL_law_831 (by decide) ?_
  refine lv_iadd hx hb dL_law_832 ?_
  refine W.eq (g2 := F0 m 833 ls [.int x_4, .ref b, .int x_3, .ref m0]) (by rw [ex_4]) ?_
  refine va_sld hx hb hX hbl hbA hS vi_5 dL_law_833 ?_
  refine W.eq (g2 := F0 m 834 ls [.int x_6, .int x_3, .ref m0]) (by rw [ex_6]) ?_
  refine va_calli (rnV (fun H => MH E m0 rf t0 t1 t2 A cd pk H) (As := [.int x_3, .int x_6]) (rest := []) ⟨hx, hb, hml, hown, hts⟩ (u_X10_packet l E s.heap.size Gm hGzm m0 rf hR t0 t1 t2 A cd pk x_3 x_6 (show 0 ≤ pk.toInt ∧ pk.toInt ≤ 24 from by first | decide | omega)) (cwV 2 hts (gdV ml_L_116 im_X10_packet se_X10_X10_packet in_X10 co_X10_packet rfl) rfl rfl rfl (by decide +kernel) ⟨Nat.le_of_ble_eq_true rfl, Nat.le_of_ble_eq_true rfl⟩) hM (fun U hU hW => hK.go hW hS hAz hU) (va_recv hK.1 (va_one hM.1) (ci := 10) (q0 := 0) rfl rfl) rfl rfl hl.1 rfl (lv_room (Nat.le_of_ble_eq_true rfl)) dL_law_834 ⟨hC0, hS0⟩) hS (fun q _ h => hGzm q h) (fun q h => hGzm q h) (fun r_8 ur_8 t H locs ht hvm hwr_8 hB hz hk hS => ?_)
  have hM : MH E m0 rf t0 t1 t2 A ur_8 pk H := by rw [ht] at hB; exact hB
  have hDr_8 : D_X10_packet A cd pk x_3 x_6 A ur_8 pk r_8 := hwr_8
  have hT := hT.other hd2 hk
  have hro := hro.kept (hk _ hro.lt (fun h => h hGmo))
  have er_9 := (s_packet hSIM hV hC hDr_8).1
  obtain rfl := er_9
  refine lv_pop hx hb dL_law_837 rfl ?_
  refine lv_goto (tgt := 971) hx hb dL_law_838 (by decide) ?_
  refine W.widen (k := C + 2) (n := S + 12) (by omega) (by omega) ?_
  exact key _ _ _ ⟨B, R, A, ur_8, pk, hT, hW, hM, hSIM, hV, ⟨_, hro⟩, hS⟩ (lv_sub hl [0, 1, 2, 3, 4] rfl)
set_option maxHeartbeats 8000000 in
set_option maxRecDepth 100000 in
theorem lk_15 {p : Program} {l : Launch} {e : Env} {s : State} {m : MethodId} {below : List Frame} {meth : Method} {c : Code} {b L i C S : Nat} {xs : Nat → Int32} {E : EE} {Gc Gm : Nat → Nat} {x0 m0 o0 : Nat} {rf : Nat → Nat} {t0 t1 t2 : Int32} {H : Heap} {locs : List Loc} {ls : Array Slot} (hst : l.stackTraces = false) (C0 : lw_At p s m meth c b L xs) (hLB : L ≤ 3587) (hK : KS E s.heap.size s) (hN : NC s) (F9 : LF s Gc Gm x0 m0 o0 rf t0) (hi : i + 7 ≤ L) (hC : C + 2 ≤ 621377) (hSl : S + 12 ≤ 7231939) (hI : LI E s Gc x0 m0 o0 rf t0 t1 t2 H locs) (hl : lv_has ls 7 [(4, .int (nI i)), (3, .ref o0), (2, .ref m0), (1, .ref x0), (0, .ref b)]) (key : ∀ (H : Heap) (locs : List Loc) (ls : Array Slot), LI E s Gc x0 m0 o0 rf t0 t1 t2 H locs → lv_has ls 7 [(4, .int (nI i)), (3, .ref o0), (2, .ref m0), (1, .ref x0), (0, .ref b)] → W p l e room_1 s m #[Value.ref b] below meth c H locs (C + 2) (S + 12) (lw_Z below #[Value.ref b] s) (F0 m 971 ls [])) : W p l e room_1 s m #[Value.ref b] below meth c H locs C S (lw_Z below #[Value.ref b] s) (F0 m 841 ls []) := by
  obtain ⟨hx, hb, hr, hml, hown, hts0, hX, hbl, hlocks, hgv⟩ := id C0
  obtain ⟨hxc, hR, hGzc, hGzm, hd, hGco, hGmo, hoz, h2t⟩ := F9
  have hd2 : ∀ a, Gc a ≠ 0 → Gm a = 0 := fun a h => Decidable.byContradiction fun q => h (hd a q)
  have hts : ∀ w ∈ TS, w.before #[Value.ref b] s = true := fun w hw => hts0 w (List.mem_filter.mp hw).1
  have hbA : ¬ (fun q : Nat => s.heap.size ≤ q) b := Nat.not_le.mpr hbl
  have hAz : ∀ q, (fun q : Nat => s.heap.size ≤ q) q → s.heap.size ≤ q := fun q h => h
  have hC0 : C + 0 ≤ room_1.cells := (show C + 0 ≤ 621377 by omega)
  have hS0 : S + 0 ≤ room_1.slots := (show S + 0 ≤ 7231939 by omega)
  have hC2 : C + 2 ≤ room_1.cells := (show C + 2 ≤ 621377 by omega)
  have hS2 : S + 12 ≤ room_1.slots := (show S + 12 ≤ 7231939 by omega)
  have hiI : (nI i).toInt = (i : Int) := nI_toInt (by omega)
  obtain ⟨B, R, A, cd, pk, hT, hW, hM, hSIM, hV, ⟨fo, hro⟩, hS⟩ := hI
  obtain ⟨hI2, hI3, hI4, hI5, hI6, hI7, hI8, hpk⟩ := hV.c3
  refine lv_aload_n hx hb dL_law_841 rfl (lv_at hl 3 rfl) ?_
  refine lv_aload_n hx hb dL_law_842 rfl (lv_at hl 4 rfl) ?_
  refine lv_iload hx hb dL_law_843 (lv_at hl 0 rfl) ?_
  refine lv_iconst (v := 1) hx hb dL_law_845 (by decide) ?_
  refine lv_iadd hx hb dL_law_846 ?_
  refine lv_topi (fun x_1 ex_1 => ?_)
  have fx_1 : x_1.toInt = (i : Int) + 1 := by have h9 := s_add (x := nI i) (y := 1) (by rw [hiI, i_1]; omega) (by rw [hiI, i_1]; omega); rw [hiI, i_1] at h9; rw [ex_1]; exact h9
  have vi_2 : vp_in x_1 L := vp_in_iff.mpr (by omega)
  refine va_sld hx hb hX hbl hbA hS vi_2 dL_law_847 ?_
  refine lv_topi (fun x_3 ex_3 => ?_)
  refine lv_aload_n hx hb dL_law_848 rfl (lv_at hl 4 rfl) ?_
  refine lv_iload hx hb dL_law_849 (lv_at hl 0 rfl) ?_
  refine lv_iconst (v := 2) hx hb dL_law_851 (by decide) ?_
  refine lv_iadd hx hb dL_law_852 ?_
  refine lv_topi (fun x_4 ex_4 => ?_)
  have fx_4 : x_4.toInt = (i : Int) + 2 := by have h9 := s_add (x := nI i) (y := 2) (by rw [hiI, i_2]; omega) (by rw [hiI, i_2]; omega); rw [hiI, i_2] at h9; rw [ex_4]; exact h9
  have vi_5 : vp_in x_4 L := vp_in_iff.mpr (by omega)
  refine va_sld hx hb hX hbl hbA hS vi_5 dL_law_853 ?_
  refine lv_topi (fun x_6 ex_6 => ?_)
  have ha_7 := tx_1 hT hxc
  refine va_calli (rnV (fun H => TX E Gc B R H) (As := [.int x_3, .int x_6]) (rest := []) ⟨hx, hb, hml, hown, hts⟩ (x_X9_pair l E s.heap.size Gc hGzc B R hW x0 x_3 x_6 hxc) (cwV 2 hts (gdV ml_L_117 im_X9_pair se_X9_X9_pair in_X9 co_X9_pair rfl) rfl rfl rfl (by decide +kernel) ⟨Nat.le_of_ble_eq_true rfl, Nat.le_of_ble_eq_true rfl⟩) hT (fun U hU hW => hK.go hW hS hAz hU) (va_recv hK.1 (va_one ha_7) (ci := 9) (q0 := 0) rfl rfl) rfl rfl hl.1 rfl (lv_room (Nat.le_of_ble_eq_true rfl)) dL_law_854 ⟨hC0, hS0⟩) hS (fun q _ h => h.elim) (fun q h => h.elim) (fun r_7 u_7 t H locs ht9 hvm hwr_7 hB hz hk hS => ?_)
  have hT := hT.kept (fun q hq => hk q hq (fun h => h))
  have hM := hM.kept (fun q hq => hk q hq (fun h => h))
  have hro := hro.kept (hk _ hro.lt (fun h => h))
  have hC : C_X9_pair Gc B R x0 x_3 x_6 r_7 := hwr_7
  refine lv_pop hx hb dL_law_857 rfl ?_
  refine lv_aload_n hx hb dL_law_858 rfl (lv_at hl 2 rfl) ?_
  refine lv_aload_n hx hb dL_law_859 rfl (lv_at hl 4 rfl) ?_
  refine lv_iload hx hb dL_law_860 (lv_at hl 0 rfl) ?_
  refine lv_iconst (v := 1) hx hb dL_law_862 (by decide) ?_
  refine lv_iadd hx hb dL_law_863 ?_
  refine W.eq (g2 := F0 m 864 ls [.int x_1, .ref b, .ref m0]) (by rw [ex_1]) ?_
  refine va_sld hx hb hX hbl hbA hS vi_2 dL_law_864 ?_
  refine W.eq (g2 := F0 m 865 ls [.int x_3, .ref m0]) (by rw [ex_3]) ?_
  refine lv_aload_n hx hb dL_law_865 rfl (lv_at hl 4 rfl) ?_
  refine lv_iload hx hb dL_law_866 (lv_at hl 0 rfl) ?_
  refine lv_iconst (v := 2) hx hb dL_law_868 (by decide) ?_
  refine lv_iadd hx hb dL_law_869 ?_
  refine W.eq (g2 := F0 m 870 ls [.int x_4, .ref b, .int x_3, .ref m0]) (by rw [ex_4]) ?_
  refine va_sld hx hb hX hbl hbA hS vi_5 dL_law_870 ?_
  refine W.eq (g2 := F0 m 871 ls [.int x_6, .int x_3, .ref m0]) (by rw [ex_6]) ?_
  refine va_calli (rnV (fun H => MH E m0 rf t0 t1 t2 A cd pk H) (As := [.int x_3, .int x_6]) (rest := []) ⟨hx, hb, hml, hown, hts⟩ (u_X10_pair l E s.heap.size Gm hGzm m0 rf hR t0 t1 t2 A cd pk x_3 x_6) (cwV 2 hts (gdV ml_L_120 im_X10_pair se_X10_X10_pair in_X10 co_X10_pair rfl) rfl rfl rfl (by decide +kernel) ⟨Nat.le_of_ble_eq_true rfl, Nat.le_of_ble_eq_true rfl⟩) hM (fun U hU hW => hK.go hW hS hAz hU) (va_recv hK.1 (va_one hM.1) (ci := 10) (q0 := 0) rfl rfl) rfl rfl hl.1 rfl (lv_room (Nat.le_of_ble_eq_true rfl)) dL_law_871 ⟨hC0, hS0⟩) hS (fun q _ h => hGzm q h) (fun q h => hGzm q h) (fun r_8 ur_8 t H locs ht hvm hwr_8 hB hz hk hS => ?_)
  have hM : MH E m0 rf t0 t1 t2 A ur_8 pk H := by rw [ht] at hB; exact hB
  have hDr_8 : D_X10_pair A cd pk x_3 x_6 A ur_8 pk r_8 := hwr_8
  have hT := hT.other hd2 hk
  have hro := hro.kept (hk _ hro.lt (fun h => h hGmo))
  refine lv_pop hx hb dL_law_874 rfl ?_
  refine lv_goto (tgt := 971) hx hb dL_law_875 (by decide) ?_
  refine W.widen (k := C + 2) (n := S + 12) (by omega) (by omega) ?_
  exact key _ _ _ ⟨B, R, A, ur_8, pk, hT, hW, hM, hSIM, hV, ⟨_, hro⟩, hS⟩ (lv_sub hl [0, 1, 2, 3, 4] rfl)
set_option maxHeartbeats 8000000 in
set_option maxRecDepth 100000 in
theorem lk_16 {p : Program} {l : Launch} {e : Env} {s : State} {m : MethodId} {below : List Frame} {meth : Method} {c : Code} {b L i C S : Nat} {xs : Nat → Int32} {E : EE} {Gc Gm : Nat → Nat} {x0 m0 o0 : Nat} {rf : Nat → Nat} {t0 t1 t2 : Int32} {H : Heap} {locs : List Loc} {ls : Array Slot} (hst : l.stackTraces = false) (C0 : lw_At p s m meth c b L xs) (hLB : L ≤ 3587) (hK : KS E s.heap.size s) (hN : NC s) (F9 : LF s Gc Gm x0 m0 o0 rf t0) (hi : i + 7 ≤ L) (hC : C + 2 ≤ 621377) (hSl : S + 12 ≤ 7231939) (hI : LI E s Gc x0 m0 o0 rf t0 t1 t2 H locs) (hl : lv_has ls 7 [(4, .int (nI i)), (3, .ref o0), (2, .ref m0), (1, .ref x0), (0, .ref b)]) (key : ∀ (H : Heap) (locs : List Loc) (ls : Array Slot), LI E s Gc x0 m0 o0 rf t0 t1 t2 H locs → lv_has ls 7 [(4, .int (nI i)), (3, .ref o0), (2, .ref m0), (1, .ref x0), (0, .ref b)] → W p l e room_1 s m #[Value.ref b] below meth c H locs (C + 2) (S + 12) (lw_Z below #[Value.ref b] s) (F0 m 971 ls [])) : W p l e room_1 s m #[Value.ref b] below meth c H locs C S (lw_Z below #[Value.ref b] s) (F0 m 878 ls []) := by
  obtain ⟨hx, hb, hr, hml, hown, hts0, hX, hbl, hlocks, hgv⟩ := id C0
  obtain ⟨hxc, hR, hGzc, hGzm, hd, hGco, hGmo, hoz, h2t⟩ := F9
  have hd2 : ∀ a, Gc a ≠ 0 → Gm a = 0 := fun a h => Decidable.byContradiction fun q => h (hd a q)
  have hts : ∀ w ∈ TS, w.before #[Value.ref b] s = true := fun w hw => hts0 w (List.mem_filter.mp hw).1
  have hbA : ¬ (fun q : Nat => s.heap.size ≤ q) b := Nat.not_le.mpr hbl
  have hAz : ∀ q, (fun q : Nat => s.heap.size ≤ q) q → s.heap.size ≤ q := fun q h => h
  have hC0 : C + 0 ≤ room_1.cells := (show C + 0 ≤ 621377 by omega)
  have hS0 : S + 0 ≤ room_1.slots := (show S + 0 ≤ 7231939 by omega)
  have hC2 : C + 2 ≤ room_1.cells := (show C + 2 ≤ 621377 by omega)
  have hS2 : S + 12 ≤ room_1.slots := (show S + 12 ≤ 7231939 by omega)
  have hiI : (nI i).toInt = (i : Int) := nI_toInt (by omega)
  obtain ⟨B, R, A, cd, pk, hT, hW, hM, hSIM, hV, ⟨fo, hro⟩, hS⟩ := hI
  obtain ⟨hI2, hI3, hI4, hI5, hI6, hI7, hI8, hpk⟩ := hV.c3
  refine lv_aload_n hx hb dL_law_878 rfl (lv_at hl 3 rfl) ?_
  refine lv_aload_n hx hb dL_law_879 rfl (lv_at hl 4 rfl) ?_
  refine lv_iload hx hb dL_law_880 (lv_at hl 0 rfl) ?_
  refine lv_iconst (v := 1) hx hb dL_law_882 (by decide) ?_
  refine lv_iadd hx hb dL_law_883 ?_
  refine lv_topi (fun x_1 ex_1 => ?_)
  have fx_1 : x_1.toInt = (i : Int) + 1 := by have h9 := s_add (x := nI i) (y := 1) (by rw [hiI, i_1]; omega) (by rw [hiI, i_1]; omega); rw [hiI, i_1] at h9; rw [ex_1]; exact h9
  have vi_2 : vp_in x_1 L := vp_in_iff.mpr (by omega)
  refine va_sld hx hb hX hbl hbA hS vi_2 dL_law_884 ?_
  refine lv_topi (fun x_3 ex_3 => ?_)
  have ha_4 := tx_1 hT hxc
  refine va_calli (rnV (fun H => TX E Gc B R H) (As := [.int x_3]) (rest := []) ⟨hx, hb, hml, hown, hts⟩ (x_X9_completions l E s.heap.size Gc hGzc B R hW x0 x_3 hxc) (cwV 1 hts (gdV ml_L_121 im_X9_completions se_X9_X9_completions in_X9 co_X9_completions rfl) rfl rfl rfl (by decide +kernel) ⟨Nat.le_of_ble_eq_true rfl, Nat.le_of_ble_eq_true rfl⟩) hT (fun U hU hW => hK.go hW hS hAz hU) (va_recv hK.1 (va_one ha_4) (ci := 9) (q0 := 0) rfl rfl) rfl rfl hl.1 rfl (lv_room (Nat.le_of_ble_eq_true rfl)) dL_law_885 ⟨hC0, hS0⟩) hS (fun q _ h => h.elim) (fun q h => h.elim) (fun r_4 u_4 t H locs ht9 hvm hwr_4 hB hz hk hS => ?_)
  have hT := hT.kept (fun q hq => hk q hq (fun h => h))
  have hM := hM.kept (fun q hq => hk q hq (fun h => h))
  have hro := hro.kept (hk _ hro.lt (fun h => h))
  have hC : C_X9_completions Gc B R x0 x_3 r_4 := hwr_4
  refine lv_pop hx hb dL_law_888 rfl ?_
  refine lv_aload_n hx hb dL_law_889 rfl (lv_at hl 2 rfl) ?_
  refine lv_aload_n hx hb dL_law_890 rfl (lv_at hl 4 rfl) ?_
  refine lv_iload hx hb dL_law_891 (lv_at hl 0 rfl) ?_
  refine lv_iconst (v := 1) hx hb dL_law_893 (by decide) ?_
  refine lv_iadd hx hb dL_law_894 ?_
  refine W.eq (g2 := F0 m 895 ls [.int x_1, .ref b, .ref m0]) (by rw [ex_1]) ?_
  refine va_sld hx hb hX hbl hbA hS vi_2 dL_law_895 ?_
  refine W.eq (g2 := F0 m 896 ls [.int x_3, .ref m0]) (by rw [ex_3]) ?_
  refine va_calli (rnV (fun H => MH E m0 rf t0 t1 t2 A cd pk H) (As := [.int x_3]) (rest := []) ⟨hx, hb, hml, hown, hts⟩ (u_X10_completions l E s.heap.size Gm hGzm m0 rf hR t0 t1 t2 A cd pk x_3) (cwV 1 hts (gdV ml_L_124 im_X10_completions se_X10_X10_completions in_X10 co_X10_completions rfl) rfl rfl rfl (by decide +kernel) ⟨Nat.le_of_ble_eq_true rfl, Nat.le_of_ble_eq_true rfl⟩) hM (fun U hU hW => hK.go hW hS hAz hU) (va_recv hK.1 (va_one hM.1) (ci := 10) (q0 := 0) rfl rfl) rfl rfl hl.1 rfl (lv_room (Nat.le_of_ble_eq_true rfl)) dL_law_896 ⟨hC0, hS0⟩) hS (fun q _ h => hGzm q h) (fun q h => hGzm q h) (fun r_5 ur_5 t H locs ht hvm hwr_5 hB hz hk hS => ?_)
  have hM : MH E m0 rf t0 t1 t2 A ur_5 pk H := by rw [ht] at hB; exact hB
  have hDr_5 : D_X10_completions A cd pk x_3 A ur_5 pk r_5 := hwr_5
  have hT := hT.other hd2 hk
  have hro := hro.kept (hk _ hro.lt (fun h => h hGmo))
  have er_6 := (s_completions hSIM hC hDr_5).1
  obtain rfl := er_6
  refine lv_pop hx hb dL_law_899 rfl ?_
  refine lv_goto (tgt := 971) hx hb dL_law_900 (by decide) ?_
  refine W.widen (k := C + 2) (n := S + 12) (by omega) (by omega) ?_
  exact key _ _ _ ⟨B, R, A, ur_5, pk, hT, hW, hM, hSIM, hV, ⟨_, hro⟩, hS⟩ (lv_sub hl [0, 1, 2, 3, 4] rfl)
set_option maxHeartbeats 8000000 in
set_option maxRecDepth 100000 in
theorem lk_17 {p : Program} {l : Launch} {e : Env} {s : State} {m : MethodId} {below : List Frame} {meth : Method} {c : Code} {b L i C S : Nat} {xs : Nat → Int32} {E : EE} {Gc Gm : Nat → Nat} {x0 m0 o0 : Nat} {rf : Nat → Nat} {t0 t1 t2 : Int32} {H : Heap} {locs : List Loc} {ls : Array Slot} (hst : l.stackTraces = false) (C0 : lw_At p s m meth c b L xs) (hLB : L ≤ 3587) (hK : KS E s.heap.size s) (hN : NC s) (F9 : LF s Gc Gm x0 m0 o0 rf t0) (hi : i + 7 ≤ L) (hC : C + 2 ≤ 621377) (hSl : S + 12 ≤ 7231939) (hI : LI E s Gc x0 m0 o0 rf t0 t1 t2 H locs) (hl : lv_has ls 7 [(4, .int (nI i)), (3, .ref o0), (2, .ref m0), (1, .ref x0), (0, .ref b)]) (key : ∀ (H : Heap) (locs : List Loc) (ls : Array Slot), LI E s Gc x0 m0 o0 rf t0 t1 t2 H locs → lv_has ls 7 [(4, .int (nI i)), (3, .ref o0), (2, .ref m0), (1, .ref x0), (0, .ref b)] → W p l e room_1 s m #[Value.ref b] below meth c H locs (C + 2) (S + 12) (lw_Z below #[Value.ref b] s) (F0 m 971 ls [])) : W p l e room_1 s m #[Value.ref b] below meth c H locs C S (lw_Z below #[Value.ref b] s) (F0 m 903 ls []) := by
  obtain ⟨hx, hb, hr, hml, hown, hts0, hX, hbl, hlocks, hgv⟩ := id C0
  obtain ⟨hxc, hR, hGzc, hGzm, hd, hGco, hGmo, hoz, h2t⟩ := F9
  have hd2 : ∀ a, Gc a ≠ 0 → Gm a = 0 := fun a h => Decidable.byContradiction fun q => h (hd a q)
  have hts : ∀ w ∈ TS, w.before #[Value.ref b] s = true := fun w hw => hts0 w (List.mem_filter.mp hw).1
  have hbA : ¬ (fun q : Nat => s.heap.size ≤ q) b := Nat.not_le.mpr hbl
  have hAz : ∀ q, (fun q : Nat => s.heap.size ≤ q) q → s.heap.size ≤ q := fun q h => h
  have hC0 : C + 0 ≤ room_1.cells := (show C + 0 ≤ 621377 by omega)
  have hS0 : S + 0 ≤ room_1.slots := (show S + 0 ≤ 7231939 by omega)
  have hC2 : C + 2 ≤ room_1.cells := (show C + 2 ≤ 621377 by omega)
  have hS2 : S + 12 ≤ room_1.slots := (show S + 12 ≤ 7231939 by omega)
  have hiI : (nI i).toInt = (i : Int) := nI_toInt (by omega)
  obtain ⟨B, R, A, cd, pk, hT, hW, hM, hSIM, hV, ⟨fo, hro⟩, hS⟩ := hI
  obtain ⟨hI2, hI3, hI4, hI5, hI6, hI7, hI8, hpk⟩ := hV.c3
  refine lv_aload_n hx hb dL_law_903 rfl (lv_at hl 3 rfl) ?_
  refine lv_aload_n hx hb dL_law_904 rfl (lv_at hl 4 rfl) ?_
  refine lv_iload hx hb dL_law_905 (lv_at hl 0 rfl) ?_
  refine lv_iconst (v := 1) hx hb dL_law_907 (by decide) ?_
  refine lv_iadd hx hb dL_law_908 ?_
  refine lv_topi (fun x_1 ex_1 => ?_)
  have fx_1 : x_1.toInt = (i : Int) + 1 := by have h9 := s_add (x := nI i) (y := 1) (by rw [hiI, i_1]; omega) (by rw [hiI, i_1]; omega); rw [hiI, i_1] at h9; rw [ex_1]; exact h9
  have vi_2 : vp_in x_1 L := vp_in_iff.mpr (by omega)
  refine va_sld hx hb hX hbl hbA hS vi_2 dL_law_909 ?_
  refine lv_topi (fun x_3 ex_3 => ?_)
  refine lv_aload_n hx hb dL_law_910 rfl (lv_at hl 4 rfl) ?_
  refine lv_iload hx hb dL_law_911 (lv_at hl 0 rfl) ?_
  refine lv_iconst (v := 2) hx hb dL_law_913 (by decide) ?_
  refine lv_iadd hx hb dL_law_914 ?_
  refine lv_topi (fun x_4 ex_4 => ?_)
  have fx_4 : x_4.toInt = (i : Int) + 2 := by have h9 := s_add (x := nI i) (y := 2) (by rw [hiI, i_2]; omega) (by rw [hiI, i_2]; omega); rw [hiI, i_2] at h9; rw [ex_4]; exact h9
  have vi_5 : vp_in x_4 L := vp_in_iff.mpr (by omega)
  refine va_sld hx hb hX hbl hbA hS vi_5 dL_law_915 ?_
  refine lv_topi (fun x_6 ex_6 => ?_)
  refine lv_aload_n hx hb dL_law_916 rfl (lv_at hl 1 rfl) ?_
  refine va_calli (vx_runSW (hh := [(0, 10, 13, 13), (0, 10, 17, 43)]) (As := [.ref x0, .int x_3, .int x_6, .ref o0]) (rest := []) ⟨hx, hb, hml, hown, hts⟩ (w_L_poll l hst E s.heap.size Gc hGzc B R hW x0 x_3 x_6 o0 hxc hGco hoz) (vx_cwSW 4 hts (gdW ml_L_125 st_L_poll in_L co_L_poll rfl) rfl rfl rfl (by decide +kernel) ⟨Nat.le_of_ble_eq_true rfl, Nat.le_of_ble_eq_true rfl⟩) ⟨fun a U g mk q => ⟨q.1, q.2.1, KS.calling q.2.2.1, NC.vm q.2.2.2 rfl⟩, fun U hU hW => ⟨rfl, by rw [hU]; exact ⟨hT, _, hro⟩, hK.go hW hS hAz hU, hN.go hW⟩⟩ rfl rfl hl.1 rfl (lv_room (Nat.le_of_ble_eq_true rfl)) dL_law_917 ⟨hC2, hS2⟩) hS (fun q _ h => h.elim (fun h => hGzc q (zn (L := [5]) (by decide) h)) (fun e => by rw [e]; exact hoz)) (fun q h => h.elim (fun h => hGzc q (zn (L := [5]) (by decide) h)) (fun e => by rw [e]; exact hoz)) (fun r_7 u_7 t H locs ht9 hvm hwr_7 hB hz hk hS => ?_)
  rw [ht9] at hB
  obtain ⟨Z_7, y_7, f_7⟩ := u_7
  obtain ⟨hT, fo_7, hfo_7, hro2⟩ := hB
  have hro := hro2
  have hM := hM.away hR (fun q hq hg => hk q hq (fun h => h.elim (fun h => zn (L := [5]) (by decide) h (hd q hg)) (fun h => hg (by rw [h]; exact hGmo))))
  have hT : TX E Gc Z_7 R H := hT
  rcases hwr_7 with ⟨rfl, hW2, hF2, hC, ef_7⟩ | ⟨rfl, eB, hC⟩ | ⟨rfl, eB, hC⟩
  · have hW : TW Gc Z_7 R := hW2
    have hC : C_X9_poll Gc B R x0 x_3 x_6 Z_7 y_7 := hC
    have hfo : fo_7 0 = y_7.toInt64 := hfo_7.trans ef_7
    refine lv_istore (lv' := [(5, .int 0), (4, .int (nI i)), (3, .ref o0), (2, .ref m0), (1, .ref x0), (0, .ref b)]) hx hb dL_law_920 hl (by decide) rfl (fun ls hl => ?_)
    refine lv_aload_n hx hb dL_law_922 rfl (lv_at hl 3 rfl) ?_
    refine lv_aload_n hx hb dL_law_923 rfl (lv_at hl 5 rfl) ?_
    refine lv_iload hx hb dL_law_924 (lv_at hl 1 rfl) ?_
    refine lv_iconst (v := 1) hx hb dL_law_926 (by decide) ?_
    refine lv_iadd hx hb dL_law_927 ?_
    refine W.eq (g2 := F0 m 928 ls [.int x_1, .ref b, .ref m0]) (by rw [ex_1]) ?_
    refine va_sld hx hb hX hbl hbA hS vi_2 dL_law_928 ?_
    refine W.eq (g2 := F0 m 929 ls [.int x_3, .ref m0]) (by rw [ex_3]) ?_
    refine lv_aload_n hx hb dL_law_929 rfl (lv_at hl 5 rfl) ?_
    refine lv_iload hx hb dL_law_930 (lv_at hl 1 rfl) ?_
    refine lv_iconst (v := 2) hx hb dL_law_932 (by decide) ?_
    refine lv_iadd hx hb dL_law_933 ?_
    refine W.eq (g2 := F0 m 934 ls [.int x_4, .ref b, .int x_3, .ref m0]) (by rw [ex_4]) ?_
    refine va_sld hx hb hX hbl hbA hS vi_5 dL_law_934 ?_
    refine W.eq (g2 := F0 m 935 ls [.int x_6, .int x_3, .ref m0]) (by rw [ex_6]) ?_
    refine va_calli (rnV (fun H => MH E m0 rf t0 t1 t2 A cd pk H) (As := [.int x_3, .int x_6]) (rest := []) ⟨hx, hb, hml, hown, hts⟩ (u_X10_poll l E s.heap.size Gm hGzm m0 rf hR t0 t1 t2 A cd pk x_3 x_6 hI3) (cwV 2 hts (gdV ml_L_128 im_X10_poll se_X10_X10_poll in_X10 co_X10_poll rfl) rfl rfl rfl (by decide +kernel) ⟨Nat.le_of_ble_eq_true rfl, Nat.le_of_ble_eq_true rfl⟩) hM (fun U hU hW => hK.go hW hS hAz hU) (va_recv hK.1 (va_one hM.1) (ci := 10) (q0 := 0) rfl rfl) rfl rfl hl.1 rfl (lv_room (Nat.le_of_ble_eq_true rfl)) dL_law_935 ⟨hC2, hS2⟩) hS (fun q _ h => hGzm q h) (fun q h => hGzm q h) (fun r_8 ur_8 t H locs ht hvm hwr_8 hB hz hk hS => ?_)
    have hM : MH E m0 rf t0 t1 t2 (uA (uA A 8 (ur_8.1)) 9 (ur_8.2.1)) ur_8.2.2 pk H := by rw [ht] at hB; exact hB
    have hDr_8 : D_X10_poll A cd pk x_3 x_6 (uA (uA A 8 (ur_8.1)) 9 (ur_8.2.1)) (ur_8.2.2) pk r_8 := hwr_8.2
    have hpr_8_0 : I3 (ur_8.1) := hwr_8.1
    have hT := hT.other hd2 hk
    have hro := hro.kept (hk _ hro.lt (fun h => h hGmo))
    obtain ⟨A_9, cd_9, pk_9, hM, hD, hV2⟩ : ∃ (A2 : AA) (cd2 pk2 : Int32), MH E m0 rf t0 t1 t2 A2 cd2 pk2 H ∧ D_X10_poll A cd pk x_3 x_6 A2 cd2 pk2 r_8 ∧ RIV A2 pk2 := ⟨_, _, _, hM, hDr_8, ⟨⟨hI2, hpr_8_0, hI4, hI5, hI6, hI7, hI8⟩, hpk⟩⟩
    have hs_9 := s_pollC hSIM hV hC hD
    obtain ⟨hSIM, ep_9, hcd, er_9⟩ := hs_9
    rw [← ep_9] at hSIM
    have hV := hV2
    obtain rfl := er_9
    refine lv_istore (lv' := [(6, .int y_7), (5, .int 0), (4, .int (nI i)), (3, .ref o0), (2, .ref m0), (1, .ref x0), (0, .ref b)]) hx hb dL_law_938 hl (by decide) rfl (fun ls hl => ?_)
    refine lv_aload_n hx hb dL_law_940 rfl (lv_at hl 4 rfl) ?_
    refine va_calli (rnV (fun H => MH E m0 rf t0 t1 t2 A_9 cd_9 pk_9 H) (As := []) (rest := []) ⟨hx, hb, hml, hown, hts⟩ (u_X10_thrown l E s.heap.size Gm hGzm m0 rf hR t0 t1 t2 A_9 cd_9 pk_9 ) (cwV 0 hts (gdV ml_L_129 im_X10_thrown se_X10_X10_thrown in_X10 co_X10_thrown rfl) rfl rfl rfl (by decide +kernel) ⟨Nat.le_of_ble_eq_true rfl, Nat.le_of_ble_eq_true rfl⟩) hM (fun U hU hW => hK.go hW hS hAz hU) (va_recv hK.1 (va_one hM.1) (ci := 10) (q0 := 0) rfl rfl) rfl rfl hl.1 rfl (lv_room (Nat.le_of_ble_eq_true rfl)) dL_law_941 ⟨hC2, hS2⟩) hS (fun q _ h => h.elim) (fun q h => h.elim) (fun r_10 ur_10 t H locs ht hvm hwr_10 hB hz hk hS => ?_)
    have hM := hM.kept (fun q hq => hk q hq (fun h => h))
    have hDr_10 : D_X10_thrown A_9 cd_9 pk_9 r_10 := hwr_10.2
    have hpr_10_0 : r_10 = cd_9 := hwr_10.1
    have hT := hT.kept (fun q hq => hk q hq (fun h => h))
    have hro := hro.kept (hk _ hro.lt (fun h => h))
    obtain rfl : r_10 = 0 := hpr_10_0.trans hcd
    refine lv_iload hx hb dL_law_944 (lv_at hl 1 rfl) ?_
    refine lv_icmp_eq (tgt := 951) hx hb dL_law_946 (by decide) (fun c_11 => ?_) (fun c_11 => absurd c_11 (by decide))
    refine lv_iload hx hb dL_law_951 (lv_at hl 1 rfl) ?_
    refine lv_if_ne (tgt := 968) hx hb dL_law_953 (by decide) (fun c_12 => absurd c_12 (by decide)) (fun c_12 => ?_)
    refine lv_aload_n hx hb dL_law_956 rfl (lv_at hl 3 rfl) ?_
    refine lv_iconst (v := 0) hx hb dL_law_957 (by decide) ?_
    refine va_lald (D := DG E) hx hb hK.1 (va_one hro) 0 2 rfl rfl (show vp_in (0) 1 from vp_in_iff.mpr ⟨by decide, by decide⟩) dL_law_958 ?_
    refine W.eq (g2 := F0 m 959 ls [.long (y_7.toInt64)]) (by rw [show fo_7 (0 : Int32).toNatClampNeg = y_7.toInt64 from hfo]) ?_
    refine lv_iload hx hb dL_law_959 (lv_at hl 0 rfl) ?_
    refine lv_i2l hx hb dL_law_961 rfl ?_
    refine W.lcmp hx hb dL_law_962 ?_
    refine W.eq (g2 := F0 m 963 ls [.int 0]) (by rw [lg_cmp_s]) ?_
    refine lv_if_eq (tgt := 968) hx hb dL_law_963 (by decide) (fun c_13 => ?_) (fun c_13 => absurd c_13 (by decide))
    refine lv_goto (tgt := 971) hx hb dL_law_968 (by decide) ?_
    refine W.widen (k := C + 2) (n := S + 12) (by omega) (by omega) ?_
    exact key _ _ _ ⟨Z_7, R, A_9, cd_9, pk_9, hT, hW, hM, hSIM, hV, ⟨_, hro⟩, hS⟩ (lv_sub hl [2, 3, 4, 5, 6] rfl)
  · have eB : Z_7 = B := eB
    rw [eB] at hT
    have hC : X_X9_poll Gc B R x0 x_3 x_6 IAE := hC
    refine lv_istore (lv' := [(5, .int 1), (4, .int (nI i)), (3, .ref o0), (2, .ref m0), (1, .ref x0), (0, .ref b)]) hx hb dL_law_920 hl (by decide) rfl (fun ls hl => ?_)
    refine lv_aload_n hx hb dL_law_922 rfl (lv_at hl 3 rfl) ?_
    refine lv_aload_n hx hb dL_law_923 rfl (lv_at hl 5 rfl) ?_
    refine lv_iload hx hb dL_law_924 (lv_at hl 1 rfl) ?_
    refine lv_iconst (v := 1) hx hb dL_law_926 (by decide) ?_
    refine lv_iadd hx hb dL_law_927 ?_
    refine W.eq (g2 := F0 m 928 ls [.int x_1, .ref b, .ref m0]) (by rw [ex_1]) ?_
    refine va_sld hx hb hX hbl hbA hS vi_2 dL_law_928 ?_
    refine W.eq (g2 := F0 m 929 ls [.int x_3, .ref m0]) (by rw [ex_3]) ?_
    refine lv_aload_n hx hb dL_law_929 rfl (lv_at hl 5 rfl) ?_
    refine lv_iload hx hb dL_law_930 (lv_at hl 1 rfl) ?_
    refine lv_iconst (v := 2) hx hb dL_law_932 (by decide) ?_
    refine lv_iadd hx hb dL_law_933 ?_
    refine W.eq (g2 := F0 m 934 ls [.int x_4, .ref b, .int x_3, .ref m0]) (by rw [ex_4]) ?_
    refine va_sld hx hb hX hbl hbA hS vi_5 dL_law_934 ?_
    refine W.eq (g2 := F0 m 935 ls [.int x_6, .int x_3, .ref m0]) (by rw [ex_6]) ?_
    refine va_calli (rnV (fun H => MH E m0 rf t0 t1 t2 A cd pk H) (As := [.int x_3, .int x_6]) (rest := []) ⟨hx, hb, hml, hown, hts⟩ (u_X10_poll l E s.heap.size Gm hGzm m0 rf hR t0 t1 t2 A cd pk x_3 x_6 hI3) (cwV 2 hts (gdV ml_L_128 im_X10_poll se_X10_X10_poll in_X10 co_X10_poll rfl) rfl rfl rfl (by decide +kernel) ⟨Nat.le_of_ble_eq_true rfl, Nat.le_of_ble_eq_true rfl⟩) hM (fun U hU hW => hK.go hW hS hAz hU) (va_recv hK.1 (va_one hM.1) (ci := 10) (q0 := 0) rfl rfl) rfl rfl hl.1 rfl (lv_room (Nat.le_of_ble_eq_true rfl)) dL_law_935 ⟨hC2, hS2⟩) hS (fun q _ h => hGzm q h) (fun q h => hGzm q h) (fun r_14 ur_14 t H locs ht hvm hwr_14 hB hz hk hS => ?_)
    have hM : MH E m0 rf t0 t1 t2 (uA (uA A 8 (ur_14.1)) 9 (ur_14.2.1)) ur_14.2.2 pk H := by rw [ht] at hB; exact hB
    have hDr_14 : D_X10_poll A cd pk x_3 x_6 (uA (uA A 8 (ur_14.1)) 9 (ur_14.2.1)) (ur_14.2.2) pk r_14 := hwr_14.2
    have hpr_14_0 : I3 (ur_14.1) := hwr_14.1
    have hT := hT.other hd2 hk
    have hro := hro.kept (hk _ hro.lt (fun h => h hGmo))
    obtain ⟨A_15, cd_15, pk_15, hM, hD, hV2⟩ : ∃ (A2 : AA) (cd2 pk2 : Int32), MH E m0 rf t0 t1 t2 A2 cd2 pk2 H ∧ D_X10_poll A cd pk x_3 x_6 A2 cd2 pk2 r_14 ∧ RIV A2 pk2 := ⟨_, _, _, hM, hDr_14, ⟨⟨hI2, hpr_14_0, hI4, hI5, hI6, hI7, hI8⟩, hpk⟩⟩
    obtain ⟨hSIM, ep_15, hE_15⟩ := sx_pollC hSIM hC hD
    rw [← ep_15] at hSIM
    have hcd : cd_15 = 1 := hE_15.elim (fun h => h.2) (fun h => absurd h.1 (by decide))
    have hV := hV2
    refine lv_istore (lv' := [(6, .int r_14), (5, .int 1), (4, .int (nI i)), (3, .ref o0), (2, .ref m0), (1, .ref x0), (0, .ref b)]) hx hb dL_law_938 hl (by decide) rfl (fun ls hl => ?_)
    refine lv_aload_n hx hb dL_law_940 rfl (lv_at hl 4 rfl) ?_
    refine va_calli (rnV (fun H => MH E m0 rf t0 t1 t2 A_15 cd_15 pk_15 H) (As := []) (rest := []) ⟨hx, hb, hml, hown, hts⟩ (u_X10_thrown l E s.heap.size Gm hGzm m0 rf hR t0 t1 t2 A_15 cd_15 pk_15 ) (cwV 0 hts (gdV ml_L_129 im_X10_thrown se_X10_X10_thrown in_X10 co_X10_thrown rfl) rfl rfl rfl (by decide +kernel) ⟨Nat.le_of_ble_eq_true rfl, Nat.le_of_ble_eq_true rfl⟩) hM (fun U hU hW => hK.go hW hS hAz hU) (va_recv hK.1 (va_one hM.1) (ci := 10) (q0 := 0) rfl rfl) rfl rfl hl.1 rfl (lv_room (Nat.le_of_ble_eq_true rfl)) dL_law_941 ⟨hC2, hS2⟩) hS (fun q _ h => h.elim) (fun q h => h.elim) (fun r_16 ur_16 t H locs ht hvm hwr_16 hB hz hk hS => ?_)
    have hM := hM.kept (fun q hq => hk q hq (fun h => h))
    have hDr_16 : D_X10_thrown A_15 cd_15 pk_15 r_16 := hwr_16.2
    have hpr_16_0 : r_16 = cd_15 := hwr_16.1
    have hT := hT.kept (fun q hq => hk q hq (fun h => h))
    have hro := hro.kept (hk _ hro.lt (fun h => h))
    obtain rfl : r_16 = 1 := hpr_16_0.trans hcd
    refine lv_iload hx hb dL_law_944 (lv_at hl 1 rfl) ?_
    refine lv_icmp_eq (tgt := 951) hx hb dL_law_946 (by decide) (fun c_17 => ?_) (fun c_17 => absurd c_17 (by decide))
    refine lv_iload hx hb dL_law_951 (lv_at hl 1 rfl) ?_
    refine lv_if_ne (tgt := 968) hx hb dL_law_953 (by decide) (fun c_18 => ?_) (fun c_18 => absurd c_18 (by decide))
    refine lv_goto (tgt := 971) hx hb dL_law_968 (by decide) ?_
    refine W.widen (k := C + 2) (n := S + 12) (by omega) (by omega) ?_
    exact key _ _ _ ⟨B, R, A_15, cd_15, pk_15, hT, hW, hM, hSIM, hV, ⟨_, hro⟩, hS⟩ (lv_sub hl [2, 3, 4, 5, 6] rfl)
  · have eB : Z_7 = B := eB
    rw [eB] at hT
    have hC : X_X9_poll Gc B R x0 x_3 x_6 NSE := hC
    refine lv_istore (lv' := [(5, .int 2), (4, .int (nI i)), (3, .ref o0), (2, .ref m0), (1, .ref x0), (0, .ref b)]) hx hb dL_law_920 hl (by decide) rfl (fun ls hl => ?_)
    refine lv_aload_n hx hb dL_law_922 rfl (lv_at hl 3 rfl) ?_
    refine lv_aload_n hx hb dL_law_923 rfl (lv_at hl 5 rfl) ?_
    refine lv_iload hx hb dL_law_924 (lv_at hl 1 rfl) ?_
    refine lv_iconst (v := 1) hx hb dL_law_926 (by decide) ?_
    refine lv_iadd hx hb dL_law_927 ?_
    refine W.eq (g2 := F0 m 928 ls [.int x_1, .ref b, .ref m0]) (by rw [ex_1]) ?_
    refine va_sld hx hb hX hbl hbA hS vi_2 dL_law_928 ?_
    refine W.eq (g2 := F0 m 929 ls [.int x_3, .ref m0]) (by rw [ex_3]) ?_
    refine lv_aload_n hx hb dL_law_929 rfl (lv_at hl 5 rfl) ?_
    refine lv_iload hx hb dL_law_930 (lv_at hl 1 rfl) ?_
    refine lv_iconst (v := 2) hx hb dL_law_932 (by decide) ?_
    refine lv_iadd hx hb dL_law_933 ?_
    refine W.eq (g2 := F0 m 934 ls [.int x_4, .ref b, .int x_3, .ref m0]) (by rw [ex_4]) ?_
    refine va_sld hx hb hX hbl hbA hS vi_5 dL_law_934 ?_
    refine W.eq (g2 := F0 m 935 ls [.int x_6, .int x_3, .ref m0]) (by rw [ex_6]) ?_
    refine va_calli (rnV (fun H => MH E m0 rf t0 t1 t2 A cd pk H) (As := [.int x_3, .int x_6]) (rest := []) ⟨hx, hb, hml, hown, hts⟩ (u_X10_poll l E s.heap.size Gm hGzm m0 rf hR t0 t1 t2 A cd pk x_3 x_6 hI3) (cwV 2 hts (gdV ml_L_128 im_X10_poll se_X10_X10_poll in_X10 co_X10_poll rfl) rfl rfl rfl (by decide +kernel) ⟨Nat.le_of_ble_eq_true rfl, Nat.le_of_ble_eq_true rfl⟩) hM (fun U hU hW => hK.go hW hS hAz hU) (va_recv hK.1 (va_one hM.1) (ci := 10) (q0 := 0) rfl rfl) rfl rfl hl.1 rfl (lv_room (Nat.le_of_ble_eq_true rfl)) dL_law_935 ⟨hC2, hS2⟩) hS (fun q _ h => hGzm q h) (fun q h => hGzm q h) (fun r_19 ur_19 t H locs ht hvm hwr_19 hB hz hk hS => ?_)
    have hM : MH E m0 rf t0 t1 t2 (uA (uA A 8 (ur_19.1)) 9 (ur_19.2.1)) ur_19.2.2 pk H := by rw [ht] at hB; exact hB
    have hDr_19 : D_X10_poll A cd pk x_3 x_6 (uA (uA A 8 (ur_19.1)) 9 (ur_19.2.1)) (ur_19.2.2) pk r_19 := hwr_19.2
    have hpr_19_0 : I3 (ur_19.1) := hwr_19.1
    have hT := hT.other hd2 hk
    have hro := hro.kept (hk _ hro.lt (fun h => h hGmo))
    obtain ⟨A_20, cd_20, pk_20, hM, hD, hV2⟩ : ∃ (A2 : AA) (cd2 pk2 : Int32), MH E m0 rf t0 t1 t2 A2 cd2 pk2 H ∧ D_X10_poll A cd pk x_3 x_6 A2 cd2 pk2 r_19 ∧ RIV A2 pk2 := ⟨_, _, _, hM, hDr_19, ⟨⟨hI2, hpr_19_0, hI4, hI5, hI6, hI7, hI8⟩, hpk⟩⟩
    obtain ⟨hSIM, ep_20, hE_20⟩ := sx_pollC hSIM hC hD
    rw [← ep_20] at hSIM
    have hcd : cd_20 = 2 := hE_20.elim (fun h => absurd h.1 (by decide)) (fun h => h.2)
    have hV := hV2
    refine lv_istore (lv' := [(6, .int r_19), (5, .int 2), (4, .int (nI i)), (3, .ref o0), (2, .ref m0), (1, .ref x0), (0, .ref b)]) hx hb dL_law_938 hl (by decide) rfl (fun ls hl => ?_)
    refine lv_aload_n hx hb dL_law_940 rfl (lv_at hl 4 rfl) ?_
    refine va_calli (rnV (fun H => MH E m0 rf t0 t1 t2 A_20 cd_20 pk_20 H) (As := []) (rest := []) ⟨hx, hb, hml, hown, hts⟩ (u_X10_thrown l E s.heap.size Gm hGzm m0 rf hR t0 t1 t2 A_20 cd_20 pk_20 ) (cwV 0 hts (gdV ml_L_129 im_X10_thrown se_X10_X10_thrown in_X10 co_X10_thrown rfl) rfl rfl rfl (by decide +kernel) ⟨Nat.le_of_ble_eq_true rfl, Nat.le_of_ble_eq_true rfl⟩) hM (fun U hU hW => hK.go hW hS hAz hU) (va_recv hK.1 (va_one hM.1) (ci := 10) (q0 := 0) rfl rfl) rfl rfl hl.1 rfl (lv_room (Nat.le_of_ble_eq_true rfl)) dL_law_941 ⟨hC2, hS2⟩) hS (fun q _ h => h.elim) (fun q h => h.elim) (fun r_21 ur_21 t H locs ht hvm hwr_21 hB hz hk hS => ?_)
    have hM := hM.kept (fun q hq => hk q hq (fun h => h))
    have hDr_21 : D_X10_thrown A_20 cd_20 pk_20 r_21 := hwr_21.2
    have hpr_21_0 : r_21 = cd_20 := hwr_21.1
    have hT := hT.kept (fun q hq => hk q hq (fun h => h))
    have hro := hro.kept (hk _ hro.lt (fun h => h))
    obtain rfl : r_21 = 2 := hpr_21_0.trans hcd
    refine lv_iload hx hb dL_law_944 (lv_at hl 1 rfl) ?_
    refine lv_icmp_eq (tgt := 951) hx hb dL_law_946 (by decide) (fun c_22 => ?_) (fun c_22 => absurd c_22 (by decide))
    refine lv_iload hx hb dL_law_951 (lv_at hl 1 rfl) ?_
    refine lv_if_ne (tgt := 968) hx hb dL_law_953 (by decide) (fun c_23 => ?_) (fun c_23 => absurd c_23 (by decide))
    refine lv_goto (tgt := 971) hx hb dL_law_968 (by decide) ?_
    refine W.widen (k := C + 2) (n := S + 12) (by omega) (by omega) ?_
    exact key _ _ _ ⟨B, R, A_20, cd_20, pk_20, hT, hW, hM, hSIM, hV, ⟨_, hro⟩, hS⟩ (lv_sub hl [2, 3, 4, 5, 6] rfl)
end
section
theorem dL_cell_0 : decode cL_cell 0 = .ok (.iload_n 1, 1) := by decide +kernel
theorem dL_cell_1 : decode cL_cell 1 = .ok (.aload_n 0, 1) := by decide +kernel
theorem dL_cell_2 : decode cL_cell 2 = .ok (.arraylength, 1) := by decide +kernel
theorem dL_cell_3 : decode cL_cell 3 = .ok (.if_icmp .ge 9, 3) := by decide +kernel
theorem dL_cell_6 : decode cL_cell 6 = .ok (.aload_n 0, 1) := by decide +kernel
theorem dL_cell_7 : decode cL_cell 7 = .ok (.iload_n 1, 1) := by decide +kernel
theorem dL_cell_8 : decode cL_cell 8 = .ok (.iaload, 1) := by decide +kernel
theorem dL_cell_9 : decode cL_cell 9 = .ok (.goto 4, 3) := by decide +kernel
theorem dL_cell_12 : decode cL_cell 12 = .ok (.iconst 0, 1) := by decide +kernel
theorem dL_cell_13 : decode cL_cell 13 = .ok (.ireturn, 1) := by decide +kernel
def cellv (L : Nat) (xs : Nat → Int32) (k : Nat) : Int32 := if k < L then xs k else 0
set_option maxHeartbeats 4000000 in
set_option maxRecDepth 100000 in
theorem c_L_cell (l : Launch) (b L : Nat) (xs : Nat → Int32) (k : Nat) (hL : L ≤ 3587) (hk : k < 3) (n9 : Nat) : Met l yL_cell [Cond.code yL_cell cL_cell 2 (some .int)] ({ frames := 0, cells := 0, slots := 0, locals := 0 } : Room) (va_Pc [.ref b, .int (nI k)] (fun U => va_X b L xs U U.heap ∧ b < U.heap.size ∧ U.heap.size = n9)) (va_Qi (fun (r : Int32) (_ : Unit) => r = cellv L xs k) (fun _ t => t.heap.size = n9) (fun _ : Nat => False)) 0 0 (fun _ : Nat => False) := by
  refine Met.ofW (cc := cL_cell) (maxL := 2) (ret := (some .int)) (by decide) rfl ?_
  intro p e s m args below meth c s₁ B hml hv
  obtain ⟨rfl, hX, hbl, hn9⟩ := hv
  have hx := B.exec
  have hb := B.bytes
  have hr := B.returns
  have hlocks := B.notSynchronized
  have hS : va_S (fun _ : Nat => False) s.heap s.heap [] := va_S.rf
  have hl := lv_entry ([.ref b, .int (nI k)]) (n := 2) (Nat.le_of_ble_eq_true rfl)
  rw [lg_entry_eq]
  generalize (lg_sl ([.ref b, .int (nI k)]) ++ List.replicate (2 - (lg_sl ([.ref b, .int (nI k)])).length) Slot.unset).toArray = ls at hl ⊢
  have hl : lv_has ls 2 [(0, .ref b), (1, .int (nI k))] := hl
  refine lv_iload_n hx hb dL_cell_0 rfl (lv_at hl 1 rfl) ?_
  refine lv_aload_n hx hb dL_cell_1 rfl (lv_at hl 0 rfl) ?_
  refine va_slen hx hb hX hbl (fun h => h) hS dL_cell_2 ?_
  refine lv_icmp_ge (tgt := 12) hx hb dL_cell_3 (by decide) (fun c1 => ?_) (fun c1 => ?_)
  · have hlt : ¬ k < L := fun h => by
      have h1 : (Int32.ofNat L).toInt = (L : Int) := nI_toInt (n := L) (by omega)
      rw [le_I, h1, nI_toInt (by omega)] at c1
      omega
    refine lv_iconst (v := 0) hx hb dL_cell_12 (by decide) ?_
    exact W.iret (v := 0) hx hb hr (fun t ht hW => ⟨⟨0, (), rfl, (if_neg hlt).symm, (by show t.heap.size = n9; rw [ht]; exact hn9)⟩, hS.F ht⟩) hS.2.2 dL_cell_13
  · have hlt : k < L := Decidable.byContradiction fun h => c1 (nI_le (a := L) (b := k) (by omega) (by omega))
    refine lv_aload_n hx hb dL_cell_6 rfl (lv_at hl 0 rfl) ?_
    refine lv_iload_n hx hb dL_cell_7 rfl (lv_at hl 1 rfl) ?_
    refine va_sld hx hb hX hbl (fun h => h) hS (vp_in_nI hlt (by omega)) dL_cell_8 ?_
    refine lv_topi (fun y ey => ?_)
    have ey : y = cellv L xs k := by rw [ey, nI_clamp (by omega)]; exact (if_pos hlt).symm
    refine lv_goto (tgt := 13) hx hb dL_cell_9 (by decide) ?_
    exact W.iret (v := y) hx hb hr (fun t ht hW => ⟨⟨y, (), rfl, ey, (by show t.heap.size = n9; rw [ht]; exact hn9)⟩, hS.F ht⟩) hS.2.2 dL_cell_13
end
section
set_option maxHeartbeats 8000000 in
set_option maxRecDepth 100000 in
theorem law_loop {p : Program} {l : Launch} {e : Env} {s : State} {m : MethodId} {below : List Frame} {meth : Method} {c : Code} {b L i C S : Nat} {xs : Nat → Int32} {E : EE} {Gc Gm : Nat → Nat} {x0 m0 o0 : Nat} {rf : Nat → Nat} {t0 t1 t2 : Int32} {H : Heap} {locs : List Loc} {ls : Array Slot} (hst : l.stackTraces = false) (C0 : lw_At p s m meth c b L xs) (hLB : L ≤ 3587) (hK : KS E s.heap.size s) (hN : NC s) (F9 : LF s Gc Gm x0 m0 o0 rf t0) (hi3 : i ≤ 3587) (hCb : C ≤ 191 + i) (hSb : S ≤ 2010 + 12 * i) (hI : LI E s Gc x0 m0 o0 rf t0 t1 t2 H locs) (hl : lv_has ls 7 [(4, .int (nI i)), (3, .ref o0), (2, .ref m0), (1, .ref x0), (0, .ref b)]) : W p l e room_1 s m #[Value.ref b] below meth c H locs C S (lw_Z below #[Value.ref b] s) (F0 m 53 ls []) := by
  obtain ⟨hx, hb, hr, hml, hown, hts0, hX, hbl, hlocks, hgv⟩ := id C0
  have hbA : ¬ (fun q : Nat => s.heap.size ≤ q) b := Nat.not_le.mpr hbl
  refine lp_c (fun n H locs ls C S => ∃ i : Nat, i ≤ 3587 ∧ 3600 - i = n ∧ C ≤ 191 + i ∧ S ≤ 2010 + 12 * i ∧ LI E s Gc x0 m0 o0 rf t0 t1 t2 H locs ∧ lv_has ls 7 [(4, .int (nI i)), (3, .ref o0), (2, .ref m0), (1, .ref x0), (0, .ref b)]) (fun n H locs ls C S ih hJ => ?_) ⟨i, hi3, rfl, hCb, hSb, hI, hl⟩
  obtain ⟨i, hi3, hn, hCb, hSb, hI, hl⟩ := hJ
  obtain ⟨_, _, _, _, _, -, -, -, -, -, -, hS⟩ := id hI
  have hiI : (nI i).toInt = (i : Int) := nI_toInt (by omega)
  have h7 : (nI i + Int32.ofInt 7) = nI (i + 7) := by
    rw [eq_I, nI_toInt (by omega)]
    have h9 := s_add (x := nI i) (y := 7) (by rw [hiI, i_7]; omega) (by rw [hiI, i_7]; omega)
    rw [hiI, i_7] at h9
    exact h9
  refine lv_iload hx hb dL_law_53 (lv_at hl 0 rfl) ?_
  refine lv_aload_n hx hb dL_law_55 rfl (lv_at hl 4 rfl) ?_
  refine va_slen hx hb hX hbl hbA hS dL_law_56 ?_
  refine lv_bipush (v := 7) hx hb dL_law_57 (by decide) ?_
  refine lv_isub hx hb dL_law_59 ?_
  have hq : (Int32.ofNat L - 7).toInt = (L : Int) - 7 := by
    have h1 : (Int32.ofNat L).toInt = (L : Int) := nI_toInt (n := L) (by omega)
    rw [s_sub (by rw [h1, i_7]; omega) (by rw [h1, i_7]; omega), h1, i_7]
  refine lv_icmp_gt (tgt := 977) hx hb dL_law_60 (by decide) (fun c1 => ?_) (fun c1 => ?_)
  · refine lv_iconst (v := 1) hx hb dL_law_977 (by decide) ?_
    refine va_forget (fun q hq => hS.2.2 q hq) ?_
    refine W.widen (k := 621377) (n := 7231939) (by omega) (by omega) ?_
    exact lw_ret hx hb hr hlocks dL_law_978
  rw [lt_I, hq, hiI] at c1
  have hi7 : i + 7 ≤ L := by omega
  have key : ∀ (H : Heap) (locs : List Loc) (ls : Array Slot), LI E s Gc x0 m0 o0 rf t0 t1 t2 H locs → lv_has ls 7 [(4, .int (nI i)), (3, .ref o0), (2, .ref m0), (1, .ref x0), (0, .ref b)] → W p l e room_1 s m #[Value.ref b] below meth c H locs (C + 2) (S + 12) (lw_Z below #[Value.ref b] s) (F0 m 971 ls []) := by
    intro H locs ls hI hl
    refine lv_iinc (v := nI (i + 7)) (lv' := [(4, .int (nI (i + 7))), (3, .ref o0), (2, .ref m0), (1, .ref x0), (0, .ref b)]) hx hb dL_law_971 hl (k := 0) rfl h7 (by decide) rfl (fun ls hl => ?_)
    refine lv_goto (tgt := 53) hx hb dL_law_974 (by decide) ?_
    exact ih _ (by omega) _ _ _ _ _ ⟨i + 7, by omega, rfl, by omega, by omega, hI, hl⟩
  refine lv_aload_n hx hb dL_law_63 rfl (lv_at hl 4 rfl) ?_
  refine lv_iload hx hb dL_law_64 (lv_at hl 0 rfl) ?_
  refine va_sld hx hb hX hbl hbA hS (show vp_in (nI i) L from vp_in_nI (by omega) (by omega)) dL_law_66 ?_
  refine lv_bipush (v := 31) hx hb dL_law_67 (by decide) ?_
  refine lv_iand hx hb dL_law_69 ?_
  refine lv_topi (fun w ew => ?_)
  rcases (show w.toInt = 0 ∨ w.toInt = 1 ∨ w.toInt = 2 ∨ w.toInt = 3 ∨ w.toInt = 4 ∨ w.toInt = 5 ∨ w.toInt = 6 ∨ w.toInt = 7 ∨ w.toInt = 8 ∨ w.toInt = 9 ∨ w.toInt = 10 ∨ w.toInt = 11 ∨ w.toInt = 12 ∨ w.toInt = 13 ∨ w.toInt = 14 ∨ w.toInt = 15 ∨ w.toInt = 16 ∨ w.toInt = 17 ∨ (w.toInt < 0 ∨ 17 < w.toInt) by omega) with cw | cw | cw | cw | cw | cw | cw | cw | cw | cw | cw | cw | cw | cw | cw | cw | cw | cw | cw
  · refine lv_tableIn (tgt := 156) (off := 86) hx hb dL_law_70 (by omega) (by omega) (by rw [cw]; rfl) (by decide) ?_
    exact lk_0 hst C0 hLB hK hN F9 hi7 (by omega) (by omega) hI hl key
  · refine lv_tableIn (tgt := 229) (off := 159) hx hb dL_law_70 (by omega) (by omega) (by rw [cw]; rfl) (by decide) ?_
    exact lk_1 hst C0 hLB hK hN F9 hi7 (by omega) (by omega) hI hl key
  · refine lv_tableIn (tgt := 278) (off := 208) hx hb dL_law_70 (by omega) (by omega) (by rw [cw]; rfl) (by decide) ?_
    exact lk_2 hst C0 hLB hK hN F9 hi7 (by omega) (by omega) hI hl key
  · refine lv_tableIn (tgt := 315) (off := 245) hx hb dL_law_70 (by omega) (by omega) (by rw [cw]; rfl) (by decide) ?_
    exact lk_3 hst C0 hLB hK hN F9 hi7 (by omega) (by omega) hI hl key
  · refine lv_tableIn (tgt := 364) (off := 294) hx hb dL_law_70 (by omega) (by omega) (by rw [cw]; rfl) (by decide) ?_
    exact lk_4 hst C0 hLB hK hN F9 hi7 (by omega) (by omega) hI hl key
  · refine lv_tableIn (tgt := 389) (off := 319) hx hb dL_law_70 (by omega) (by omega) (by rw [cw]; rfl) (by decide) ?_
    exact lk_5 hst C0 hLB hK hN F9 hi7 (by omega) (by omega) hI hl key
  · refine lv_tableIn (tgt := 441) (off := 371) hx hb dL_law_70 (by omega) (by omega) (by rw [cw]; rfl) (by decide) ?_
    exact lk_6 hst C0 hLB hK hN F9 hi7 (by omega) (by omega) hI hl key
  · refine lv_tableIn (tgt := 547) (off := 477) hx hb dL_law_70 (by omega) (by omega) (by rw [cw]; rfl) (by decide) ?_
    exact lk_7 hst C0 hLB hK hN F9 hi7 (by omega) (by omega) hI hl key
  · refine lv_tableIn (tgt := 623) (off := 553) hx hb dL_law_70 (by omega) (by omega) (by rw [cw]; rfl) (by decide) ?_
    exact lk_8 hst C0 hLB hK hN F9 hi7 (by omega) (by omega) hI hl key
  · refine lv_tableIn (tgt := 675) (off := 605) hx hb dL_law_70 (by omega) (by omega) (by rw [cw]; rfl) (by decide) ?_
    exact lk_9 hst C0 hLB hK hN F9 hi7 (by omega) (by omega) hI hl key
  · refine lv_tableIn (tgt := 700) (off := 630) hx hb dL_law_70 (by omega) (by omega) (by rw [cw]; rfl) (by decide) ?_
    exact lk_10 hst C0 hLB hK hN F9 hi7 (by omega) (by omega) hI hl key
  · refine lv_tableIn (tgt := 725) (off := 655) hx hb dL_law_70 (by omega) (by omega) (by rw [cw]; rfl) (by decide) ?_
    exact lk_11 hst C0 hLB hK hN F9 hi7 (by omega) (by omega) hI hl key
  · refine lv_tableIn (tgt := 778) (off := 708) hx hb dL_law_70 (by omega) (by omega) (by rw [cw]; rfl) (by decide) ?_
    exact lk_12 hst C0 hLB hK hN F9 hi7 (by omega) (by omega) hI hl key
  · refine lv_tableIn (tgt := 791) (off := 721) hx hb dL_law_70 (by omega) (by omega) (by rw [cw]; rfl) (by decide) ?_
    exact lk_13 hst C0 hLB hK hN F9 hi7 (by omega) (by omega) hI hl key
  · refine lv_tableIn (tgt := 804) (off := 734) hx hb dL_law_70 (by omega) (by omega) (by rw [cw]; rfl) (by decide) ?_
    exact lk_14 hst C0 hLB hK hN F9 hi7 (by omega) (by omega) hI hl key
  · refine lv_tableIn (tgt := 841) (off := 771) hx hb dL_law_70 (by omega) (by omega) (by rw [cw]; rfl) (by decide) ?_
    exact lk_15 hst C0 hLB hK hN F9 hi7 (by omega) (by omega) hI hl key
  · refine lv_tableIn (tgt := 878) (off := 808) hx hb dL_law_70 (by omega) (by omega) (by rw [cw]; rfl) (by decide) ?_
    exact lk_16 hst C0 hLB hK hN F9 hi7 (by omega) (by omega) hI hl key
  · refine lv_tableIn (tgt := 903) (off := 833) hx hb dL_law_70 (by omega) (by omega) (by rw [cw]; rfl) (by decide) ?_
    exact lk_17 hst C0 hLB hK hN F9 hi7 (by omega) (by omega) hI hl key
  · refine lv_tableOut (tgt := 971) hx hb dL_law_70 cw (by decide) ?_
    refine W.widen (k := C + 2) (n := S + 12) (by omega) (by omega) ?_
    exact key _ _ _ hI hl
end
section
theorem arrP {s : State} {A : Array Value} {ty : FieldType} (h : (Cond.arrayClass ty).before A s = true) : ∃ c : ClassId, ArrOfT s c ty ∧ s.vm.findClass ("[" ++ ty.toString) = some c := by
  obtain ⟨c, k, comp, h1, h2, h3⟩ := Cond.arrayClass_spec h
  exact ⟨c, fun n z => ⟨fun k h => (by cases h), k, h2, comp, h3⟩, h1⟩
theorem arrO {s : State} {A : Array Value} {C : String} (h : (Cond.arrayOver (.object C)).before A s = true) : ∃ c : ClassId, ArrOfT s c (.object C) ∧ va_RA s c (.object C) := by
  obtain ⟨comp, c, k, h1, -, h3, h4, h5⟩ := Cond.arrayOver_spec h
  exact ⟨c, fun n z => ⟨fun k h => (by cases h), k, h3, comp, h4⟩, k, comp, h3, h4, h1, h5⟩
set_option maxHeartbeats 4000000 in
theorem knowE {s : State} {A : Array Value} (hts : ∀ w ∈ TS, w.before A s = true) : ∃ E : EE, va_K (DG E) vwCl (TYS E) s := by
  obtain ⟨c0, i0, k0⟩ := u_known (C := RX0) (T := TX0) (N := 4) (n := 4) hts iw_X0 (hts _ ia_X0)
  obtain ⟨c1, i1, k1⟩ := u_known (C := RX1) (T := TX1) (N := 5) (n := 5) hts iw_X1 (hts _ ia_X1)
  obtain ⟨c2, i2, k2⟩ := u_known (C := RX2) (T := TX2) (N := 8) (n := 8) hts iw_X2 (hts _ ia_X2)
  obtain ⟨c3, i3, k3⟩ := u_known (C := RX3) (T := TX3) (N := 3) (n := 3) hts iw_X3 (hts _ ia_X3)
  obtain ⟨c4, i4, k4⟩ := u_known (C := RX4) (T := TX4) (N := 10) (n := 10) hts iw_X4 (hts _ ia_X4)
  obtain ⟨c5, i5, k5⟩ := u_known (C := RX5) (T := TX5) (N := 6) (n := 6) hts iw_X5 (hts _ ia_X5)
  obtain ⟨c6, i6, k6⟩ := u_known (C := RX6) (T := TX6) (N := 3) (n := 3) hts iw_X6 (hts _ ia_X6)
  obtain ⟨c7, i7, k7⟩ := u_known (C := RX7) (T := TX7) (N := 14) (n := 14) hts iw_X7 (hts _ ia_X7)
  obtain ⟨c8, i8, k8⟩ := u_known (C := RX8) (T := TX8) (N := 9) (n := 9) hts iw_X8 (hts _ ia_X8)
  obtain ⟨c9, i9, k9⟩ := u_known (C := RX9) (T := TX9) (N := 3) (n := 3) hts iw_X9 (hts _ ia_X9)
  obtain ⟨c10, i10, k10⟩ := u_known (C := RX10) (T := TX10) (N := 49) (n := 49) hts iw_X10 (hts _ ia_X10)
  obtain ⟨a0, r0, t0⟩ := arrP (hts _ ac_int)
  obtain ⟨a1, r1, t1⟩ := arrP (hts _ ac_boolean)
  obtain ⟨a2, r2, t2⟩ := arrP (hts _ ac_long)
  obtain ⟨a3, r3, t3⟩ := arrO (hts _ ao_X1)
  obtain ⟨a4, r4, t4⟩ := arrO (hts _ ao_X6)
  obtain ⟨a5, r5, t5⟩ := arrO (hts _ ao_X3)
  obtain ⟨a6, r6, t6⟩ := arrO (hts _ ao_X4)
  obtain ⟨a7, r7, t7⟩ := arrO (hts _ ao_X2)
  refine ⟨(fun k => if k = 0 then c0 else if k = 1 then c1 else if k = 2 then c2 else if k = 3 then c3 else if k = 4 then c4 else if k = 5 then c5 else if k = 6 then c6 else if k = 7 then c7 else if k = 8 then c8 else if k = 9 then c9 else c10, fun k => if k = 0 then i0 else if k = 1 then i1 else if k = 2 then i2 else if k = 3 then i3 else if k = 4 then i4 else if k = 5 then i5 else if k = 6 then i6 else if k = 7 then i7 else if k = 8 then i8 else if k = 9 then i9 else i10, fun k => if k = 0 then a0 else if k = 1 then a1 else if k = 2 then a2 else if k = 3 then a3 else if k = 4 then a4 else if k = 5 then a5 else if k = 6 then a6 else a7), ?_, ?_⟩
  · intro k q hq
    match k, hq with
    | 0, hq => cases hq; exact k0
    | 1, hq => cases hq; exact k1
    | 2, hq => cases hq; exact k2
    | 3, hq => cases hq; exact k3
    | 4, hq => cases hq; exact k4
    | 5, hq => cases hq; exact k5
    | 6, hq => cases hq; exact k6
    | 7, hq => cases hq; exact k7
    | 8, hq => cases hq; exact k8
    | 9, hq => cases hq; exact k9
    | 10, hq => cases hq; exact k10
    | k + 11, hq => simp [vwCl] at hq
  · intro k q hq
    match k, hq with
    | 0, hq => cases hq; exact ⟨r0, t0⟩
    | 1, hq => cases hq; exact ⟨r1, t1⟩
    | 2, hq => cases hq; exact ⟨r2, t2⟩
    | 3, hq => cases hq; exact ⟨r3, t3⟩
    | 4, hq => cases hq; exact ⟨r4, t4⟩
    | 5, hq => cases hq; exact ⟨r5, t5⟩
    | 6, hq => cases hq; exact ⟨r6, t6⟩
    | 7, hq => cases hq; exact ⟨r7, t7⟩
    | k + 8, hq => simp at hq
theorem ml_US : Cond.laysStatic Bundle.tN "UNASSIGNED_STACK" Bundle.steD ∈ lw_tbl := List.mem_of_getElem? (i := 753) (by decide +kernel)
theorem ml_SS : Cond.laysStatic Bundle.tN "SUPPRESSED_SENTINEL" Bundle.listD ∈ lw_tbl := List.mem_of_getElem? (i := 755) (by decide +kernel)
theorem startK {p : Program} {s : State} {m : MethodId} {meth : Method} {c : Code} {b L : Nat} {xs : Nat → Int32} (C0 : lw_At p s m meth c b L xs) : (∃ E : EE, KS E s.heap.size s) ∧ NC s := by
  obtain ⟨hx, hb, hr, hml, hown, hts0, hX, hbl, hlocks, hgv⟩ := C0
  have hts : ∀ w ∈ TS, w.before #[Value.ref b] s = true := fun w hw => hts0 w (List.mem_filter.mp hw).1
  have hs := flat_of_before _ hgv
  have hA : ∀ a : Nat, a < s.heap.size → ¬ AZ s.heap.size a := fun a h q => absurd h (Nat.not_lt.mpr q)
  obtain ⟨E, hE⟩ := knowE hts
  refine ⟨⟨E, hE, KK.of hts0, ?_, ?_⟩, ?_, ?_⟩
  · exact vx_Zqof (hts0 _ ml_US) (hts _ in_Throwable) (hs _ (by decide +kernel)) hA
  · exact vx_Zqof (hts0 _ ml_SS) (hts _ in_Throwable) (hs _ (by decide +kernel)) hA
  · exact va_Nc.of (hs _ (by decide +kernel))
  · exact va_Nc.of (hs _ (by decide +kernel))
theorem TX.keptAC {E : EE} {G : Nat → Nat} {B : AA} {R : RR} {H H1 : Heap} {h0 sz : Nat} (h : TX E G B R H) (hz : G h0 = 0) (hs : H.size ≤ sz) (hk : ∀ q, q < H.size → ¬ AC h0 sz q → H1[q]? = H[q]?) : TX E G B R H1 := fun a ha => by
  have hl : a < H.size := (h a ha).lt
  exact (h a ha).kept (hk a hl (fun q => q.elim (fun e => ha (by rw [e]; exact hz)) (fun e => by omega)))
theorem TH.zero {E : EE} {H : Heap} : TH E (T0 E) (fun _ => 0) [] H := fun a h _ => absurd rfl h
theorem TH.keptAC {E : EE} {ty : (Nat → Nat) → Nat → va_E → Prop} {G : Nat → Nat} {H H1 : Heap} {h0 sz : Nat} (h : TH E ty G [] H) (hz : G h0 = 0) (hs : H.size ≤ sz) (hk : ∀ q, q < H.size → ¬ AC h0 sz q → H1[q]? = H[q]?) : TH E ty G [] H1 := fun a ha hx => by
  obtain ⟨e, h1, h2⟩ := h a ha hx
  have hl : a < H.size := h2.lt
  exact ⟨e, h1, h2.kept (hk a hl (fun q => q.elim (fun e => ha (by rw [e]; exact hz)) (fun e => by omega)))⟩
theorem TH.lts {E : EE} {ty : (Nat → Nat) → Nat → va_E → Prop} {G : Nat → Nat} {H : Heap} (h : TH E ty G [] H) {a : Nat} (ha : G a ≠ 0) : a < H.size := by
  obtain ⟨e, -, h2⟩ := h a ha List.not_mem_nil
  exact h2.lt
end
section
set_option maxHeartbeats 16000000 in
set_option maxRecDepth 100000 in
theorem whole_start {p : Program} {e : Env} {s : State} {m : MethodId} {below : List Frame} {meth : Method} {c : Code} (l : Launch) (hst : l.stackTraces = false) {b L : Nat} {xs : Nat → Int32} (hL : L ≤ 3587) (C0 : lw_At p s m meth c b L xs) : W p l e room_1 s m #[Value.ref b] below meth c s.heap [] 0 0 (lw_Z below #[Value.ref b] s) (entryFrame m ([Value.ref b] : List Value).toArray 7) := by
  obtain ⟨hx, hb, hr, hml, hown, hts0, hX, hbl, hlocks, hgv⟩ := id C0
  have hts : ∀ w ∈ TS, w.before #[Value.ref b] s = true := fun w hw => hts0 w (List.mem_filter.mp hw).1
  have hbA : ¬ (fun q : Nat => s.heap.size ≤ q) b := Nat.not_le.mpr hbl
  have hAz : ∀ q, (fun q : Nat => s.heap.size ≤ q) q → s.heap.size ≤ q := fun q h => h
  obtain ⟨⟨E, hK⟩, hN⟩ := startK C0
  have hS : va_S (fun q : Nat => s.heap.size ≤ q) s.heap s.heap [] := va_S.rf
  have hl := lv_entry ([.ref b]) (n := 7) (Nat.le_of_ble_eq_true rfl)
  rw [lg_entry_eq]
  generalize (lg_sl ([.ref b]) ++ List.replicate (7 - (lg_sl ([.ref b])).length) Slot.unset).toArray = ls at hl ⊢
  have hl : lv_has ls 7 [(0, .ref b)] := hl
  have hSo : s.heap.size ≤ _ := hS.1
  refine rr_new (ci := 9) (fs := [.null, .null, .null]) (C := RX9) (T := TX9) (N := 3) hx hb hts iw_X9 tyX9 tyX9_ok hown (hts _ cl_L_8) (hts _ ia_X9) (hts _ in_X9) hK.1 hS rfl (fun j hj => by rcases (show j = 0 ∨ j = 1 ∨ j = 2 by omega) with rfl | rfl | rfl <;> rfl) (Nat.le_of_ble_eq_true rfl) (Nat.le_of_ble_eq_true rfl) dL_law_0 (fun x0 H hq hat hz ho hS => ?_)
  have hx9 := hat
  have hx0z : s.heap.size ≤ x0 := by omega
  have hsz := hz
  rw [← hq] at hsz
  refine lv_dup hx hb dL_law_3 rfl ?_
  refine lv_aload_n hx hb dL_law_4 rfl (lv_at hl 0 rfl) ?_
  refine lv_iconst (v := nI 0) hx hb dL_law_5 (by decide) ?_
  refine va_calli (va_runS (As := [.ref b, .int (nI 0)]) (rest := [.ref x0, .ref x0]) ⟨hx, hb, hml, hown, hts⟩ (c_L_cell l b L xs 0 hL (by decide) _) (cwS 2 hts (gdS ml_L_45 st_L_cell in_L co_L_cell rfl) rfl rfl rfl (by decide +kernel) ⟨Nat.le_of_ble_eq_true rfl, Nat.le_of_ble_eq_true rfl⟩) ⟨fun a U g mk q => ⟨q.1, va_X.moved (Vm.Alike.refl U.vm) q.2.1, q.2.2⟩, fun U hU hW => ⟨rfl, va_X.moved hW.alike (by rw [hU]; exact hX.kept (hS.2.1 b hbl hbA)), by rw [hU]; exact Nat.lt_of_lt_of_le hbl hS.1, by rw [hU]⟩⟩ rfl rfl hl.1 rfl (lv_room (Nat.le_of_ble_eq_true rfl)) dL_law_6 ⟨Nat.le_of_ble_eq_true rfl, Nat.le_of_ble_eq_true rfl⟩) hS (fun q _ h => h.elim) (fun q h => h.elim) (fun y0 _ t H locs ht hvm hw hB hz hk hS => ?_)
  rw [ht] at hB
  have hsz := hB.trans hsz
  subst hw
  have hx9 := hx9.kept (hk _ hx9.lt (fun h => h))
  refine lv_aload_n hx hb dL_law_9 rfl (lv_at hl 0 rfl) ?_
  refine lv_iconst (v := nI 1) hx hb dL_law_10 (by decide) ?_
  refine va_calli (va_runS (As := [.ref b, .int (nI 1)]) (rest := [.int (cellv L xs 0), .ref x0, .ref x0]) ⟨hx, hb, hml, hown, hts⟩ (c_L_cell l b L xs 1 hL (by decide) _) (cwS 2 hts (gdS ml_L_45 st_L_cell in_L co_L_cell rfl) rfl rfl rfl (by decide +kernel) ⟨Nat.le_of_ble_eq_true rfl, Nat.le_of_ble_eq_true rfl⟩) ⟨fun a U g mk q => ⟨q.1, va_X.moved (Vm.Alike.refl U.vm) q.2.1, q.2.2⟩, fun U hU hW => ⟨rfl, va_X.moved hW.alike (by rw [hU]; exact hX.kept (hS.2.1 b hbl hbA)), by rw [hU]; exact Nat.lt_of_lt_of_le hbl hS.1, by rw [hU]⟩⟩ rfl rfl hl.1 rfl (lv_room (Nat.le_of_ble_eq_true rfl)) dL_law_11 ⟨Nat.le_of_ble_eq_true rfl, Nat.le_of_ble_eq_true rfl⟩) hS (fun q _ h => h.elim) (fun q h => h.elim) (fun y1 _ t H locs ht hvm hw hB hz hk hS => ?_)
  rw [ht] at hB
  have hsz := hB.trans hsz
  subst hw
  have hx9 := hx9.kept (hk _ hx9.lt (fun h => h))
  refine lv_aload_n hx hb dL_law_14 rfl (lv_at hl 0 rfl) ?_
  refine lv_iconst (v := nI 2) hx hb dL_law_15 (by decide) ?_
  refine va_calli (va_runS (As := [.ref b, .int (nI 2)]) (rest := [.int (cellv L xs 1), .int (cellv L xs 0), .ref x0, .ref x0]) ⟨hx, hb, hml, hown, hts⟩ (c_L_cell l b L xs 2 hL (by decide) _) (cwS 2 hts (gdS ml_L_45 st_L_cell in_L co_L_cell rfl) rfl rfl rfl (by decide +kernel) ⟨Nat.le_of_ble_eq_true rfl, Nat.le_of_ble_eq_true rfl⟩) ⟨fun a U g mk q => ⟨q.1, va_X.moved (Vm.Alike.refl U.vm) q.2.1, q.2.2⟩, fun U hU hW => ⟨rfl, va_X.moved hW.alike (by rw [hU]; exact hX.kept (hS.2.1 b hbl hbA)), by rw [hU]; exact Nat.lt_of_lt_of_le hbl hS.1, by rw [hU]⟩⟩ rfl rfl hl.1 rfl (lv_room (Nat.le_of_ble_eq_true rfl)) dL_law_16 ⟨Nat.le_of_ble_eq_true rfl, Nat.le_of_ble_eq_true rfl⟩) hS (fun q _ h => h.elim) (fun q h => h.elim) (fun y2 _ t H locs ht hvm hw hB hz hk hS => ?_)
  rw [ht] at hB
  have hsz := hB.trans hsz
  subst hw
  have hx9 := hx9.kept (hk _ hx9.lt (fun h => h))
  refine va_callv (rnI (fun H => H.size = x0 + 1 ∧ va_at (DG E) vwCl (x0, .inr (9, [.null, .null, .null])) H) (As := [.int (cellv L xs 0), .int (cellv L xs 1), .int (cellv L xs 2)]) (rest := [.ref x0]) ⟨hx, hb, hml, hown, hts⟩ (e_X9_init l E s.heap.size x0 (x0 + 1) (cellv L xs 0) (cellv L xs 1) (cellv L xs 2) hx0z (by omega) (by omega)) (cwI 3 hts (gd1 co_X9_init rfl) rfl rfl rfl (hts _ in_X9) (hts _ ml_L_51) (hts _ im_X9_init) rfl (by decide +kernel) ⟨Nat.le_of_ble_eq_true rfl, Nat.le_of_ble_eq_true rfl⟩) ⟨hsz, hx9⟩ (fun U hU hW => hK.go hW hS hAz hU) rfl rfl hl.1 rfl (lv_room (Nat.le_of_ble_eq_true rfl)) dL_law_19 ⟨Nat.le_of_ble_eq_true rfl, Nat.le_of_ble_eq_true rfl⟩) hS (fun q _ h => h.elim (fun e => by rw [e]; exact hx0z) (fun h => by show s.heap.size ≤ q; omega)) (fun q h => h.elim (fun e => by rw [e]; exact hx0z) (fun h => by show s.heap.size ≤ q; omega)) (fun _ t H locs ht hvm hw hB hz hk hS => ?_)
  rw [ht] at hB
  obtain ⟨hsz1, hat1, hTB1⟩ := hB
  have hT := TX.start hat1 hTB1
  have hxc : G0 x0 x0 = 1 := G0_x
  have hGzc : ∀ q, G0 x0 q ≠ 0 → s.heap.size ≤ q := fun q h => by have h9 := G0_lt h; omega
  refine lv_astore_n (lv' := [(1, .ref x0), (0, .ref b)]) hx hb dL_law_22 rfl hl (by decide) rfl (fun ls hl => ?_)
  have hSo : s.heap.size ≤ _ := hS.1
  refine rr_new (ci := 10) (fs := [.int 0, .int 0, .int 0, .int 0, .null, .null, .null, .null, .null, .null, .null, .null, .null, .null, .null, .null, .null, .null, .null, .null, .null, .null, .null, .null, .null, .null, .null, .null, .null, .null, .null, .null, .null, .null, .null, .null, .null, .null, .null, .null, .int 0, .null, .null, .null, .null, .null, .null, .null, .null]) (C := RX10) (T := TX10) (N := 49) hx hb hts iw_X10 tyX10 tyX10_ok hown (hts _ cl_L_53) (hts _ ia_X10) (hts _ in_X10) hK.1 hS rfl (fun j hj => by rcases (show j = 0 ∨ j = 1 ∨ j = 2 ∨ j = 3 ∨ j = 4 ∨ j = 5 ∨ j = 6 ∨ j = 7 ∨ j = 8 ∨ j = 9 ∨ j = 10 ∨ j = 11 ∨ j = 12 ∨ j = 13 ∨ j = 14 ∨ j = 15 ∨ j = 16 ∨ j = 17 ∨ j = 18 ∨ j = 19 ∨ j = 20 ∨ j = 21 ∨ j = 22 ∨ j = 23 ∨ j = 24 ∨ j = 25 ∨ j = 26 ∨ j = 27 ∨ j = 28 ∨ j = 29 ∨ j = 30 ∨ j = 31 ∨ j = 32 ∨ j = 33 ∨ j = 34 ∨ j = 35 ∨ j = 36 ∨ j = 37 ∨ j = 38 ∨ j = 39 ∨ j = 40 ∨ j = 41 ∨ j = 42 ∨ j = 43 ∨ j = 44 ∨ j = 45 ∨ j = 46 ∨ j = 47 ∨ j = 48 by omega) with rfl | rfl | rfl | rfl | rfl | rfl | rfl | rfl | rfl | rfl | rfl | rfl | rfl | rfl | rfl | rfl | rfl | rfl | rfl | rfl | rfl | rfl | rfl | rfl | rfl | rfl | rfl | rfl | rfl | rfl | rfl | rfl | rfl | rfl | rfl | rfl | rfl | rfl | rfl | rfl | rfl | rfl | rfl | rfl | rfl | rfl | rfl | rfl | rfl <;> rfl) (Nat.le_of_ble_eq_true rfl) (Nat.le_of_ble_eq_true rfl) dL_law_23 (fun m0 H hq hat hz ho hS => ?_)
  have hm9 := hat
  have hm0z : s.heap.size ≤ m0 := by omega
  have hm1 : x0 + 145 ≤ m0 := by omega
  have zm : G0 x0 m0 = 0 := Decidable.byContradiction fun h => by have h9 := G0_lt h; omega
  have hT := hT.kept ho
  have hsz := hz
  rw [← hq] at hsz
  refine lv_dup hx hb dL_law_26 rfl ?_
  refine lv_aload_n hx hb dL_law_27 rfl (lv_at hl 1 rfl) ?_
  refine lv_iconst (v := nI 0) hx hb dL_law_28 (by decide) ?_
  refine va_calli (va_runS (As := [.ref b, .int (nI 0)]) (rest := [.ref m0, .ref m0]) ⟨hx, hb, hml, hown, hts⟩ (c_L_cell l b L xs 0 hL (by decide) _) (cwS 2 hts (gdS ml_L_45 st_L_cell in_L co_L_cell rfl) rfl rfl rfl (by decide +kernel) ⟨Nat.le_of_ble_eq_true rfl, Nat.le_of_ble_eq_true rfl⟩) ⟨fun a U g mk q => ⟨q.1, va_X.moved (Vm.Alike.refl U.vm) q.2.1, q.2.2⟩, fun U hU hW => ⟨rfl, va_X.moved hW.alike (by rw [hU]; exact hX.kept (hS.2.1 b hbl hbA)), by rw [hU]; exact Nat.lt_of_lt_of_le hbl hS.1, by rw [hU]⟩⟩ rfl rfl hl.1 rfl (lv_room (Nat.le_of_ble_eq_true rfl)) dL_law_29 ⟨Nat.le_of_ble_eq_true rfl, Nat.le_of_ble_eq_true rfl⟩) hS (fun q _ h => h.elim) (fun q h => h.elim) (fun y3 _ t H locs ht hvm hw hB hz hk hS => ?_)
  rw [ht] at hB
  have hsz := hB.trans hsz
  subst hw
  have hm9 := hm9.kept (hk _ hm9.lt (fun h => h))
  have hT := hT.kept (fun q hq => hk q hq (fun h => h))
  refine lv_aload_n hx hb dL_law_32 rfl (lv_at hl 1 rfl) ?_
  refine lv_iconst (v := nI 1) hx hb dL_law_33 (by decide) ?_
  refine va_calli (va_runS (As := [.ref b, .int (nI 1)]) (rest := [.int (cellv L xs 0), .ref m0, .ref m0]) ⟨hx, hb, hml, hown, hts⟩ (c_L_cell l b L xs 1 hL (by decide) _) (cwS 2 hts (gdS ml_L_45 st_L_cell in_L co_L_cell rfl) rfl rfl rfl (by decide +kernel) ⟨Nat.le_of_ble_eq_true rfl, Nat.le_of_ble_eq_true rfl⟩) ⟨fun a U g mk q => ⟨q.1, va_X.moved (Vm.Alike.refl U.vm) q.2.1, q.2.2⟩, fun U hU hW => ⟨rfl, va_X.moved hW.alike (by rw [hU]; exact hX.kept (hS.2.1 b hbl hbA)), by rw [hU]; exact Nat.lt_of_lt_of_le hbl hS.1, by rw [hU]⟩⟩ rfl rfl hl.1 rfl (lv_room (Nat.le_of_ble_eq_true rfl)) dL_law_34 ⟨Nat.le_of_ble_eq_true rfl, Nat.le_of_ble_eq_true rfl⟩) hS (fun q _ h => h.elim) (fun q h => h.elim) (fun y4 _ t H locs ht hvm hw hB hz hk hS => ?_)
  rw [ht] at hB
  have hsz := hB.trans hsz
  subst hw
  have hm9 := hm9.kept (hk _ hm9.lt (fun h => h))
  have hT := hT.kept (fun q hq => hk q hq (fun h => h))
  refine lv_aload_n hx hb dL_law_37 rfl (lv_at hl 1 rfl) ?_
  refine lv_iconst (v := nI 2) hx hb dL_law_38 (by decide) ?_
  refine va_calli (va_runS (As := [.ref b, .int (nI 2)]) (rest := [.int (cellv L xs 1), .int (cellv L xs 0), .ref m0, .ref m0]) ⟨hx, hb, hml, hown, hts⟩ (c_L_cell l b L xs 2 hL (by decide) _) (cwS 2 hts (gdS ml_L_45 st_L_cell in_L co_L_cell rfl) rfl rfl rfl (by decide +kernel) ⟨Nat.le_of_ble_eq_true rfl, Nat.le_of_ble_eq_true rfl⟩) ⟨fun a U g mk q => ⟨q.1, va_X.moved (Vm.Alike.refl U.vm) q.2.1, q.2.2⟩, fun U hU hW => ⟨rfl, va_X.moved hW.alike (by rw [hU]; exact hX.kept (hS.2.1 b hbl hbA)), by rw [hU]; exact Nat.lt_of_lt_of_le hbl hS.1, by rw [hU]⟩⟩ rfl rfl hl.1 rfl (lv_room (Nat.le_of_ble_eq_true rfl)) dL_law_39 ⟨Nat.le_of_ble_eq_true rfl, Nat.le_of_ble_eq_true rfl⟩) hS (fun q _ h => h.elim) (fun q h => h.elim) (fun y5 _ t H locs ht hvm hw hB hz hk hS => ?_)
  rw [ht] at hB
  have hsz := hB.trans hsz
  subst hw
  have hm9 := hm9.kept (hk _ hm9.lt (fun h => h))
  have hT := hT.kept (fun q hq => hk q hq (fun h => h))
  refine va_callv (rnI (fun H => H.size = m0 + 1 ∧ va_at (DG E) vwCl (m0, .inr (10, [.int 0, .int 0, .int 0, .int 0, .null, .null, .null, .null, .null, .null, .null, .null, .null, .null, .null, .null, .null, .null, .null, .null, .null, .null, .null, .null, .null, .null, .null, .null, .null, .null, .null, .null, .null, .null, .null, .null, .null, .null, .null, .null, .int 0, .null, .null, .null, .null, .null, .null, .null, .null])) H ∧ TH E (T0 E) (fun _ => 0) [] H) (As := [.int (cellv L xs 0), .int (cellv L xs 1), .int (cellv L xs 2)]) (rest := [.ref m0]) ⟨hx, hb, hml, hown, hts⟩ (c_X10_init l E s.heap.size (fun _ => 0) m0 (m0 + 1) (cellv L xs 0) (cellv L xs 1) (cellv L xs 2) rfl hm0z (by omega)) (cwI 3 hts (gd1 co_X10_init rfl) rfl rfl rfl (hts _ in_X10) (hts _ ml_L_55) (hts _ im_X10_init) rfl (by decide +kernel) ⟨Nat.le_of_ble_eq_true rfl, Nat.le_of_ble_eq_true rfl⟩) ⟨hsz, hm9, TH.zero⟩ (fun U hU hW => hK.go hW hS hAz hU) rfl rfl hl.1 rfl (lv_room (Nat.le_of_ble_eq_true rfl)) dL_law_42 ⟨Nat.le_of_ble_eq_true rfl, Nat.le_of_ble_eq_true rfl⟩) hS (fun q _ h => h.elim (fun e => by rw [e]; exact hm0z) (fun h => by show s.heap.size ≤ q; omega)) (fun q h => h.elim (fun e => by rw [e]; exact hm0z) (fun h => by show s.heap.size ≤ q; omega)) (fun Gm t H locs ht hvm hw2 hB hz hk hS => ?_)
  rw [ht] at hB
  obtain ⟨hTm, rf, hat0, hrf⟩ := hB
  have hT := hT.keptAC zm (by omega) hk
  have hmm : Gm m0 = 20 := hw2.2
  have hGzm : ∀ q, Gm q ≠ 0 → s.heap.size ≤ q := fun q h => by rcases hw2.1.2 q h with h | h | h <;> first | exact absurd rfl h | omega
  have hd : ∀ a, Gm a ≠ 0 → G0 x0 a = 0 := fun a h => Decidable.byContradiction fun hc => by
    have h9 := G0_lt hc
    rcases hw2.1.2 a h with h | h | h
    · exact absurd rfl h
    · omega
    · omega
  refine lv_astore_n (lv' := [(2, .ref m0), (1, .ref x0), (0, .ref b)]) hx hb dL_law_45 rfl hl (by decide) rfl (fun ls hl => ?_)
  refine lv_iconst (v := 1) hx hb dL_law_46 (by decide) ?_
  have hSo : s.heap.size ≤ _ := hS.1
  refine rr_newa (D := DG E) (atype := .long) (N' := 1) (a0 := (1, .inr (.inl (fun _ => 0)))) hx hb (hts _ ac_long) hK.1 2 rfl hS rfl (by decide) (by decide) (by decide) (Nat.le_of_ble_eq_true rfl) (Nat.le_of_ble_eq_true rfl) dL_law_47 (fun o0 H hq hro hz ho hS => ?_)
  have hGco : G0 x0 o0 = 0 := Decidable.byContradiction fun h => by have h9 := (hT o0 h).lt; have h8 : o0 < _ := h9; omega
  have hGmo : Gm o0 = 0 := hTm.fresh hq
  have hoz : s.heap.size ≤ o0 := by omega
  have hT := hT.kept ho
  have hTm := hTm.kept ho
  have hat0 := hat0.kept (ho _ hat0.lt)
  refine lv_astore_n (lv' := [(3, .ref o0), (2, .ref m0), (1, .ref x0), (0, .ref b)]) hx hb dL_law_49 rfl hl (by decide) rfl (fun ls hl => ?_)
  refine lv_iconst (v := nI 3) hx hb dL_law_50 (by decide) ?_
  refine lv_istore (lv' := [(4, .int (nI 3)), (3, .ref o0), (2, .ref m0), (1, .ref x0), (0, .ref b)]) hx hb dL_law_51 hl (by decide) rfl (fun ls hl => ?_)
  refine W.widen (k := 191) (n := 2010) (Nat.le_of_ble_eq_true rfl) (Nat.le_of_ble_eq_true rfl) ?_
  have hMH : MH E m0 rf (wi (cellv L xs 0) 2 20) (wi (cellv L xs 1) 0 7) (wi (cellv L xs 2) 0 7) (fun _ _ => 0) 0 0 _ := ⟨hat0, fun j a b c => tg_arr hTm (hrf j a b c) nx_0⟩
  exact law_loop (i := 3) hst C0 hL hK hN ⟨hxc, ⟨hmm, hrf⟩, hGzc, hGzm, hd, hGco, hGmo, hoz, wi_2⟩ (by omega) (by omega) (by omega) ⟨_, _, _, 0, 0, hT, TW.start, hMH, sim_start wi_2, riv_start, ⟨_, hro⟩, hS⟩ hl
end
