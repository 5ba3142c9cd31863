set_option maxHeartbeats 8000000 in
set_option maxRecDepth 100000 in
theorem lk_8 {p : Program} {l : Launch} {e : Env} {s : State} {m : MethodId} {below : List Frame} {meth : Method} {c : Code} {b L i C S : Nat} {xs : Nat → Int32} {E : EE} {Gc Gm : Nat → Nat} {x0 m0 o0 : Nat} {rf : Nat → Nat} {t0 t1 t2 : Int32} {H : Heap} {locs : List Loc} {ls : Array Slot} (hst : l.stackTraces = false) (C0 : lw_At p s m meth c b L xs) (hLB : L ≤ 3587) (hK : KS E s.heap.size s) (hN : NC s) (F9 : LF s Gc Gm x0 m0 o0 rf t0) (hi : i + 7 ≤ L) (hC : C + 2 ≤ 621377) (hSl : S + 12 ≤ 7231939) (hI : LI E s Gc x0 m0 o0 rf t0 t1 t2 H locs) (hl : lv_has ls 7 [(4, .int (nI i)), (3, .ref o0), (2, .ref m0), (1, .ref x0), (0, .ref b)]) (key : ∀ (H : Heap) (locs : List Loc) (ls : Array Slot), LI E s Gc x0 m0 o0 rf t0 t1 t2 H locs → lv_has ls 7 [(4, .int (nI i)), (3, .ref o0), (2, .ref m0), (1, .ref x0), (0, .ref b)] → W p l e room_1 s m #[Value.ref b] below meth c H locs (C + 2) (S + 12) (lw_Z below #[Value.ref b] s) (F0 m 971 ls [])) : W p l e room_1 s m #[Value.ref b] below meth c H locs C S (lw_Z below #[Value.ref b] s) (F0 m 651 ls []) := by
  obtain ⟨hx, hb, hr, hml, hown, hts0, hX, hbl, hlocks, hgv⟩ := id C0
  obtain ⟨hxc, hR, hGzc, hGzm, hd, hGco, hGmo, hoz, h2t⟩ := F9
  have hd2 : ∀ a, Gc a ≠ 0 → Gm a = 0 := fun a h => Decidable.byContradiction fun q => h (hd a q)
  have hts : ∀ w ∈ TS, w.before #[Value.ref b] s = true := fun w hw => hts0 w (List.mem_filter.mp hw).1
  have hbA : ¬ (fun q : Nat => s.heap.size ≤ q) b := Nat.not_le.mpr hbl
  have hAz : ∀ q, (fun q : Nat => s.heap.size ≤ q) q → s.heap.size ≤ q := fun q h => h
  have hC0 : C + 0 ≤ room_1.cells := (show C + 0 ≤ 621377 by omega)
  have hS0 : S + 0 ≤ room_1.slots := (show S + 0 ≤ 7231939 by omega)
  have hC2 : C + 2 ≤ room_1.cells := (show C + 2 ≤ 621377 by omega)
  have hS2 : S + 12 ≤ room_1.slots := (show S + 12 ≤ 7231939 by omega)
  have hiI : (nI i).toInt = (i : Int) := nI_toInt (by omega)
  obtain ⟨B, R, A, cd, pk, hT, hW, hM, hSIM, hV, ⟨fo, hro⟩, hS⟩ := hI
  obtain ⟨hI2, hI3, hI4, hI5, hI6, hI7, hI8, hpk⟩ := hV.c3
  refine lv_aload_n hx hb dL_law_651 rfl (lv_at hl 3 rfl) ?_
  refine lv_aload_n hx hb dL_law_652 rfl (lv_at hl 4 rfl) ?_
  refine lv_iload hx hb dL_law_653 (lv_at hl 0 rfl) ?_
  refine lv_iconst (v := 1) hx hb dL_law_655 (by decide) ?_
  refine lv_iadd hx hb dL_law_656 ?_
  refine lv_topi (fun x_1 ex_1 => ?_)
  have fx_1 : x_1.toInt = (i : Int) + 1 := by have h9 := s_add (x := nI i) (y := 1) (by rw [hiI, i_1]; omega) (by rw [hiI, i_1]; omega); rw [hiI, i_1] at h9; rw [ex_1]; exact h9
  have vi_2 : vp_in x_1 L := vp_in_iff.mpr (by omega)
  refine va_sld hx hb hX hbl hbA hS vi_2 dL_law_657 ?_
  refine lv_topi (fun x_3 ex_3 => ?_)
  refine lv_aload_n hx hb dL_law_658 rfl (lv_at hl 4 rfl) ?_
  refine lv_iload hx hb dL_law_659 (lv_at hl 0 rfl) ?_
  refine lv_iconst (v := 2) hx hb dL_law_661 (by decide) ?_
  refine lv_iadd hx hb dL_law_662 ?_
  refine lv_topi (fun x_4 ex_4 => ?_)
  have fx_4 : x_4.toInt = (i : Int) + 2 := by have h9 := s_add (x := nI i) (y := 2) (by rw [hiI, i_2]; omega) (by rw [hiI, i_2]; omega); rw [hiI, i_2] at h9; rw [ex_4]; exact h9
  have vi_5 : vp_in x_4 L := vp_in_iff.mpr (by omega)
  refine va_sld hx hb hX hbl hbA hS vi_5 dL_law_663 ?_
  refine lv_topi (fun x_6 ex_6 => ?_)
  refine lv_aload_n hx hb dL_law_664 rfl (lv_at hl 4 rfl) ?_
  refine lv_iload hx hb dL_law_665 (lv_at hl 0 rfl) ?_
  refine lv_iconst (v := 3) hx hb dL_law_667 (by decide) ?_
  refine lv_iadd hx hb dL_law_668 ?_
  refine lv_topi (fun x_7 ex_7 => ?_)
  have fx_7 : x_7.toInt = (i : Int) + 3 := by have h9 := s_add (x := nI i) (y := 3) (by rw [hiI, i_3]; omega) (by rw [hiI, i_3]; omega); rw [hiI, i_3] at h9; rw [ex_7]; exact h9
  have vi_8 : vp_in x_7 L := vp_in_iff.mpr (by omega)
  refine va_sld hx hb hX hbl hbA hS vi_8 dL_law_669 ?_
  refine lv_topi (fun x_9 ex_9 => ?_)
  refine lv_aload_n hx hb dL_law_670 rfl (lv_at hl 1 rfl) ?_
  refine va_calli (vx_runSW (hh := [(0, 12, 15, 13), (0, 12, 19, 22)]) (As := [.ref x0, .int x_3, .int x_6, .int x_9, .ref o0]) (rest := []) ⟨hx, hb, hml, hown, hts⟩ (w_L_receive l hst E s.heap.size Gc hGzc B R hW x0 x_3 x_6 x_9 o0 hxc hGco hoz) (vx_cwSW 5 hts (gdW ml_L_91 st_L_receive in_L co_L_receive rfl) rfl rfl rfl (by decide +kernel) ⟨Nat.le_of_ble_eq_true rfl, Nat.le_of_ble_eq_true rfl⟩) ⟨fun a U g mk q => ⟨q.1, q.2.1, KS.calling q.2.2.1, NC.vm q.2.2.2 rfl⟩, fun U hU hW => ⟨rfl, by rw [hU]; exact ⟨hT, _, hro⟩, hK.go hW hS hAz hU, hN.go hW⟩⟩ rfl rfl hl.1 rfl (lv_room (Nat.le_of_ble_eq_true rfl)) dL_law_671 ⟨hC2, hS2⟩) hS (fun q _ h => h.elim (fun h => hGzc q (zn (L := [11, 13]) (by decide) h)) (fun e => by rw [e]; exact hoz)) (fun q h => h.elim (fun h => hGzc q (zn (L := [11, 13]) (by decide) h)) (fun e => by rw [e]; exact hoz)) (fun r_10 u_10 t H locs ht9 hvm hwr_10 hB hz hk hS => ?_)
  rw [ht9] at hB
  obtain ⟨Z_10, y_10, f_10⟩ := u_10
  obtain ⟨hT, fo_10, hfo_10, hro2⟩ := hB
  have hro := hro2
  have hM := hM.away hR (fun q hq hg => hk q hq (fun h => h.elim (fun h => zn (L := [11, 13]) (by decide) h (hd q hg)) (fun h => hg (by rw [h]; exact hGmo))))
  have hT : TX E Gc Z_10 R H := hT
  rcases hwr_10 with ⟨rfl, hW2, hF2, hC, ef_10⟩ | ⟨rfl, eB, hC⟩ | ⟨rfl, eB, hC⟩
  · have hW : TW Gc Z_10 R := hW2
    have hC : C_X9_receive Gc B R x0 x_3 x_6 x_9 Z_10 y_10 := hC
    have hfo : fo_10 0 = y_10.toInt64 := hfo_10.trans ef_10
    refine lv_istore (lv' := [(5, .int 0), (4, .int (nI i)), (3, .ref o0), (2, .ref m0), (1, .ref x0), (0, .ref b)]) hx hb dL_law_674 hl (by decide) rfl (fun ls hl => ?_)
    refine lv_aload_n hx hb dL_law_676 rfl (lv_at hl 3 rfl) ?_
    refine lv_aload_n hx hb dL_law_677 rfl (lv_at hl 5 rfl) ?_
    refine lv_iload hx hb dL_law_678 (lv_at hl 1 rfl) ?_
    refine lv_iconst (v := 1) hx hb dL_law_680 (by decide) ?_
    refine lv_iadd hx hb dL_law_681 ?_
    refine W.eq (g2 := F0 m 682 ls [.int x_1, .ref b, .ref m0]) (by rw [ex_1]) ?_
    refine va_sld hx hb hX hbl hbA hS vi_2 dL_law_682 ?_
    refine W.eq (g2 := F0 m 683 ls [.int x_3, .ref m0]) (by rw [ex_3]) ?_
    refine lv_aload_n hx hb dL_law_683 rfl (lv_at hl 5 rfl) ?_
    refine lv_iload hx hb dL_law_684 (lv_at hl 1 rfl) ?_
    refine lv_iconst (v := 2) hx hb dL_law_686 (by decide) ?_
    refine lv_iadd hx hb dL_law_687 ?_
    refine W.eq (g2 := F0 m 688 ls [.int x_4, .ref b, .int x_3, .ref m0]) (by rw [ex_4]) ?_
    refine va_sld hx hb hX hbl hbA hS vi_5 dL_law_688 ?_
    refine W.eq (g2 := F0 m 689 ls [.int x_6, .int x_3, .ref m0]) (by rw [ex_6]) ?_
    refine lv_aload_n hx hb dL_law_689 rfl (lv_at hl 5 rfl) ?_
    refine lv_iload hx hb dL_law_690 (lv_at hl 1 rfl) ?_
    refine lv_iconst (v := 3) hx hb dL_law_692 (by decide) ?_
    refine lv_iadd hx hb dL_law_693 ?_
    refine W.eq (g2 := F0 m 694 ls [.int x_7, .ref b, .int x_6, .int x_3, .ref m0]) (by rw [ex_7]) ?_
    refine va_sld hx hb hX hbl hbA hS vi_8 dL_law_694 ?_
    refine W.eq (g2 := F0 m 695 ls [.int x_9, .int x_6, .int x_3, .ref m0]) (by rw [ex_9]) ?_
    refine va_calli (rnV (fun H => MH E m0 rf t0 t1 t2 A cd pk H) (As := [.int x_3, .int x_6, .int x_9]) (rest := []) ⟨hx, hb, hml, hown, hts⟩ (u_X10_receive l E s.heap.size Gm hGzm m0 rf hR t0 t1 t2 A cd pk x_3 x_6 x_9 hI5 hI8) (cwV 3 hts (gdV ml_L_93 im_X10_receive se_X10_X10_receive in_X10 co_X10_receive rfl) rfl rfl rfl (by decide +kernel) ⟨Nat.le_of_ble_eq_true rfl, Nat.le_of_ble_eq_true rfl⟩) hM (fun U hU hW => hK.go hW hS hAz hU) (va_recv hK.1 (va_one hM.1) (ci := 10) (q0 := 0) rfl rfl) rfl rfl hl.1 rfl (lv_room (Nat.le_of_ble_eq_true rfl)) dL_law_695 ⟨hC2, hS2⟩) hS (fun q _ h => hGzm q h) (fun q h => hGzm q h) (fun r_11 ur_11 t H locs ht hvm hwr_11 hB hz hk hS => ?_)
    have hM : MH E m0 rf t0 t1 t2 (uA (uA (uA (uA (uA (uA A 30 (ur_11.1)) 31 (ur_11.2.1)) 32 (ur_11.2.2.1)) 33 (ur_11.2.2.2.1)) 34 (ur_11.2.2.2.2.1)) 35 (ur_11.2.2.2.2.2.1)) ur_11.2.2.2.2.2.2 pk H := by rw [ht] at hB; exact hB
    have hDr_11 : D_X10_receive A cd pk x_3 x_6 x_9 (uA (uA (uA (uA (uA (uA A 30 (ur_11.1)) 31 (ur_11.2.1)) 32 (ur_11.2.2.1)) 33 (ur_11.2.2.2.1)) 34 (ur_11.2.2.2.2.1)) 35 (ur_11.2.2.2.2.2.1)) (ur_11.2.2.2.2.2.2) pk r_11 := hwr_11.2.2
    have hpr_11_0 : I5 (ur_11.2.2.1) (ur_11.2.2.2.1) (ur_11.2.2.2.2.2.1) := hwr_11.1
    have hpr_11_1 : I8 (A 20) (ur_11.1) (A 37) (A 36) := hwr_11.2.1
    have hT := hT.other hd2 hk
    have hro := hro.kept (hk _ hro.lt (fun h => h hGmo))
    obtain ⟨A_12, cd_12, pk_12, hM, hD, hV2⟩ : ∃ (A2 : AA) (cd2 pk2 : Int32), MH E m0 rf t0 t1 t2 A2 cd2 pk2 H ∧ D_X10_receive A cd pk x_3 x_6 x_9 A2 cd2 pk2 r_11 ∧ RIV A2 pk2 := ⟨_, _, _, hM, hDr_11, ⟨⟨hI2, hI3, hI4, hpr_11_0, hI6, hI7, hpr_11_1⟩, hpk⟩⟩
    have hs_12 := s_receiveC hSIM hV hC hD
    obtain ⟨hSIM, ep_12, hcd, er_12⟩ := hs_12
    rw [← ep_12] at hSIM
    have hV := hV2
    obtain rfl := er_12
    refine lv_istore (lv' := [(6, .int y_10), (5, .int 0), (4, .int (nI i)), (3, .ref o0), (2, .ref m0), (1, .ref x0), (0, .ref b)]) hx hb dL_law_698 hl (by decide) rfl (fun ls hl => ?_)
    refine lv_goto (tgt := 971) hx hb dL_law_700 (by decide) ?_
    refine W.widen (k := C + 2) (n := S + 12) (by omega) (by omega) ?_
    exact key _ _ _ ⟨Z_10, R, A_12, cd_12, pk_12, hT, hW, hM, hSIM, hV, ⟨_, hro⟩, hS⟩ (lv_sub hl [2, 3, 4, 5, 6] rfl)
  · have eB : Z_10 = B := eB
    rw [eB] at hT
    have hC : X_X9_receive Gc B R x0 x_3 x_6 x_9 IAE := hC
    refine lv_istore (lv' := [(5, .int 1), (4, .int (nI i)), (3, .ref o0), (2, .ref m0), (1, .ref x0), (0, .ref b)]) hx hb dL_law_674 hl (by decide) rfl (fun ls hl => ?_)
    refine lv_aload_n hx hb dL_law_676 rfl (lv_at hl 3 rfl) ?_
    refine lv_aload_n hx hb dL_law_677 rfl (lv_at hl 5 rfl) ?_
    refine lv_iload hx hb dL_law_678 (lv_at hl 1 rfl) ?_
    refine lv_iconst (v := 1) hx hb dL_law_680 (by decide) ?_
    refine lv_iadd hx hb dL_law_681 ?_
    refine W.eq (g2 := F0 m 682 ls [.int x_1, .ref b, .ref m0]) (by rw [ex_1]) ?_
    refine va_sld hx hb hX hbl hbA hS vi_2 dL_law_682 ?_
    refine W.eq (g2 := F0 m 683 ls [.int x_3, .ref m0]) (by rw [ex_3]) ?_
    refine lv_aload_n hx hb dL_law_683 rfl (lv_at hl 5 rfl) ?_
    refine lv_iload hx hb dL_law_684 (lv_at hl 1 rfl) ?_
    refine lv_iconst (v := 2) hx hb dL_law_686 (by decide) ?_
    refine lv_iadd hx hb dL_law_687 ?_
    refine W.eq (g2 := F0 m 688 ls [.int x_4, .ref b, .int x_3, .ref m0]) (by rw [ex_4]) ?_
    refine va_sld hx hb hX hbl hbA hS vi_5 dL_law_688 ?_
    refine W.eq (g2 := F0 m 689 ls [.int x_6, .int x_3, .ref m0]) (by rw [ex_6]) ?_
    refine lv_aload_n hx hb dL_law_689 rfl (lv_at hl 5 rfl) ?_
    refine lv_iload hx hb dL_law_690 (lv_at hl 1 rfl) ?_
    refine lv_iconst (v := 3) hx hb dL_law_692 (by decide) ?_
    refine lv_iadd hx hb dL_law_693 ?_
    refine W.eq (g2 := F0 m 694 ls [.int x_7, .ref b, .int x_6, .int x_3, .ref m0]) (by rw [ex_7]) ?_
    refine va_sld hx hb hX hbl hbA hS vi_8 dL_law_694 ?_
    refine W.eq (g2 := F0 m 695 ls [.int x_9, .int x_6, .int x_3, .ref m0]) (by rw [ex_9]) ?_
    refine va_calli (rnV (fun H => MH E m0 rf t0 t1 t2 A cd pk H) (As := [.int x_3, .int x_6, .int x_9]) (rest := []) ⟨hx, hb, hml, hown, hts⟩ (u_X10_receive l E s.heap.size Gm hGzm m0 rf hR t0 t1 t2 A cd pk x_3 x_6 x_9 hI5 hI8) (cwV 3 hts (gdV ml_L_93 im_X10_receive se_X10_X10_receive in_X10 co_X10_receive rfl) rfl rfl rfl (by decide +kernel) ⟨Nat.le_of_ble_eq_true rfl, Nat.le_of_ble_eq_true rfl⟩) hM (fun U hU hW => hK.go hW hS hAz hU) (va_recv hK.1 (va_one hM.1) (ci := 10) (q0 := 0) rfl rfl) rfl rfl hl.1 rfl (lv_room (Nat.le_of_ble_eq_true rfl)) dL_law_695 ⟨hC2, hS2⟩) hS (fun q _ h => hGzm q h) (fun q h => hGzm q h) (fun r_13 ur_13 t H locs ht hvm hwr_13 hB hz hk hS => ?_)
    have hM : MH E m0 rf t0 t1 t2 (uA (uA (uA (uA (uA (uA A 30 (ur_13.1)) 31 (ur_13.2.1)) 32 (ur_13.2.2.1)) 33 (ur_13.2.2.2.1)) 34 (ur_13.2.2.2.2.1)) 35 (ur_13.2.2.2.2.2.1)) ur_13.2.2.2.2.2.2 pk H := by rw [ht] at hB; exact hB
    have hDr_13 : D_X10_receive A cd pk x_3 x_6 x_9 (uA (uA (uA (uA (uA (uA A 30 (ur_13.1)) 31 (ur_13.2.1)) 32 (ur_13.2.2.1)) 33 (ur_13.2.2.2.1)) 34 (ur_13.2.2.2.2.1)) 35 (ur_13.2.2.2.2.2.1)) (ur_13.2.2.2.2.2.2) pk r_13 := hwr_13.2.2
    have hpr_13_0 : I5 (ur_13.2.2.1) (ur_13.2.2.2.1) (ur_13.2.2.2.2.2.1) := hwr_13.1
    have hpr_13_1 : I8 (A 20) (ur_13.1) (A 37) (A 36) := hwr_13.2.1
    have hT := hT.other hd2 hk
    have hro := hro.kept (hk _ hro.lt (fun h => h hGmo))
    obtain ⟨A_14, cd_14, pk_14, hM, hD, hV2⟩ : ∃ (A2 : AA) (cd2 pk2 : Int32), MH E m0 rf t0 t1 t2 A2 cd2 pk2 H ∧ D_X10_receive A cd pk x_3 x_6 x_9 A2 cd2 pk2 r_13 ∧ RIV A2 pk2 := ⟨_, _, _, hM, hDr_13, ⟨⟨hI2, hI3, hI4, hpr_13_0, hI6, hI7, hpr_13_1⟩, hpk⟩⟩
    obtain ⟨hSIM, ep_14, hE_14⟩ := sx_receiveC hSIM hC hD
    rw [← ep_14] at hSIM
    have hcd : cd_14 = 1 := hE_14.elim (fun h => h.2) (fun h => absurd h.1 (by decide))
    have hV := hV2
    refine lv_istore (lv' := [(6, .int r_13), (5, .int 1), (4, .int (nI i)), (3, .ref o0), (2, .ref m0), (1, .ref x0), (0, .ref b)]) hx hb dL_law_698 hl (by decide) rfl (fun ls hl => ?_)
    refine lv_goto (tgt := 971) hx hb dL_law_700 (by decide) ?_
    refine W.widen (k := C + 2) (n := S + 12) (by omega) (by omega) ?_
    exact key _ _ _ ⟨B, R, A_14, cd_14, pk_14, hT, hW, hM, hSIM, hV, ⟨_, hro⟩, hS⟩ (lv_sub hl [2, 3, 4, 5, 6] rfl)
  · have eB : Z_10 = B := eB
    rw [eB] at hT
    have hC : X_X9_receive Gc B R x0 x_3 x_6 x_9 ISE := hC
    refine lv_istore (lv' := [(5, .int 2), (4, .int (nI i)), (3, .ref o0), (2, .ref m0), (1, .ref x0), (0, .ref b)]) hx hb dL_law_674 hl (by decide) rfl (fun ls hl => ?_)
    refine lv_aload_n hx hb dL_law_676 rfl (lv_at hl 3 rfl) ?_
    refine lv_aload_n hx hb dL_law_677 rfl (lv_at hl 5 rfl) ?_
    refine lv_iload hx hb dL_law_678 (lv_at hl 1 rfl) ?_
    refine lv_iconst (v := 1) hx hb dL_law_680 (by decide) ?_
    refine lv_iadd hx hb dL_law_681 ?_
    refine W.eq (g2 := F0 m 682 ls [.int x_1, .ref b, .ref m0]) (by rw [ex_1]) ?_
    refine va_sld hx hb hX hbl hbA hS vi_2 dL_law_682 ?_
    refine W.eq (g2 := F0 m 683 ls [.int x_3, .ref m0]) (by rw [ex_3]) ?_
    refine lv_aload_n hx hb dL_law_683 rfl (lv_at hl 5 rfl) ?_
    refine lv_iload hx hb dL_law_684 (lv_at hl 1 rfl) ?_
    refine lv_iconst (v := 2) hx hb dL_law_686 (by decide) ?_
    refine lv_iadd hx hb dL_law_687 ?_
    refine W.eq (g2 := F0 m 688 ls [.int x_4, .ref b, .int x_3, .ref m0]) (by rw [ex_4]) ?_
    refine va_sld hx hb hX hbl hbA hS vi_5 dL_law_688 ?_
    refine W.eq (g2 := F0 m 689 ls [.int x_6, .int x_3, .ref m0]) (by rw [ex_6]) ?_
    refine lv_aload_n hx hb dL_law_689 rfl (lv_at hl 5 rfl) ?_
    refine lv_iload hx hb dL_law_690 (lv_at hl 1 rfl) ?_
    refine lv_iconst (v := 3) hx hb dL_law_692 (by decide) ?_
    refine lv_iadd hx hb dL_law_693 ?_
    refine W.eq (g2 := F0 m 694 ls [.int x_7, .ref b, .int x_6, .int x_3, .ref m0]) (by rw [ex_7]) ?_
    refine va_sld hx hb hX hbl hbA hS vi_8 dL_law_694 ?_
    refine W.eq (g2 := F0 m 695 ls [.int x_9, .int x_6, .int x_3, .ref m0]) (by rw [ex_9]) ?_
    refine va_calli (rnV (fun H => MH E m0 rf t0 t1 t2 A cd pk H) (As := [.int x_3, .int x_6, .int x_9]) (rest := []) ⟨hx, hb, hml, hown, hts⟩ (u_X10_receive l E s.heap.size Gm hGzm m0 rf hR t0 t1 t2 A cd pk x_3 x_6 x_9 hI5 hI8) (cwV 3 hts (gdV ml_L_93 im_X10_receive se_X10_X10_receive in_X10 co_X10_receive rfl) rfl rfl rfl (by decide +kernel) ⟨Nat.le_of_ble_eq_true rfl, Nat.le_of_ble_eq_true rfl⟩) hM (fun U hU hW => hK.go hW hS hAz hU) (va_recv hK.1 (va_one hM.1) (ci := 10) (q0 := 0) rfl rfl) rfl rfl hl.1 rfl (lv_room (Nat.le_of_ble_eq_true rfl)) dL_law_695 ⟨hC2, hS2⟩) hS (fun q _ h => hGzm q h) (fun q h => hGzm q h) (fun r_15 ur_15 t H locs ht hvm hwr_15 hB hz hk hS => ?_)
    have hM : MH E m0 rf t0 t1 t2 (uA (uA (uA (uA (uA (uA A 30 (ur_15.1)) 31 (ur_15.2.1)) 32 (ur_15.2.2.1)) 33 (ur_15.2.2.2.1)) 34 (ur_15.2.2.2.2.1)) 35 (ur_15.2.2.2.2.2.1)) ur_15.2.2.2.2.2.2 pk H := by rw [ht] at hB; exact hB
    have hDr_15 : D_X10_receive A cd pk x_3 x_6 x_9 (uA (uA (uA (uA (uA (uA A 30 (ur_15.1)) 31 (ur_15.2.1)) 32 (ur_15.2.2.1)) 33 (ur_15.2.2.2.1)) 34 (ur_15.2.2.2.2.1)) 35 (ur_15.2.2.2.2.2.1)) (ur_15.2.2.2.2.2.2) pk r_15 := hwr_15.2.2
    have hpr_15_0 : I5 (ur_15.2.2.1) (ur_15.2.2.2.1) (ur_15.2.2.2.2.2.1) := hwr_15.1
    have hpr_15_1 : I8 (A 20) (ur_15.1) (A 37) (A 36) := hwr_15.2.1
    have hT := hT.other hd2 hk
    have hro := hro.kept (hk _ hro.lt (fun h => h hGmo))
    obtain ⟨A_16, cd_16, pk_16, hM, hD, hV2⟩ : ∃ (A2 : AA) (cd2 pk2 : Int32), MH E m0 rf t0 t1 t2 A2 cd2 pk2 H ∧ D_X10_receive A cd pk x_3 x_6 x_9 A2 cd2 pk2 r_15 ∧ RIV A2 pk2 := ⟨_, _, _, hM, hDr_15, ⟨⟨hI2, hI3, hI4, hpr_15_0, hI6, hI7, hpr_15_1⟩, hpk⟩⟩
    obtain ⟨hSIM, ep_16, hE_16⟩ := sx_receiveC hSIM hC hD
    rw [← ep_16] at hSIM
    have hcd : cd_16 = 2 := hE_16.elim (fun h => absurd h.1 (by decide)) (fun h => h.2)
    have hV := hV2
    refine lv_istore (lv' := [(6, .int r_15), (5, .int 2), (4, .int (nI i)), (3, .ref o0), (2, .ref m0), (1, .ref x0), (0, .ref b)]) hx hb dL_law_698 hl (by decide) rfl (fun ls hl => ?_)
    refine lv_goto (tgt := 971) hx hb dL_law_700 (by decide) ?_
    refine W.widen (k := C + 2) (n := S + 12) (by omega) (by omega) ?_
    exact key _ _ _ ⟨B, R, A_16, cd_16, pk_16, hT, hW, hM, hSIM, hV, ⟨_, hro⟩, hS⟩ (lv_sub hl [2, 3, 4, 5, 6] rfl)
set_option maxHeartbeats 8000000 in
set_option maxRecDepth 100000 in
theorem lk_9 {p : Program} {l : Launch} {e : Env} {s : State} {m : MethodId} {below : List Frame} {meth : Method} {c : Code} {b L i C S : Nat} {xs : Nat → Int32} {E : EE} {Gc Gm : Nat → Nat} {x0 m0 o0 : Nat} {rf : Nat → Nat} {t0 t1 t2 : Int32} {H : Heap} {locs : List Loc} {ls : Array Slot} (hst : l.stackTraces = false) (C0 : lw_At p s m meth c b L xs) (hLB : L ≤ 3587) (hK : KS E s.heap.size s) (hN : NC s) (F9 : LF s Gc Gm x0 m0 o0 rf t0) (hi : i + 7 ≤ L) (hC : C + 2 ≤ 621377) (hSl : S + 12 ≤ 7231939) (hI : LI E s Gc x0 m0 o0 rf t0 t1 t2 H locs) (hl : lv_has ls 7 [(4, .int (nI i)), (3, .ref o0), (2, .ref m0), (1, .ref x0), (0, .ref b)]) (key : ∀ (H : Heap) (locs : List Loc) (ls : Array Slot), LI E s Gc x0 m0 o0 rf t0 t1 t2 H locs → lv_has ls 7 [(4, .int (nI i)), (3, .ref o0), (2, .ref m0), (1, .ref x0), (0, .ref b)] → W p l e room_1 s m #[Value.ref b] below meth c H locs (C + 2) (S + 12) (lw_Z below #[Value.ref b] s) (F0 m 971 ls [])) : W p l e room_1 s m #[Value.ref b] below meth c H locs C S (lw_Z below #[Value.ref b] s) (F0 m 703 ls []) := by
  obtain ⟨hx, hb, hr, hml, hown, hts0, hX, hbl, hlocks, hgv⟩ := id C0
  obtain ⟨hxc, hR, hGzc, hGzm, hd, hGco, hGmo, hoz, h2t⟩ := F9
  have hd2 : ∀ a, Gc a ≠ 0 → Gm a = 0 := fun a h => Decidable.byContradiction fun q => h (hd a q)
  have hts : ∀ w ∈ TS, w.before #[Value.ref b] s = true := fun w hw => hts0 w (List.mem_filter.mp hw).1
  have hbA : ¬ (fun q : Nat => s.heap.size ≤ q) b := Nat.not_le.mpr hbl
  have hAz : ∀ q, (fun q : Nat => s.heap.size ≤ q) q → s.heap.size ≤ q := fun q h => h
  have hC0 : C + 0 ≤ room_1.cells := (show C + 0 ≤ 621377 by omega)
  have hS0 : S + 0 ≤ room_1.slots := (show S + 0 ≤ 7231939 by omega)
  have hC2 : C + 2 ≤ room_1.cells := (show C + 2 ≤ 621377 by omega)
  have hS2 : S + 12 ≤ room_1.slots := (show S + 12 ≤ 7231939 by omega)
  have hiI : (nI i).toInt = (i : Int) := nI_toInt (by omega)
  obtain ⟨B, R, A, cd, pk, hT, hW, hM, hSIM, hV, ⟨fo, hro⟩, hS⟩ := hI
  obtain ⟨hI2, hI3, hI4, hI5, hI6, hI7, hI8, hpk⟩ := hV.c3
  refine lv_aload_n hx hb dL_law_703 rfl (lv_at hl 3 rfl) ?_
  refine lv_aload_n hx hb dL_law_704 rfl (lv_at hl 4 rfl) ?_
  refine lv_iload hx hb dL_law_705 (lv_at hl 0 rfl) ?_
  refine lv_iconst (v := 1) hx hb dL_law_707 (by decide) ?_
  refine lv_iadd hx hb dL_law_708 ?_
  refine lv_topi (fun x_1 ex_1 => ?_)
  have fx_1 : x_1.toInt = (i : Int) + 1 := by have h9 := s_add (x := nI i) (y := 1) (by rw [hiI, i_1]; omega) (by rw [hiI, i_1]; omega); rw [hiI, i_1] at h9; rw [ex_1]; exact h9
  have vi_2 : vp_in x_1 L := vp_in_iff.mpr (by omega)
  refine va_sld hx hb hX hbl hbA hS vi_2 dL_law_709 ?_
  refine lv_topi (fun x_3 ex_3 => ?_)
  have ha_4 := tx_1 hT hxc
  refine va_calli (rnV (fun H => TX E Gc B R H) (As := [.int x_3]) (rest := []) ⟨hx, hb, hml, hown, hts⟩ (x_X9_push l E s.heap.size Gc hGzc B R hW x0 x_3 hxc) (cwV 1 hts (gdV ml_L_94 im_X9_push se_X9_X9_push in_X9 co_X9_push rfl) rfl rfl rfl (by decide +kernel) ⟨Nat.le_of_ble_eq_true rfl, Nat.le_of_ble_eq_true rfl⟩) hT (fun U hU hW => hK.go hW hS hAz hU) (va_recv hK.1 (va_one ha_4) (ci := 9) (q0 := 0) rfl rfl) rfl rfl hl.1 rfl (lv_room (Nat.le_of_ble_eq_true rfl)) dL_law_710 ⟨hC0, hS0⟩) hS (fun q _ h => hGzc q (zn (L := [9, 4, 31, 32]) (by decide) h)) (fun q h => hGzc q (zn (L := [9, 4, 31, 32]) (by decide) h)) (fun r_4 u_4 t H locs ht9 hvm hwr_4 hB hz hk hS => ?_)
  obtain ⟨Z_4, eZ_4⟩ : ∃ z, z = u_4 := ⟨_, rfl⟩
  rw [← eZ_4] at hB hwr_4
  rw [ht9] at hB
  have hT : TX E Gc Z_4 R H := hB
  have hW : TW Gc Z_4 R := hwr_4.1
  have hC : C_X9_push Gc B R x0 x_3 Z_4 r_4 := hwr_4.2.2
  have hM := hM.away hR (fun q hq hg => hk q hq (fun h => zn (L := [9, 4, 31, 32]) (by decide) h (hd q hg)))
  have hro := hro.kept (hk _ hro.lt (fun h => zn (L := [9, 4, 31, 32]) (by decide) h hGco))
  refine lv_pop hx hb dL_law_713 rfl ?_
  refine lv_aload_n hx hb dL_law_714 rfl (lv_at hl 2 rfl) ?_
  refine lv_aload_n hx hb dL_law_715 rfl (lv_at hl 4 rfl) ?_
  refine lv_iload hx hb dL_law_716 (lv_at hl 0 rfl) ?_
  refine lv_iconst (v := 1) hx hb dL_law_718 (by decide) ?_
  refine lv_iadd hx hb dL_law_719 ?_
  refine W.eq (g2 := F0 m 720 ls [.int x_1, .ref b, .ref m0]) (by rw [ex_1]) ?_
  refine va_sld hx hb hX hbl hbA hS vi_2 dL_law_720 ?_
  refine W.eq (g2 := F0 m 721 ls [.int x_3, .ref m0]) (by rw [ex_3]) ?_
  refine va_calli (rnV (fun H => MH E m0 rf t0 t1 t2 A cd pk H) (As := [.int x_3]) (rest := []) ⟨hx, hb, hml, hown, hts⟩ (u_X10_push l E s.heap.size Gm hGzm m0 rf hR t0 t1 t2 A cd pk x_3 hI4 hI6 hI7 (show 0 ≤ pk.toInt ∧ pk.toInt ≤ 24 from by first | decide | omega)) (cwV 1 hts (gdV ml_L_98 im_X10_push se_X10_X10_push in_X10 co_X10_push rfl) rfl rfl rfl (by decide +kernel) ⟨Nat.le_of_ble_eq_true rfl, Nat.le_of_ble_eq_true rfl⟩) hM (fun U hU hW => hK.go hW hS hAz hU) (va_recv hK.1 (va_one hM.1) (ci := 10) (q0 := 0) rfl rfl) rfl rfl hl.1 rfl (lv_room (Nat.le_of_ble_eq_true rfl)) dL_law_721 ⟨hC0, hS0⟩) hS (fun q _ h => hGzm q h) (fun q h => hGzm q h) (fun r_5 ur_5 t H locs ht hvm hwr_5 hB hz hk hS => ?_)
  have hM : MH E m0 rf t0 t1 t2 (uA (uA (uA (uA (uA (uA (uA (uA (uA (uA A 41 (ur_5.1)) 42 (ur_5.2.1)) 43 (ur_5.2.2.1)) 44 (ur_5.2.2.2.1)) 45 (ur_5.2.2.2.2.1)) 46 (ur_5.2.2.2.2.2.1)) 47 (ur_5.2.2.2.2.2.2.1)) 48 (ur_5.2.2.2.2.2.2.2.1)) 13 (ur_5.2.2.2.2.2.2.2.2.1)) 15 (ur_5.2.2.2.2.2.2.2.2.2.1)) ur_5.2.2.2.2.2.2.2.2.2.2.2 ur_5.2.2.2.2.2.2.2.2.2.2.1 H := by rw [ht] at hB; exact hB
  have hDr_5 : D_X10_push A cd pk x_3 (uA (uA (uA (uA (uA (uA (uA (uA (uA (uA A 41 (ur_5.1)) 42 (ur_5.2.1)) 43 (ur_5.2.2.1)) 44 (ur_5.2.2.2.1)) 45 (ur_5.2.2.2.2.1)) 46 (ur_5.2.2.2.2.2.1)) 47 (ur_5.2.2.2.2.2.2.1)) 48 (ur_5.2.2.2.2.2.2.2.1)) 13 (ur_5.2.2.2.2.2.2.2.2.1)) 15 (ur_5.2.2.2.2.2.2.2.2.2.1)) (ur_5.2.2.2.2.2.2.2.2.2.2.2) (ur_5.2.2.2.2.2.2.2.2.2.2.1) r_5 := hwr_5.2.2.2
  have hpr_5_0 : I4 (A 10) (A 20) (A 29) (A 24) (A 11) (A 12) (ur_5.2.2.2.2.2.2.2.2.1) := hwr_5.1
  have hpr_5_1 : I7 (ur_5.1) (ur_5.2.1) (ur_5.2.2.2.1) (ur_5.2.2.2.2.1) (ur_5.2.2.2.2.2.1) := hwr_5.2.1
  have hpr_5_2 : 0 ≤ ur_5.2.2.2.2.2.2.2.2.2.2.1.toInt ∧ ur_5.2.2.2.2.2.2.2.2.2.2.1.toInt ≤ 24 := hwr_5.2.2.1
  have hT := hT.other hd2 hk
  have hro := hro.kept (hk _ hro.lt (fun h => h hGmo))
  obtain ⟨A_6, cd_6, pk_6, hM, hD, hV2⟩ : ∃ (A2 : AA) (cd2 pk2 : Int32), MH E m0 rf t0 t1 t2 A2 cd2 pk2 H ∧ D_X10_push A cd pk x_3 A2 cd2 pk2 r_5 ∧ RIV A2 pk2 := ⟨_, _, _, hM, hDr_5, ⟨⟨hI2, hI3, hpr_5_0, hI5, hI6, hpr_5_1, hI8⟩, hpr_5_2⟩⟩
  have hs_6 := s_pushC h2t hSIM hV hC hD
  obtain ⟨hSIM, er_6⟩ := hs_6
  have hV := hV2
  obtain rfl := er_6
  refine lv_pop hx hb dL_law_724 rfl ?_
  refine lv_goto (tgt := 971) hx hb dL_law_725 (by decide) ?_
  refine W.widen (k := C + 2) (n := S + 12) (by omega) (by omega) ?_
  exact key _ _ _ ⟨Z_4, R, A_6, cd_6, pk_6, hT, hW, hM, hSIM, hV, ⟨_, hro⟩, hS⟩ (lv_sub hl [0, 1, 2, 3, 4] rfl)
set_option maxHeartbeats 8000000 in
set_option maxRecDepth 100000 in
theorem lk_10 {p : Program} {l : Launch} {e : Env} {s : State} {m : MethodId} {below : List Frame} {meth : Method} {c : Code} {b L i C S : Nat} {xs : Nat → Int32} {E : EE} {Gc Gm : Nat → Nat} {x0 m0 o0 : Nat} {rf : Nat → Nat} {t0 t1 t2 : Int32} {H : Heap} {locs : List Loc} {ls : Array Slot} (hst : l.stackTraces = false) (C0 : lw_At p s m meth c b L xs) (hLB : L ≤ 3587) (hK : KS E s.heap.size s) (hN : NC s) (F9 : LF s Gc Gm x0 m0 o0 rf t0) (hi : i + 7 ≤ L) (hC : C + 2 ≤ 621377) (hSl : S + 12 ≤ 7231939) (hI : LI E s Gc x0 m0 o0 rf t0 t1 t2 H locs) (hl : lv_has ls 7 [(4, .int (nI i)), (3, .ref o0), (2, .ref m0), (1, .ref x0), (0, .ref b)]) (key : ∀ (H : Heap) (locs : List Loc) (ls : Array Slot), LI E s Gc x0 m0 o0 rf t0 t1 t2 H locs → lv_has ls 7 [(4, .int (nI i)), (3, .ref o0), (2, .ref m0), (1, .ref x0), (0, .ref b)] → W p l e room_1 s m #[Value.ref b] below meth c H locs (C + 2) (S + 12) (lw_Z below #[Value.ref b] s) (F0 m 971 ls [])) : W p l e room_1 s m #[Value.ref b] below meth c H locs C S (lw_Z below #[Value.ref b] s) (F0 m 728 ls []) := by
  obtain ⟨hx, hb, hr, hml, hown, hts0, hX, hbl, hlocks, hgv⟩ := id C0
  obtain ⟨hxc, hR, hGzc, hGzm, hd, hGco, hGmo, hoz, h2t⟩ := F9
  have hd2 : ∀ a, Gc a ≠ 0 → Gm a = 0 := fun a h => Decidable.byContradiction fun q => h (hd a q)
  have hts : ∀ w ∈ TS, w.before #[Value.ref b] s = true := fun w hw => hts0 w (List.mem_filter.mp hw).1
  have hbA : ¬ (fun q : Nat => s.heap.size ≤ q) b := Nat.not_le.mpr hbl
  have hAz : ∀ q, (fun q : Nat => s.heap.size ≤ q) q → s.heap.size ≤ q := fun q h => h
  have hC0 : C + 0 ≤ room_1.cells := (show C + 0 ≤ 621377 by omega)
  have hS0 : S + 0 ≤ room_1.slots := (show S + 0 ≤ 7231939 by omega)
  have hC2 : C + 2 ≤ room_1.cells := (show C + 2 ≤ 621377 by omega)
  have hS2 : S + 12 ≤ room_1.slots := (show S + 12 ≤ 7231939 by omega)
  have hiI : (nI i).toInt = (i : Int) := nI_toInt (by omega)
  obtain ⟨B, R, A, cd, pk, hT, hW, hM, hSIM, hV, ⟨fo, hro⟩, hS⟩ := hI
  obtain ⟨hI2, hI3, hI4, hI5, hI6, hI7, hI8, hpk⟩ := hV.c3
  refine lv_aload_n hx hb dL_law_728 rfl (lv_at hl 3 rfl) ?_
  refine lv_aload_n hx hb dL_law_729 rfl (lv_at hl 4 rfl) ?_
  refine lv_iload hx hb dL_law_730 (lv_at hl 0 rfl) ?_
  refine lv_iconst (v := 1) hx hb dL_law_732 (by decide) ?_
  refine lv_iadd hx hb dL_law_733 ?_
  refine lv_topi (fun x_1 ex_1 => ?_)
  have fx_1 : x_1.toInt = (i : Int) + 1 := by have h9 := s_add (x := nI i) (y := 1) (by rw [hiI, i_1]; omega) (by rw [hiI, i_1]; omega); rw [hiI, i_1] at h9; rw [ex_1]; exact h9
  have vi_2 : vp_in x_1 L := vp_in_iff.mpr (by omega)
  refine va_sld hx hb hX hbl hbA hS vi_2 dL_law_734 ?_
  refine lv_topi (fun x_3 ex_3 => ?_)
  have ha_4 := tx_1 hT hxc
  refine va_calli (rnV (fun H => TX E Gc B R H) (As := [.int x_3]) (rest := []) ⟨hx, hb, hml, hown, hts⟩ (x_X9_deliver l E s.heap.size Gc hGzc B R hW x0 x_3 hxc) (cwV 1 hts (gdV ml_L_99 im_X9_deliver se_X9_X9_deliver in_X9 co_X9_deliver rfl) rfl rfl rfl (by decide +kernel) ⟨Nat.le_of_ble_eq_true rfl, Nat.le_of_ble_eq_true rfl⟩) hT (fun U hU hW => hK.go hW hS hAz hU) (va_recv hK.1 (va_one ha_4) (ci := 9) (q0 := 0) rfl rfl) rfl rfl hl.1 rfl (lv_room (Nat.le_of_ble_eq_true rfl)) dL_law_735 ⟨hC0, hS0⟩) hS (fun q _ h => hGzc q (zn (L := [8, 9, 10, 4, 31, 32, 14, 13, 5, 15, 11, 16, 17, 30]) (by decide) h)) (fun q h => hGzc q (zn (L := [8, 9, 10, 4, 31, 32, 14, 13, 5, 15, 11, 16, 17, 30]) (by decide) h)) (fun r_4 u_4 t H locs ht9 hvm hwr_4 hB hz hk hS => ?_)
  obtain ⟨Z_4, Q_4⟩ := u_4
  rw [ht9] at hB
  have hT : TX E Gc Z_4 Q_4 H := hB
  have hW : TW Gc Z_4 Q_4 := hwr_4.1
  have hC : C_X9_deliver Gc B R x0 x_3 Z_4 Q_4 r_4 := hwr_4.2.2.2.2
  have hM := hM.away hR (fun q hq hg => hk q hq (fun h => zn (L := [8, 9, 10, 4, 31, 32, 14, 13, 5, 15, 11, 16, 17, 30]) (by decide) h (hd q hg)))
  have hro := hro.kept (hk _ hro.lt (fun h => zn (L := [8, 9, 10, 4, 31, 32, 14, 13, 5, 15, 11, 16, 17, 30]) (by decide) h hGco))
  refine lv_pop hx hb dL_law_738 rfl ?_
  refine lv_aload_n hx hb dL_law_739 rfl (lv_at hl 2 rfl) ?_
  refine lv_aload_n hx hb dL_law_740 rfl (lv_at hl 4 rfl) ?_
  refine lv_iload hx hb dL_law_741 (lv_at hl 0 rfl) ?_
  refine lv_iconst (v := 1) hx hb dL_law_743 (by decide) ?_
  refine lv_iadd hx hb dL_law_744 ?_
  refine W.eq (g2 := F0 m 745 ls [.int x_1, .ref b, .ref m0]) (by rw [ex_1]) ?_
  refine va_sld hx hb hX hbl hbA hS vi_2 dL_law_745 ?_
  refine W.eq (g2 := F0 m 746 ls [.int x_3, .ref m0]) (by rw [ex_3]) ?_
  refine va_calli (rnV (fun H => MH E m0 rf t0 t1 t2 A cd pk H) (As := [.int x_3]) (rest := []) ⟨hx, hb, hml, hown, hts⟩ (u_X10_deliver l E s.heap.size Gm hGzm m0 rf hR t0 t1 t2 A cd pk x_3 hI2 hI3 hI4 hI5 hI6 hI7 hI8 (show 0 ≤ pk.toInt ∧ pk.toInt ≤ 24 from by first | decide | omega)) (cwV 1 hts (gdV ml_L_102 im_X10_deliver se_X10_X10_deliver in_X10 co_X10_deliver rfl) rfl rfl rfl (by decide +kernel) ⟨Nat.le_of_ble_eq_true rfl, Nat.le_of_ble_eq_true rfl⟩) hM (fun U hU hW => hK.go hW hS hAz hU) (va_recv hK.1 (va_one hM.1) (ci := 10) (q0 := 0) rfl rfl) rfl rfl hl.1 rfl (lv_room (Nat.le_of_ble_eq_true rfl)) dL_law_746 ⟨hC0, hS0⟩) hS (fun q _ h => hGzm q h) (fun q h => hGzm q h) (fun r_5 ur_5 t H locs ht hvm hwr_5 hB hz hk hS => ?_)
  have hM : MH E m0 rf t0 t1 t2 ur_5.1 ur_5.2.1 ur_5.2.2 H := by rw [ht] at hB; exact hB
  have hDr_5 : D_X10_deliver t0 t1 t2 A cd pk x_3 ur_5.1 (ur_5.2.1) (ur_5.2.2) r_5 := hwr_5.2.2.2.2.2.2.2.2
  have hpr_5_0 : I2 (ur_5.1 5) (ur_5.1 6) := hwr_5.1
  have hpr_5_1 : I3 (ur_5.1 8) := hwr_5.2.1
  have hpr_5_2 : I4 (ur_5.1 10) (ur_5.1 20) (ur_5.1 29) (ur_5.1 24) (ur_5.1 11) (ur_5.1 12) (ur_5.1 13) := hwr_5.2.2.1
  have hpr_5_3 : I5 (ur_5.1 32) (ur_5.1 33) (ur_5.1 35) := hwr_5.2.2.2.1
  have hpr_5_4 : I6 (ur_5.1 22) (ur_5.1 23) (ur_5.1 24) (ur_5.1 25) (ur_5.1 26) := hwr_5.2.2.2.2.1
  have hpr_5_5 : I7 (ur_5.1 41) (ur_5.1 42) (ur_5.1 44) (ur_5.1 45) (ur_5.1 46) := hwr_5.2.2.2.2.2.1
  have hpr_5_6 : I8 (ur_5.1 20) (ur_5.1 30) (ur_5.1 37) (ur_5.1 36) := hwr_5.2.2.2.2.2.2.1
  have hpr_5_7 : 0 ≤ ur_5.2.2.toInt ∧ ur_5.2.2.toInt ≤ 24 := hwr_5.2.2.2.2.2.2.2.1
  have hT := hT.other hd2 hk
  have hro := hro.kept (hk _ hro.lt (fun h => h hGmo))
  obtain ⟨A_6, cd_6, pk_6, hM, hD, hV2⟩ : ∃ (A2 : AA) (cd2 pk2 : Int32), MH E m0 rf t0 t1 t2 A2 cd2 pk2 H ∧ D_X10_deliver t0 t1 t2 A cd pk x_3 A2 cd2 pk2 r_5 ∧ RIV A2 pk2 := ⟨_, _, _, hM, hDr_5, ⟨⟨hpr_5_0, hpr_5_1, hpr_5_2, hpr_5_3, hpr_5_4, hpr_5_5, hpr_5_6⟩, hpr_5_7⟩⟩
  have hs_6 := s_deliverC h2t hSIM hV hC hD
  obtain ⟨hSIM, er_6⟩ := hs_6
  have hV := hV2
  obtain rfl := er_6
  refine lv_pop hx hb dL_law_749 rfl ?_
  refine lv_goto (tgt := 971) hx hb dL_law_750 (by decide) ?_
  refine W.widen (k := C + 2) (n := S + 12) (by omega) (by omega) ?_
  exact key _ _ _ ⟨Z_4, Q_4, A_6, cd_6, pk_6, hT, hW, hM, hSIM, hV, ⟨_, hro⟩, hS⟩ (lv_sub hl [0, 1, 2, 3, 4] rfl)
set_option maxHeartbeats 8000000 in
set_option maxRecDepth 100000 in
theorem lk_11 {p : Program} {l : Launch} {e : Env} {s : State} {m : MethodId} {below : List Frame} {meth : Method} {c : Code} {b L i C S : Nat} {xs : Nat → Int32} {E : EE} {Gc Gm : Nat → Nat} {x0 m0 o0 : Nat} {rf : Nat → Nat} {t0 t1 t2 : Int32} {H : Heap} {locs : List Loc} {ls : Array Slot} (hst : l.stackTraces = false) (C0 : lw_At p s m meth c b L xs) (hLB : L ≤ 3587) (hK : KS E s.heap.size s) (hN : NC s) (F9 : LF s Gc Gm x0 m0 o0 rf t0) (hi : i + 7 ≤ L) (hC : C + 2 ≤ 621377) (hSl : S + 12 ≤ 7231939) (hI : LI E s Gc x0 m0 o0 rf t0 t1 t2 H locs) (hl : lv_has ls 7 [(4, .int (nI i)), (3, .ref o0), (2, .ref m0), (1, .ref x0), (0, .ref b)]) (key : ∀ (H : Heap) (locs : List Loc) (ls : Array Slot), LI E s Gc x0 m0 o0 rf t0 t1 t2 H locs → lv_has ls 7 [(4, .int (nI i)), (3, .ref o0), (2, .ref m0), (1, .ref x0), (0, .ref b)] → W p l e room_1 s m #[Value.ref b] below meth c H locs (C + 2) (S + 12) (lw_Z below #[Value.ref b] s) (F0 m 971 ls [])) : W p l e room_1 s m #[Value.ref b] below meth c H locs C S (lw_Z below #[Value.ref b] s) (F0 m 753 ls []) := by
  obtain ⟨hx, hb, hr, hml, hown, hts0, hX, hbl, hlocks, hgv⟩ := id C0
  obtain ⟨hxc, hR, hGzc, hGzm, hd, hGco, hGmo, hoz, h2t⟩ := F9
  have hd2 : ∀ a, Gc a ≠ 0 → Gm a = 0 := fun a h => Decidable.byContradiction fun q => h (hd a q)
  have hts : ∀ w ∈ TS, w.before #[Value.ref b] s = true := fun w hw => hts0 w (List.mem_filter.mp hw).1
  have hbA : ¬ (fun q : Nat => s.heap.size ≤ q) b := Nat.not_le.mpr hbl
  have hAz : ∀ q, (fun q : Nat => s.heap.size ≤ q) q → s.heap.size ≤ q := fun q h => h
  have hC0 : C + 0 ≤ room_1.cells := (show C + 0 ≤ 621377 by omega)
  have hS0 : S + 0 ≤ room_1.slots := (show S + 0 ≤ 7231939 by omega)
  have hC2 : C + 2 ≤ room_1.cells := (show C + 2 ≤ 621377 by omega)
  have hS2 : S + 12 ≤ room_1.slots := (show S + 12 ≤ 7231939 by omega)
  have hiI : (nI i).toInt = (i : Int) := nI_toInt (by omega)
  obtain ⟨B, R, A, cd, pk, hT, hW, hM, hSIM, hV, ⟨fo, hro⟩, hS⟩ := hI
  obtain ⟨hI2, hI3, hI4, hI5, hI6, hI7, hI8, hpk⟩ := hV.c3
  refine lv_aload_n hx hb dL_law_753 rfl (lv_at hl 3 rfl) ?_
  refine lv_aload_n hx hb dL_law_754 rfl (lv_at hl 4 rfl) ?_
  refine lv_iload hx hb dL_law_755 (lv_at hl 0 rfl) ?_
  refine lv_iconst (v := 1) hx hb dL_law_757 (by decide) ?_
  refine lv_iadd hx hb dL_law_758 ?_
  refine lv_topi (fun x_1 ex_1 => ?_)
  have fx_1 : x_1.toInt = (i : Int) + 1 := by have h9 := s_add (x := nI i) (y := 1) (by rw [hiI, i_1]; omega) (by rw [hiI, i_1]; omega); rw [hiI, i_1] at h9; rw [ex_1]; exact h9
  have vi_2 : vp_in x_1 L := vp_in_iff.mpr (by omega)
  refine va_sld hx hb hX hbl hbA hS vi_2 dL_law_759 ?_
  refine lv_topi (fun x_3 ex_3 => ?_)
  refine lv_aload_n hx hb dL_law_760 rfl (lv_at hl 4 rfl) ?_
  refine lv_iload hx hb dL_law_761 (lv_at hl 0 rfl) ?_
  refine lv_iconst (v := 2) hx hb dL_law_763 (by decide) ?_
  refine lv_iadd hx hb dL_law_764 ?_
  refine lv_topi (fun x_4 ex_4 => ?_)
  have fx_4 : x_4.toInt = (i : Int) + 2 := by have h9 := s_add (x := nI i) (y := 2) (by rw [hiI, i_2]; omega) (by rw [hiI, i_2]; omega); rw [hiI, i_2] at h9; rw [ex_4]; exact h9
  have vi_5 : vp_in x_4 L := vp_in_iff.mpr (by omega)
  refine va_sld hx hb hX hbl hbA hS vi_5 dL_law_765 ?_
  refine lv_topi (fun x_6 ex_6 => ?_)
  refine W.jv (P := fun v_7 : Int32 => v_7 = if x_6.toInt = 0 then 0 else 1) (f := fun v_7 => F0 m 774 ls ([.int v_7, .int x_3, .ref x0])) (fun v_7 hv_7 => ?_) (fun key_7 => ?_)
  · have hv_7 : v_7 = if x_6.toInt = 0 then 0 else 1 := hv_7
    have ha_8 := tx_1 hT hxc
    refine va_calli (rnV (fun H => TX E Gc B R H) (As := [.int x_3, .int v_7]) (rest := []) ⟨hx, hb, hml, hown, hts⟩ (x_X9_spoil l E s.heap.size Gc hGzc B R hW x0 x_3 v_7 hxc) (cwV 2 hts (gdV ml_L_103 im_X9_spoil se_X9_X9_spoil in_X9 co_X9_spoil rfl) rfl rfl rfl (by decide +kernel) ⟨Nat.le_of_ble_eq_true rfl, Nat.le_of_ble_eq_true rfl⟩) hT (fun U hU hW => hK.go hW hS hAz hU) (va_recv hK.1 (va_one ha_8) (ci := 9) (q0 := 0) rfl rfl) rfl rfl hl.1 rfl (lv_room (Nat.le_of_ble_eq_true rfl)) dL_law_774 ⟨hC0, hS0⟩) hS (fun q _ h => hGzc q (zn (L := [4, 30, 31, 32]) (by decide) h)) (fun q h => hGzc q (zn (L := [4, 30, 31, 32]) (by decide) h)) (fun r_8 u_8 t H locs ht9 hvm hwr_8 hB hz hk hS => ?_)
    obtain ⟨Z_8, Q_8⟩ := u_8
    rw [ht9] at hB
    have hT : TX E Gc Z_8 Q_8 H := hB
    have hW : TW Gc Z_8 Q_8 := hwr_8.1
    have hC : C_X9_spoil Gc B R x0 x_3 v_7 Z_8 Q_8 r_8 := hwr_8.2.2.2.2
    have hM := hM.away hR (fun q hq hg => hk q hq (fun h => zn (L := [4, 30, 31, 32]) (by decide) h (hd q hg)))
    have hro := hro.kept (hk _ hro.lt (fun h => zn (L := [4, 30, 31, 32]) (by decide) h hGco))
    refine lv_pop hx hb dL_law_777 rfl ?_
    refine lv_aload_n hx hb dL_law_778 rfl (lv_at hl 2 rfl) ?_
    refine lv_aload_n hx hb dL_law_779 rfl (lv_at hl 4 rfl) ?_
    refine lv_iload hx hb dL_law_780 (lv_at hl 0 rfl) ?_
    refine lv_iconst (v := 1) hx hb dL_law_782 (by decide) ?_
    refine lv_iadd hx hb dL_law_783 ?_
    refine W.eq (g2 := F0 m 784 ls [.int x_1, .ref b, .ref m0]) (by rw [ex_1]) ?_
    refine va_sld hx hb hX hbl hbA hS vi_2 dL_law_784 ?_
    refine W.eq (g2 := F0 m 785 ls [.int x_3, .ref m0]) (by rw [ex_3]) ?_
    refine lv_aload_n hx hb dL_law_785 rfl (lv_at hl 4 rfl) ?_
    refine lv_iload hx hb dL_law_786 (lv_at hl 0 rfl) ?_
    refine lv_iconst (v := 2) hx hb dL_law_788 (by decide) ?_
    refine lv_iadd hx hb dL_law_789 ?_
    refine W.eq (g2 := F0 m 790 ls [.int x_4, .ref b, .int x_3, .ref m0]) (by rw [ex_4]) ?_
    refine va_sld hx hb hX hbl hbA hS vi_5 dL_law_790 ?_
    refine W.eq (g2 := F0 m 791 ls [.int x_6, .int x_3, .ref m0]) (by rw [ex_6]) ?_
    refine W.jv (P := fun v_9 : Int32 => v_9 = if x_6.toInt = 0 then 0 else 1) (f := fun v_9 => F0 m 799 ls ([.int v_9, .int x_3, .ref m0])) (fun v_9 hv_9 => ?_) (fun key_9 => ?_)
    · have hv_9 : v_9 = if x_6.toInt = 0 then 0 else 1 := hv_9
      have ev_9 : v_9 = v_7 := hv_9.trans hv_7.symm
      subst ev_9
      refine va_calli (rnV (fun H => MH E m0 rf t0 t1 t2 A cd pk H) (As := [.int x_3, .int v_9]) (rest := []) ⟨hx, hb, hml, hown, hts⟩ (u_X10_spoil l E s.heap.size Gm hGzm m0 rf hR t0 t1 t2 A cd pk x_3 v_9 hI7 (show 0 ≤ pk.toInt ∧ pk.toInt ≤ 24 from by first | decide | omega)) (cwV 2 hts (gdV ml_L_107 im_X10_spoil se_X10_X10_spoil in_X10 co_X10_spoil rfl) rfl rfl rfl (by decide +kernel) ⟨Nat.le_of_ble_eq_true rfl, Nat.le_of_ble_eq_true rfl⟩) hM (fun U hU hW => hK.go hW hS hAz hU) (va_recv hK.1 (va_one hM.1) (ci := 10) (q0 := 0) rfl rfl) rfl rfl hl.1 rfl (lv_room (Nat.le_of_ble_eq_true rfl)) dL_law_799 ⟨hC0, hS0⟩) hS (fun q _ h => hGzm q h) (fun q h => hGzm q h) (fun r_10 ur_10 t H locs ht hvm hwr_10 hB hz hk hS => ?_)
      have hM : MH E m0 rf t0 t1 t2 (uA (uA (uA (uA (uA (uA (uA (uA A 41 (ur_10.1)) 42 (ur_10.2.1)) 43 (ur_10.2.2.1)) 44 (ur_10.2.2.2.1)) 45 (ur_10.2.2.2.2.1)) 46 (ur_10.2.2.2.2.2.1)) 47 (ur_10.2.2.2.2.2.2.1)) 48 (ur_10.2.2.2.2.2.2.2.1)) ur_10.2.2.2.2.2.2.2.2.2 ur_10.2.2.2.2.2.2.2.2.1 H := by rw [ht] at hB; exact hB
      have hDr_10 : D_X10_spoil A cd pk x_3 v_9 (uA (uA (uA (uA (uA (uA (uA (uA A 41 (ur_10.1)) 42 (ur_10.2.1)) 43 (ur_10.2.2.1)) 44 (ur_10.2.2.2.1)) 45 (ur_10.2.2.2.2.1)) 46 (ur_10.2.2.2.2.2.1)) 47 (ur_10.2.2.2.2.2.2.1)) 48 (ur_10.2.2.2.2.2.2.2.1)) (ur_10.2.2.2.2.2.2.2.2.2) (ur_10.2.2.2.2.2.2.2.2.1) r_10 := hwr_10.2.2
      have hpr_10_0 : I7 (ur_10.1) (ur_10.2.1) (ur_10.2.2.2.1) (ur_10.2.2.2.2.1) (ur_10.2.2.2.2.2.1) := hwr_10.1
      have hpr_10_1 : 0 ≤ ur_10.2.2.2.2.2.2.2.2.1.toInt ∧ ur_10.2.2.2.2.2.2.2.2.1.toInt ≤ 24 := hwr_10.2.1
      have hT := hT.other hd2 hk
      have hro := hro.kept (hk _ hro.lt (fun h => h hGmo))
      obtain ⟨A_11, cd_11, pk_11, hM, hD, hV2⟩ : ∃ (A2 : AA) (cd2 pk2 : Int32), MH E m0 rf t0 t1 t2 A2 cd2 pk2 H ∧ D_X10_spoil A cd pk x_3 v_9 A2 cd2 pk2 r_10 ∧ RIV A2 pk2 := ⟨_, _, _, hM, hDr_10, ⟨⟨hI2, hI3, hI4, hI5, hI6, hpr_10_0, hI8⟩, hpr_10_1⟩⟩
      have hs_11 := s_spoilC hSIM hV hC hD
      obtain ⟨hSIM, er_11⟩ := hs_11
      have hV := hV2
      obtain rfl := er_11
      refine lv_pop hx hb dL_law_802 rfl ?_
      refine lv_goto (tgt := 971) hx hb dL_law_803 (by decide) ?_
      refine W.widen (k := C + 2) (n := S + 12) (by omega) (by omega) ?_
      exact key _ _ _ ⟨Z_8, Q_8, A_11, cd_11, pk_11, hT, hW, hM, hSIM, hV, ⟨_, hro⟩, hS⟩ (lv_sub hl [0, 1, 2, 3, 4] rfl)
    · refine lv_if_eq (tgt := 798) hx hb dL_law_791 (by decide) (fun c_12 => ?_) (fun c_12 => ?_)
      · simp only [lt_I, le_I, eq_I, i_0, i_1, i_2, i_3, i_4, i_5, i_6, i_7, i_8, i_10, i_12, i_16, i_20, i_23, i_24, i_31, i_32, i_63, i_64, i_m1, i_9, i_11, i_13, i_25, i_60, i_75, i_79, i_80, i_96, i_100] at c_12
        refine lv_iconst (v := 0) hx hb dL_law_798 (by decide) ?_
        exact key_9 0 (by first | rw [if_pos (by omega)] | rw [if_neg (by omega)])
      · simp only [lt_I, le_I, eq_I, i_0, i_1, i_2, i_3, i_4, i_5, i_6, i_7, i_8, i_10, i_12, i_16, i_20, i_23, i_24, i_31, i_32, i_63, i_64, i_m1, i_9, i_11, i_13, i_25, i_60, i_75, i_79, i_80, i_96, i_100] at c_12
        refine lv_iconst (v := 1) hx hb dL_law_794 (by decide) ?_
        refine lv_goto (tgt := 799) hx hb dL_law_795 (by decide) ?_
        exact key_9 1 (by first | rw [if_pos (by omega)] | rw [if_neg (by omega)])
  · refine lv_if_eq (tgt := 773) hx hb dL_law_766 (by decide) (fun c_13 => ?_) (fun c_13 => ?_)
    · simp only [lt_I, le_I, eq_I, i_0, i_1, i_2, i_3, i_4, i_5, i_6, i_7, i_8, i_10, i_12, i_16, i_20, i_23, i_24, i_31, i_32, i_63, i_64, i_m1, i_9, i_11, i_13, i_25, i_60, i_75, i_79, i_80, i_96, i_100] at c_13
      refine lv_iconst (v := 0) hx hb dL_law_773 (by decide) ?_
      exact key_7 0 (by first | rw [if_pos (by omega)] | rw [if_neg (by omega)])
    · simp only [lt_I, le_I, eq_I, i_0, i_1, i_2, i_3, i_4, i_5, i_6, i_7, i_8, i_10, i_12, i_16, i_20, i_23, i_24, i_31, i_32, i_63, i_64, i_m1, i_9, i_11, i_13, i_25, i_60, i_75, i_79, i_80, i_96, i_100] at c_13
      refine lv_iconst (v := 1) hx hb dL_law_769 (by decide) ?_
      refine lv_goto (tgt := 774) hx hb dL_law_770 (by decide) ?_
      exact key_7 1 (by first | rw [if_pos (by omega)] | rw [if_neg (by omega)])
