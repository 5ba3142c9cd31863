theorem dX3_clear_0 : decode cX3_clear 0 = .ok (.aload_n 0, 1) := by decide +kernel
theorem dX3_clear_1 : decode cX3_clear 1 = .ok (.iconst 0, 1) := by decide +kernel
theorem dX3_clear_2 : decode cX3_clear 2 = .ok (.putfield 19, 3) := by decide +kernel
theorem dX3_clear_5 : decode cX3_clear 5 = .ok (.aload_n 0, 1) := by decide +kernel
theorem dX3_clear_6 : decode cX3_clear 6 = .ok (.getfield 9, 3) := by decide +kernel
theorem dX3_clear_9 : decode cX3_clear 9 = .ok (.invokevirtual 23, 3) := by decide +kernel
theorem dX3_clear_12 : decode cX3_clear 12 = .ok (.aload_n 0, 1) := by decide +kernel
theorem dX3_clear_13 : decode cX3_clear 13 = .ok (.getfield 15, 3) := by decide +kernel
theorem dX3_clear_16 : decode cX3_clear 16 = .ok (.invokevirtual 28, 3) := by decide +kernel
theorem dX3_clear_19 : decode cX3_clear 19 = .ok (.return_, 1) := by decide +kernel
set_option maxHeartbeats 8000000 in
set_option maxRecDepth 100000 in
theorem x_X3_clear (l : Launch) (E : EE) (z0 : Nat) (G : Nat → Nat) (hGz : ∀ q, G q ≠ 0 → z0 ≤ q) (B : AA) (R : RR) (hW : TW G B R) (h0 : Nat) (hG : G h0 = 8) : Met l yX3_clear [Cond.code yX3_clear cX3_clear 1 none] ({ frames := 2, cells := 0, slots := 0, locals := 41 } : Room) (va_Pc [.ref h0] (fun U => TX E G B R U.heap ∧ KS E z0 U)) (va_Qv (fun (u : AA) => (TW G u R) ∧ (Fr G ([8, 9, 10, 11, 16, 17] : List Nat) B u) ∧ (C_X3_clear G B R h0 u)) (fun u t => TX E G u R t.heap) (fun q : Nat => G q ∈ ([8, 9, 10, 11, 16, 17] : List Nat))) 0 0 (fun q : Nat => G q ∈ ([8, 9, 10, 11, 16, 17] : List Nat)) := by
  refine Met.ofW (cc := cX3_clear) (maxL := 1) (ret := none) (by decide) rfl ?_
  intro p e s m args below meth c s₁ B9 hml hv
  obtain ⟨rfl, hT, hK⟩ := hv
  have hx := B9.exec
  have hb := B9.bytes
  have hr := B9.returns
  have hts : ∀ w ∈ TS, w.before ([.ref h0] : List Value).toArray s = true := fun w hw => hK.2.1 w hw _
  have hown : s.vm.findClass RX3 = some m.cls := findClass_of_methodNamed B9.named
  have hlocks := B9.notSynchronized
  have hS : va_S (fun q : Nat => G q ∈ ([8, 9, 10, 11, 16, 17] : List Nat)) s.heap s.heap [] := va_S.rf
  have hAz : ∀ q, (fun q : Nat => G q ∈ ([8, 9, 10, 11, 16, 17] : List Nat)) q → z0 ≤ q := zL hGz (by decide)
  have hW_0 := hW
  have hl := lv_entry ([.ref h0]) (n := 1) (Nat.le_of_ble_eq_true rfl)
  rw [lg_entry_eq]
  generalize (lg_sl ([.ref h0]) ++ List.replicate (1 - (lg_sl ([.ref h0])).length) Slot.unset).toArray = ls at hl ⊢
  have hl : lv_has ls 1 [(0, .ref h0)] := hl
  refine lv_aload_n hx hb dX3_clear_0 rfl (lv_at hl 0 rfl) ?_
  refine lv_iconst (v := 0) hx hb dX3_clear_1 (by decide) ?_
  have ha_1 := tx_8 hT hG
  refine rr_put (D := DG E) (ci := 3) (v := .int 0) (ty := .int) (C := RX3) (T := TX3) (N := 3) hx hb hts iw_X3 tyX3 tyX3_ok nmX3 hown hK.1 ha_1 hS (by show G h0 ∈ ([8, 9, 10, 11, 16, 17] : List Nat); rw [hG]; decide) rfl 2 (by decide) (hts _ fl_X3_19) (fun _ h9 => h9) rfl (by decide +kernel) rfl rfl (Nat.le_of_ble_eq_true rfl) dX3_clear_2 (fun H locs hn ho hz hS => ?_)
  obtain ⟨B_2, eB_2⟩ : ∃ z : AA, z = uA B h0 (upd (B h0) 2 0) := ⟨_, rfl⟩
  have sB_2 : B_2 h0 2 = 0 := by rw [eB_2, uA_s]; exact upd_s
  have nB_2 : ∀ k, k ≠ 2 → B_2 h0 k = B h0 k := fun k hk => by rw [eB_2, uA_s]; exact upd_n hk
  have fB_2 : ∀ c, G c ≠ 8 → B_2 c = B c := fun c hc => by rw [eB_2]; exact uA_n (fun e => hc (by rw [e]; exact hG))
  have hT : TX E G B_2 R H := by rw [eB_2]; exact hT.w (by rw [hG]; exact hn) ho
  have hWB_2 : TW G B_2 R := by rw [eB_2]; exact hW_0.w (by rw [hG]; exact tw_8 hW_0 hG)
  have hW := hWB_2
  refine lv_aload_n hx hb dX3_clear_5 rfl (lv_at hl 0 rfl) ?_
  have ha_3 := tx_8 hT hG
  have hg_4 : G (R h0 0) = 9 := (tw_8 hW hG).1
  refine va_get (D := DG E) (ci := 3) (v := .ref (R h0 0)) (C := RX3) (T := TX3) (N := 3) hx hb hts iw_X3 hown hK.1 (va_one ha_3) 0 rfl rfl 0 (by decide) (hts _ fl_X3_9) (fun _ h9 => h9) rfl dX3_clear_6 ?_
  have ha_5 := tx_9 hT hg_4
  refine va_callv (rnV (fun H => TX E G B_2 R H) (As := []) (rest := []) ⟨hx, hb, hml, hown, hts⟩ (x_X7_clear l E z0 G hGz B_2 R hW (R h0 0) hg_4) (cwV 0 hts (gdV ml_X3_23 im_X7_clear se_X7_X7_clear in_X7 co_X7_clear rfl) rfl rfl rfl (by decide +kernel) ⟨Nat.le_of_ble_eq_true rfl, Nat.le_of_ble_eq_true rfl⟩) hT (fun U hU hW => hK.go hW hS hAz hU) (va_recv hK.1 (va_one ha_5) (ci := 7) (q0 := 0) rfl rfl) rfl rfl hl.1 rfl (lv_room (Nat.le_of_ble_eq_true rfl)) dX3_clear_9 ⟨Nat.le_of_ble_eq_true rfl, Nat.le_of_ble_eq_true rfl⟩) hS (fun q _ h => mL (L' := [9, 11]) (L := [8, 9, 10, 11, 16, 17]) (by decide) h) (fun q h => mL (L' := [9, 11]) (L := [8, 9, 10, 11, 16, 17]) (by decide) h) (fun U_7 t H locs ht hvm hwr_6 hB hz hk hS => ?_)
  have hT : TX E G U_7 R H := by rw [ht] at hB; exact hB
  have hWr_6 : TW G U_7 R := hwr_6.1
  have hW := hWr_6
  have hFr_6 : Fr G [9, 11] B_2 U_7 := hwr_6.2.1
  have hCr_6 : C_X7_clear G B_2 R (R h0 0) U_7 := hwr_6.2.2
  refine lv_aload_n hx hb dX3_clear_12 rfl (lv_at hl 0 rfl) ?_
  have ha_8 := tx_8 hT hG
  have hg_9 : G (R h0 1) = 10 := (tw_8 hW hG).2
  refine va_get (D := DG E) (ci := 3) (v := .ref (R h0 1)) (C := RX3) (T := TX3) (N := 3) hx hb hts iw_X3 hown hK.1 (va_one ha_8) 0 rfl rfl 1 (by decide) (hts _ fl_X3_15) (fun _ h9 => h9) rfl dX3_clear_13 ?_
  have ha_10 := tx_10 hT hg_9
  refine va_callv (rnV (fun H => TX E G U_7 R H) (As := []) (rest := []) ⟨hx, hb, hml, hown, hts⟩ (x_X8_clear l E z0 G hGz U_7 R hW (R h0 1) hg_9) (cwV 0 hts (gdV ml_X3_28 im_X8_clear se_X8_X8_clear in_X8 co_X8_clear rfl) rfl rfl rfl (by decide +kernel) ⟨Nat.le_of_ble_eq_true rfl, Nat.le_of_ble_eq_true rfl⟩) hT (fun U hU hW => hK.go hW hS hAz hU) (va_recv hK.1 (va_one ha_10) (ci := 8) (q0 := 0) rfl rfl) rfl rfl hl.1 rfl (lv_room (Nat.le_of_ble_eq_true rfl)) dX3_clear_16 ⟨Nat.le_of_ble_eq_true rfl, Nat.le_of_ble_eq_true rfl⟩) hS (fun q _ h => mL (L' := [10, 11, 16, 17]) (L := [8, 9, 10, 11, 16, 17]) (by decide) h) (fun q h => mL (L' := [10, 11, 16, 17]) (L := [8, 9, 10, 11, 16, 17]) (by decide) h) (fun U_12 t H locs ht hvm hwr_11 hB hz hk hS => ?_)
  have hT : TX E G U_12 R H := by rw [ht] at hB; exact hB
  have hWr_11 : TW G U_12 R := hwr_11.1
  have hW := hWr_11
  have hFr_11 : Fr G [10, 11, 16, 17] U_7 U_12 := hwr_11.2.1
  have hCr_11 : C_X8_clear G U_7 R (R h0 1) U_12 := hwr_11.2.2
  exact W.vret hx hb hr (fun t ht hW9 => ⟨⟨U_12, rfl, ⟨hW, (Fr.c (Fr.c (Fr.w Fr.rf hG (by decide) eB_2) hFr_6 (by decide)) hFr_11 (by decide)), ⟨B_2, eB_2, U_7, hFr_6, hCr_6, U_12, hFr_11, hCr_11, rfl⟩⟩, (by show TX E G U_12 R t.heap; rw [ht]; exact hT)⟩, hS.F ht⟩) hS.2.2 dX3_clear_19
theorem dX3_start_0 : decode cX3_start 0 = .ok (.aload_n 0, 1) := by decide +kernel
theorem dX3_start_1 : decode cX3_start 1 = .ok (.iconst 1, 1) := by decide +kernel
theorem dX3_start_2 : decode cX3_start 2 = .ok (.putfield 19, 3) := by decide +kernel
theorem dX3_start_5 : decode cX3_start 5 = .ok (.aload_n 0, 1) := by decide +kernel
theorem dX3_start_6 : decode cX3_start 6 = .ok (.getfield 9, 3) := by decide +kernel
theorem dX3_start_9 : decode cX3_start 9 = .ok (.iload_n 1, 1) := by decide +kernel
theorem dX3_start_10 : decode cX3_start 10 = .ok (.invokevirtual 31, 3) := by decide +kernel
theorem dX3_start_13 : decode cX3_start 13 = .ok (.aload_n 0, 1) := by decide +kernel
theorem dX3_start_14 : decode cX3_start 14 = .ok (.getfield 15, 3) := by decide +kernel
theorem dX3_start_17 : decode cX3_start 17 = .ok (.iload_n 2, 1) := by decide +kernel
theorem dX3_start_18 : decode cX3_start 18 = .ok (.putfield 35, 3) := by decide +kernel
theorem dX3_start_21 : decode cX3_start 21 = .ok (.return_, 1) := by decide +kernel
set_option maxHeartbeats 8000000 in
set_option maxRecDepth 100000 in
theorem x_X3_start (l : Launch) (E : EE) (z0 : Nat) (G : Nat → Nat) (hGz : ∀ q, G q ≠ 0 → z0 ≤ q) (B : AA) (R : RR) (hW : TW G B R) (h0 : Nat) (p0 : Int32) (p1 : Int32) (hG : G h0 = 8) : Met l yX3_start [Cond.code yX3_start cX3_start 3 none] ({ frames := 1, cells := 0, slots := 0, locals := 21 } : Room) (va_Pc [.ref h0, .int p0, .int p1] (fun U => TX E G B R U.heap ∧ KS E z0 U)) (va_Qv (fun (u : AA) => (TW G u R) ∧ (Fr G ([8, 9, 10] : List Nat) B u) ∧ (C_X3_start G B R h0 p0 p1 u)) (fun u t => TX E G u R t.heap) (fun q : Nat => G q ∈ ([8, 9, 10] : List Nat))) 0 0 (fun q : Nat => G q ∈ ([8, 9, 10] : List Nat)) := by
  refine Met.ofW (cc := cX3_start) (maxL := 3) (ret := none) (by decide) rfl ?_
  intro p e s m args below meth c s₁ B9 hml hv
  obtain ⟨rfl, hT, hK⟩ := hv
  have hx := B9.exec
  have hb := B9.bytes
  have hr := B9.returns
  have hts : ∀ w ∈ TS, w.before ([.ref h0, .int p0, .int p1] : List Value).toArray s = true := fun w hw => hK.2.1 w hw _
  have hown : s.vm.findClass RX3 = some m.cls := findClass_of_methodNamed B9.named
  have hlocks := B9.notSynchronized
  have hS : va_S (fun q : Nat => G q ∈ ([8, 9, 10] : List Nat)) s.heap s.heap [] := va_S.rf
  have hAz : ∀ q, (fun q : Nat => G q ∈ ([8, 9, 10] : List Nat)) q → z0 ≤ q := zL hGz (by decide)
  have hW_0 := hW
  have hl := lv_entry ([.ref h0, .int p0, .int p1]) (n := 3) (Nat.le_of_ble_eq_true rfl)
  rw [lg_entry_eq]
  generalize (lg_sl ([.ref h0, .int p0, .int p1]) ++ List.replicate (3 - (lg_sl ([.ref h0, .int p0, .int p1])).length) Slot.unset).toArray = ls at hl ⊢
  have hl : lv_has ls 3 [(0, .ref h0), (1, .int p0), (2, .int p1)] := hl
  refine lv_aload_n hx hb dX3_start_0 rfl (lv_at hl 0 rfl) ?_
  refine lv_iconst (v := 1) hx hb dX3_start_1 (by decide) ?_
  have ha_1 := tx_8 hT hG
  refine rr_put (D := DG E) (ci := 3) (v := .int 1) (ty := .int) (C := RX3) (T := TX3) (N := 3) hx hb hts iw_X3 tyX3 tyX3_ok nmX3 hown hK.1 ha_1 hS (by show G h0 ∈ ([8, 9, 10] : List Nat); rw [hG]; decide) rfl 2 (by decide) (hts _ fl_X3_19) (fun _ h9 => h9) rfl (by decide +kernel) rfl rfl (Nat.le_of_ble_eq_true rfl) dX3_start_2 (fun H locs hn ho hz hS => ?_)
  obtain ⟨B_2, eB_2⟩ : ∃ z : AA, z = uA B h0 (upd (B h0) 2 1) := ⟨_, rfl⟩
  have sB_2 : B_2 h0 2 = 1 := by rw [eB_2, uA_s]; exact upd_s
  have nB_2 : ∀ k, k ≠ 2 → B_2 h0 k = B h0 k := fun k hk => by rw [eB_2, uA_s]; exact upd_n hk
  have fB_2 : ∀ c, G c ≠ 8 → B_2 c = B c := fun c hc => by rw [eB_2]; exact uA_n (fun e => hc (by rw [e]; exact hG))
  have hT : TX E G B_2 R H := by rw [eB_2]; exact hT.w (by rw [hG]; exact hn) ho
  have hWB_2 : TW G B_2 R := by rw [eB_2]; exact hW_0.w (by rw [hG]; exact tw_8 hW_0 hG)
  have hW := hWB_2
  refine lv_aload_n hx hb dX3_start_5 rfl (lv_at hl 0 rfl) ?_
  have ha_3 := tx_8 hT hG
  have hg_4 : G (R h0 0) = 9 := (tw_8 hW hG).1
  refine va_get (D := DG E) (ci := 3) (v := .ref (R h0 0)) (C := RX3) (T := TX3) (N := 3) hx hb hts iw_X3 hown hK.1 (va_one ha_3) 0 rfl rfl 0 (by decide) (hts _ fl_X3_9) (fun _ h9 => h9) rfl dX3_start_6 ?_
  refine lv_iload_n hx hb dX3_start_9 rfl (lv_at hl 1 rfl) ?_
  have ha_5 := tx_9 hT hg_4
  refine va_callv (rnV (fun H => TX E G B_2 R H) (As := [.int p0]) (rest := []) ⟨hx, hb, hml, hown, hts⟩ (x_X7_start l E z0 G hGz B_2 R hW (R h0 0) p0 hg_4) (cwV 1 hts (gdV ml_X3_31 im_X7_start se_X7_X7_start in_X7 co_X7_start rfl) rfl rfl rfl (by decide +kernel) ⟨Nat.le_of_ble_eq_true rfl, Nat.le_of_ble_eq_true rfl⟩) hT (fun U hU hW => hK.go hW hS hAz hU) (va_recv hK.1 (va_one ha_5) (ci := 7) (q0 := 0) rfl rfl) rfl rfl hl.1 rfl (lv_room (Nat.le_of_ble_eq_true rfl)) dX3_start_10 ⟨Nat.le_of_ble_eq_true rfl, Nat.le_of_ble_eq_true rfl⟩) hS (fun q _ h => mL (L' := [9]) (L := [8, 9, 10]) (by decide) h) (fun q h => mL (L' := [9]) (L := [8, 9, 10]) (by decide) h) (fun U_7 t H locs ht hvm hwr_6 hB hz hk hS => ?_)
  have hT : TX E G U_7 R H := by rw [ht] at hB; exact hB
  have hWr_6 : TW G U_7 R := hwr_6.1
  have hW := hWr_6
  have hFr_6 : Fr G [9] B_2 U_7 := hwr_6.2.1
  have hCr_6 : C_X7_start G B_2 R (R h0 0) p0 U_7 := hwr_6.2.2
  refine lv_aload_n hx hb dX3_start_13 rfl (lv_at hl 0 rfl) ?_
  have ha_8 := tx_8 hT hG
  have hg_9 : G (R h0 1) = 10 := (tw_8 hW hG).2
  refine va_get (D := DG E) (ci := 3) (v := .ref (R h0 1)) (C := RX3) (T := TX3) (N := 3) hx hb hts iw_X3 hown hK.1 (va_one ha_8) 0 rfl rfl 1 (by decide) (hts _ fl_X3_15) (fun _ h9 => h9) rfl dX3_start_14 ?_
  refine lv_iload_n hx hb dX3_start_17 rfl (lv_at hl 2 rfl) ?_
  have ha_10 := tx_10 hT hg_9
  refine rr_put (D := DG E) (ci := 8) (v := .int p1) (ty := .int) (C := RX8) (T := TX8) (N := 9) hx hb hts iw_X8 tyX8 tyX8_ok nmX8 hown hK.1 ha_10 hS (by show G (R h0 1) ∈ ([8, 9, 10] : List Nat); rw [hg_9]; decide) rfl 4 (by decide) (hts _ fl_X3_35) (fun _ h9 => h9) rfl (by decide +kernel) rfl rfl (Nat.le_of_ble_eq_true rfl) dX3_start_18 (fun H locs hn ho hz hS => ?_)
  obtain ⟨B_11, eB_11⟩ : ∃ z : AA, z = uA U_7 (R h0 1) (upd (U_7 (R h0 1)) 4 p1) := ⟨_, rfl⟩
  have sB_11 : B_11 (R h0 1) 4 = p1 := by rw [eB_11, uA_s]; exact upd_s
  have nB_11 : ∀ k, k ≠ 4 → B_11 (R h0 1) k = U_7 (R h0 1) k := fun k hk => by rw [eB_11, uA_s]; exact upd_n hk
  have fB_11 : ∀ c, G c ≠ 10 → B_11 c = U_7 c := fun c hc => by rw [eB_11]; exact uA_n (fun e => hc (by rw [e]; exact hg_9))
  have hT : TX E G B_11 R H := by rw [eB_11]; exact hT.w (by rw [hg_9]; exact hn) ho
  have hWB_11 : TW G B_11 R := by rw [eB_11]; exact hWr_6.w (by rw [hg_9]; exact tw_10 hWr_6 hg_9)
  have hW := hWB_11
  exact W.vret hx hb hr (fun t ht hW9 => ⟨⟨B_11, rfl, ⟨hW, (Fr.w (Fr.c (Fr.w Fr.rf hG (by decide) eB_2) hFr_6 (by decide)) hg_9 (by decide) eB_11), ⟨B_2, eB_2, U_7, hFr_6, hCr_6, B_11, eB_11, rfl⟩⟩, (by show TX E G B_11 R t.heap; rw [ht]; exact hT)⟩, hS.F ht⟩) hS.2.2 dX3_start_21
theorem dX3_takesRequests_0 : decode cX3_takesRequests 0 = .ok (.aload_n 0, 1) := by decide +kernel
theorem dX3_takesRequests_1 : decode cX3_takesRequests 1 = .ok (.getfield 19, 3) := by decide +kernel
theorem dX3_takesRequests_4 : decode cX3_takesRequests 4 = .ok (.iconst 1, 1) := by decide +kernel
theorem dX3_takesRequests_5 : decode cX3_takesRequests 5 = .ok (.if_icmp .ne 20, 3) := by decide +kernel
theorem dX3_takesRequests_8 : decode cX3_takesRequests 8 = .ok (.aload_n 0, 1) := by decide +kernel
theorem dX3_takesRequests_9 : decode cX3_takesRequests 9 = .ok (.getfield 9, 3) := by decide +kernel
theorem dX3_takesRequests_12 : decode cX3_takesRequests 12 = .ok (.getfield 38, 3) := by decide +kernel
theorem dX3_takesRequests_15 : decode cX3_takesRequests 15 = .ok (.invokevirtual 42, 3) := by decide +kernel
theorem dX3_takesRequests_18 : decode cX3_takesRequests 18 = .ok (.ifCond .ne 7, 3) := by decide +kernel
theorem dX3_takesRequests_21 : decode cX3_takesRequests 21 = .ok (.iconst 1, 1) := by decide +kernel
theorem dX3_takesRequests_22 : decode cX3_takesRequests 22 = .ok (.goto 4, 3) := by decide +kernel
theorem dX3_takesRequests_25 : decode cX3_takesRequests 25 = .ok (.iconst 0, 1) := by decide +kernel
theorem dX3_takesRequests_26 : decode cX3_takesRequests 26 = .ok (.ireturn, 1) := by decide +kernel
set_option maxHeartbeats 8000000 in
set_option maxRecDepth 100000 in
theorem x_X3_takesRequests (l : Launch) (E : EE) (z0 : Nat) (G : Nat → Nat) (hGz : ∀ q, G q ≠ 0 → z0 ≤ q) (B : AA) (R : RR) (hW : TW G B R) (h0 : Nat) (hG : G h0 = 8) : Met l yX3_takesRequests [Cond.code yX3_takesRequests cX3_takesRequests 1 (some .boolean)] ({ frames := 1, cells := 0, slots := 0, locals := 20 } : Room) (va_Pc [.ref h0] (fun U => TX E G B R U.heap ∧ KS E z0 U)) (va_Qi (fun (r : Int32) (u : Unit) => (r = 0 ∨ r = 1) ∧ (r.toInt = 0 ∨ (B (R (R h0 0) 6) 4).toInt ≤ 3) ∧ (C_X3_takesRequests G B R h0 r)) (fun u t => True) (fun _ : Nat => False)) 0 0 (fun _ : Nat => False) := by
  refine Met.ofW (cc := cX3_takesRequests) (maxL := 1) (ret := (some .boolean)) (by decide) rfl ?_
  intro p e s m args below meth c s₁ B9 hml hv
  obtain ⟨rfl, hT, hK⟩ := hv
  have hx := B9.exec
  have hb := B9.bytes
  have hr := B9.returns
  have hts : ∀ w ∈ TS, w.before ([.ref h0] : List Value).toArray s = true := fun w hw => hK.2.1 w hw _
  have hown : s.vm.findClass RX3 = some m.cls := findClass_of_methodNamed B9.named
  have hlocks := B9.notSynchronized
  have hS : va_S (fun _ : Nat => False) s.heap s.heap [] := va_S.rf
  have hAz : ∀ q, (fun _ : Nat => False) q → z0 ≤ q := fun _ h => h.elim
  have hW_0 := hW
  have hl := lv_entry ([.ref h0]) (n := 1) (Nat.le_of_ble_eq_true rfl)
  rw [lg_entry_eq]
  generalize (lg_sl ([.ref h0]) ++ List.replicate (1 - (lg_sl ([.ref h0])).length) Slot.unset).toArray = ls at hl ⊢
  have hl : lv_has ls 1 [(0, .ref h0)] := hl
  refine lv_aload_n hx hb dX3_takesRequests_0 rfl (lv_at hl 0 rfl) ?_
  have ha_1 := tx_8 hT hG
  refine va_get (D := DG E) (ci := 3) (v := .int (B h0 2)) (C := RX3) (T := TX3) (N := 3) hx hb hts iw_X3 hown hK.1 (va_one ha_1) 0 rfl rfl 2 (by decide) (hts _ fl_X3_19) (fun _ h9 => h9) rfl dX3_takesRequests_1 ?_
  refine lv_iconst (v := 1) hx hb dX3_takesRequests_4 (by decide) ?_
  refine lv_icmp_ne (tgt := 25) hx hb dX3_takesRequests_5 (by decide) (fun c_2 => ?_) (fun c_2 => ?_)
  · simp only [lt_I, le_I, eq_I, i_0, i_1, i_2, i_3, i_4, i_5, i_6, i_7, i_8, i_10, i_12, i_16, i_20, i_23, i_24, i_31, i_32, i_63, i_64, i_m1] at c_2
    refine lv_iconst (v := 0) hx hb dX3_takesRequests_25 (by decide) ?_
    exact W.zret (v := 0) (ty := .boolean) hx hb hr rfl (fun t ht hW9 => ⟨⟨0, (), rfl, ⟨(by decide), (by show (0 : Int32).toInt = 0 ∨ (B (R (R h0 0) 6) 4).toInt ≤ 3; have := i_0; omega), (Or.inl ⟨c_2, rfl⟩)⟩, trivial⟩, hS.F ht⟩) hS.2.2 dX3_takesRequests_26
  · simp only [lt_I, le_I, eq_I, i_0, i_1, i_2, i_3, i_4, i_5, i_6, i_7, i_8, i_10, i_12, i_16, i_20, i_23, i_24, i_31, i_32, i_63, i_64, i_m1] at c_2
    refine lv_aload_n hx hb dX3_takesRequests_8 rfl (lv_at hl 0 rfl) ?_
    have hg_3 : G (R h0 0) = 9 := (tw_8 hW hG).1
    refine va_get (D := DG E) (ci := 3) (v := .ref (R h0 0)) (C := RX3) (T := TX3) (N := 3) hx hb hts iw_X3 hown hK.1 (va_one ha_1) 0 rfl rfl 0 (by decide) (hts _ fl_X3_9) (fun _ h9 => h9) rfl dX3_takesRequests_9 ?_
    have ha_4 := tx_9 hT hg_3
    have hg_5 : G (R (R h0 0) 6) = 11 := (tw_9 hW hg_3).2.2.2
    refine va_get (D := DG E) (ci := 7) (v := .ref (R (R h0 0) 6)) (C := RX7) (T := TX7) (N := 14) hx hb hts iw_X7 hown hK.1 (va_one ha_4) 0 rfl rfl 6 (by decide) (hts _ fl_X3_38) (fun _ h9 => h9) rfl dX3_takesRequests_12 ?_
    have ha_6 := tx_11 hT hg_5
    refine va_calli (rnV (fun H => TX E G B R H) (As := []) (rest := []) ⟨hx, hb, hml, hown, hts⟩ (x_X5_isFull l E z0 G hGz B R hW (R (R h0 0) 6) hg_5) (cwV 0 hts (gdV ml_X3_42 im_X5_isFull se_X5_X5_isFull in_X5 co_X5_isFull rfl) rfl rfl rfl (by decide +kernel) ⟨Nat.le_of_ble_eq_true rfl, Nat.le_of_ble_eq_true rfl⟩) hT (fun U hU hW => hK.go hW hS hAz hU) (va_recv hK.1 (va_one ha_6) (ci := 5) (q0 := 0) rfl rfl) rfl rfl hl.1 rfl (lv_room (Nat.le_of_ble_eq_true rfl)) dX3_takesRequests_15 ⟨Nat.le_of_ble_eq_true rfl, Nat.le_of_ble_eq_true rfl⟩) hS (fun q _ h => h.elim) (fun q h => h.elim) (fun r_7 _ t H locs ht hvm hwr_7 hB hz hk hS => ?_)
    have hT : TX E G B R H := hT.kept (fun q hq => hk q hq (fun h => h))
    have hbr_7 : r_7 = 0 ∨ r_7 = 1 := hwr_7.1
    have hp0r_7 : r_7.toInt = 1 ∨ (B (R (R h0 0) 6) 4).toInt ≤ 3 := hwr_7.2.1
    have hCr_7 : C_X5_isFull G B R (R (R h0 0) 6) r_7 := hwr_7.2.2
    have hzr_7 := s_rng hbr_7
    refine lv_if_ne (tgt := 25) hx hb dX3_takesRequests_18 (by decide) (fun c_8 => ?_) (fun c_8 => ?_)
    · simp only [lt_I, le_I, eq_I, i_0, i_1, i_2, i_3, i_4, i_5, i_6, i_7, i_8, i_10, i_12, i_16, i_20, i_23, i_24, i_31, i_32, i_63, i_64, i_m1] at c_8
      refine lv_iconst (v := 0) hx hb dX3_takesRequests_25 (by decide) ?_
      exact W.zret (v := 0) (ty := .boolean) hx hb hr rfl (fun t ht hW9 => ⟨⟨0, (), rfl, ⟨(by decide), (by show (0 : Int32).toInt = 0 ∨ (B (R (R h0 0) 6) 4).toInt ≤ 3; have := i_0; omega), (Or.inr (Or.inl ⟨c_2, r_7, hCr_7, c_8, rfl⟩))⟩, trivial⟩, hS.F ht⟩) hS.2.2 dX3_takesRequests_26
    · simp only [lt_I, le_I, eq_I, i_0, i_1, i_2, i_3, i_4, i_5, i_6, i_7, i_8, i_10, i_12, i_16, i_20, i_23, i_24, i_31, i_32, i_63, i_64, i_m1] at c_8
      refine lv_iconst (v := 1) hx hb dX3_takesRequests_21 (by decide) ?_
      refine lv_goto (tgt := 26) hx hb dX3_takesRequests_22 (by decide) ?_
      exact W.zret (v := 1) (ty := .boolean) hx hb hr rfl (fun t ht hW9 => ⟨⟨1, (), rfl, ⟨(by decide), (by show (1 : Int32).toInt = 0 ∨ (B (R (R h0 0) 6) 4).toInt ≤ 3; have := i_1; omega), (Or.inr (Or.inr ⟨c_2, r_7, hCr_7, c_8, rfl⟩))⟩, trivial⟩, hS.F ht⟩) hS.2.2 dX3_takesRequests_26
theorem dX3_takesReceives_0 : decode cX3_takesReceives 0 = .ok (.aload_n 0, 1) := by decide +kernel
theorem dX3_takesReceives_1 : decode cX3_takesReceives 1 = .ok (.getfield 19, 3) := by decide +kernel
theorem dX3_takesReceives_4 : decode cX3_takesReceives 4 = .ok (.iconst 2, 1) := by decide +kernel
theorem dX3_takesReceives_5 : decode cX3_takesReceives 5 = .ok (.if_icmp .eq 20, 3) := by decide +kernel
theorem dX3_takesReceives_8 : decode cX3_takesReceives 8 = .ok (.aload_n 0, 1) := by decide +kernel
theorem dX3_takesReceives_9 : decode cX3_takesReceives 9 = .ok (.getfield 15, 3) := by decide +kernel
theorem dX3_takesReceives_12 : decode cX3_takesReceives 12 = .ok (.getfield 48, 3) := by decide +kernel
theorem dX3_takesReceives_15 : decode cX3_takesReceives 15 = .ok (.invokevirtual 42, 3) := by decide +kernel
theorem dX3_takesReceives_18 : decode cX3_takesReceives 18 = .ok (.ifCond .ne 7, 3) := by decide +kernel
theorem dX3_takesReceives_21 : decode cX3_takesReceives 21 = .ok (.iconst 1, 1) := by decide +kernel
theorem dX3_takesReceives_22 : decode cX3_takesReceives 22 = .ok (.goto 4, 3) := by decide +kernel
theorem dX3_takesReceives_25 : decode cX3_takesReceives 25 = .ok (.iconst 0, 1) := by decide +kernel
theorem dX3_takesReceives_26 : decode cX3_takesReceives 26 = .ok (.ireturn, 1) := by decide +kernel
set_option maxHeartbeats 8000000 in
set_option maxRecDepth 100000 in
theorem x_X3_takesReceives (l : Launch) (E : EE) (z0 : Nat) (G : Nat → Nat) (hGz : ∀ q, G q ≠ 0 → z0 ≤ q) (B : AA) (R : RR) (hW : TW G B R) (h0 : Nat) (hG : G h0 = 8) : Met l yX3_takesReceives [Cond.code yX3_takesReceives cX3_takesReceives 1 (some .boolean)] ({ frames := 1, cells := 0, slots := 0, locals := 20 } : Room) (va_Pc [.ref h0] (fun U => TX E G B R U.heap ∧ KS E z0 U)) (va_Qi (fun (r : Int32) (u : Unit) => (r = 0 ∨ r = 1) ∧ (r.toInt = 0 ∨ (B (R (R h0 1) 3) 4).toInt ≤ 3) ∧ (C_X3_takesReceives G B R h0 r)) (fun u t => True) (fun _ : Nat => False)) 0 0 (fun _ : Nat => False) := by
  refine Met.ofW (cc := cX3_takesReceives) (maxL := 1) (ret := (some .boolean)) (by decide) rfl ?_
  intro p e s m args below meth c s₁ B9 hml hv
  obtain ⟨rfl, hT, hK⟩ := hv
  have hx := B9.exec
  have hb := B9.bytes
  have hr := B9.returns
  have hts : ∀ w ∈ TS, w.before ([.ref h0] : List Value).toArray s = true := fun w hw => hK.2.1 w hw _
  have hown : s.vm.findClass RX3 = some m.cls := findClass_of_methodNamed B9.named
  have hlocks := B9.notSynchronized
  have hS : va_S (fun _ : Nat => False) s.heap s.heap [] := va_S.rf
  have hAz : ∀ q, (fun _ : Nat => False) q → z0 ≤ q := fun _ h => h.elim
  have hW_0 := hW
  have hl := lv_entry ([.ref h0]) (n := 1) (Nat.le_of_ble_eq_true rfl)
  rw [lg_entry_eq]
  generalize (lg_sl ([.ref h0]) ++ List.replicate (1 - (lg_sl ([.ref h0])).length) Slot.unset).toArray = ls at hl ⊢
  have hl : lv_has ls 1 [(0, .ref h0)] := hl
  refine lv_aload_n hx hb dX3_takesReceives_0 rfl (lv_at hl 0 rfl) ?_
  have ha_1 := tx_8 hT hG
  refine va_get (D := DG E) (ci := 3) (v := .int (B h0 2)) (C := RX3) (T := TX3) (N := 3) hx hb hts iw_X3 hown hK.1 (va_one ha_1) 0 rfl rfl 2 (by decide) (hts _ fl_X3_19) (fun _ h9 => h9) rfl dX3_takesReceives_1 ?_
  refine lv_iconst (v := 2) hx hb dX3_takesReceives_4 (by decide) ?_
  refine lv_icmp_eq (tgt := 25) hx hb dX3_takesReceives_5 (by decide) (fun c_2 => ?_) (fun c_2 => ?_)
  · simp only [lt_I, le_I, eq_I, i_0, i_1, i_2, i_3, i_4, i_5, i_6, i_7, i_8, i_10, i_12, i_16, i_20, i_23, i_24, i_31, i_32, i_63, i_64, i_m1] at c_2
    refine lv_iconst (v := 0) hx hb dX3_takesReceives_25 (by decide) ?_
    exact W.zret (v := 0) (ty := .boolean) hx hb hr rfl (fun t ht hW9 => ⟨⟨0, (), rfl, ⟨(by decide), (by show (0 : Int32).toInt = 0 ∨ (B (R (R h0 1) 3) 4).toInt ≤ 3; have := i_0; omega), (Or.inl ⟨c_2, rfl⟩)⟩, trivial⟩, hS.F ht⟩) hS.2.2 dX3_takesReceives_26
  · simp only [lt_I, le_I, eq_I, i_0, i_1, i_2, i_3, i_4, i_5, i_6, i_7, i_8, i_10, i_12, i_16, i_20, i_23, i_24, i_31, i_32, i_63, i_64, i_m1] at c_2
    refine lv_aload_n hx hb dX3_takesReceives_8 rfl (lv_at hl 0 rfl) ?_
    have hg_3 : G (R h0 1) = 10 := (tw_8 hW hG).2
    refine va_get (D := DG E) (ci := 3) (v := .ref (R h0 1)) (C := RX3) (T := TX3) (N := 3) hx hb hts iw_X3 hown hK.1 (va_one ha_1) 0 rfl rfl 1 (by decide) (hts _ fl_X3_15) (fun _ h9 => h9) rfl dX3_takesReceives_9 ?_
    have ha_4 := tx_10 hT hg_3
    have hg_5 : G (R (R h0 1) 3) = 11 := (tw_10 hW hg_3).2.2.2.1
    refine va_get (D := DG E) (ci := 8) (v := .ref (R (R h0 1) 3)) (C := RX8) (T := TX8) (N := 9) hx hb hts iw_X8 hown hK.1 (va_one ha_4) 0 rfl rfl 3 (by decide) (hts _ fl_X3_48) (fun _ h9 => h9) rfl dX3_takesReceives_12 ?_
    have ha_6 := tx_11 hT hg_5
    refine va_calli (rnV (fun H => TX E G B R H) (As := []) (rest := []) ⟨hx, hb, hml, hown, hts⟩ (x_X5_isFull l E z0 G hGz B R hW (R (R h0 1) 3) hg_5) (cwV 0 hts (gdV ml_X3_42 im_X5_isFull se_X5_X5_isFull in_X5 co_X5_isFull rfl) rfl rfl rfl (by decide +kernel) ⟨Nat.le_of_ble_eq_true rfl, Nat.le_of_ble_eq_true rfl⟩) hT (fun U hU hW => hK.go hW hS hAz hU) (va_recv hK.1 (va_one ha_6) (ci := 5) (q0 := 0) rfl rfl) rfl rfl hl.1 rfl (lv_room (Nat.le_of_ble_eq_true rfl)) dX3_takesReceives_15 ⟨Nat.le_of_ble_eq_true rfl, Nat.le_of_ble_eq_true rfl⟩) hS (fun q _ h => h.elim) (fun q h => h.elim) (fun r_7 _ t H locs ht hvm hwr_7 hB hz hk hS => ?_)
    have hT : TX E G B R H := hT.kept (fun q hq => hk q hq (fun h => h))
    have hbr_7 : r_7 = 0 ∨ r_7 = 1 := hwr_7.1
    have hp0r_7 : r_7.toInt = 1 ∨ (B (R (R h0 1) 3) 4).toInt ≤ 3 := hwr_7.2.1
    have hCr_7 : C_X5_isFull G B R (R (R h0 1) 3) r_7 := hwr_7.2.2
    have hzr_7 := s_rng hbr_7
    refine lv_if_ne (tgt := 25) hx hb dX3_takesReceives_18 (by decide) (fun c_8 => ?_) (fun c_8 => ?_)
    · simp only [lt_I, le_I, eq_I, i_0, i_1, i_2, i_3, i_4, i_5, i_6, i_7, i_8, i_10, i_12, i_16, i_20, i_23, i_24, i_31, i_32, i_63, i_64, i_m1] at c_8
      refine lv_iconst (v := 0) hx hb dX3_takesReceives_25 (by decide) ?_
      exact W.zret (v := 0) (ty := .boolean) hx hb hr rfl (fun t ht hW9 => ⟨⟨0, (), rfl, ⟨(by decide), (by show (0 : Int32).toInt = 0 ∨ (B (R (R h0 1) 3) 4).toInt ≤ 3; have := i_0; omega), (Or.inr (Or.inl ⟨c_2, r_7, hCr_7, c_8, rfl⟩))⟩, trivial⟩, hS.F ht⟩) hS.2.2 dX3_takesReceives_26
    · simp only [lt_I, le_I, eq_I, i_0, i_1, i_2, i_3, i_4, i_5, i_6, i_7, i_8, i_10, i_12, i_16, i_20, i_23, i_24, i_31, i_32, i_63, i_64, i_m1] at c_8
      refine lv_iconst (v := 1) hx hb dX3_takesReceives_21 (by decide) ?_
      refine lv_goto (tgt := 26) hx hb dX3_takesReceives_22 (by decide) ?_
      exact W.zret (v := 1) (ty := .boolean) hx hb hr rfl (fun t ht hW9 => ⟨⟨1, (), rfl, ⟨(by decide), (by show (1 : Int32).toInt = 0 ∨ (B (R (R h0 1) 3) 4).toInt ≤ 3; have := i_1; omega), (Or.inr (Or.inr ⟨c_2, r_7, hCr_7, c_8, rfl⟩))⟩, trivial⟩, hS.F ht⟩) hS.2.2 dX3_takesReceives_26
theorem dX3_fail_0 : decode cX3_fail 0 = .ok (.aload_n 0, 1) := by decide +kernel
theorem dX3_fail_1 : decode cX3_fail 1 = .ok (.iconst 2, 1) := by decide +kernel
theorem dX3_fail_2 : decode cX3_fail 2 = .ok (.putfield 19, 3) := by decide +kernel
theorem dX3_fail_5 : decode cX3_fail 5 = .ok (.aload_n 0, 1) := by decide +kernel
theorem dX3_fail_6 : decode cX3_fail 6 = .ok (.getfield 9, 3) := by decide +kernel
theorem dX3_fail_9 : decode cX3_fail 9 = .ok (.getfield 38, 3) := by decide +kernel
theorem dX3_fail_12 : decode cX3_fail 12 = .ok (.iload_n 1, 1) := by decide +kernel
theorem dX3_fail_13 : decode cX3_fail 13 = .ok (.invokevirtual 84, 3) := by decide +kernel
theorem dX3_fail_16 : decode cX3_fail 16 = .ok (.aload_n 0, 1) := by decide +kernel
theorem dX3_fail_17 : decode cX3_fail 17 = .ok (.getfield 15, 3) := by decide +kernel
theorem dX3_fail_20 : decode cX3_fail 20 = .ok (.iload_n 2, 1) := by decide +kernel
theorem dX3_fail_21 : decode cX3_fail 21 = .ok (.invokevirtual 87, 3) := by decide +kernel
theorem dX3_fail_24 : decode cX3_fail 24 = .ok (.return_, 1) := by decide +kernel
set_option maxHeartbeats 8000000 in
set_option maxRecDepth 100000 in
theorem x_X3_fail (l : Launch) (E : EE) (z0 : Nat) (G : Nat → Nat) (hGz : ∀ q, G q ≠ 0 → z0 ≤ q) (B : AA) (R : RR) (hW : TW G B R) (h0 : Nat) (p0 : Int32) (p1 : Int32) (hG : G h0 = 8) : Met l yX3_fail [Cond.code yX3_fail cX3_fail 3 none] ({ frames := 4, cells := 0, slots := 0, locals := 89 } : Room) (va_Pc [.ref h0, .int p0, .int p1] (fun U => TX E G B R U.heap ∧ KS E z0 U)) (va_Qv (fun (u : AA) => (TW G u R) ∧ (Fr G ([8, 5, 15, 11, 10] : List Nat) B u) ∧ (C_X3_fail G B R h0 p0 p1 u)) (fun u t => TX E G u R t.heap) (fun q : Nat => G q ∈ ([8, 5, 15, 11, 10] : List Nat))) 0 0 (fun q : Nat => G q ∈ ([8, 5, 15, 11, 10] : List Nat)) := by
  refine Met.ofW (cc := cX3_fail) (maxL := 3) (ret := none) (by decide) rfl ?_
  intro p e s m args below meth c s₁ B9 hml hv
  obtain ⟨rfl, hT, hK⟩ := hv
  have hx := B9.exec
  have hb := B9.bytes
  have hr := B9.returns
  have hts : ∀ w ∈ TS, w.before ([.ref h0, .int p0, .int p1] : List Value).toArray s = true := fun w hw => hK.2.1 w hw _
  have hown : s.vm.findClass RX3 = some m.cls := findClass_of_methodNamed B9.named
  have hlocks := B9.notSynchronized
  have hS : va_S (fun q : Nat => G q ∈ ([8, 5, 15, 11, 10] : List Nat)) s.heap s.heap [] := va_S.rf
  have hAz : ∀ q, (fun q : Nat => G q ∈ ([8, 5, 15, 11, 10] : List Nat)) q → z0 ≤ q := zL hGz (by decide)
  have hW_0 := hW
  have hl := lv_entry ([.ref h0, .int p0, .int p1]) (n := 3) (Nat.le_of_ble_eq_true rfl)
  rw [lg_entry_eq]
  generalize (lg_sl ([.ref h0, .int p0, .int p1]) ++ List.replicate (3 - (lg_sl ([.ref h0, .int p0, .int p1])).length) Slot.unset).toArray = ls at hl ⊢
  have hl : lv_has ls 3 [(0, .ref h0), (1, .int p0), (2, .int p1)] := hl
  refine lv_aload_n hx hb dX3_fail_0 rfl (lv_at hl 0 rfl) ?_
  refine lv_iconst (v := 2) hx hb dX3_fail_1 (by decide) ?_
  have ha_1 := tx_8 hT hG
  refine rr_put (D := DG E) (ci := 3) (v := .int 2) (ty := .int) (C := RX3) (T := TX3) (N := 3) hx hb hts iw_X3 tyX3 tyX3_ok nmX3 hown hK.1 ha_1 hS (by show G h0 ∈ ([8, 5, 15, 11, 10] : List Nat); rw [hG]; decide) rfl 2 (by decide) (hts _ fl_X3_19) (fun _ h9 => h9) rfl (by decide +kernel) rfl rfl (Nat.le_of_ble_eq_true rfl) dX3_fail_2 (fun H locs hn ho hz hS => ?_)
  obtain ⟨B_2, eB_2⟩ : ∃ z : AA, z = uA B h0 (upd (B h0) 2 2) := ⟨_, rfl⟩
  have sB_2 : B_2 h0 2 = 2 := by rw [eB_2, uA_s]; exact upd_s
  have nB_2 : ∀ k, k ≠ 2 → B_2 h0 k = B h0 k := fun k hk => by rw [eB_2, uA_s]; exact upd_n hk
  have fB_2 : ∀ c, G c ≠ 8 → B_2 c = B c := fun c hc => by rw [eB_2]; exact uA_n (fun e => hc (by rw [e]; exact hG))
  have hT : TX E G B_2 R H := by rw [eB_2]; exact hT.w (by rw [hG]; exact hn) ho
  have hWB_2 : TW G B_2 R := by rw [eB_2]; exact hW_0.w (by rw [hG]; exact tw_8 hW_0 hG)
  have hW := hWB_2
  refine lv_aload_n hx hb dX3_fail_5 rfl (lv_at hl 0 rfl) ?_
  have ha_3 := tx_8 hT hG
  have hg_4 : G (R h0 0) = 9 := (tw_8 hW hG).1
  refine va_get (D := DG E) (ci := 3) (v := .ref (R h0 0)) (C := RX3) (T := TX3) (N := 3) hx hb hts iw_X3 hown hK.1 (va_one ha_3) 0 rfl rfl 0 (by decide) (hts _ fl_X3_9) (fun _ h9 => h9) rfl dX3_fail_6 ?_
  have ha_5 := tx_9 hT hg_4
  have hg_6 : G (R (R h0 0) 6) = 11 := (tw_9 hW hg_4).2.2.2
  refine va_get (D := DG E) (ci := 7) (v := .ref (R (R h0 0) 6)) (C := RX7) (T := TX7) (N := 14) hx hb hts iw_X7 hown hK.1 (va_one ha_5) 0 rfl rfl 6 (by decide) (hts _ fl_X3_38) (fun _ h9 => h9) rfl dX3_fail_9 ?_
  refine lv_iload_n hx hb dX3_fail_12 rfl (lv_at hl 1 rfl) ?_
  have ha_7 := tx_11 hT hg_6
  refine va_callv (rnV (fun H => TX E G B_2 R H) (As := [.int p0]) (rest := []) ⟨hx, hb, hml, hown, hts⟩ (x_X5_completeAll l E z0 G hGz B_2 R hW (R (R h0 0) 6) p0 hg_6) (cwV 1 hts (gdV ml_X3_84 im_X5_completeAll se_X5_X5_completeAll in_X5 co_X5_completeAll rfl) rfl rfl rfl (by decide +kernel) ⟨Nat.le_of_ble_eq_true rfl, Nat.le_of_ble_eq_true rfl⟩) hT (fun U hU hW => hK.go hW hS hAz hU) (va_recv hK.1 (va_one ha_7) (ci := 5) (q0 := 0) rfl rfl) rfl rfl hl.1 rfl (lv_room (Nat.le_of_ble_eq_true rfl)) dX3_fail_13 ⟨Nat.le_of_ble_eq_true rfl, Nat.le_of_ble_eq_true rfl⟩) hS (fun q _ h => mL (L' := [5, 15, 11]) (L := [8, 5, 15, 11, 10]) (by decide) h) (fun q h => mL (L' := [5, 15, 11]) (L := [8, 5, 15, 11, 10]) (by decide) h) (fun U_9 t H locs ht hvm hwr_8 hB hz hk hS => ?_)
  have hT : TX E G U_9 R H := by rw [ht] at hB; exact hB
  have hWr_8 : TW G U_9 R := hwr_8.1
  have hW := hWr_8
  have hFr_8 : Fr G [5, 15, 11] B_2 U_9 := hwr_8.2.1
  have hCr_8 : C_X5_completeAll G B_2 R (R (R h0 0) 6) p0 U_9 := hwr_8.2.2
  refine lv_aload_n hx hb dX3_fail_16 rfl (lv_at hl 0 rfl) ?_
  have ha_10 := tx_8 hT hG
  have hg_11 : G (R h0 1) = 10 := (tw_8 hW hG).2
  refine va_get (D := DG E) (ci := 3) (v := .ref (R h0 1)) (C := RX3) (T := TX3) (N := 3) hx hb hts iw_X3 hown hK.1 (va_one ha_10) 0 rfl rfl 1 (by decide) (hts _ fl_X3_15) (fun _ h9 => h9) rfl dX3_fail_17 ?_
  refine lv_iload_n hx hb dX3_fail_20 rfl (lv_at hl 2 rfl) ?_
  have ha_12 := tx_10 hT hg_11
  refine va_callv (rnV (fun H => TX E G U_9 R H) (As := [.int p1]) (rest := []) ⟨hx, hb, hml, hown, hts⟩ (x_X8_completeAll l E z0 G hGz U_9 R hW (R h0 1) p1 hg_11) (cwV 1 hts (gdV ml_X3_87 im_X8_completeAll se_X8_X8_completeAll in_X8 co_X8_completeAll rfl) rfl rfl rfl (by decide +kernel) ⟨Nat.le_of_ble_eq_true rfl, Nat.le_of_ble_eq_true rfl⟩) hT (fun U hU hW => hK.go hW hS hAz hU) (va_recv hK.1 (va_one ha_12) (ci := 8) (q0 := 0) rfl rfl) rfl rfl hl.1 rfl (lv_room (Nat.le_of_ble_eq_true rfl)) dX3_fail_21 ⟨Nat.le_of_ble_eq_true rfl, Nat.le_of_ble_eq_true rfl⟩) hS (fun q _ h => mL (L' := [5, 15, 11, 10]) (L := [8, 5, 15, 11, 10]) (by decide) h) (fun q h => mL (L' := [5, 15, 11, 10]) (L := [8, 5, 15, 11, 10]) (by decide) h) (fun U_14 t H locs ht hvm hwr_13 hB hz hk hS => ?_)
  have hT : TX E G U_14 R H := by rw [ht] at hB; exact hB
  have hWr_13 : TW G U_14 R := hwr_13.1
  have hW := hWr_13
  have hFr_13 : Fr G [5, 15, 11, 10] U_9 U_14 := hwr_13.2.1
  have hCr_13 : C_X8_completeAll G U_9 R (R h0 1) p1 U_14 := hwr_13.2.2
  exact W.vret hx hb hr (fun t ht hW9 => ⟨⟨U_14, rfl, ⟨hW, (Fr.c (Fr.c (Fr.w Fr.rf hG (by decide) eB_2) hFr_8 (by decide)) hFr_13 (by decide)), ⟨B_2, eB_2, U_9, hFr_8, hCr_8, U_14, hFr_13, hCr_13, rfl⟩⟩, (by show TX E G U_14 R t.heap; rw [ht]; exact hT)⟩, hS.F ht⟩) hS.2.2 dX3_fail_24
theorem dX3_failsByTime_0 : decode cX3_failsByTime 0 = .ok (.aload_n 0, 1) := by decide +kernel
theorem dX3_failsByTime_1 : decode cX3_failsByTime 1 = .ok (.getfield 19, 3) := by decide +kernel
theorem dX3_failsByTime_4 : decode cX3_failsByTime 4 = .ok (.iconst 1, 1) := by decide +kernel
theorem dX3_failsByTime_5 : decode cX3_failsByTime 5 = .ok (.if_icmp .ne 13, 3) := by decide +kernel
theorem dX3_failsByTime_8 : decode cX3_failsByTime 8 = .ok (.aload_n 0, 1) := by decide +kernel
theorem dX3_failsByTime_9 : decode cX3_failsByTime 9 = .ok (.getfield 9, 3) := by decide +kernel
theorem dX3_failsByTime_12 : decode cX3_failsByTime 12 = .ok (.invokevirtual 81, 3) := by decide +kernel
theorem dX3_failsByTime_15 : decode cX3_failsByTime 15 = .ok (.ifCond .ne 5, 3) := by decide +kernel
theorem dX3_failsByTime_18 : decode cX3_failsByTime 18 = .ok (.iconst 0, 1) := by decide +kernel
theorem dX3_failsByTime_19 : decode cX3_failsByTime 19 = .ok (.ireturn, 1) := by decide +kernel
theorem dX3_failsByTime_20 : decode cX3_failsByTime 20 = .ok (.aload_n 0, 1) := by decide +kernel
theorem dX3_failsByTime_21 : decode cX3_failsByTime 21 = .ok (.iconst 1, 1) := by decide +kernel
theorem dX3_failsByTime_22 : decode cX3_failsByTime 22 = .ok (.iconst 5, 1) := by decide +kernel
theorem dX3_failsByTime_23 : decode cX3_failsByTime 23 = .ok (.invokevirtual 60, 3) := by decide +kernel
theorem dX3_failsByTime_26 : decode cX3_failsByTime 26 = .ok (.iconst 1, 1) := by decide +kernel
theorem dX3_failsByTime_27 : decode cX3_failsByTime 27 = .ok (.ireturn, 1) := by decide +kernel
set_option maxHeartbeats 8000000 in
set_option maxRecDepth 100000 in
theorem x_X3_failsByTime (l : Launch) (E : EE) (z0 : Nat) (G : Nat → Nat) (hGz : ∀ q, G q ≠ 0 → z0 ≤ q) (B : AA) (R : RR) (hW : TW G B R) (h0 : Nat) (hG : G h0 = 8) : Met l yX3_failsByTime [Cond.code yX3_failsByTime cX3_failsByTime 1 (some .boolean)] ({ frames := 5, cells := 0, slots := 0, locals := 111 } : Room) (va_Pc [.ref h0] (fun U => TX E G B R U.heap ∧ KS E z0 U)) (va_Qi (fun (r : Int32) (u : AA) => (TW G u R) ∧ (Fr G ([8, 5, 15, 11, 10, 9] : List Nat) B u) ∧ (r = 0 ∨ r = 1) ∧ (C_X3_failsByTime G B R h0 u r)) (fun u t => TX E G u R t.heap) (fun q : Nat => G q ∈ ([8, 5, 15, 11, 10, 9] : List Nat))) 0 0 (fun q : Nat => G q ∈ ([8, 5, 15, 11, 10, 9] : List Nat)) := by
  refine Met.ofW (cc := cX3_failsByTime) (maxL := 1) (ret := (some .boolean)) (by decide) rfl ?_
  intro p e s m args below meth c s₁ B9 hml hv
  obtain ⟨rfl, hT, hK⟩ := hv
  have hx := B9.exec
  have hb := B9.bytes
  have hr := B9.returns
  have hts : ∀ w ∈ TS, w.before ([.ref h0] : List Value).toArray s = true := fun w hw => hK.2.1 w hw _
  have hown : s.vm.findClass RX3 = some m.cls := findClass_of_methodNamed B9.named
  have hlocks := B9.notSynchronized
  have hS : va_S (fun q : Nat => G q ∈ ([8, 5, 15, 11, 10, 9] : List Nat)) s.heap s.heap [] := va_S.rf
  have hAz : ∀ q, (fun q : Nat => G q ∈ ([8, 5, 15, 11, 10, 9] : List Nat)) q → z0 ≤ q := zL hGz (by decide)
  have hW_0 := hW
  have hl := lv_entry ([.ref h0]) (n := 1) (Nat.le_of_ble_eq_true rfl)
  rw [lg_entry_eq]
  generalize (lg_sl ([.ref h0]) ++ List.replicate (1 - (lg_sl ([.ref h0])).length) Slot.unset).toArray = ls at hl ⊢
  have hl : lv_has ls 1 [(0, .ref h0)] := hl
  refine lv_aload_n hx hb dX3_failsByTime_0 rfl (lv_at hl 0 rfl) ?_
  have ha_1 := tx_8 hT hG
  refine va_get (D := DG E) (ci := 3) (v := .int (B h0 2)) (C := RX3) (T := TX3) (N := 3) hx hb hts iw_X3 hown hK.1 (va_one ha_1) 0 rfl rfl 2 (by decide) (hts _ fl_X3_19) (fun _ h9 => h9) rfl dX3_failsByTime_1 ?_
  refine lv_iconst (v := 1) hx hb dX3_failsByTime_4 (by decide) ?_
  refine lv_icmp_ne (tgt := 18) hx hb dX3_failsByTime_5 (by decide) (fun c_2 => ?_) (fun c_2 => ?_)
  · simp only [lt_I, le_I, eq_I, i_0, i_1, i_2, i_3, i_4, i_5, i_6, i_7, i_8, i_10, i_12, i_16, i_20, i_23, i_24, i_31, i_32, i_63, i_64, i_m1] at c_2
    refine lv_iconst (v := 0) hx hb dX3_failsByTime_18 (by decide) ?_
    exact W.zret (v := 0) (ty := .boolean) hx hb hr rfl (fun t ht hW9 => ⟨⟨0, B, rfl, ⟨hW, Fr.rf, (by decide), (Or.inl ⟨c_2, rfl, rfl⟩)⟩, (by show TX E G B R t.heap; rw [ht]; exact hT)⟩, hS.F ht⟩) hS.2.2 dX3_failsByTime_19
  · simp only [lt_I, le_I, eq_I, i_0, i_1, i_2, i_3, i_4, i_5, i_6, i_7, i_8, i_10, i_12, i_16, i_20, i_23, i_24, i_31, i_32, i_63, i_64, i_m1] at c_2
    refine lv_aload_n hx hb dX3_failsByTime_8 rfl (lv_at hl 0 rfl) ?_
    have hg_3 : G (R h0 0) = 9 := (tw_8 hW hG).1
    refine va_get (D := DG E) (ci := 3) (v := .ref (R h0 0)) (C := RX3) (T := TX3) (N := 3) hx hb hts iw_X3 hown hK.1 (va_one ha_1) 0 rfl rfl 0 (by decide) (hts _ fl_X3_9) (fun _ h9 => h9) rfl dX3_failsByTime_9 ?_
    have ha_4 := tx_9 hT hg_3
    refine va_calli (rnV (fun H => TX E G B R H) (As := []) (rest := []) ⟨hx, hb, hml, hown, hts⟩ (x_X7_waitsTooLong l E z0 G hGz B R hW (R h0 0) hg_3) (cwV 0 hts (gdV ml_X3_81 im_X7_waitsTooLong se_X7_X7_waitsTooLong in_X7 co_X7_waitsTooLong rfl) rfl rfl rfl (by decide +kernel) ⟨Nat.le_of_ble_eq_true rfl, Nat.le_of_ble_eq_true rfl⟩) hT (fun U hU hW => hK.go hW hS hAz hU) (va_recv hK.1 (va_one ha_4) (ci := 7) (q0 := 0) rfl rfl) rfl rfl hl.1 rfl (lv_room (Nat.le_of_ble_eq_true rfl)) dX3_failsByTime_12 ⟨Nat.le_of_ble_eq_true rfl, Nat.le_of_ble_eq_true rfl⟩) hS (fun q _ h => mL (L' := [9]) (L := [8, 5, 15, 11, 10, 9]) (by decide) h) (fun q h => mL (L' := [9]) (L := [8, 5, 15, 11, 10, 9]) (by decide) h) (fun r_5 U_6 t H locs ht hvm hwr_5 hB hz hk hS => ?_)
    have hT : TX E G U_6 R H := by rw [ht] at hB; exact hB
    have hWr_5 : TW G U_6 R := hwr_5.1
    have hW := hWr_5
    have hFr_5 : Fr G [9] B U_6 := hwr_5.2.1
    have hbr_5 : r_5 = 0 ∨ r_5 = 1 := hwr_5.2.2.1
    have hCr_5 : C_X7_waitsTooLong G B R (R h0 0) U_6 r_5 := hwr_5.2.2.2
    have hzr_5 := s_rng hbr_5
    refine lv_if_ne (tgt := 20) hx hb dX3_failsByTime_15 (by decide) (fun c_7 => ?_) (fun c_7 => ?_)
    · simp only [lt_I, le_I, eq_I, i_0, i_1, i_2, i_3, i_4, i_5, i_6, i_7, i_8, i_10, i_12, i_16, i_20, i_23, i_24, i_31, i_32, i_63, i_64, i_m1] at c_7
      refine lv_aload_n hx hb dX3_failsByTime_20 rfl (lv_at hl 0 rfl) ?_
      refine lv_iconst (v := 1) hx hb dX3_failsByTime_21 (by decide) ?_
      refine lv_iconst (v := 5) hx hb dX3_failsByTime_22 (by decide) ?_
      have ha_8 := tx_8 hT hG
      refine va_callv (rnV (fun H => TX E G U_6 R H) (As := [.int 1, .int 5]) (rest := []) ⟨hx, hb, hml, hown, hts⟩ (x_X3_fail l E z0 G hGz U_6 R hW h0 (1 : Int32) (5 : Int32) hG) (cwV 2 hts (gdV ml_X3_60 im_X3_fail se_X3_X3_fail in_X3 co_X3_fail rfl) rfl rfl rfl (by decide +kernel) ⟨Nat.le_of_ble_eq_true rfl, Nat.le_of_ble_eq_true rfl⟩) hT (fun U hU hW => hK.go hW hS hAz hU) (va_recv hK.1 (va_one ha_8) (ci := 3) (q0 := 0) rfl rfl) rfl rfl hl.1 rfl (lv_room (Nat.le_of_ble_eq_true rfl)) dX3_failsByTime_23 ⟨Nat.le_of_ble_eq_true rfl, Nat.le_of_ble_eq_true rfl⟩) hS (fun q _ h => mL (L' := [8, 5, 15, 11, 10]) (L := [8, 5, 15, 11, 10, 9]) (by decide) h) (fun q h => mL (L' := [8, 5, 15, 11, 10]) (L := [8, 5, 15, 11, 10, 9]) (by decide) h) (fun U_10 t H locs ht hvm hwr_9 hB hz hk hS => ?_)
      have hT : TX E G U_10 R H := by rw [ht] at hB; exact hB
      have hWr_9 : TW G U_10 R := hwr_9.1
      have hW := hWr_9
      have hFr_9 : Fr G [8, 5, 15, 11, 10] U_6 U_10 := hwr_9.2.1
      have hCr_9 : C_X3_fail G U_6 R h0 (1 : Int32) (5 : Int32) U_10 := hwr_9.2.2
      refine lv_iconst (v := 1) hx hb dX3_failsByTime_26 (by decide) ?_
      exact W.zret (v := 1) (ty := .boolean) hx hb hr rfl (fun t ht hW9 => ⟨⟨1, U_10, rfl, ⟨hW, (Fr.c (Fr.c Fr.rf hFr_5 (by decide)) hFr_9 (by decide)), (by decide), (Or.inr (Or.inl ⟨c_2, r_5, U_6, hFr_5, hCr_5, c_7, U_10, hFr_9, hCr_9, rfl, rfl⟩))⟩, (by show TX E G U_10 R t.heap; rw [ht]; exact hT)⟩, hS.F ht⟩) hS.2.2 dX3_failsByTime_27
    · simp only [lt_I, le_I, eq_I, i_0, i_1, i_2, i_3, i_4, i_5, i_6, i_7, i_8, i_10, i_12, i_16, i_20, i_23, i_24, i_31, i_32, i_63, i_64, i_m1] at c_7
      refine lv_iconst (v := 0) hx hb dX3_failsByTime_18 (by decide) ?_
      exact W.zret (v := 0) (ty := .boolean) hx hb hr rfl (fun t ht hW9 => ⟨⟨0, U_6, rfl, ⟨hW, (Fr.c Fr.rf hFr_5 (by decide)), (by decide), (Or.inr (Or.inr ⟨c_2, r_5, U_6, hFr_5, hCr_5, c_7, rfl, rfl⟩))⟩, (by show TX E G U_6 R t.heap; rw [ht]; exact hT)⟩, hS.F ht⟩) hS.2.2 dX3_failsByTime_19
theorem dX3_takeIn_0 : decode cX3_takeIn 0 = .ok (.aload_n 0, 1) := by decide +kernel
theorem dX3_takeIn_1 : decode cX3_takeIn 1 = .ok (.getfield 19, 3) := by decide +kernel
theorem dX3_takeIn_4 : decode cX3_takeIn 4 = .ok (.iconst 1, 1) := by decide +kernel
theorem dX3_takeIn_5 : decode cX3_takeIn 5 = .ok (.if_icmp .eq 4, 3) := by decide +kernel
theorem dX3_takeIn_8 : decode cX3_takeIn 8 = .ok (.return_, 1) := by decide +kernel
theorem dX3_takeIn_9 : decode cX3_takeIn 9 = .ok (.aload_n 1, 1) := by decide +kernel
theorem dX3_takeIn_10 : decode cX3_takeIn 10 = .ok (.getfield 51, 3) := by decide +kernel
theorem dX3_takeIn_13 : decode cX3_takeIn 13 = .ok (.iconst 3, 1) := by decide +kernel
theorem dX3_takeIn_14 : decode cX3_takeIn 14 = .ok (.if_icmp .gt 25, 3) := by decide +kernel
theorem dX3_takeIn_17 : decode cX3_takeIn 17 = .ok (.aload_n 0, 1) := by decide +kernel
theorem dX3_takeIn_18 : decode cX3_takeIn 18 = .ok (.getfield 15, 3) := by decide +kernel
theorem dX3_takeIn_21 : decode cX3_takeIn 21 = .ok (.aload_n 1, 1) := by decide +kernel
theorem dX3_takeIn_22 : decode cX3_takeIn 22 = .ok (.invokevirtual 56, 3) := by decide +kernel
theorem dX3_takeIn_25 : decode cX3_takeIn 25 = .ok (.istore_n 2, 1) := by decide +kernel
theorem dX3_takeIn_26 : decode cX3_takeIn 26 = .ok (.iload_n 2, 1) := by decide +kernel
theorem dX3_takeIn_27 : decode cX3_takeIn 27 = .ok (.ifCond .eq 9, 3) := by decide +kernel
theorem dX3_takeIn_30 : decode cX3_takeIn 30 = .ok (.aload_n 0, 1) := by decide +kernel
theorem dX3_takeIn_31 : decode cX3_takeIn 31 = .ok (.iconst 5, 1) := by decide +kernel
theorem dX3_takeIn_32 : decode cX3_takeIn 32 = .ok (.iload_n 2, 1) := by decide +kernel
theorem dX3_takeIn_33 : decode cX3_takeIn 33 = .ok (.invokevirtual 60, 3) := by decide +kernel
theorem dX3_takeIn_36 : decode cX3_takeIn 36 = .ok (.goto 71, 3) := by decide +kernel
theorem dX3_takeIn_39 : decode cX3_takeIn 39 = .ok (.aload_n 1, 1) := by decide +kernel
theorem dX3_takeIn_40 : decode cX3_takeIn 40 = .ok (.getfield 51, 3) := by decide +kernel
theorem dX3_takeIn_43 : decode cX3_takeIn 43 = .ok (.bipush 6, 2) := by decide +kernel
theorem dX3_takeIn_45 : decode cX3_takeIn 45 = .ok (.if_icmp .ne 32, 3) := by decide +kernel
theorem dX3_takeIn_48 : decode cX3_takeIn 48 = .ok (.aload_n 0, 1) := by decide +kernel
theorem dX3_takeIn_49 : decode cX3_takeIn 49 = .ok (.getfield 9, 3) := by decide +kernel
theorem dX3_takeIn_52 : decode cX3_takeIn 52 = .ok (.aload_n 1, 1) := by decide +kernel
theorem dX3_takeIn_53 : decode cX3_takeIn 53 = .ok (.getfield 64, 3) := by decide +kernel
theorem dX3_takeIn_56 : decode cX3_takeIn 56 = .ok (.aload_n 1, 1) := by decide +kernel
theorem dX3_takeIn_57 : decode cX3_takeIn 57 = .ok (.getfield 67, 3) := by decide +kernel
theorem dX3_takeIn_60 : decode cX3_takeIn 60 = .ok (.invokevirtual 70, 3) := by decide +kernel
theorem dX3_takeIn_63 : decode cX3_takeIn 63 = .ok (.istore_n 2, 1) := by decide +kernel
theorem dX3_takeIn_64 : decode cX3_takeIn 64 = .ok (.iload_n 2, 1) := by decide +kernel
theorem dX3_takeIn_65 : decode cX3_takeIn 65 = .ok (.ifCond .eq 9, 3) := by decide +kernel
theorem dX3_takeIn_68 : decode cX3_takeIn 68 = .ok (.aload_n 0, 1) := by decide +kernel
theorem dX3_takeIn_69 : decode cX3_takeIn 69 = .ok (.iload_n 2, 1) := by decide +kernel
theorem dX3_takeIn_70 : decode cX3_takeIn 70 = .ok (.iconst 5, 1) := by decide +kernel
theorem dX3_takeIn_71 : decode cX3_takeIn 71 = .ok (.invokevirtual 60, 3) := by decide +kernel
theorem dX3_takeIn_74 : decode cX3_takeIn 74 = .ok (.goto 33, 3) := by decide +kernel
theorem dX3_takeIn_77 : decode cX3_takeIn 77 = .ok (.aload_n 1, 1) := by decide +kernel
theorem dX3_takeIn_78 : decode cX3_takeIn 78 = .ok (.getfield 51, 3) := by decide +kernel
theorem dX3_takeIn_81 : decode cX3_takeIn 81 = .ok (.iconst 5, 1) := by decide +kernel
theorem dX3_takeIn_82 : decode cX3_takeIn 82 = .ok (.if_icmp .ne 17, 3) := by decide +kernel
theorem dX3_takeIn_85 : decode cX3_takeIn 85 = .ok (.aload_n 0, 1) := by decide +kernel
theorem dX3_takeIn_86 : decode cX3_takeIn 86 = .ok (.getfield 9, 3) := by decide +kernel
theorem dX3_takeIn_89 : decode cX3_takeIn 89 = .ok (.aload_n 1, 1) := by decide +kernel
theorem dX3_takeIn_90 : decode cX3_takeIn 90 = .ok (.getfield 64, 3) := by decide +kernel
theorem dX3_takeIn_93 : decode cX3_takeIn 93 = .ok (.invokevirtual 74, 3) := by decide +kernel
theorem dX3_takeIn_96 : decode cX3_takeIn 96 = .ok (.goto 11, 3) := by decide +kernel
theorem dX3_takeIn_99 : decode cX3_takeIn 99 = .ok (.aload_n 0, 1) := by decide +kernel
theorem dX3_takeIn_100 : decode cX3_takeIn 100 = .ok (.getfield 9, 3) := by decide +kernel
theorem dX3_takeIn_103 : decode cX3_takeIn 103 = .ok (.aload_n 1, 1) := by decide +kernel
theorem dX3_takeIn_104 : decode cX3_takeIn 104 = .ok (.invokevirtual 77, 3) := by decide +kernel
theorem dX3_takeIn_107 : decode cX3_takeIn 107 = .ok (.return_, 1) := by decide +kernel
set_option maxHeartbeats 8000000 in
set_option maxRecDepth 100000 in
theorem x_X3_takeIn (l : Launch) (E : EE) (z0 : Nat) (G : Nat → Nat) (hGz : ∀ q, G q ≠ 0 → z0 ≤ q) (B : AA) (R : RR) (hW : TW G B R) (h0 : Nat) (p0 : Nat) (hG : G h0 = 8) (hG0 : G p0 = 31) : Met l yX3_takeIn [Cond.code yX3_takeIn cX3_takeIn 3 none] ({ frames := 6, cells := 0, slots := 0, locals := 132 } : Room) (va_Pc [.ref h0, .ref p0] (fun U => TX E G B R U.heap ∧ KS E z0 U)) (va_Qv (fun (u : AA) => (TW G u R) ∧ (Fr G ([8, 9, 10, 4, 31, 32, 14, 13, 5, 15, 11, 16, 17] : List Nat) B u) ∧ (C_X3_takeIn G B R h0 p0 u)) (fun u t => TX E G u R t.heap) (fun q : Nat => G q ∈ ([8, 9, 10, 4, 31, 32, 14, 13, 5, 15, 11, 16, 17] : List Nat))) 0 0 (fun q : Nat => G q ∈ ([8, 9, 10, 4, 31, 32, 14, 13, 5, 15, 11, 16, 17] : List Nat)) := by
  refine Met.ofW (cc := cX3_takeIn) (maxL := 3) (ret := none) (by decide) rfl ?_
  intro p e s m args below meth c s₁ B9 hml hv
  obtain ⟨rfl, hT, hK⟩ := hv
  have hx := B9.exec
  have hb := B9.bytes
  have hr := B9.returns
  have hts : ∀ w ∈ TS, w.before ([.ref h0, .ref p0] : List Value).toArray s = true := fun w hw => hK.2.1 w hw _
  have hown : s.vm.findClass RX3 = some m.cls := findClass_of_methodNamed B9.named
  have hlocks := B9.notSynchronized
  have hS : va_S (fun q : Nat => G q ∈ ([8, 9, 10, 4, 31, 32, 14, 13, 5, 15, 11, 16, 17] : List Nat)) s.heap s.heap [] := va_S.rf
  have hAz : ∀ q, (fun q : Nat => G q ∈ ([8, 9, 10, 4, 31, 32, 14, 13, 5, 15, 11, 16, 17] : List Nat)) q → z0 ≤ q := zL hGz (by decide)
  have hW_0 := hW
  have hl := lv_entry ([.ref h0, .ref p0]) (n := 3) (Nat.le_of_ble_eq_true rfl)
  rw [lg_entry_eq]
  generalize (lg_sl ([.ref h0, .ref p0]) ++ List.replicate (3 - (lg_sl ([.ref h0, .ref p0])).length) Slot.unset).toArray = ls at hl ⊢
  have hl : lv_has ls 3 [(0, .ref h0), (1, .ref p0)] := hl
  refine lv_aload_n hx hb dX3_takeIn_0 rfl (lv_at hl 0 rfl) ?_
  have ha_1 := tx_8 hT hG
  refine va_get (D := DG E) (ci := 3) (v := .int (B h0 2)) (C := RX3) (T := TX3) (N := 3) hx hb hts iw_X3 hown hK.1 (va_one ha_1) 0 rfl rfl 2 (by decide) (hts _ fl_X3_19) (fun _ h9 => h9) rfl dX3_takeIn_1 ?_
  refine lv_iconst (v := 1) hx hb dX3_takeIn_4 (by decide) ?_
  refine lv_icmp_eq (tgt := 9) hx hb dX3_takeIn_5 (by decide) (fun c_2 => ?_) (fun c_2 => ?_)
  · simp only [lt_I, le_I, eq_I, i_0, i_1, i_2, i_3, i_4, i_5, i_6, i_7, i_8, i_10, i_12, i_16, i_20, i_23, i_24, i_31, i_32, i_63, i_64, i_m1] at c_2
    refine lv_aload_n hx hb dX3_takeIn_9 rfl (lv_at hl 1 rfl) ?_
    have ha_3 := tx_31 hT hG0
    refine va_get (D := DG E) (ci := 2) (v := .int (B p0 1)) (C := RX2) (T := TX2) (N := 8) hx hb hts iw_X2 hown hK.1 (va_one ha_3) 0 rfl rfl 1 (by decide) (hts _ fl_X3_51) (fun _ h9 => h9) rfl dX3_takeIn_10 ?_
    refine lv_iconst (v := 3) hx hb dX3_takeIn_13 (by decide) ?_
    refine lv_icmp_gt (tgt := 39) hx hb dX3_takeIn_14 (by decide) (fun c_4 => ?_) (fun c_4 => ?_)
    · simp only [lt_I, le_I, eq_I, i_0, i_1, i_2, i_3, i_4, i_5, i_6, i_7, i_8, i_10, i_12, i_16, i_20, i_23, i_24, i_31, i_32, i_63, i_64, i_m1] at c_4
      refine lv_aload_n hx hb dX3_takeIn_39 rfl (lv_at hl 1 rfl) ?_
      refine va_get (D := DG E) (ci := 2) (v := .int (B p0 1)) (C := RX2) (T := TX2) (N := 8) hx hb hts iw_X2 hown hK.1 (va_one ha_3) 0 rfl rfl 1 (by decide) (hts _ fl_X3_51) (fun _ h9 => h9) rfl dX3_takeIn_40 ?_
      refine lv_bipush (v := 6) hx hb dX3_takeIn_43 (by decide) ?_
      refine lv_icmp_ne (tgt := 77) hx hb dX3_takeIn_45 (by decide) (fun c_5 => ?_) (fun c_5 => ?_)
      · simp only [lt_I, le_I, eq_I, i_0, i_1, i_2, i_3, i_4, i_5, i_6, i_7, i_8, i_10, i_12, i_16, i_20, i_23, i_24, i_31, i_32, i_63, i_64, i_m1] at c_5
        refine lv_aload_n hx hb dX3_takeIn_77 rfl (lv_at hl 1 rfl) ?_
        refine va_get (D := DG E) (ci := 2) (v := .int (B p0 1)) (C := RX2) (T := TX2) (N := 8) hx hb hts iw_X2 hown hK.1 (va_one ha_3) 0 rfl rfl 1 (by decide) (hts _ fl_X3_51) (fun _ h9 => h9) rfl dX3_takeIn_78 ?_
        refine lv_iconst (v := 5) hx hb dX3_takeIn_81 (by decide) ?_
        refine lv_icmp_ne (tgt := 99) hx hb dX3_takeIn_82 (by decide) (fun c_6 => ?_) (fun c_6 => ?_)
        · simp only [lt_I, le_I, eq_I, i_0, i_1, i_2, i_3, i_4, i_5, i_6, i_7, i_8, i_10, i_12, i_16, i_20, i_23, i_24, i_31, i_32, i_63, i_64, i_m1] at c_6
          refine lv_aload_n hx hb dX3_takeIn_99 rfl (lv_at hl 0 rfl) ?_
          have hg_7 : G (R h0 0) = 9 := (tw_8 hW hG).1
          refine va_get (D := DG E) (ci := 3) (v := .ref (R h0 0)) (C := RX3) (T := TX3) (N := 3) hx hb hts iw_X3 hown hK.1 (va_one ha_1) 0 rfl rfl 0 (by decide) (hts _ fl_X3_9) (fun _ h9 => h9) rfl dX3_takeIn_100 ?_
          refine lv_aload_n hx hb dX3_takeIn_103 rfl (lv_at hl 1 rfl) ?_
          have ha_8 := tx_9 hT hg_7
          refine va_callv (rnV (fun H => TX E G B R H) (As := [.ref p0]) (rest := []) ⟨hx, hb, hml, hown, hts⟩ (x_X7_takeReply l E z0 G hGz B R hW (R h0 0) p0 hg_7 hG0) (cwV 1 hts (gdV ml_X3_77 im_X7_takeReply se_X7_X7_takeReply in_X7 co_X7_takeReply rfl) rfl rfl rfl (by decide +kernel) ⟨Nat.le_of_ble_eq_true rfl, Nat.le_of_ble_eq_true rfl⟩) hT (fun U hU hW => hK.go hW hS hAz hU) (va_recv hK.1 (va_one ha_8) (ci := 7) (q0 := 0) rfl rfl) rfl rfl hl.1 rfl (lv_room (Nat.le_of_ble_eq_true rfl)) dX3_takeIn_104 ⟨Nat.le_of_ble_eq_true rfl, Nat.le_of_ble_eq_true rfl⟩) hS (fun q _ h => mL (L' := [14, 9, 11, 5, 15]) (L := [8, 9, 10, 4, 31, 32, 14, 13, 5, 15, 11, 16, 17]) (by decide) h) (fun q h => mL (L' := [14, 9, 11, 5, 15]) (L := [8, 9, 10, 4, 31, 32, 14, 13, 5, 15, 11, 16, 17]) (by decide) h) (fun U_10 t H locs ht hvm hwr_9 hB hz hk hS => ?_)
          have hT : TX E G U_10 R H := by rw [ht] at hB; exact hB
          have hWr_9 : TW G U_10 R := hwr_9.1
          have hW := hWr_9
          have hFr_9 : Fr G [14, 9, 11, 5, 15] B U_10 := hwr_9.2.1
          have hCr_9 : C_X7_takeReply G B R (R h0 0) p0 U_10 := hwr_9.2.2
          exact W.vret hx hb hr (fun t ht hW9 => ⟨⟨U_10, rfl, ⟨hW, (Fr.c Fr.rf hFr_9 (by decide)), (Or.inl ⟨c_2, c_4, c_5, c_6, U_10, hFr_9, hCr_9, rfl⟩)⟩, (by show TX E G U_10 R t.heap; rw [ht]; exact hT)⟩, hS.F ht⟩) hS.2.2 dX3_takeIn_107
        · simp only [lt_I, le_I, eq_I, i_0, i_1, i_2, i_3, i_4, i_5, i_6, i_7, i_8, i_10, i_12, i_16, i_20, i_23, i_24, i_31, i_32, i_63, i_64, i_m1] at c_6
          refine lv_aload_n hx hb dX3_takeIn_85 rfl (lv_at hl 0 rfl) ?_
          have hg_11 : G (R h0 0) = 9 := (tw_8 hW hG).1
          refine va_get (D := DG E) (ci := 3) (v := .ref (R h0 0)) (C := RX3) (T := TX3) (N := 3) hx hb hts iw_X3 hown hK.1 (va_one ha_1) 0 rfl rfl 0 (by decide) (hts _ fl_X3_9) (fun _ h9 => h9) rfl dX3_takeIn_86 ?_
          refine lv_aload_n hx hb dX3_takeIn_89 rfl (lv_at hl 1 rfl) ?_
          refine va_get (D := DG E) (ci := 2) (v := .int (B p0 2)) (C := RX2) (T := TX2) (N := 8) hx hb hts iw_X2 hown hK.1 (va_one ha_3) 0 rfl rfl 2 (by decide) (hts _ fl_X3_64) (fun _ h9 => h9) rfl dX3_takeIn_90 ?_
          have ha_12 := tx_9 hT hg_11
          refine va_callv (rnV (fun H => TX E G B R H) (As := [.int (B p0 2)]) (rest := []) ⟨hx, hb, hml, hown, hts⟩ (x_X7_takeAck l E z0 G hGz B R hW (R h0 0) (B p0 2) hg_11) (cwV 1 hts (gdV ml_X3_74 im_X7_takeAck se_X7_X7_takeAck in_X7 co_X7_takeAck rfl) rfl rfl rfl (by decide +kernel) ⟨Nat.le_of_ble_eq_true rfl, Nat.le_of_ble_eq_true rfl⟩) hT (fun U hU hW => hK.go hW hS hAz hU) (va_recv hK.1 (va_one ha_12) (ci := 7) (q0 := 0) rfl rfl) rfl rfl hl.1 rfl (lv_room (Nat.le_of_ble_eq_true rfl)) dX3_takeIn_93 ⟨Nat.le_of_ble_eq_true rfl, Nat.le_of_ble_eq_true rfl⟩) hS (fun q _ h => mL (L' := [9, 11, 5, 15]) (L := [8, 9, 10, 4, 31, 32, 14, 13, 5, 15, 11, 16, 17]) (by decide) h) (fun q h => mL (L' := [9, 11, 5, 15]) (L := [8, 9, 10, 4, 31, 32, 14, 13, 5, 15, 11, 16, 17]) (by decide) h) (fun U_14 t H locs ht hvm hwr_13 hB hz hk hS => ?_)
          have hT : TX E G U_14 R H := by rw [ht] at hB; exact hB
          have hWr_13 : TW G U_14 R := hwr_13.1
          have hW := hWr_13
          have hFr_13 : Fr G [9, 11, 5, 15] B U_14 := hwr_13.2.1
          have hCr_13 : C_X7_takeAck G B R (R h0 0) (B p0 2) U_14 := hwr_13.2.2
          refine lv_goto (tgt := 107) hx hb dX3_takeIn_96 (by decide) ?_
          exact W.vret hx hb hr (fun t ht hW9 => ⟨⟨U_14, rfl, ⟨hW, (Fr.c Fr.rf hFr_13 (by decide)), (Or.inr (Or.inl ⟨c_2, c_4, c_5, c_6, U_14, hFr_13, hCr_13, rfl⟩))⟩, (by show TX E G U_14 R t.heap; rw [ht]; exact hT)⟩, hS.F ht⟩) hS.2.2 dX3_takeIn_107
      · simp only [lt_I, le_I, eq_I, i_0, i_1, i_2, i_3, i_4, i_5, i_6, i_7, i_8, i_10, i_12, i_16, i_20, i_23, i_24, i_31, i_32, i_63, i_64, i_m1] at c_5
        refine lv_aload_n hx hb dX3_takeIn_48 rfl (lv_at hl 0 rfl) ?_
        have hg_15 : G (R h0 0) = 9 := (tw_8 hW hG).1
        refine va_get (D := DG E) (ci := 3) (v := .ref (R h0 0)) (C := RX3) (T := TX3) (N := 3) hx hb hts iw_X3 hown hK.1 (va_one ha_1) 0 rfl rfl 0 (by decide) (hts _ fl_X3_9) (fun _ h9 => h9) rfl dX3_takeIn_49 ?_
        refine lv_aload_n hx hb dX3_takeIn_52 rfl (lv_at hl 1 rfl) ?_
        refine va_get (D := DG E) (ci := 2) (v := .int (B p0 2)) (C := RX2) (T := TX2) (N := 8) hx hb hts iw_X2 hown hK.1 (va_one ha_3) 0 rfl rfl 2 (by decide) (hts _ fl_X3_64) (fun _ h9 => h9) rfl dX3_takeIn_53 ?_
        refine lv_aload_n hx hb dX3_takeIn_56 rfl (lv_at hl 1 rfl) ?_
        refine va_get (D := DG E) (ci := 2) (v := .int (B p0 4)) (C := RX2) (T := TX2) (N := 8) hx hb hts iw_X2 hown hK.1 (va_one ha_3) 0 rfl rfl 4 (by decide) (hts _ fl_X3_67) (fun _ h9 => h9) rfl dX3_takeIn_57 ?_
        have ha_16 := tx_9 hT hg_15
        refine va_calli (rnV (fun H => TX E G B R H) (As := [.int (B p0 2), .int (B p0 4)]) (rest := []) ⟨hx, hb, hml, hown, hts⟩ (x_X7_takeNak l E z0 G hGz B R hW (R h0 0) (B p0 2) (B p0 4) hg_15) (cwV 2 hts (gdV ml_X3_70 im_X7_takeNak se_X7_X7_takeNak in_X7 co_X7_takeNak rfl) rfl rfl rfl (by decide +kernel) ⟨Nat.le_of_ble_eq_true rfl, Nat.le_of_ble_eq_true rfl⟩) hT (fun U hU hW => hK.go hW hS hAz hU) (va_recv hK.1 (va_one ha_16) (ci := 7) (q0 := 0) rfl rfl) rfl rfl hl.1 rfl (lv_room (Nat.le_of_ble_eq_true rfl)) dX3_takeIn_60 ⟨Nat.le_of_ble_eq_true rfl, Nat.le_of_ble_eq_true rfl⟩) hS (fun q _ h => mL (L' := [9, 11, 5, 15]) (L := [8, 9, 10, 4, 31, 32, 14, 13, 5, 15, 11, 16, 17]) (by decide) h) (fun q h => mL (L' := [9, 11, 5, 15]) (L := [8, 9, 10, 4, 31, 32, 14, 13, 5, 15, 11, 16, 17]) (by decide) h) (fun r_17 U_18 t H locs ht hvm hwr_17 hB hz hk hS => ?_)
        have hT : TX E G U_18 R H := by rw [ht] at hB; exact hB
        have hWr_17 : TW G U_18 R := hwr_17.1
        have hW := hWr_17
        have hFr_17 : Fr G [9, 11, 5, 15] B U_18 := hwr_17.2.1
        have hCr_17 : C_X7_takeNak G B R (R h0 0) (B p0 2) (B p0 4) U_18 r_17 := hwr_17.2.2
        refine lv_istore_n (lv' := [(2, .int r_17), (0, .ref h0), (1, .ref p0)]) hx hb dX3_takeIn_63 rfl hl (by decide) rfl (fun ls hl => ?_)
        refine lv_iload_n hx hb dX3_takeIn_64 rfl (lv_at hl 0 rfl) ?_
        refine lv_if_eq (tgt := 74) hx hb dX3_takeIn_65 (by decide) (fun c_19 => ?_) (fun c_19 => ?_)
        · simp only [lt_I, le_I, eq_I, i_0, i_1, i_2, i_3, i_4, i_5, i_6, i_7, i_8, i_10, i_12, i_16, i_20, i_23, i_24, i_31, i_32, i_63, i_64, i_m1] at c_19
          refine lv_goto (tgt := 107) hx hb dX3_takeIn_74 (by decide) ?_
          exact W.vret hx hb hr (fun t ht hW9 => ⟨⟨U_18, rfl, ⟨hW, (Fr.c Fr.rf hFr_17 (by decide)), (Or.inr (Or.inr (Or.inl ⟨c_2, c_4, c_5, r_17, U_18, hFr_17, hCr_17, c_19, rfl⟩)))⟩, (by show TX E G U_18 R t.heap; rw [ht]; exact hT)⟩, hS.F ht⟩) hS.2.2 dX3_takeIn_107
        · simp only [lt_I, le_I, eq_I, i_0, i_1, i_2, i_3, i_4, i_5, i_6, i_7, i_8, i_10, i_12, i_16, i_20, i_23, i_24, i_31, i_32, i_63, i_64, i_m1] at c_19
          refine lv_aload_n hx hb dX3_takeIn_68 rfl (lv_at hl 1 rfl) ?_
          refine lv_iload_n hx hb dX3_takeIn_69 rfl (lv_at hl 0 rfl) ?_
          refine lv_iconst (v := 5) hx hb dX3_takeIn_70 (by decide) ?_
          have ha_20 := tx_8 hT hG
          refine va_callv (rnV (fun H => TX E G U_18 R H) (As := [.int r_17, .int 5]) (rest := []) ⟨hx, hb, hml, hown, hts⟩ (x_X3_fail l E z0 G hGz U_18 R hW h0 r_17 (5 : Int32) hG) (cwV 2 hts (gdV ml_X3_60 im_X3_fail se_X3_X3_fail in_X3 co_X3_fail rfl) rfl rfl rfl (by decide +kernel) ⟨Nat.le_of_ble_eq_true rfl, Nat.le_of_ble_eq_true rfl⟩) hT (fun U hU hW => hK.go hW hS hAz hU) (va_recv hK.1 (va_one ha_20) (ci := 3) (q0 := 0) rfl rfl) rfl rfl hl.1 rfl (lv_room (Nat.le_of_ble_eq_true rfl)) dX3_takeIn_71 ⟨Nat.le_of_ble_eq_true rfl, Nat.le_of_ble_eq_true rfl⟩) hS (fun q _ h => mL (L' := [8, 5, 15, 11, 10]) (L := [8, 9, 10, 4, 31, 32, 14, 13, 5, 15, 11, 16, 17]) (by decide) h) (fun q h => mL (L' := [8, 5, 15, 11, 10]) (L := [8, 9, 10, 4, 31, 32, 14, 13, 5, 15, 11, 16, 17]) (by decide) h) (fun U_22 t H locs ht hvm hwr_21 hB hz hk hS => ?_)
          have hT : TX E G U_22 R H := by rw [ht] at hB; exact hB
          have hWr_21 : TW G U_22 R := hwr_21.1
          have hW := hWr_21
          have hFr_21 : Fr G [8, 5, 15, 11, 10] U_18 U_22 := hwr_21.2.1
          have hCr_21 : C_X3_fail G U_18 R h0 r_17 (5 : Int32) U_22 := hwr_21.2.2
          refine lv_goto (tgt := 107) hx hb dX3_takeIn_74 (by decide) ?_
          exact W.vret hx hb hr (fun t ht hW9 => ⟨⟨U_22, rfl, ⟨hW, (Fr.c (Fr.c Fr.rf hFr_17 (by decide)) hFr_21 (by decide)), (Or.inr (Or.inr (Or.inr (Or.inl ⟨c_2, c_4, c_5, r_17, U_18, hFr_17, hCr_17, c_19, U_22, hFr_21, hCr_21, rfl⟩))))⟩, (by show TX E G U_22 R t.heap; rw [ht]; exact hT)⟩, hS.F ht⟩) hS.2.2 dX3_takeIn_107
    · simp only [lt_I, le_I, eq_I, i_0, i_1, i_2, i_3, i_4, i_5, i_6, i_7, i_8, i_10, i_12, i_16, i_20, i_23, i_24, i_31, i_32, i_63, i_64, i_m1] at c_4
      refine lv_aload_n hx hb dX3_takeIn_17 rfl (lv_at hl 0 rfl) ?_
      have hg_23 : G (R h0 1) = 10 := (tw_8 hW hG).2
      refine va_get (D := DG E) (ci := 3) (v := .ref (R h0 1)) (C := RX3) (T := TX3) (N := 3) hx hb hts iw_X3 hown hK.1 (va_one ha_1) 0 rfl rfl 1 (by decide) (hts _ fl_X3_15) (fun _ h9 => h9) rfl dX3_takeIn_18 ?_
      refine lv_aload_n hx hb dX3_takeIn_21 rfl (lv_at hl 1 rfl) ?_
      have ha_24 := tx_10 hT hg_23
      refine va_calli (rnV (fun H => TX E G B R H) (As := [.ref p0]) (rest := []) ⟨hx, hb, hml, hown, hts⟩ (x_X8_takeIn l E z0 G hGz B R hW (R h0 1) p0 hg_23 hG0) (cwV 1 hts (gdV ml_X3_56 im_X8_takeIn se_X8_X8_takeIn in_X8 co_X8_takeIn rfl) rfl rfl rfl (by decide +kernel) ⟨Nat.le_of_ble_eq_true rfl, Nat.le_of_ble_eq_true rfl⟩) hT (fun U hU hW => hK.go hW hS hAz hU) (va_recv hK.1 (va_one ha_24) (ci := 8) (q0 := 0) rfl rfl) rfl rfl hl.1 rfl (lv_room (Nat.le_of_ble_eq_true rfl)) dX3_takeIn_22 ⟨Nat.le_of_ble_eq_true rfl, Nat.le_of_ble_eq_true rfl⟩) hS (fun q _ h => mL (L' := [10, 4, 31, 32, 14, 13, 5, 15, 11, 16, 17]) (L := [8, 9, 10, 4, 31, 32, 14, 13, 5, 15, 11, 16, 17]) (by decide) h) (fun q h => mL (L' := [10, 4, 31, 32, 14, 13, 5, 15, 11, 16, 17]) (L := [8, 9, 10, 4, 31, 32, 14, 13, 5, 15, 11, 16, 17]) (by decide) h) (fun r_25 U_26 t H locs ht hvm hwr_25 hB hz hk hS => ?_)
      have hT : TX E G U_26 R H := by rw [ht] at hB; exact hB
      have hWr_25 : TW G U_26 R := hwr_25.1
      have hW := hWr_25
      have hFr_25 : Fr G [10, 4, 31, 32, 14, 13, 5, 15, 11, 16, 17] B U_26 := hwr_25.2.1
      have hCr_25 : C_X8_takeIn G B R (R h0 1) p0 U_26 r_25 := hwr_25.2.2
      refine lv_istore_n (lv' := [(2, .int r_25), (0, .ref h0), (1, .ref p0)]) hx hb dX3_takeIn_25 rfl hl (by decide) rfl (fun ls hl => ?_)
      refine lv_iload_n hx hb dX3_takeIn_26 rfl (lv_at hl 0 rfl) ?_
      refine lv_if_eq (tgt := 36) hx hb dX3_takeIn_27 (by decide) (fun c_27 => ?_) (fun c_27 => ?_)
      · simp only [lt_I, le_I, eq_I, i_0, i_1, i_2, i_3, i_4, i_5, i_6, i_7, i_8, i_10, i_12, i_16, i_20, i_23, i_24, i_31, i_32, i_63, i_64, i_m1] at c_27
        refine lv_goto (tgt := 107) hx hb dX3_takeIn_36 (by decide) ?_
        exact W.vret hx hb hr (fun t ht hW9 => ⟨⟨U_26, rfl, ⟨hW, (Fr.c Fr.rf hFr_25 (by decide)), (Or.inr (Or.inr (Or.inr (Or.inr (Or.inl ⟨c_2, c_4, r_25, U_26, hFr_25, hCr_25, c_27, rfl⟩)))))⟩, (by show TX E G U_26 R t.heap; rw [ht]; exact hT)⟩, hS.F ht⟩) hS.2.2 dX3_takeIn_107
      · simp only [lt_I, le_I, eq_I, i_0, i_1, i_2, i_3, i_4, i_5, i_6, i_7, i_8, i_10, i_12, i_16, i_20, i_23, i_24, i_31, i_32, i_63, i_64, i_m1] at c_27
        refine lv_aload_n hx hb dX3_takeIn_30 rfl (lv_at hl 1 rfl) ?_
        refine lv_iconst (v := 5) hx hb dX3_takeIn_31 (by decide) ?_
        refine lv_iload_n hx hb dX3_takeIn_32 rfl (lv_at hl 0 rfl) ?_
        have ha_28 := tx_8 hT hG
        refine va_callv (rnV (fun H => TX E G U_26 R H) (As := [.int 5, .int r_25]) (rest := []) ⟨hx, hb, hml, hown, hts⟩ (x_X3_fail l E z0 G hGz U_26 R hW h0 (5 : Int32) r_25 hG) (cwV 2 hts (gdV ml_X3_60 im_X3_fail se_X3_X3_fail in_X3 co_X3_fail rfl) rfl rfl rfl (by decide +kernel) ⟨Nat.le_of_ble_eq_true rfl, Nat.le_of_ble_eq_true rfl⟩) hT (fun U hU hW => hK.go hW hS hAz hU) (va_recv hK.1 (va_one ha_28) (ci := 3) (q0 := 0) rfl rfl) rfl rfl hl.1 rfl (lv_room (Nat.le_of_ble_eq_true rfl)) dX3_takeIn_33 ⟨Nat.le_of_ble_eq_true rfl, Nat.le_of_ble_eq_true rfl⟩) hS (fun q _ h => mL (L' := [8, 5, 15, 11, 10]) (L := [8, 9, 10, 4, 31, 32, 14, 13, 5, 15, 11, 16, 17]) (by decide) h) (fun q h => mL (L' := [8, 5, 15, 11, 10]) (L := [8, 9, 10, 4, 31, 32, 14, 13, 5, 15, 11, 16, 17]) (by decide) h) (fun U_30 t H locs ht hvm hwr_29 hB hz hk hS => ?_)
        have hT : TX E G U_30 R H := by rw [ht] at hB; exact hB
        have hWr_29 : TW G U_30 R := hwr_29.1
        have hW := hWr_29
        have hFr_29 : Fr G [8, 5, 15, 11, 10] U_26 U_30 := hwr_29.2.1
        have hCr_29 : C_X3_fail G U_26 R h0 (5 : Int32) r_25 U_30 := hwr_29.2.2
        refine lv_goto (tgt := 107) hx hb dX3_takeIn_36 (by decide) ?_
        exact W.vret hx hb hr (fun t ht hW9 => ⟨⟨U_30, rfl, ⟨hW, (Fr.c (Fr.c Fr.rf hFr_25 (by decide)) hFr_29 (by decide)), (Or.inr (Or.inr (Or.inr (Or.inr (Or.inr (Or.inl ⟨c_2, c_4, r_25, U_26, hFr_25, hCr_25, c_27, U_30, hFr_29, hCr_29, rfl⟩))))))⟩, (by show TX E G U_30 R t.heap; rw [ht]; exact hT)⟩, hS.F ht⟩) hS.2.2 dX3_takeIn_107
  · simp only [lt_I, le_I, eq_I, i_0, i_1, i_2, i_3, i_4, i_5, i_6, i_7, i_8, i_10, i_12, i_16, i_20, i_23, i_24, i_31, i_32, i_63, i_64, i_m1] at c_2
    exact W.vret hx hb hr (fun t ht hW9 => ⟨⟨B, rfl, ⟨hW, Fr.rf, (Or.inr (Or.inr (Or.inr (Or.inr (Or.inr (Or.inr ⟨c_2, rfl⟩))))))⟩, (by show TX E G B R t.heap; rw [ht]; exact hT)⟩, hS.F ht⟩) hS.2.2 dX3_takeIn_8
theorem dX3_tell_0 : decode cX3_tell 0 = .ok (.iload_n 1, 1) := by decide +kernel
theorem dX3_tell_1 : decode cX3_tell 1 = .ok (.iconst 1, 1) := by decide +kernel
theorem dX3_tell_2 : decode cX3_tell 2 = .ok (.if_icmp .lt 18, 3) := by decide +kernel
theorem dX3_tell_5 : decode cX3_tell 5 = .ok (.iload_n 1, 1) := by decide +kernel
theorem dX3_tell_6 : decode cX3_tell 6 = .ok (.iconst 4, 1) := by decide +kernel
theorem dX3_tell_7 : decode cX3_tell 7 = .ok (.if_icmp .gt 13, 3) := by decide +kernel
theorem dX3_tell_10 : decode cX3_tell 10 = .ok (.aload_n 0, 1) := by decide +kernel
theorem dX3_tell_11 : decode cX3_tell 11 = .ok (.getfield 19, 3) := by decide +kernel
theorem dX3_tell_14 : decode cX3_tell 14 = .ok (.iconst 1, 1) := by decide +kernel
theorem dX3_tell_15 : decode cX3_tell 15 = .ok (.if_icmp .eq 5, 3) := by decide +kernel
theorem dX3_tell_18 : decode cX3_tell 18 = .ok (.iconst (-1), 1) := by decide +kernel
theorem dX3_tell_19 : decode cX3_tell 19 = .ok (.ireturn, 1) := by decide +kernel
theorem dX3_tell_20 : decode cX3_tell 20 = .ok (.iload_n 1, 1) := by decide +kernel
theorem dX3_tell_21 : decode cX3_tell 21 = .ok (.tableswitch 122 0 7 #[47, 52, 60, 68, 76, 84, 95, 106], 47) := by decide +kernel
theorem dX3_tell_68 : decode cX3_tell 68 = .ok (.aload_n 0, 1) := by decide +kernel
theorem dX3_tell_69 : decode cX3_tell 69 = .ok (.getfield 19, 3) := by decide +kernel
theorem dX3_tell_72 : decode cX3_tell 72 = .ok (.ireturn, 1) := by decide +kernel
theorem dX3_tell_73 : decode cX3_tell 73 = .ok (.aload_n 0, 1) := by decide +kernel
theorem dX3_tell_74 : decode cX3_tell 74 = .ok (.getfield 9, 3) := by decide +kernel
theorem dX3_tell_77 : decode cX3_tell 77 = .ok (.getfield 88, 3) := by decide +kernel
theorem dX3_tell_80 : decode cX3_tell 80 = .ok (.ireturn, 1) := by decide +kernel
theorem dX3_tell_81 : decode cX3_tell 81 = .ok (.aload_n 0, 1) := by decide +kernel
theorem dX3_tell_82 : decode cX3_tell 82 = .ok (.getfield 9, 3) := by decide +kernel
theorem dX3_tell_85 : decode cX3_tell 85 = .ok (.getfield 91, 3) := by decide +kernel
theorem dX3_tell_88 : decode cX3_tell 88 = .ok (.ireturn, 1) := by decide +kernel
theorem dX3_tell_89 : decode cX3_tell 89 = .ok (.aload_n 0, 1) := by decide +kernel
theorem dX3_tell_90 : decode cX3_tell 90 = .ok (.getfield 9, 3) := by decide +kernel
theorem dX3_tell_93 : decode cX3_tell 93 = .ok (.getfield 94, 3) := by decide +kernel
theorem dX3_tell_96 : decode cX3_tell 96 = .ok (.ireturn, 1) := by decide +kernel
theorem dX3_tell_97 : decode cX3_tell 97 = .ok (.aload_n 0, 1) := by decide +kernel
theorem dX3_tell_98 : decode cX3_tell 98 = .ok (.getfield 15, 3) := by decide +kernel
theorem dX3_tell_101 : decode cX3_tell 101 = .ok (.getfield 35, 3) := by decide +kernel
theorem dX3_tell_104 : decode cX3_tell 104 = .ok (.ireturn, 1) := by decide +kernel
theorem dX3_tell_105 : decode cX3_tell 105 = .ok (.aload_n 0, 1) := by decide +kernel
theorem dX3_tell_106 : decode cX3_tell 106 = .ok (.getfield 9, 3) := by decide +kernel
theorem dX3_tell_109 : decode cX3_tell 109 = .ok (.getfield 38, 3) := by decide +kernel
theorem dX3_tell_112 : decode cX3_tell 112 = .ok (.getfield 97, 3) := by decide +kernel
theorem dX3_tell_115 : decode cX3_tell 115 = .ok (.ireturn, 1) := by decide +kernel
theorem dX3_tell_116 : decode cX3_tell 116 = .ok (.aload_n 0, 1) := by decide +kernel
theorem dX3_tell_117 : decode cX3_tell 117 = .ok (.getfield 15, 3) := by decide +kernel
theorem dX3_tell_120 : decode cX3_tell 120 = .ok (.getfield 48, 3) := by decide +kernel
theorem dX3_tell_123 : decode cX3_tell 123 = .ok (.getfield 97, 3) := by decide +kernel
theorem dX3_tell_126 : decode cX3_tell 126 = .ok (.ireturn, 1) := by decide +kernel
theorem dX3_tell_127 : decode cX3_tell 127 = .ok (.aload_n 0, 1) := by decide +kernel
theorem dX3_tell_128 : decode cX3_tell 128 = .ok (.getfield 9, 3) := by decide +kernel
theorem dX3_tell_131 : decode cX3_tell 131 = .ok (.getfield 100, 3) := by decide +kernel
theorem dX3_tell_134 : decode cX3_tell 134 = .ok (.ifCond .eq 7, 3) := by decide +kernel
theorem dX3_tell_137 : decode cX3_tell 137 = .ok (.iconst 1, 1) := by decide +kernel
theorem dX3_tell_138 : decode cX3_tell 138 = .ok (.goto 4, 3) := by decide +kernel
theorem dX3_tell_141 : decode cX3_tell 141 = .ok (.iconst 0, 1) := by decide +kernel
theorem dX3_tell_142 : decode cX3_tell 142 = .ok (.ireturn, 1) := by decide +kernel
theorem dX3_tell_143 : decode cX3_tell 143 = .ok (.iconst (-1), 1) := by decide +kernel
theorem dX3_tell_144 : decode cX3_tell 144 = .ok (.ireturn, 1) := by decide +kernel
set_option maxHeartbeats 8000000 in
set_option maxRecDepth 100000 in
theorem x_X3_tell (l : Launch) (E : EE) (z0 : Nat) (G : Nat → Nat) (hGz : ∀ q, G q ≠ 0 → z0 ≤ q) (B : AA) (R : RR) (hW : TW G B R) (h0 : Nat) (p0 : Int32) (hG : G h0 = 8) : Met l yX3_tell [Cond.code yX3_tell cX3_tell 2 (some .int)] ({ frames := 0, cells := 0, slots := 0, locals := 0 } : Room) (va_Pc [.ref h0, .int p0] (fun U => TX E G B R U.heap ∧ KS E z0 U)) (va_Qi (fun (r : Int32) (u : Unit) => (C_X3_tell G B R h0 p0 r)) (fun u t => True) (fun _ : Nat => False)) 0 0 (fun _ : Nat => False) := by
  refine Met.ofW (cc := cX3_tell) (maxL := 2) (ret := (some .int)) (by decide) rfl ?_
  intro p e s m args below meth c s₁ B9 hml hv
  obtain ⟨rfl, hT, hK⟩ := hv
  have hx := B9.exec
  have hb := B9.bytes
  have hr := B9.returns
  have hts : ∀ w ∈ TS, w.before ([.ref h0, .int p0] : List Value).toArray s = true := fun w hw => hK.2.1 w hw _
  have hown : s.vm.findClass RX3 = some m.cls := findClass_of_methodNamed B9.named
  have hlocks := B9.notSynchronized
  have hS : va_S (fun _ : Nat => False) s.heap s.heap [] := va_S.rf
  have hAz : ∀ q, (fun _ : Nat => False) q → z0 ≤ q := fun _ h => h.elim
  have hW_0 := hW
  have hl := lv_entry ([.ref h0, .int p0]) (n := 2) (Nat.le_of_ble_eq_true rfl)
  rw [lg_entry_eq]
  generalize (lg_sl ([.ref h0, .int p0]) ++ List.replicate (2 - (lg_sl ([.ref h0, .int p0])).length) Slot.unset).toArray = ls at hl ⊢
  have hl : lv_has ls 2 [(0, .ref h0), (1, .int p0)] := hl
  refine lv_iload_n hx hb dX3_tell_0 rfl (lv_at hl 1 rfl) ?_
  refine lv_iconst (v := 1) hx hb dX3_tell_1 (by decide) ?_
  refine lv_icmp_lt (tgt := 20) hx hb dX3_tell_2 (by decide) (fun c_1 => ?_) (fun c_1 => ?_)
  · simp only [lt_I, le_I, eq_I, i_0, i_1, i_2, i_3, i_4, i_5, i_6, i_7, i_8, i_10, i_12, i_16, i_20, i_23, i_24, i_31, i_32, i_63, i_64, i_m1] at c_1
    refine lv_iload_n hx hb dX3_tell_20 rfl (lv_at hl 1 rfl) ?_
    rcases (show p0.toInt = 0 ∨ p0.toInt = 1 ∨ p0.toInt = 2 ∨ p0.toInt = 3 ∨ p0.toInt = 4 ∨ p0.toInt = 5 ∨ p0.toInt = 6 ∨ p0.toInt = 7 ∨ (p0.toInt < 0 ∨ 7 < p0.toInt) by omega) with c_2 | c_2 | c_2 | c_2 | c_2 | c_2 | c_2 | c_2 | c_2
    · refine lv_tableIn (tgt := 68) (off := 47) hx hb dX3_tell_21 (by omega) (by omega) (by rw [c_2]; rfl) (by decide) ?_
      refine lv_aload_n hx hb dX3_tell_68 rfl (lv_at hl 0 rfl) ?_
      have ha_3 := tx_8 hT hG
      refine va_get (D := DG E) (ci := 3) (v := .int (B h0 2)) (C := RX3) (T := TX3) (N := 3) hx hb hts iw_X3 hown hK.1 (va_one ha_3) 0 rfl rfl 2 (by decide) (hts _ fl_X3_19) (fun _ h9 => h9) rfl dX3_tell_69 ?_
      exact W.iret (v := (B h0 2)) hx hb hr (fun t ht hW9 => ⟨⟨(B h0 2), (), rfl, (Or.inl ⟨c_1, c_2, rfl⟩), trivial⟩, hS.F ht⟩) hS.2.2 dX3_tell_72
    · refine lv_tableIn (tgt := 73) (off := 52) hx hb dX3_tell_21 (by omega) (by omega) (by rw [c_2]; rfl) (by decide) ?_
      refine lv_aload_n hx hb dX3_tell_73 rfl (lv_at hl 0 rfl) ?_
      have ha_4 := tx_8 hT hG
      have hg_5 : G (R h0 0) = 9 := (tw_8 hW hG).1
      refine va_get (D := DG E) (ci := 3) (v := .ref (R h0 0)) (C := RX3) (T := TX3) (N := 3) hx hb hts iw_X3 hown hK.1 (va_one ha_4) 0 rfl rfl 0 (by decide) (hts _ fl_X3_9) (fun _ h9 => h9) rfl dX3_tell_74 ?_
      have ha_6 := tx_9 hT hg_5
      refine va_get (D := DG E) (ci := 7) (v := .int (B (R h0 0) 7)) (C := RX7) (T := TX7) (N := 14) hx hb hts iw_X7 hown hK.1 (va_one ha_6) 0 rfl rfl 7 (by decide) (hts _ fl_X3_88) (fun _ h9 => h9) rfl dX3_tell_77 ?_
      exact W.iret (v := (B (R h0 0) 7)) hx hb hr (fun t ht hW9 => ⟨⟨(B (R h0 0) 7), (), rfl, (Or.inr (Or.inl ⟨c_1, c_2, rfl⟩)), trivial⟩, hS.F ht⟩) hS.2.2 dX3_tell_80
    · refine lv_tableIn (tgt := 81) (off := 60) hx hb dX3_tell_21 (by omega) (by omega) (by rw [c_2]; rfl) (by decide) ?_
      refine lv_aload_n hx hb dX3_tell_81 rfl (lv_at hl 0 rfl) ?_
      have ha_7 := tx_8 hT hG
      have hg_8 : G (R h0 0) = 9 := (tw_8 hW hG).1
      refine va_get (D := DG E) (ci := 3) (v := .ref (R h0 0)) (C := RX3) (T := TX3) (N := 3) hx hb hts iw_X3 hown hK.1 (va_one ha_7) 0 rfl rfl 0 (by decide) (hts _ fl_X3_9) (fun _ h9 => h9) rfl dX3_tell_82 ?_
      have ha_9 := tx_9 hT hg_8
      refine va_get (D := DG E) (ci := 7) (v := .int (B (R h0 0) 8)) (C := RX7) (T := TX7) (N := 14) hx hb hts iw_X7 hown hK.1 (va_one ha_9) 0 rfl rfl 8 (by decide) (hts _ fl_X3_91) (fun _ h9 => h9) rfl dX3_tell_85 ?_
      exact W.iret (v := (B (R h0 0) 8)) hx hb hr (fun t ht hW9 => ⟨⟨(B (R h0 0) 8), (), rfl, (Or.inr (Or.inr (Or.inl ⟨c_1, c_2, rfl⟩))), trivial⟩, hS.F ht⟩) hS.2.2 dX3_tell_88
    · refine lv_tableIn (tgt := 89) (off := 68) hx hb dX3_tell_21 (by omega) (by omega) (by rw [c_2]; rfl) (by decide) ?_
      refine lv_aload_n hx hb dX3_tell_89 rfl (lv_at hl 0 rfl) ?_
      have ha_10 := tx_8 hT hG
      have hg_11 : G (R h0 0) = 9 := (tw_8 hW hG).1
      refine va_get (D := DG E) (ci := 3) (v := .ref (R h0 0)) (C := RX3) (T := TX3) (N := 3) hx hb hts iw_X3 hown hK.1 (va_one ha_10) 0 rfl rfl 0 (by decide) (hts _ fl_X3_9) (fun _ h9 => h9) rfl dX3_tell_90 ?_
      have ha_12 := tx_9 hT hg_11
      refine va_get (D := DG E) (ci := 7) (v := .int (B (R h0 0) 9)) (C := RX7) (T := TX7) (N := 14) hx hb hts iw_X7 hown hK.1 (va_one ha_12) 0 rfl rfl 9 (by decide) (hts _ fl_X3_94) (fun _ h9 => h9) rfl dX3_tell_93 ?_
      exact W.iret (v := (B (R h0 0) 9)) hx hb hr (fun t ht hW9 => ⟨⟨(B (R h0 0) 9), (), rfl, (Or.inr (Or.inr (Or.inr (Or.inl ⟨c_1, c_2, rfl⟩)))), trivial⟩, hS.F ht⟩) hS.2.2 dX3_tell_96
    · refine lv_tableIn (tgt := 97) (off := 76) hx hb dX3_tell_21 (by omega) (by omega) (by rw [c_2]; rfl) (by decide) ?_
      refine lv_aload_n hx hb dX3_tell_97 rfl (lv_at hl 0 rfl) ?_
      have ha_13 := tx_8 hT hG
      have hg_14 : G (R h0 1) = 10 := (tw_8 hW hG).2
      refine va_get (D := DG E) (ci := 3) (v := .ref (R h0 1)) (C := RX3) (T := TX3) (N := 3) hx hb hts iw_X3 hown hK.1 (va_one ha_13) 0 rfl rfl 1 (by decide) (hts _ fl_X3_15) (fun _ h9 => h9) rfl dX3_tell_98 ?_
      have ha_15 := tx_10 hT hg_14
      refine va_get (D := DG E) (ci := 8) (v := .int (B (R h0 1) 4)) (C := RX8) (T := TX8) (N := 9) hx hb hts iw_X8 hown hK.1 (va_one ha_15) 0 rfl rfl 4 (by decide) (hts _ fl_X3_35) (fun _ h9 => h9) rfl dX3_tell_101 ?_
      exact W.iret (v := (B (R h0 1) 4)) hx hb hr (fun t ht hW9 => ⟨⟨(B (R h0 1) 4), (), rfl, (Or.inr (Or.inr (Or.inr (Or.inr (Or.inl ⟨c_1, c_2, rfl⟩))))), trivial⟩, hS.F ht⟩) hS.2.2 dX3_tell_104
    · refine lv_tableIn (tgt := 105) (off := 84) hx hb dX3_tell_21 (by omega) (by omega) (by rw [c_2]; rfl) (by decide) ?_
      refine lv_aload_n hx hb dX3_tell_105 rfl (lv_at hl 0 rfl) ?_
      have ha_16 := tx_8 hT hG
      have hg_17 : G (R h0 0) = 9 := (tw_8 hW hG).1
      refine va_get (D := DG E) (ci := 3) (v := .ref (R h0 0)) (C := RX3) (T := TX3) (N := 3) hx hb hts iw_X3 hown hK.1 (va_one ha_16) 0 rfl rfl 0 (by decide) (hts _ fl_X3_9) (fun _ h9 => h9) rfl dX3_tell_106 ?_
      have ha_18 := tx_9 hT hg_17
      have hg_19 : G (R (R h0 0) 6) = 11 := (tw_9 hW hg_17).2.2.2
      refine va_get (D := DG E) (ci := 7) (v := .ref (R (R h0 0) 6)) (C := RX7) (T := TX7) (N := 14) hx hb hts iw_X7 hown hK.1 (va_one ha_18) 0 rfl rfl 6 (by decide) (hts _ fl_X3_38) (fun _ h9 => h9) rfl dX3_tell_109 ?_
      have ha_20 := tx_11 hT hg_19
      have hb_21 := (tw_11 hW_0 hg_19).2.2.2
      refine va_get (D := DG E) (ci := 5) (v := .int (B (R (R h0 0) 6) 4)) (C := RX5) (T := TX5) (N := 6) hx hb hts iw_X5 hown hK.1 (va_one ha_20) 0 rfl rfl 4 (by decide) (hts _ fl_X3_97) (fun _ h9 => h9) rfl dX3_tell_112 ?_
      exact W.iret (v := (B (R (R h0 0) 6) 4)) hx hb hr (fun t ht hW9 => ⟨⟨(B (R (R h0 0) 6) 4), (), rfl, (Or.inr (Or.inr (Or.inr (Or.inr (Or.inr (Or.inl ⟨c_1, c_2, rfl⟩)))))), trivial⟩, hS.F ht⟩) hS.2.2 dX3_tell_115
    · refine lv_tableIn (tgt := 116) (off := 95) hx hb dX3_tell_21 (by omega) (by omega) (by rw [c_2]; rfl) (by decide) ?_
      refine lv_aload_n hx hb dX3_tell_116 rfl (lv_at hl 0 rfl) ?_
      have ha_22 := tx_8 hT hG
      have hg_23 : G (R h0 1) = 10 := (tw_8 hW hG).2
      refine va_get (D := DG E) (ci := 3) (v := .ref (R h0 1)) (C := RX3) (T := TX3) (N := 3) hx hb hts iw_X3 hown hK.1 (va_one ha_22) 0 rfl rfl 1 (by decide) (hts _ fl_X3_15) (fun _ h9 => h9) rfl dX3_tell_117 ?_
      have ha_24 := tx_10 hT hg_23
      have hg_25 : G (R (R h0 1) 3) = 11 := (tw_10 hW hg_23).2.2.2.1
      refine va_get (D := DG E) (ci := 8) (v := .ref (R (R h0 1) 3)) (C := RX8) (T := TX8) (N := 9) hx hb hts iw_X8 hown hK.1 (va_one ha_24) 0 rfl rfl 3 (by decide) (hts _ fl_X3_48) (fun _ h9 => h9) rfl dX3_tell_120 ?_
      have ha_26 := tx_11 hT hg_25
      have hb_27 := (tw_11 hW_0 hg_25).2.2.2
      refine va_get (D := DG E) (ci := 5) (v := .int (B (R (R h0 1) 3) 4)) (C := RX5) (T := TX5) (N := 6) hx hb hts iw_X5 hown hK.1 (va_one ha_26) 0 rfl rfl 4 (by decide) (hts _ fl_X3_97) (fun _ h9 => h9) rfl dX3_tell_123 ?_
      exact W.iret (v := (B (R (R h0 1) 3) 4)) hx hb hr (fun t ht hW9 => ⟨⟨(B (R (R h0 1) 3) 4), (), rfl, (Or.inr (Or.inr (Or.inr (Or.inr (Or.inr (Or.inr (Or.inl ⟨c_1, c_2, rfl⟩))))))), trivial⟩, hS.F ht⟩) hS.2.2 dX3_tell_126
    · refine lv_tableIn (tgt := 127) (off := 106) hx hb dX3_tell_21 (by omega) (by omega) (by rw [c_2]; rfl) (by decide) ?_
      refine lv_aload_n hx hb dX3_tell_127 rfl (lv_at hl 0 rfl) ?_
      have ha_28 := tx_8 hT hG
      have hg_29 : G (R h0 0) = 9 := (tw_8 hW hG).1
      refine va_get (D := DG E) (ci := 3) (v := .ref (R h0 0)) (C := RX3) (T := TX3) (N := 3) hx hb hts iw_X3 hown hK.1 (va_one ha_28) 0 rfl rfl 0 (by decide) (hts _ fl_X3_9) (fun _ h9 => h9) rfl dX3_tell_128 ?_
      have ha_30 := tx_9 hT hg_29
      refine va_get (D := DG E) (ci := 7) (v := .int (B (R h0 0) 13)) (C := RX7) (T := TX7) (N := 14) hx hb hts iw_X7 hown hK.1 (va_one ha_30) 0 rfl rfl 13 (by decide) (hts _ fl_X3_100) (fun _ h9 => h9) rfl dX3_tell_131 ?_
      refine lv_if_eq (tgt := 141) hx hb dX3_tell_134 (by decide) (fun c_31 => ?_) (fun c_31 => ?_)
      · simp only [lt_I, le_I, eq_I, i_0, i_1, i_2, i_3, i_4, i_5, i_6, i_7, i_8, i_10, i_12, i_16, i_20, i_23, i_24, i_31, i_32, i_63, i_64, i_m1] at c_31
        refine lv_iconst (v := 0) hx hb dX3_tell_141 (by decide) ?_
        exact W.iret (v := 0) hx hb hr (fun t ht hW9 => ⟨⟨0, (), rfl, (Or.inr (Or.inr (Or.inr (Or.inr (Or.inr (Or.inr (Or.inr (Or.inl ⟨c_1, c_2, c_31, rfl⟩)))))))), trivial⟩, hS.F ht⟩) hS.2.2 dX3_tell_142
      · simp only [lt_I, le_I, eq_I, i_0, i_1, i_2, i_3, i_4, i_5, i_6, i_7, i_8, i_10, i_12, i_16, i_20, i_23, i_24, i_31, i_32, i_63, i_64, i_m1] at c_31
        refine lv_iconst (v := 1) hx hb dX3_tell_137 (by decide) ?_
        refine lv_goto (tgt := 142) hx hb dX3_tell_138 (by decide) ?_
        exact W.iret (v := 1) hx hb hr (fun t ht hW9 => ⟨⟨1, (), rfl, (Or.inr (Or.inr (Or.inr (Or.inr (Or.inr (Or.inr (Or.inr (Or.inr (Or.inl ⟨c_1, c_2, c_31, rfl⟩))))))))), trivial⟩, hS.F ht⟩) hS.2.2 dX3_tell_142
    · refine lv_tableOut (tgt := 143) hx hb dX3_tell_21 c_2 (by decide) ?_
      refine lv_iconst (v := (-1)) hx hb dX3_tell_143 (by decide) ?_
      exact W.iret (v := (-1)) hx hb hr (fun t ht hW9 => ⟨⟨(-1), (), rfl, (Or.inr (Or.inr (Or.inr (Or.inr (Or.inr (Or.inr (Or.inr (Or.inr (Or.inr (Or.inl ⟨c_1, c_2, rfl⟩)))))))))), trivial⟩, hS.F ht⟩) hS.2.2 dX3_tell_144
  · simp only [lt_I, le_I, eq_I, i_0, i_1, i_2, i_3, i_4, i_5, i_6, i_7, i_8, i_10, i_12, i_16, i_20, i_23, i_24, i_31, i_32, i_63, i_64, i_m1] at c_1
    refine lv_iload_n hx hb dX3_tell_5 rfl (lv_at hl 1 rfl) ?_
    refine lv_iconst (v := 4) hx hb dX3_tell_6 (by decide) ?_
    refine lv_icmp_gt (tgt := 20) hx hb dX3_tell_7 (by decide) (fun c_32 => ?_) (fun c_32 => ?_)
    · simp only [lt_I, le_I, eq_I, i_0, i_1, i_2, i_3, i_4, i_5, i_6, i_7, i_8, i_10, i_12, i_16, i_20, i_23, i_24, i_31, i_32, i_63, i_64, i_m1] at c_32
      refine lv_iload_n hx hb dX3_tell_20 rfl (lv_at hl 1 rfl) ?_
      rcases (show p0.toInt = 0 ∨ p0.toInt = 1 ∨ p0.toInt = 2 ∨ p0.toInt = 3 ∨ p0.toInt = 4 ∨ p0.toInt = 5 ∨ p0.toInt = 6 ∨ p0.toInt = 7 ∨ (p0.toInt < 0 ∨ 7 < p0.toInt) by omega) with c_33 | c_33 | c_33 | c_33 | c_33 | c_33 | c_33 | c_33 | c_33
      · refine lv_tableIn (tgt := 68) (off := 47) hx hb dX3_tell_21 (by omega) (by omega) (by rw [c_33]; rfl) (by decide) ?_
        refine lv_aload_n hx hb dX3_tell_68 rfl (lv_at hl 0 rfl) ?_
        have ha_34 := tx_8 hT hG
        refine va_get (D := DG E) (ci := 3) (v := .int (B h0 2)) (C := RX3) (T := TX3) (N := 3) hx hb hts iw_X3 hown hK.1 (va_one ha_34) 0 rfl rfl 2 (by decide) (hts _ fl_X3_19) (fun _ h9 => h9) rfl dX3_tell_69 ?_
        exact W.iret (v := (B h0 2)) hx hb hr (fun t ht hW9 => ⟨⟨(B h0 2), (), rfl, (Or.inr (Or.inr (Or.inr (Or.inr (Or.inr (Or.inr (Or.inr (Or.inr (Or.inr (Or.inr (Or.inl ⟨c_1, c_32, c_33, rfl⟩))))))))))), trivial⟩, hS.F ht⟩) hS.2.2 dX3_tell_72
      · refine lv_tableIn (tgt := 73) (off := 52) hx hb dX3_tell_21 (by omega) (by omega) (by rw [c_33]; rfl) (by decide) ?_
        refine lv_aload_n hx hb dX3_tell_73 rfl (lv_at hl 0 rfl) ?_
        have ha_35 := tx_8 hT hG
        have hg_36 : G (R h0 0) = 9 := (tw_8 hW hG).1
        refine va_get (D := DG E) (ci := 3) (v := .ref (R h0 0)) (C := RX3) (T := TX3) (N := 3) hx hb hts iw_X3 hown hK.1 (va_one ha_35) 0 rfl rfl 0 (by decide) (hts _ fl_X3_9) (fun _ h9 => h9) rfl dX3_tell_74 ?_
        have ha_37 := tx_9 hT hg_36
        refine va_get (D := DG E) (ci := 7) (v := .int (B (R h0 0) 7)) (C := RX7) (T := TX7) (N := 14) hx hb hts iw_X7 hown hK.1 (va_one ha_37) 0 rfl rfl 7 (by decide) (hts _ fl_X3_88) (fun _ h9 => h9) rfl dX3_tell_77 ?_
        exact W.iret (v := (B (R h0 0) 7)) hx hb hr (fun t ht hW9 => ⟨⟨(B (R h0 0) 7), (), rfl, (Or.inr (Or.inr (Or.inr (Or.inr (Or.inr (Or.inr (Or.inr (Or.inr (Or.inr (Or.inr (Or.inr (Or.inl ⟨c_1, c_32, c_33, rfl⟩)))))))))))), trivial⟩, hS.F ht⟩) hS.2.2 dX3_tell_80
      · refine lv_tableIn (tgt := 81) (off := 60) hx hb dX3_tell_21 (by omega) (by omega) (by rw [c_33]; rfl) (by decide) ?_
        refine lv_aload_n hx hb dX3_tell_81 rfl (lv_at hl 0 rfl) ?_
        have ha_38 := tx_8 hT hG
        have hg_39 : G (R h0 0) = 9 := (tw_8 hW hG).1
        refine va_get (D := DG E) (ci := 3) (v := .ref (R h0 0)) (C := RX3) (T := TX3) (N := 3) hx hb hts iw_X3 hown hK.1 (va_one ha_38) 0 rfl rfl 0 (by decide) (hts _ fl_X3_9) (fun _ h9 => h9) rfl dX3_tell_82 ?_
        have ha_40 := tx_9 hT hg_39
        refine va_get (D := DG E) (ci := 7) (v := .int (B (R h0 0) 8)) (C := RX7) (T := TX7) (N := 14) hx hb hts iw_X7 hown hK.1 (va_one ha_40) 0 rfl rfl 8 (by decide) (hts _ fl_X3_91) (fun _ h9 => h9) rfl dX3_tell_85 ?_
        exact W.iret (v := (B (R h0 0) 8)) hx hb hr (fun t ht hW9 => ⟨⟨(B (R h0 0) 8), (), rfl, (Or.inr (Or.inr (Or.inr (Or.inr (Or.inr (Or.inr (Or.inr (Or.inr (Or.inr (Or.inr (Or.inr (Or.inr (Or.inl ⟨c_1, c_32, c_33, rfl⟩))))))))))))), trivial⟩, hS.F ht⟩) hS.2.2 dX3_tell_88
      · refine lv_tableIn (tgt := 89) (off := 68) hx hb dX3_tell_21 (by omega) (by omega) (by rw [c_33]; rfl) (by decide) ?_
        refine lv_aload_n hx hb dX3_tell_89 rfl (lv_at hl 0 rfl) ?_
        have ha_41 := tx_8 hT hG
        have hg_42 : G (R h0 0) = 9 := (tw_8 hW hG).1
        refine va_get (D := DG E) (ci := 3) (v := .ref (R h0 0)) (C := RX3) (T := TX3) (N := 3) hx hb hts iw_X3 hown hK.1 (va_one ha_41) 0 rfl rfl 0 (by decide) (hts _ fl_X3_9) (fun _ h9 => h9) rfl dX3_tell_90 ?_
        have ha_43 := tx_9 hT hg_42
        refine va_get (D := DG E) (ci := 7) (v := .int (B (R h0 0) 9)) (C := RX7) (T := TX7) (N := 14) hx hb hts iw_X7 hown hK.1 (va_one ha_43) 0 rfl rfl 9 (by decide) (hts _ fl_X3_94) (fun _ h9 => h9) rfl dX3_tell_93 ?_
        exact W.iret (v := (B (R h0 0) 9)) hx hb hr (fun t ht hW9 => ⟨⟨(B (R h0 0) 9), (), rfl, (Or.inr (Or.inr (Or.inr (Or.inr (Or.inr (Or.inr (Or.inr (Or.inr (Or.inr (Or.inr (Or.inr (Or.inr (Or.inr (Or.inl ⟨c_1, c_32, c_33, rfl⟩)))))))))))))), trivial⟩, hS.F ht⟩) hS.2.2 dX3_tell_96
      · refine lv_tableIn (tgt := 97) (off := 76) hx hb dX3_tell_21 (by omega) (by omega) (by rw [c_33]; rfl) (by decide) ?_
        refine lv_aload_n hx hb dX3_tell_97 rfl (lv_at hl 0 rfl) ?_
        have ha_44 := tx_8 hT hG
        have hg_45 : G (R h0 1) = 10 := (tw_8 hW hG).2
        refine va_get (D := DG E) (ci := 3) (v := .ref (R h0 1)) (C := RX3) (T := TX3) (N := 3) hx hb hts iw_X3 hown hK.1 (va_one ha_44) 0 rfl rfl 1 (by decide) (hts _ fl_X3_15) (fun _ h9 => h9) rfl dX3_tell_98 ?_
        have ha_46 := tx_10 hT hg_45
        refine va_get (D := DG E) (ci := 8) (v := .int (B (R h0 1) 4)) (C := RX8) (T := TX8) (N := 9) hx hb hts iw_X8 hown hK.1 (va_one ha_46) 0 rfl rfl 4 (by decide) (hts _ fl_X3_35) (fun _ h9 => h9) rfl dX3_tell_101 ?_
        exact W.iret (v := (B (R h0 1) 4)) hx hb hr (fun t ht hW9 => ⟨⟨(B (R h0 1) 4), (), rfl, (Or.inr (Or.inr (Or.inr (Or.inr (Or.inr (Or.inr (Or.inr (Or.inr (Or.inr (Or.inr (Or.inr (Or.inr (Or.inr (Or.inr (Or.inl ⟨c_1, c_32, c_33, rfl⟩))))))))))))))), trivial⟩, hS.F ht⟩) hS.2.2 dX3_tell_104
      · refine lv_tableIn (tgt := 105) (off := 84) hx hb dX3_tell_21 (by omega) (by omega) (by rw [c_33]; rfl) (by decide) ?_
        refine lv_aload_n hx hb dX3_tell_105 rfl (lv_at hl 0 rfl) ?_
        have ha_47 := tx_8 hT hG
        have hg_48 : G (R h0 0) = 9 := (tw_8 hW hG).1
        refine va_get (D := DG E) (ci := 3) (v := .ref (R h0 0)) (C := RX3) (T := TX3) (N := 3) hx hb hts iw_X3 hown hK.1 (va_one ha_47) 0 rfl rfl 0 (by decide) (hts _ fl_X3_9) (fun _ h9 => h9) rfl dX3_tell_106 ?_
        have ha_49 := tx_9 hT hg_48
        have hg_50 : G (R (R h0 0) 6) = 11 := (tw_9 hW hg_48).2.2.2
        refine va_get (D := DG E) (ci := 7) (v := .ref (R (R h0 0) 6)) (C := RX7) (T := TX7) (N := 14) hx hb hts iw_X7 hown hK.1 (va_one ha_49) 0 rfl rfl 6 (by decide) (hts _ fl_X3_38) (fun _ h9 => h9) rfl dX3_tell_109 ?_
        have ha_51 := tx_11 hT hg_50
        have hb_52 := (tw_11 hW_0 hg_50).2.2.2
        refine va_get (D := DG E) (ci := 5) (v := .int (B (R (R h0 0) 6) 4)) (C := RX5) (T := TX5) (N := 6) hx hb hts iw_X5 hown hK.1 (va_one ha_51) 0 rfl rfl 4 (by decide) (hts _ fl_X3_97) (fun _ h9 => h9) rfl dX3_tell_112 ?_
        exact W.iret (v := (B (R (R h0 0) 6) 4)) hx hb hr (fun t ht hW9 => ⟨⟨(B (R (R h0 0) 6) 4), (), rfl, (Or.inr (Or.inr (Or.inr (Or.inr (Or.inr (Or.inr (Or.inr (Or.inr (Or.inr (Or.inr (Or.inr (Or.inr (Or.inr (Or.inr (Or.inr (Or.inl ⟨c_1, c_32, c_33, rfl⟩)))))))))))))))), trivial⟩, hS.F ht⟩) hS.2.2 dX3_tell_115
      · refine lv_tableIn (tgt := 116) (off := 95) hx hb dX3_tell_21 (by omega) (by omega) (by rw [c_33]; rfl) (by decide) ?_
        refine lv_aload_n hx hb dX3_tell_116 rfl (lv_at hl 0 rfl) ?_
        have ha_53 := tx_8 hT hG
        have hg_54 : G (R h0 1) = 10 := (tw_8 hW hG).2
        refine va_get (D := DG E) (ci := 3) (v := .ref (R h0 1)) (C := RX3) (T := TX3) (N := 3) hx hb hts iw_X3 hown hK.1 (va_one ha_53) 0 rfl rfl 1 (by decide) (hts _ fl_X3_15) (fun _ h9 => h9) rfl dX3_tell_117 ?_
        have ha_55 := tx_10 hT hg_54
        have hg_56 : G (R (R h0 1) 3) = 11 := (tw_10 hW hg_54).2.2.2.1
        refine va_get (D := DG E) (ci := 8) (v := .ref (R (R h0 1) 3)) (C := RX8) (T := TX8) (N := 9) hx hb hts iw_X8 hown hK.1 (va_one ha_55) 0 rfl rfl 3 (by decide) (hts _ fl_X3_48) (fun _ h9 => h9) rfl dX3_tell_120 ?_
        have ha_57 := tx_11 hT hg_56
        have hb_58 := (tw_11 hW_0 hg_56).2.2.2
        refine va_get (D := DG E) (ci := 5) (v := .int (B (R (R h0 1) 3) 4)) (C := RX5) (T := TX5) (N := 6) hx hb hts iw_X5 hown hK.1 (va_one ha_57) 0 rfl rfl 4 (by decide) (hts _ fl_X3_97) (fun _ h9 => h9) rfl dX3_tell_123 ?_
        exact W.iret (v := (B (R (R h0 1) 3) 4)) hx hb hr (fun t ht hW9 => ⟨⟨(B (R (R h0 1) 3) 4), (), rfl, (Or.inr (Or.inr (Or.inr (Or.inr (Or.inr (Or.inr (Or.inr (Or.inr (Or.inr (Or.inr (Or.inr (Or.inr (Or.inr (Or.inr (Or.inr (Or.inr (Or.inl ⟨c_1, c_32, c_33, rfl⟩))))))))))))))))), trivial⟩, hS.F ht⟩) hS.2.2 dX3_tell_126
      · refine lv_tableIn (tgt := 127) (off := 106) hx hb dX3_tell_21 (by omega) (by omega) (by rw [c_33]; rfl) (by decide) ?_
        refine lv_aload_n hx hb dX3_tell_127 rfl (lv_at hl 0 rfl) ?_
        have ha_59 := tx_8 hT hG
        have hg_60 : G (R h0 0) = 9 := (tw_8 hW hG).1
        refine va_get (D := DG E) (ci := 3) (v := .ref (R h0 0)) (C := RX3) (T := TX3) (N := 3) hx hb hts iw_X3 hown hK.1 (va_one ha_59) 0 rfl rfl 0 (by decide) (hts _ fl_X3_9) (fun _ h9 => h9) rfl dX3_tell_128 ?_
        have ha_61 := tx_9 hT hg_60
        refine va_get (D := DG E) (ci := 7) (v := .int (B (R h0 0) 13)) (C := RX7) (T := TX7) (N := 14) hx hb hts iw_X7 hown hK.1 (va_one ha_61) 0 rfl rfl 13 (by decide) (hts _ fl_X3_100) (fun _ h9 => h9) rfl dX3_tell_131 ?_
        refine lv_if_eq (tgt := 141) hx hb dX3_tell_134 (by decide) (fun c_62 => ?_) (fun c_62 => ?_)
        · simp only [lt_I, le_I, eq_I, i_0, i_1, i_2, i_3, i_4, i_5, i_6, i_7, i_8, i_10, i_12, i_16, i_20, i_23, i_24, i_31, i_32, i_63, i_64, i_m1] at c_62
          refine lv_iconst (v := 0) hx hb dX3_tell_141 (by decide) ?_
          exact W.iret (v := 0) hx hb hr (fun t ht hW9 => ⟨⟨0, (), rfl, (Or.inr (Or.inr (Or.inr (Or.inr (Or.inr (Or.inr (Or.inr (Or.inr (Or.inr (Or.inr (Or.inr (Or.inr (Or.inr (Or.inr (Or.inr (Or.inr (Or.inr (Or.inl ⟨c_1, c_32, c_33, c_62, rfl⟩)))))))))))))))))), trivial⟩, hS.F ht⟩) hS.2.2 dX3_tell_142
        · simp only [lt_I, le_I, eq_I, i_0, i_1, i_2, i_3, i_4, i_5, i_6, i_7, i_8, i_10, i_12, i_16, i_20, i_23, i_24, i_31, i_32, i_63, i_64, i_m1] at c_62
          refine lv_iconst (v := 1) hx hb dX3_tell_137 (by decide) ?_
          refine lv_goto (tgt := 142) hx hb dX3_tell_138 (by decide) ?_
          exact W.iret (v := 1) hx hb hr (fun t ht hW9 => ⟨⟨1, (), rfl, (Or.inr (Or.inr (Or.inr (Or.inr (Or.inr (Or.inr (Or.inr (Or.inr (Or.inr (Or.inr (Or.inr (Or.inr (Or.inr (Or.inr (Or.inr (Or.inr (Or.inr (Or.inr (Or.inl ⟨c_1, c_32, c_33, c_62, rfl⟩))))))))))))))))))), trivial⟩, hS.F ht⟩) hS.2.2 dX3_tell_142
      · refine lv_tableOut (tgt := 143) hx hb dX3_tell_21 c_33 (by decide) ?_
        refine lv_iconst (v := (-1)) hx hb dX3_tell_143 (by decide) ?_
        exact W.iret (v := (-1)) hx hb hr (fun t ht hW9 => ⟨⟨(-1), (), rfl, (Or.inr (Or.inr (Or.inr (Or.inr (Or.inr (Or.inr (Or.inr (Or.inr (Or.inr (Or.inr (Or.inr (Or.inr (Or.inr (Or.inr (Or.inr (Or.inr (Or.inr (Or.inr (Or.inr (Or.inl ⟨c_1, c_32, c_33, rfl⟩)))))))))))))))))))), trivial⟩, hS.F ht⟩) hS.2.2 dX3_tell_144
    · simp only [lt_I, le_I, eq_I, i_0, i_1, i_2, i_3, i_4, i_5, i_6, i_7, i_8, i_10, i_12, i_16, i_20, i_23, i_24, i_31, i_32, i_63, i_64, i_m1] at c_32
      refine lv_aload_n hx hb dX3_tell_10 rfl (lv_at hl 0 rfl) ?_
      have ha_63 := tx_8 hT hG
      refine va_get (D := DG E) (ci := 3) (v := .int (B h0 2)) (C := RX3) (T := TX3) (N := 3) hx hb hts iw_X3 hown hK.1 (va_one ha_63) 0 rfl rfl 2 (by decide) (hts _ fl_X3_19) (fun _ h9 => h9) rfl dX3_tell_11 ?_
      refine lv_iconst (v := 1) hx hb dX3_tell_14 (by decide) ?_
      refine lv_icmp_eq (tgt := 20) hx hb dX3_tell_15 (by decide) (fun c_64 => ?_) (fun c_64 => ?_)
      · simp only [lt_I, le_I, eq_I, i_0, i_1, i_2, i_3, i_4, i_5, i_6, i_7, i_8, i_10, i_12, i_16, i_20, i_23, i_24, i_31, i_32, i_63, i_64, i_m1] at c_64
        refine lv_iload_n hx hb dX3_tell_20 rfl (lv_at hl 1 rfl) ?_
        rcases (show p0.toInt = 0 ∨ p0.toInt = 1 ∨ p0.toInt = 2 ∨ p0.toInt = 3 ∨ p0.toInt = 4 ∨ p0.toInt = 5 ∨ p0.toInt = 6 ∨ p0.toInt = 7 ∨ (p0.toInt < 0 ∨ 7 < p0.toInt) by omega) with c_65 | c_65 | c_65 | c_65 | c_65 | c_65 | c_65 | c_65 | c_65
        · refine lv_tableIn (tgt := 68) (off := 47) hx hb dX3_tell_21 (by omega) (by omega) (by rw [c_65]; rfl) (by decide) ?_
          refine lv_aload_n hx hb dX3_tell_68 rfl (lv_at hl 0 rfl) ?_
          refine va_get (D := DG E) (ci := 3) (v := .int (B h0 2)) (C := RX3) (T := TX3) (N := 3) hx hb hts iw_X3 hown hK.1 (va_one ha_63) 0 rfl rfl 2 (by decide) (hts _ fl_X3_19) (fun _ h9 => h9) rfl dX3_tell_69 ?_
          exact W.iret (v := (B h0 2)) hx hb hr (fun t ht hW9 => ⟨⟨(B h0 2), (), rfl, (Or.inr (Or.inr (Or.inr (Or.inr (Or.inr (Or.inr (Or.inr (Or.inr (Or.inr (Or.inr (Or.inr (Or.inr (Or.inr (Or.inr (Or.inr (Or.inr (Or.inr (Or.inr (Or.inr (Or.inr (Or.inl ⟨c_1, c_32, c_64, c_65, rfl⟩))))))))))))))))))))), trivial⟩, hS.F ht⟩) hS.2.2 dX3_tell_72
        · refine lv_tableIn (tgt := 73) (off := 52) hx hb dX3_tell_21 (by omega) (by omega) (by rw [c_65]; rfl) (by decide) ?_
          refine lv_aload_n hx hb dX3_tell_73 rfl (lv_at hl 0 rfl) ?_
          have hg_66 : G (R h0 0) = 9 := (tw_8 hW hG).1
          refine va_get (D := DG E) (ci := 3) (v := .ref (R h0 0)) (C := RX3) (T := TX3) (N := 3) hx hb hts iw_X3 hown hK.1 (va_one ha_63) 0 rfl rfl 0 (by decide) (hts _ fl_X3_9) (fun _ h9 => h9) rfl dX3_tell_74 ?_
          have ha_67 := tx_9 hT hg_66
          refine va_get (D := DG E) (ci := 7) (v := .int (B (R h0 0) 7)) (C := RX7) (T := TX7) (N := 14) hx hb hts iw_X7 hown hK.1 (va_one ha_67) 0 rfl rfl 7 (by decide) (hts _ fl_X3_88) (fun _ h9 => h9) rfl dX3_tell_77 ?_
          exact W.iret (v := (B (R h0 0) 7)) hx hb hr (fun t ht hW9 => ⟨⟨(B (R h0 0) 7), (), rfl, (Or.inr (Or.inr (Or.inr (Or.inr (Or.inr (Or.inr (Or.inr (Or.inr (Or.inr (Or.inr (Or.inr (Or.inr (Or.inr (Or.inr (Or.inr (Or.inr (Or.inr (Or.inr (Or.inr (Or.inr (Or.inr (Or.inl ⟨c_1, c_32, c_64, c_65, rfl⟩)))))))))))))))))))))), trivial⟩, hS.F ht⟩) hS.2.2 dX3_tell_80
        · refine lv_tableIn (tgt := 81) (off := 60) hx hb dX3_tell_21 (by omega) (by omega) (by rw [c_65]; rfl) (by decide) ?_
          refine lv_aload_n hx hb dX3_tell_81 rfl (lv_at hl 0 rfl) ?_
          have hg_68 : G (R h0 0) = 9 := (tw_8 hW hG).1
          refine va_get (D := DG E) (ci := 3) (v := .ref (R h0 0)) (C := RX3) (T := TX3) (N := 3) hx hb hts iw_X3 hown hK.1 (va_one ha_63) 0 rfl rfl 0 (by decide) (hts _ fl_X3_9) (fun _ h9 => h9) rfl dX3_tell_82 ?_
          have ha_69 := tx_9 hT hg_68
          refine va_get (D := DG E) (ci := 7) (v := .int (B (R h0 0) 8)) (C := RX7) (T := TX7) (N := 14) hx hb hts iw_X7 hown hK.1 (va_one ha_69) 0 rfl rfl 8 (by decide) (hts _ fl_X3_91) (fun _ h9 => h9) rfl dX3_tell_85 ?_
          exact W.iret (v := (B (R h0 0) 8)) hx hb hr (fun t ht hW9 => ⟨⟨(B (R h0 0) 8), (), rfl, (Or.inr (Or.inr (Or.inr (Or.inr (Or.inr (Or.inr (Or.inr (Or.inr (Or.inr (Or.inr (Or.inr (Or.inr (Or.inr (Or.inr (Or.inr (Or.inr (Or.inr (Or.inr (Or.inr (Or.inr (Or.inr (Or.inr (Or.inl ⟨c_1, c_32, c_64, c_65, rfl⟩))))))))))))))))))))))), trivial⟩, hS.F ht⟩) hS.2.2 dX3_tell_88
        · refine lv_tableIn (tgt := 89) (off := 68) hx hb dX3_tell_21 (by omega) (by omega) (by rw [c_65]; rfl) (by decide) ?_
          refine lv_aload_n hx hb dX3_tell_89 rfl (lv_at hl 0 rfl) ?_
          have hg_70 : G (R h0 0) = 9 := (tw_8 hW hG).1
          refine va_get (D := DG E) (ci := 3) (v := .ref (R h0 0)) (C := RX3) (T := TX3) (N := 3) hx hb hts iw_X3 hown hK.1 (va_one ha_63) 0 rfl rfl 0 (by decide) (hts _ fl_X3_9) (fun _ h9 => h9) rfl dX3_tell_90 ?_
          have ha_71 := tx_9 hT hg_70
          refine va_get (D := DG E) (ci := 7) (v := .int (B (R h0 0) 9)) (C := RX7) (T := TX7) (N := 14) hx hb hts iw_X7 hown hK.1 (va_one ha_71) 0 rfl rfl 9 (by decide) (hts _ fl_X3_94) (fun _ h9 => h9) rfl dX3_tell_93 ?_
          exact W.iret (v := (B (R h0 0) 9)) hx hb hr (fun t ht hW9 => ⟨⟨(B (R h0 0) 9), (), rfl, (Or.inr (Or.inr (Or.inr (Or.inr (Or.inr (Or.inr (Or.inr (Or.inr (Or.inr (Or.inr (Or.inr (Or.inr (Or.inr (Or.inr (Or.inr (Or.inr (Or.inr (Or.inr (Or.inr (Or.inr (Or.inr (Or.inr (Or.inr (Or.inl ⟨c_1, c_32, c_64, c_65, rfl⟩)))))))))))))))))))))))), trivial⟩, hS.F ht⟩) hS.2.2 dX3_tell_96
        · refine lv_tableIn (tgt := 97) (off := 76) hx hb dX3_tell_21 (by omega) (by omega) (by rw [c_65]; rfl) (by decide) ?_
          refine lv_aload_n hx hb dX3_tell_97 rfl (lv_at hl 0 rfl) ?_
          have hg_72 : G (R h0 1) = 10 := (tw_8 hW hG).2
          refine va_get (D := DG E) (ci := 3) (v := .ref (R h0 1)) (C := RX3) (T := TX3) (N := 3) hx hb hts iw_X3 hown hK.1 (va_one ha_63) 0 rfl rfl 1 (by decide) (hts _ fl_X3_15) (fun _ h9 => h9) rfl dX3_tell_98 ?_
          have ha_73 := tx_10 hT hg_72
          refine va_get (D := DG E) (ci := 8) (v := .int (B (R h0 1) 4)) (C := RX8) (T := TX8) (N := 9) hx hb hts iw_X8 hown hK.1 (va_one ha_73) 0 rfl rfl 4 (by decide) (hts _ fl_X3_35) (fun _ h9 => h9) rfl dX3_tell_101 ?_
          exact W.iret (v := (B (R h0 1) 4)) hx hb hr (fun t ht hW9 => ⟨⟨(B (R h0 1) 4), (), rfl, (Or.inr (Or.inr (Or.inr (Or.inr (Or.inr (Or.inr (Or.inr (Or.inr (Or.inr (Or.inr (Or.inr (Or.inr (Or.inr (Or.inr (Or.inr (Or.inr (Or.inr (Or.inr (Or.inr (Or.inr (Or.inr (Or.inr (Or.inr (Or.inr (Or.inl ⟨c_1, c_32, c_64, c_65, rfl⟩))))))))))))))))))))))))), trivial⟩, hS.F ht⟩) hS.2.2 dX3_tell_104
        · refine lv_tableIn (tgt := 105) (off := 84) hx hb dX3_tell_21 (by omega) (by omega) (by rw [c_65]; rfl) (by decide) ?_
          refine lv_aload_n hx hb dX3_tell_105 rfl (lv_at hl 0 rfl) ?_
          have hg_74 : G (R h0 0) = 9 := (tw_8 hW hG).1
          refine va_get (D := DG E) (ci := 3) (v := .ref (R h0 0)) (C := RX3) (T := TX3) (N := 3) hx hb hts iw_X3 hown hK.1 (va_one ha_63) 0 rfl rfl 0 (by decide) (hts _ fl_X3_9) (fun _ h9 => h9) rfl dX3_tell_106 ?_
          have ha_75 := tx_9 hT hg_74
          have hg_76 : G (R (R h0 0) 6) = 11 := (tw_9 hW hg_74).2.2.2
          refine va_get (D := DG E) (ci := 7) (v := .ref (R (R h0 0) 6)) (C := RX7) (T := TX7) (N := 14) hx hb hts iw_X7 hown hK.1 (va_one ha_75) 0 rfl rfl 6 (by decide) (hts _ fl_X3_38) (fun _ h9 => h9) rfl dX3_tell_109 ?_
          have ha_77 := tx_11 hT hg_76
          have hb_78 := (tw_11 hW_0 hg_76).2.2.2
          refine va_get (D := DG E) (ci := 5) (v := .int (B (R (R h0 0) 6) 4)) (C := RX5) (T := TX5) (N := 6) hx hb hts iw_X5 hown hK.1 (va_one ha_77) 0 rfl rfl 4 (by decide) (hts _ fl_X3_97) (fun _ h9 => h9) rfl dX3_tell_112 ?_
          exact W.iret (v := (B (R (R h0 0) 6) 4)) hx hb hr (fun t ht hW9 => ⟨⟨(B (R (R h0 0) 6) 4), (), rfl, (Or.inr (Or.inr (Or.inr (Or.inr (Or.inr (Or.inr (Or.inr (Or.inr (Or.inr (Or.inr (Or.inr (Or.inr (Or.inr (Or.inr (Or.inr (Or.inr (Or.inr (Or.inr (Or.inr (Or.inr (Or.inr (Or.inr (Or.inr (Or.inr (Or.inr (Or.inl ⟨c_1, c_32, c_64, c_65, rfl⟩)))))))))))))))))))))))))), trivial⟩, hS.F ht⟩) hS.2.2 dX3_tell_115
        · refine lv_tableIn (tgt := 116) (off := 95) hx hb dX3_tell_21 (by omega) (by omega) (by rw [c_65]; rfl) (by decide) ?_
          refine lv_aload_n hx hb dX3_tell_116 rfl (lv_at hl 0 rfl) ?_
          have hg_79 : G (R h0 1) = 10 := (tw_8 hW hG).2
          refine va_get (D := DG E) (ci := 3) (v := .ref (R h0 1)) (C := RX3) (T := TX3) (N := 3) hx hb hts iw_X3 hown hK.1 (va_one ha_63) 0 rfl rfl 1 (by decide) (hts _ fl_X3_15) (fun _ h9 => h9) rfl dX3_tell_117 ?_
          have ha_80 := tx_10 hT hg_79
          have hg_81 : G (R (R h0 1) 3) = 11 := (tw_10 hW hg_79).2.2.2.1
          refine va_get (D := DG E) (ci := 8) (v := .ref (R (R h0 1) 3)) (C := RX8) (T := TX8) (N := 9) hx hb hts iw_X8 hown hK.1 (va_one ha_80) 0 rfl rfl 3 (by decide) (hts _ fl_X3_48) (fun _ h9 => h9) rfl dX3_tell_120 ?_
          have ha_82 := tx_11 hT hg_81
          have hb_83 := (tw_11 hW_0 hg_81).2.2.2
          refine va_get (D := DG E) (ci := 5) (v := .int (B (R (R h0 1) 3) 4)) (C := RX5) (T := TX5) (N := 6) hx hb hts iw_X5 hown hK.1 (va_one ha_82) 0 rfl rfl 4 (by decide) (hts _ fl_X3_97) (fun _ h9 => h9) rfl dX3_tell_123 ?_
          exact W.iret (v := (B (R (R h0 1) 3) 4)) hx hb hr (fun t ht hW9 => ⟨⟨(B (R (R h0 1) 3) 4), (), rfl, (Or.inr (Or.inr (Or.inr (Or.inr (Or.inr (Or.inr (Or.inr (Or.inr (Or.inr (Or.inr (Or.inr (Or.inr (Or.inr (Or.inr (Or.inr (Or.inr (Or.inr (Or.inr (Or.inr (Or.inr (Or.inr (Or.inr (Or.inr (Or.inr (Or.inr (Or.inr (Or.inl ⟨c_1, c_32, c_64, c_65, rfl⟩))))))))))))))))))))))))))), trivial⟩, hS.F ht⟩) hS.2.2 dX3_tell_126
        · refine lv_tableIn (tgt := 127) (off := 106) hx hb dX3_tell_21 (by omega) (by omega) (by rw [c_65]; rfl) (by decide) ?_
          refine lv_aload_n hx hb dX3_tell_127 rfl (lv_at hl 0 rfl) ?_
          have hg_84 : G (R h0 0) = 9 := (tw_8 hW hG).1
          refine va_get (D := DG E) (ci := 3) (v := .ref (R h0 0)) (C := RX3) (T := TX3) (N := 3) hx hb hts iw_X3 hown hK.1 (va_one ha_63) 0 rfl rfl 0 (by decide) (hts _ fl_X3_9) (fun _ h9 => h9) rfl dX3_tell_128 ?_
          have ha_85 := tx_9 hT hg_84
          refine va_get (D := DG E) (ci := 7) (v := .int (B (R h0 0) 13)) (C := RX7) (T := TX7) (N := 14) hx hb hts iw_X7 hown hK.1 (va_one ha_85) 0 rfl rfl 13 (by decide) (hts _ fl_X3_100) (fun _ h9 => h9) rfl dX3_tell_131 ?_
          refine lv_if_eq (tgt := 141) hx hb dX3_tell_134 (by decide) (fun c_86 => ?_) (fun c_86 => ?_)
          · simp only [lt_I, le_I, eq_I, i_0, i_1, i_2, i_3, i_4, i_5, i_6, i_7, i_8, i_10, i_12, i_16, i_20, i_23, i_24, i_31, i_32, i_63, i_64, i_m1] at c_86
            refine lv_iconst (v := 0) hx hb dX3_tell_141 (by decide) ?_
            exact W.iret (v := 0) hx hb hr (fun t ht hW9 => ⟨⟨0, (), rfl, (Or.inr (Or.inr (Or.inr (Or.inr (Or.inr (Or.inr (Or.inr (Or.inr (Or.inr (Or.inr (Or.inr (Or.inr (Or.inr (Or.inr (Or.inr (Or.inr (Or.inr (Or.inr (Or.inr (Or.inr (Or.inr (Or.inr (Or.inr (Or.inr (Or.inr (Or.inr (Or.inr (Or.inl ⟨c_1, c_32, c_64, c_65, c_86, rfl⟩)))))))))))))))))))))))))))), trivial⟩, hS.F ht⟩) hS.2.2 dX3_tell_142
          · simp only [lt_I, le_I, eq_I, i_0, i_1, i_2, i_3, i_4, i_5, i_6, i_7, i_8, i_10, i_12, i_16, i_20, i_23, i_24, i_31, i_32, i_63, i_64, i_m1] at c_86
            refine lv_iconst (v := 1) hx hb dX3_tell_137 (by decide) ?_
            refine lv_goto (tgt := 142) hx hb dX3_tell_138 (by decide) ?_
            exact W.iret (v := 1) hx hb hr (fun t ht hW9 => ⟨⟨1, (), rfl, (Or.inr (Or.inr (Or.inr (Or.inr (Or.inr (Or.inr (Or.inr (Or.inr (Or.inr (Or.inr (Or.inr (Or.inr (Or.inr (Or.inr (Or.inr (Or.inr (Or.inr (Or.inr (Or.inr (Or.inr (Or.inr (Or.inr (Or.inr (Or.inr (Or.inr (Or.inr (Or.inr (Or.inr (Or.inl ⟨c_1, c_32, c_64, c_65, c_86, rfl⟩))))))))))))))))))))))))))))), trivial⟩, hS.F ht⟩) hS.2.2 dX3_tell_142
        · refine lv_tableOut (tgt := 143) hx hb dX3_tell_21 c_65 (by decide) ?_
          refine lv_iconst (v := (-1)) hx hb dX3_tell_143 (by decide) ?_
          exact W.iret (v := (-1)) hx hb hr (fun t ht hW9 => ⟨⟨(-1), (), rfl, (Or.inr (Or.inr (Or.inr (Or.inr (Or.inr (Or.inr (Or.inr (Or.inr (Or.inr (Or.inr (Or.inr (Or.inr (Or.inr (Or.inr (Or.inr (Or.inr (Or.inr (Or.inr (Or.inr (Or.inr (Or.inr (Or.inr (Or.inr (Or.inr (Or.inr (Or.inr (Or.inr (Or.inr (Or.inr (Or.inl ⟨c_1, c_32, c_64, c_65, rfl⟩)))))))))))))))))))))))))))))), trivial⟩, hS.F ht⟩) hS.2.2 dX3_tell_144
      · simp only [lt_I, le_I, eq_I, i_0, i_1, i_2, i_3, i_4, i_5, i_6, i_7, i_8, i_10, i_12, i_16, i_20, i_23, i_24, i_31, i_32, i_63, i_64, i_m1] at c_64
        refine lv_iconst (v := (-1)) hx hb dX3_tell_18 (by decide) ?_
        exact W.iret (v := (-1)) hx hb hr (fun t ht hW9 => ⟨⟨(-1), (), rfl, (Or.inr (Or.inr (Or.inr (Or.inr (Or.inr (Or.inr (Or.inr (Or.inr (Or.inr (Or.inr (Or.inr (Or.inr (Or.inr (Or.inr (Or.inr (Or.inr (Or.inr (Or.inr (Or.inr (Or.inr (Or.inr (Or.inr (Or.inr (Or.inr (Or.inr (Or.inr (Or.inr (Or.inr (Or.inr (Or.inr ⟨c_1, c_32, c_64, rfl⟩)))))))))))))))))))))))))))))), trivial⟩, hS.F ht⟩) hS.2.2 dX3_tell_19

