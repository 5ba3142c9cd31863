theorem dX3_clear_0 : decode cX3_clear 0 = .ok (.aload_n 0, 1) := by decide +kernel
theorem dX3_clear_1 : decode cX3_clear 1 = .ok (.iconst 0, 1) := by decide +kernel
theorem dX3_clear_2 : decode cX3_clear 2 = .ok (.putfield 19, 3) := by decide +kernel
theorem dX3_clear_5 : decode cX3_clear 5 = .ok (.aload_n 0, 1) := by decide +kernel
theorem dX3_clear_6 : decode cX3_clear 6 = .ok (.getfield 9, 3) := by decide +kernel
theorem dX3_clear_9 : decode cX3_clear 9 = .ok (.invokevirtual 23, 3) := by decide +kernel
theorem dX3_clear_12 : decode cX3_clear 12 = .ok (.aload_n 0, 1) := by decide +kernel
theorem dX3_clear_13 : decode cX3_clear 13 = .ok (.getfield 15, 3) := by decide +kernel
theorem dX3_clear_16 : decode cX3_clear 16 = .ok (.invokevirtual 28, 3) := by decide +kernel
theorem dX3_clear_19 : decode cX3_clear 19 = .ok (.return_, 1) := by decide +kernel
set_option maxHeartbeats 8000000 in
set_option maxRecDepth 100000 in
theorem t_X3_clear (l : Launch) (E : EE) (z0 : Nat) (G : Nat → Nat) (hGz : ∀ q, G q ≠ 0 → z0 ≤ q) (h0 : Nat) (hG : G h0 = 8) : Met l yX3_clear [Cond.code yX3_clear cX3_clear 1 none] ({ frames := 2, cells := 0, slots := 0, locals := 41 } : Room) (va_Pc [.ref h0] (fun U => (TH E (T1 E) G [] U.heap) ∧ KS E z0 U)) (va_Qv (fun (_ : Unit) => True) (fun _ t => TH E (T1 E) G [] t.heap) (fun q : Nat => G q ∈ ([8, 9, 10, 11, 16, 17] : List Nat))) 0 0 (fun q : Nat => G q ∈ ([8, 9, 10, 11, 16, 17] : List Nat)) := by
  refine Met.ofW (cc := cX3_clear) (maxL := 1) (ret := none) (by decide) rfl ?_
  intro p e s m args below meth c s₁ B hml hv
  obtain ⟨rfl, hT, hK⟩ := hv
  have hx := B.exec
  have hb := B.bytes
  have hr := B.returns
  have hts : ∀ w ∈ TS, w.before ([.ref h0] : List Value).toArray s = true := fun w hw => hK.2.1 w hw _
  have hown : s.vm.findClass RX3 = some m.cls := findClass_of_methodNamed B.named
  have hlocks := B.notSynchronized
  have hS : va_S (fun q : Nat => G q ∈ ([8, 9, 10, 11, 16, 17] : List Nat)) s.heap s.heap [] := va_S.rf
  have hAz : ∀ q, (fun q : Nat => G q ∈ ([8, 9, 10, 11, 16, 17] : List Nat)) q → z0 ≤ q := zL hGz (by decide)
  have hl := lv_entry ([.ref h0]) (n := 1) (Nat.le_of_ble_eq_true rfl)
  rw [lg_entry_eq]
  generalize (lg_sl ([.ref h0]) ++ List.replicate (1 - (lg_sl ([.ref h0])).length) Slot.unset).toArray = ls at hl ⊢
  have hl : lv_has ls 1 [(0, .ref h0)] := hl
  refine lv_aload_n hx hb dX3_clear_0 rfl (lv_at hl 0 rfl) ?_
  refine lv_iconst (v := 0) hx hb dX3_clear_1 (by decide) ?_
  obtain ⟨v0_1, v1_1, v2_1, ha_1, hg0_1, hg1_1⟩ := tr_8 hT hG
  refine rr_put (D := DG E) (ci := 3) (v := .int 0) (ty := .int) (C := RX3) (T := TX3) (N := 3) hx hb hts iw_X3 tyX3 tyX3_ok nmX3 hown hK.1 ha_1 hS (by show G h0 ∈ ([8, 9, 10, 11, 16, 17] : List Nat); rw [hG]; decide) rfl 2 (by decide) (hts _ fl_X3_19) (fun _ h9 => h9) rfl (by decide +kernel) rfl rfl (Nat.le_of_ble_eq_true rfl) dX3_clear_2 (fun H locs hn ho hz hS => ?_)
  have hr_2 : va_at (DG E) vwCl (h0, .inr (3, [.ref v0_1, .ref v1_1, .int 0])) H := hn
  have hT : TH E (T1 E) G [] H := hT.set hG (show T1 E G 8 _ from ⟨v0_1, v1_1, 0, rfl, hg0_1, hg1_1⟩) hr_2 ho
  refine lv_aload_n hx hb dX3_clear_5 rfl (lv_at hl 0 rfl) ?_
  refine va_get (D := DG E) (ci := 3) (v := .ref v0_1) (C := RX3) (T := TX3) (N := 3) hx hb hts iw_X3 hown hK.1 (va_one hr_2) 0 rfl rfl 0 (by decide) (hts _ fl_X3_9) (fun _ h9 => h9) rfl dX3_clear_6 ?_
  obtain ⟨v0_3, v1_3, v2_3, v3_3, v4_3, v5_3, v6_3, v7_3, v8_3, v9_3, v10_3, v11_3, v12_3, v13_3, ha_3, hb0_3, hg1_3, hg2_3, hg6_3⟩ := tr_9 hT hg0_1
  refine va_callv (rnV (fun H => TH E (T1 E) G [] H) (As := []) (rest := []) ⟨hx, hb, hml, hown, hts⟩ (t_X7_clear l E z0 G hGz v0_1 hg0_1) (cwV 0 hts (gdV ml_X3_23 im_X7_clear se_X7_X7_clear in_X7 co_X7_clear rfl) rfl rfl rfl (by decide +kernel) ⟨Nat.le_of_ble_eq_true rfl, Nat.le_of_ble_eq_true rfl⟩) hT (fun U hU hW => hK.go hW hS hAz hU) (va_recv hK.1 (va_one ha_3) (ci := 7) (q0 := 0) rfl rfl) rfl rfl hl.1 rfl (lv_room (Nat.le_of_ble_eq_true rfl)) dX3_clear_9 ⟨Nat.le_of_ble_eq_true rfl, Nat.le_of_ble_eq_true rfl⟩) hS (fun q _ h => mL (L' := [9, 11]) (L := [8, 9, 10, 11, 16, 17]) (by decide) h) (fun q h => mL (L' := [9, 11]) (L := [8, 9, 10, 11, 16, 17]) (by decide) h) (fun _ t H locs ht hvm hwr_4 hB hz hk hS => ?_)
  have hT : TH E (T1 E) G [] H := by rw [ht] at hB; exact hB
  have hr_2 := hr_2.kept (hk _ hr_2.lt (nL hG (by decide)))
  refine lv_aload_n hx hb dX3_clear_12 rfl (lv_at hl 0 rfl) ?_
  refine va_get (D := DG E) (ci := 3) (v := .ref v1_1) (C := RX3) (T := TX3) (N := 3) hx hb hts iw_X3 hown hK.1 (va_one hr_2) 0 rfl rfl 1 (by decide) (hts _ fl_X3_15) (fun _ h9 => h9) rfl dX3_clear_13 ?_
  obtain ⟨v0_5, v1_5, v2_5, v3_5, v4_5, v5_5, v6_5, v7_5, v8_5, ha_5, hb0_5, hg1_5, hg2_5, hg3_5, hg7_5, hg8_5⟩ := tr_10 hT hg1_1
  refine va_callv (rnV (fun H => TH E (T1 E) G [] H) (As := []) (rest := []) ⟨hx, hb, hml, hown, hts⟩ (t_X8_clear l E z0 G hGz v1_1 hg1_1) (cwV 0 hts (gdV ml_X3_28 im_X8_clear se_X8_X8_clear in_X8 co_X8_clear rfl) rfl rfl rfl (by decide +kernel) ⟨Nat.le_of_ble_eq_true rfl, Nat.le_of_ble_eq_true rfl⟩) hT (fun U hU hW => hK.go hW hS hAz hU) (va_recv hK.1 (va_one ha_5) (ci := 8) (q0 := 0) rfl rfl) rfl rfl hl.1 rfl (lv_room (Nat.le_of_ble_eq_true rfl)) dX3_clear_16 ⟨Nat.le_of_ble_eq_true rfl, Nat.le_of_ble_eq_true rfl⟩) hS (fun q _ h => mL (L' := [10, 11, 16, 17]) (L := [8, 9, 10, 11, 16, 17]) (by decide) h) (fun q h => mL (L' := [10, 11, 16, 17]) (L := [8, 9, 10, 11, 16, 17]) (by decide) h) (fun _ t H locs ht hvm hwr_6 hB hz hk hS => ?_)
  have hT : TH E (T1 E) G [] H := by rw [ht] at hB; exact hB
  have hr_2 := hr_2.kept (hk _ hr_2.lt (nL hG (by decide)))
  exact W.vret hx hb hr (fun t ht hW => ⟨⟨(), rfl, trivial, (by show TH E (T1 E) G [] t.heap; rw [ht]; exact hT)⟩, hS.F ht⟩) hS.2.2 dX3_clear_19
theorem dX3_start_0 : decode cX3_start 0 = .ok (.aload_n 0, 1) := by decide +kernel
theorem dX3_start_1 : decode cX3_start 1 = .ok (.iconst 1, 1) := by decide +kernel
theorem dX3_start_2 : decode cX3_start 2 = .ok (.putfield 19, 3) := by decide +kernel
theorem dX3_start_5 : decode cX3_start 5 = .ok (.aload_n 0, 1) := by decide +kernel
theorem dX3_start_6 : decode cX3_start 6 = .ok (.getfield 9, 3) := by decide +kernel
theorem dX3_start_9 : decode cX3_start 9 = .ok (.iload_n 1, 1) := by decide +kernel
theorem dX3_start_10 : decode cX3_start 10 = .ok (.invokevirtual 31, 3) := by decide +kernel
theorem dX3_start_13 : decode cX3_start 13 = .ok (.aload_n 0, 1) := by decide +kernel
theorem dX3_start_14 : decode cX3_start 14 = .ok (.getfield 15, 3) := by decide +kernel
theorem dX3_start_17 : decode cX3_start 17 = .ok (.iload_n 2, 1) := by decide +kernel
theorem dX3_start_18 : decode cX3_start 18 = .ok (.putfield 35, 3) := by decide +kernel
theorem dX3_start_21 : decode cX3_start 21 = .ok (.return_, 1) := by decide +kernel
set_option maxHeartbeats 8000000 in
set_option maxRecDepth 100000 in
theorem t_X3_start (l : Launch) (E : EE) (z0 : Nat) (G : Nat → Nat) (hGz : ∀ q, G q ≠ 0 → z0 ≤ q) (h0 : Nat) (p0 : Int32) (p1 : Int32) (hG : G h0 = 8) : Met l yX3_start [Cond.code yX3_start cX3_start 3 none] ({ frames := 1, cells := 0, slots := 0, locals := 21 } : Room) (va_Pc [.ref h0, .int p0, .int p1] (fun U => (TH E (T1 E) G [] U.heap) ∧ KS E z0 U)) (va_Qv (fun (_ : Unit) => True) (fun _ t => TH E (T1 E) G [] t.heap) (fun q : Nat => G q ∈ ([8, 9, 10] : List Nat))) 0 0 (fun q : Nat => G q ∈ ([8, 9, 10] : List Nat)) := by
  refine Met.ofW (cc := cX3_start) (maxL := 3) (ret := none) (by decide) rfl ?_
  intro p e s m args below meth c s₁ B hml hv
  obtain ⟨rfl, hT, hK⟩ := hv
  have hx := B.exec
  have hb := B.bytes
  have hr := B.returns
  have hts : ∀ w ∈ TS, w.before ([.ref h0, .int p0, .int p1] : List Value).toArray s = true := fun w hw => hK.2.1 w hw _
  have hown : s.vm.findClass RX3 = some m.cls := findClass_of_methodNamed B.named
  have hlocks := B.notSynchronized
  have hS : va_S (fun q : Nat => G q ∈ ([8, 9, 10] : List Nat)) s.heap s.heap [] := va_S.rf
  have hAz : ∀ q, (fun q : Nat => G q ∈ ([8, 9, 10] : List Nat)) q → z0 ≤ q := zL hGz (by decide)
  have hl := lv_entry ([.ref h0, .int p0, .int p1]) (n := 3) (Nat.le_of_ble_eq_true rfl)
  rw [lg_entry_eq]
  generalize (lg_sl ([.ref h0, .int p0, .int p1]) ++ List.replicate (3 - (lg_sl ([.ref h0, .int p0, .int p1])).length) Slot.unset).toArray = ls at hl ⊢
  have hl : lv_has ls 3 [(0, .ref h0), (1, .int p0), (2, .int p1)] := hl
  refine lv_aload_n hx hb dX3_start_0 rfl (lv_at hl 0 rfl) ?_
  refine lv_iconst (v := 1) hx hb dX3_start_1 (by decide) ?_
  obtain ⟨v0_1, v1_1, v2_1, ha_1, hg0_1, hg1_1⟩ := tr_8 hT hG
  refine rr_put (D := DG E) (ci := 3) (v := .int 1) (ty := .int) (C := RX3) (T := TX3) (N := 3) hx hb hts iw_X3 tyX3 tyX3_ok nmX3 hown hK.1 ha_1 hS (by show G h0 ∈ ([8, 9, 10] : List Nat); rw [hG]; decide) rfl 2 (by decide) (hts _ fl_X3_19) (fun _ h9 => h9) rfl (by decide +kernel) rfl rfl (Nat.le_of_ble_eq_true rfl) dX3_start_2 (fun H locs hn ho hz hS => ?_)
  have hr_2 : va_at (DG E) vwCl (h0, .inr (3, [.ref v0_1, .ref v1_1, .int 1])) H := hn
  have hT : TH E (T1 E) G [] H := hT.set hG (show T1 E G 8 _ from ⟨v0_1, v1_1, 1, rfl, hg0_1, hg1_1⟩) hr_2 ho
  refine lv_aload_n hx hb dX3_start_5 rfl (lv_at hl 0 rfl) ?_
  refine va_get (D := DG E) (ci := 3) (v := .ref v0_1) (C := RX3) (T := TX3) (N := 3) hx hb hts iw_X3 hown hK.1 (va_one hr_2) 0 rfl rfl 0 (by decide) (hts _ fl_X3_9) (fun _ h9 => h9) rfl dX3_start_6 ?_
  refine lv_iload_n hx hb dX3_start_9 rfl (lv_at hl 1 rfl) ?_
  obtain ⟨v0_3, v1_3, v2_3, v3_3, v4_3, v5_3, v6_3, v7_3, v8_3, v9_3, v10_3, v11_3, v12_3, v13_3, ha_3, hb0_3, hg1_3, hg2_3, hg6_3⟩ := tr_9 hT hg0_1
  refine va_callv (rnV (fun H => TH E (T1 E) G [] H) (As := [.int p0]) (rest := []) ⟨hx, hb, hml, hown, hts⟩ (t_X7_start l E z0 G hGz v0_1 p0 hg0_1) (cwV 1 hts (gdV ml_X3_31 im_X7_start se_X7_X7_start in_X7 co_X7_start rfl) rfl rfl rfl (by decide +kernel) ⟨Nat.le_of_ble_eq_true rfl, Nat.le_of_ble_eq_true rfl⟩) hT (fun U hU hW => hK.go hW hS hAz hU) (va_recv hK.1 (va_one ha_3) (ci := 7) (q0 := 0) rfl rfl) rfl rfl hl.1 rfl (lv_room (Nat.le_of_ble_eq_true rfl)) dX3_start_10 ⟨Nat.le_of_ble_eq_true rfl, Nat.le_of_ble_eq_true rfl⟩) hS (fun q _ h => mL (L' := [9]) (L := [8, 9, 10]) (by decide) h) (fun q h => mL (L' := [9]) (L := [8, 9, 10]) (by decide) h) (fun _ t H locs ht hvm hwr_4 hB hz hk hS => ?_)
  have hT : TH E (T1 E) G [] H := by rw [ht] at hB; exact hB
  have hr_2 := hr_2.kept (hk _ hr_2.lt (nL hG (by decide)))
  refine lv_aload_n hx hb dX3_start_13 rfl (lv_at hl 0 rfl) ?_
  refine va_get (D := DG E) (ci := 3) (v := .ref v1_1) (C := RX3) (T := TX3) (N := 3) hx hb hts iw_X3 hown hK.1 (va_one hr_2) 0 rfl rfl 1 (by decide) (hts _ fl_X3_15) (fun _ h9 => h9) rfl dX3_start_14 ?_
  refine lv_iload_n hx hb dX3_start_17 rfl (lv_at hl 2 rfl) ?_
  obtain ⟨v0_5, v1_5, v2_5, v3_5, v4_5, v5_5, v6_5, v7_5, v8_5, ha_5, hb0_5, hg1_5, hg2_5, hg3_5, hg7_5, hg8_5⟩ := tr_10 hT hg1_1
  refine rr_put (D := DG E) (ci := 8) (v := .int p1) (ty := .int) (C := RX8) (T := TX8) (N := 9) hx hb hts iw_X8 tyX8 tyX8_ok nmX8 hown hK.1 ha_5 hS (by show G v1_1 ∈ ([8, 9, 10] : List Nat); rw [hg1_1]; decide) rfl 4 (by decide) (hts _ fl_X3_35) (fun _ h9 => h9) rfl (by decide +kernel) rfl rfl (Nat.le_of_ble_eq_true rfl) dX3_start_18 (fun H locs hn ho hz hS => ?_)
  have hr_6 : va_at (DG E) vwCl (v1_1, .inr (8, [.int v0_5, .ref v1_5, .ref v2_5, .ref v3_5, .int p1, .int v5_5, .int v6_5, .ref v7_5, .ref v8_5])) H := hn
  have hT : TH E (T1 E) G [] H := hT.set hg1_1 (show T1 E G 10 _ from ⟨v0_5, v1_5, v2_5, v3_5, p1, v5_5, v6_5, v7_5, v8_5, rfl, (by omega), hg1_5, hg2_5, hg3_5, hg7_5, hg8_5⟩) hr_6 ho
  have hr_2 := hr_2.kept (ho _ (ne_G hG hg1_1 (by decide)))
  exact W.vret hx hb hr (fun t ht hW => ⟨⟨(), rfl, trivial, (by show TH E (T1 E) G [] t.heap; rw [ht]; exact hT)⟩, hS.F ht⟩) hS.2.2 dX3_start_21
theorem dX3_takesRequests_0 : decode cX3_takesRequests 0 = .ok (.aload_n 0, 1) := by decide +kernel
theorem dX3_takesRequests_1 : decode cX3_takesRequests 1 = .ok (.getfield 19, 3) := by decide +kernel
theorem dX3_takesRequests_4 : decode cX3_takesRequests 4 = .ok (.iconst 1, 1) := by decide +kernel
theorem dX3_takesRequests_5 : decode cX3_takesRequests 5 = .ok (.if_icmp .ne 20, 3) := by decide +kernel
theorem dX3_takesRequests_8 : decode cX3_takesRequests 8 = .ok (.aload_n 0, 1) := by decide +kernel
theorem dX3_takesRequests_9 : decode cX3_takesRequests 9 = .ok (.getfield 9, 3) := by decide +kernel
theorem dX3_takesRequests_12 : decode cX3_takesRequests 12 = .ok (.getfield 38, 3) := by decide +kernel
theorem dX3_takesRequests_15 : decode cX3_takesRequests 15 = .ok (.invokevirtual 42, 3) := by decide +kernel
theorem dX3_takesRequests_18 : decode cX3_takesRequests 18 = .ok (.ifCond .ne 7, 3) := by decide +kernel
theorem dX3_takesRequests_21 : decode cX3_takesRequests 21 = .ok (.iconst 1, 1) := by decide +kernel
theorem dX3_takesRequests_22 : decode cX3_takesRequests 22 = .ok (.goto 4, 3) := by decide +kernel
theorem dX3_takesRequests_25 : decode cX3_takesRequests 25 = .ok (.iconst 0, 1) := by decide +kernel
theorem dX3_takesRequests_26 : decode cX3_takesRequests 26 = .ok (.ireturn, 1) := by decide +kernel
set_option maxHeartbeats 8000000 in
set_option maxRecDepth 100000 in
theorem t_X3_takesRequests (l : Launch) (E : EE) (z0 : Nat) (G : Nat → Nat) (hGz : ∀ q, G q ≠ 0 → z0 ≤ q) (h0 : Nat) (hG : G h0 = 8) (e0 : Nat) (e1 : Nat) (e2 : Int32) (ge0 : G e0 = 9) (ge1 : G e1 = 10) (e0_0 : Int32) (e0_1 : Nat) (e0_2 : Nat) (e0_3 : Int32) (e0_4 : Int32) (e0_5 : Int32) (e0_6 : Nat) (e0_7 : Int32) (e0_8 : Int32) (e0_9 : Int32) (e0_10 : Int32) (e0_11 : Int32) (e0_12 : Int32) (e0_13 : Int32) (ge0_1 : G e0_1 = 5) (ge0_2 : G e0_2 = 4) (ge0_6 : G e0_6 = 11) (be0_0 : (0 ≤ e0_0.toInt ∧ e0_0.toInt ≤ 3)) (e0_6_0 : Int32) (e0_6_1 : Nat) (e0_6_2 : Nat) (e0_6_3 : Int32) (e0_6_4 : Int32) (e0_6_5 : Int32) (ge0_6_1 : G e0_6_1 = 5) (ge0_6_2 : G e0_6_2 = 12) (be0_6_3 : (0 ≤ e0_6_3.toInt ∧ e0_6_3.toInt ≤ 3)) (be0_6_4 : (0 ≤ e0_6_4.toInt ∧ e0_6_4.toInt ≤ 4)) : Met l yX3_takesRequests [Cond.code yX3_takesRequests cX3_takesRequests 1 (some .boolean)] ({ frames := 1, cells := 0, slots := 0, locals := 20 } : Room) (va_Pc [.ref h0] (fun U => (TH E (T1 E) G [] U.heap ∧ va_at (DG E) vwCl (h0, .inr (3, [.ref e0, .ref e1, .int e2])) U.heap ∧ va_at (DG E) vwCl (e0, .inr (7, [.int e0_0, .ref e0_1, .ref e0_2, .int e0_3, .int e0_4, .int e0_5, .ref e0_6, .int e0_7, .int e0_8, .int e0_9, .int e0_10, .int e0_11, .int e0_12, .int e0_13])) U.heap ∧ va_at (DG E) vwCl (e0_6, .inr (5, [.int e0_6_0, .ref e0_6_1, .ref e0_6_2, .int e0_6_3, .int e0_6_4, .int e0_6_5])) U.heap) ∧ KS E z0 U)) (va_Qi (fun (r : Int32) (_ : Unit) => (r = 0 ∨ r = 1) ∧ (r.toInt = 0 ∨ e0_6_4.toInt ≤ 3)) (fun _ t => True) (fun _ : Nat => False)) 0 0 (fun _ : Nat => False) := by
  refine Met.ofW (cc := cX3_takesRequests) (maxL := 1) (ret := (some .boolean)) (by decide) rfl ?_
  intro p e s m args below meth c s₁ B hml hv
  obtain ⟨rfl, ⟨hT, hx0, hx1, hx2⟩, hK⟩ := hv
  have hx := B.exec
  have hb := B.bytes
  have hr := B.returns
  have hts : ∀ w ∈ TS, w.before ([.ref h0] : List Value).toArray s = true := fun w hw => hK.2.1 w hw _
  have hown : s.vm.findClass RX3 = some m.cls := findClass_of_methodNamed B.named
  have hlocks := B.notSynchronized
  have hS : va_S (fun _ : Nat => False) s.heap s.heap [] := va_S.rf
  have hAz : ∀ q, (fun _ : Nat => False) q → z0 ≤ q := fun _ h => h.elim
  have hl := lv_entry ([.ref h0]) (n := 1) (Nat.le_of_ble_eq_true rfl)
  rw [lg_entry_eq]
  generalize (lg_sl ([.ref h0]) ++ List.replicate (1 - (lg_sl ([.ref h0])).length) Slot.unset).toArray = ls at hl ⊢
  have hl : lv_has ls 1 [(0, .ref h0)] := hl
  refine lv_aload_n hx hb dX3_takesRequests_0 rfl (lv_at hl 0 rfl) ?_
  refine va_get (D := DG E) (ci := 3) (v := .int e2) (C := RX3) (T := TX3) (N := 3) hx hb hts iw_X3 hown hK.1 (va_one hx0) 0 rfl rfl 2 (by decide) (hts _ fl_X3_19) (fun _ h9 => h9) rfl dX3_takesRequests_1 ?_
  refine lv_iconst (v := 1) hx hb dX3_takesRequests_4 (by decide) ?_
  refine lv_icmp_ne (tgt := 25) hx hb dX3_takesRequests_5 (by decide) (fun c_1 => ?_) (fun c_1 => ?_)
  · simp only [lt_I, le_I, eq_I, i_0, i_1, i_2, i_3, i_4, i_5, i_6, i_7, i_8, i_10, i_12, i_16, i_20, i_23, i_24, i_31, i_32, i_63, i_64, i_m1] at c_1
    refine lv_iconst (v := 0) hx hb dX3_takesRequests_25 (by decide) ?_
    exact W.zret (v := 0) (ty := .boolean) hx hb hr rfl (fun t ht hW => ⟨⟨0, (), rfl, ⟨by decide, by have h9 := i_0; omega⟩, trivial⟩, hS.F ht⟩) hS.2.2 dX3_takesRequests_26
  · simp only [lt_I, le_I, eq_I, i_0, i_1, i_2, i_3, i_4, i_5, i_6, i_7, i_8, i_10, i_12, i_16, i_20, i_23, i_24, i_31, i_32, i_63, i_64, i_m1] at c_1
    refine lv_aload_n hx hb dX3_takesRequests_8 rfl (lv_at hl 0 rfl) ?_
    refine va_get (D := DG E) (ci := 3) (v := .ref e0) (C := RX3) (T := TX3) (N := 3) hx hb hts iw_X3 hown hK.1 (va_one hx0) 0 rfl rfl 0 (by decide) (hts _ fl_X3_9) (fun _ h9 => h9) rfl dX3_takesRequests_9 ?_
    refine va_get (D := DG E) (ci := 7) (v := .ref e0_6) (C := RX7) (T := TX7) (N := 14) hx hb hts iw_X7 hown hK.1 (va_one hx1) 0 rfl rfl 6 (by decide) (hts _ fl_X3_38) (fun _ h9 => h9) rfl dX3_takesRequests_12 ?_
    refine va_calli (rnV (fun H => TH E (T1 E) G [] H ∧ va_at (DG E) vwCl (e0_6, .inr (5, [.int e0_6_0, .ref e0_6_1, .ref e0_6_2, .int e0_6_3, .int e0_6_4, .int e0_6_5])) H) (As := []) (rest := []) ⟨hx, hb, hml, hown, hts⟩ (t_X5_isFull l E z0 G hGz e0_6 ge0_6 e0_6_0 e0_6_1 e0_6_2 e0_6_3 e0_6_4 e0_6_5 ge0_6_1 ge0_6_2 (by omega) (by omega)) (cwV 0 hts (gdV ml_X3_42 im_X5_isFull se_X5_X5_isFull in_X5 co_X5_isFull rfl) rfl rfl rfl (by decide +kernel) ⟨Nat.le_of_ble_eq_true rfl, Nat.le_of_ble_eq_true rfl⟩) ⟨hT, hx2⟩ (fun U hU hW => hK.go hW hS hAz hU) (va_recv hK.1 (va_one hx2) (ci := 5) (q0 := 0) rfl rfl) rfl rfl hl.1 rfl (lv_room (Nat.le_of_ble_eq_true rfl)) dX3_takesRequests_15 ⟨Nat.le_of_ble_eq_true rfl, Nat.le_of_ble_eq_true rfl⟩) hS (fun q _ h => h.elim) (fun q h => h.elim) (fun r_2 _ t H locs ht hvm hwr_2 hB hz hk hS => ?_)
    have hT : TH E (T1 E) G [] H := hT.kept (fun q hq => hk q hq (fun h => h))
    have hx0 := hx0.kept (hk _ hx0.lt (fun h => h))
    have hx1 := hx1.kept (hk _ hx1.lt (fun h => h))
    have hx2 := hx2.kept (hk _ hx2.lt (fun h => h))
    have hzr_2 := s_rng hwr_2.1
    refine lv_if_ne (tgt := 25) hx hb dX3_takesRequests_18 (by decide) (fun c_3 => ?_) (fun c_3 => ?_)
    · simp only [lt_I, le_I, eq_I, i_0, i_1, i_2, i_3, i_4, i_5, i_6, i_7, i_8, i_10, i_12, i_16, i_20, i_23, i_24, i_31, i_32, i_63, i_64, i_m1] at c_3
      refine lv_iconst (v := 0) hx hb dX3_takesRequests_25 (by decide) ?_
      exact W.zret (v := 0) (ty := .boolean) hx hb hr rfl (fun t ht hW => ⟨⟨0, (), rfl, ⟨by decide, by have h9 := i_0; omega⟩, trivial⟩, hS.F ht⟩) hS.2.2 dX3_takesRequests_26
    · simp only [lt_I, le_I, eq_I, i_0, i_1, i_2, i_3, i_4, i_5, i_6, i_7, i_8, i_10, i_12, i_16, i_20, i_23, i_24, i_31, i_32, i_63, i_64, i_m1] at c_3
      refine lv_iconst (v := 1) hx hb dX3_takesRequests_21 (by decide) ?_
      refine lv_goto (tgt := 26) hx hb dX3_takesRequests_22 (by decide) ?_
      exact W.zret (v := 1) (ty := .boolean) hx hb hr rfl (fun t ht hW => ⟨⟨1, (), rfl, ⟨by decide, by have h9 := i_1; omega⟩, trivial⟩, hS.F ht⟩) hS.2.2 dX3_takesRequests_26
theorem dX3_takesReceives_0 : decode cX3_takesReceives 0 = .ok (.aload_n 0, 1) := by decide +kernel
theorem dX3_takesReceives_1 : decode cX3_takesReceives 1 = .ok (.getfield 19, 3) := by decide +kernel
theorem dX3_takesReceives_4 : decode cX3_takesReceives 4 = .ok (.iconst 2, 1) := by decide +kernel
theorem dX3_takesReceives_5 : decode cX3_takesReceives 5 = .ok (.if_icmp .eq 20, 3) := by decide +kernel
theorem dX3_takesReceives_8 : decode cX3_takesReceives 8 = .ok (.aload_n 0, 1) := by decide +kernel
theorem dX3_takesReceives_9 : decode cX3_takesReceives 9 = .ok (.getfield 15, 3) := by decide +kernel
theorem dX3_takesReceives_12 : decode cX3_takesReceives 12 = .ok (.getfield 48, 3) := by decide +kernel
theorem dX3_takesReceives_15 : decode cX3_takesReceives 15 = .ok (.invokevirtual 42, 3) := by decide +kernel
theorem dX3_takesReceives_18 : decode cX3_takesReceives 18 = .ok (.ifCond .ne 7, 3) := by decide +kernel
theorem dX3_takesReceives_21 : decode cX3_takesReceives 21 = .ok (.iconst 1, 1) := by decide +kernel
theorem dX3_takesReceives_22 : decode cX3_takesReceives 22 = .ok (.goto 4, 3) := by decide +kernel
theorem dX3_takesReceives_25 : decode cX3_takesReceives 25 = .ok (.iconst 0, 1) := by decide +kernel
theorem dX3_takesReceives_26 : decode cX3_takesReceives 26 = .ok (.ireturn, 1) := by decide +kernel
set_option maxHeartbeats 8000000 in
set_option maxRecDepth 100000 in
theorem t_X3_takesReceives (l : Launch) (E : EE) (z0 : Nat) (G : Nat → Nat) (hGz : ∀ q, G q ≠ 0 → z0 ≤ q) (h0 : Nat) (hG : G h0 = 8) (e0 : Nat) (e1 : Nat) (e2 : Int32) (ge0 : G e0 = 9) (ge1 : G e1 = 10) (e1_0 : Int32) (e1_1 : Nat) (e1_2 : Nat) (e1_3 : Nat) (e1_4 : Int32) (e1_5 : Int32) (e1_6 : Int32) (e1_7 : Nat) (e1_8 : Nat) (ge1_1 : G e1_1 = 5) (ge1_2 : G e1_2 = 4) (ge1_3 : G e1_3 = 11) (ge1_7 : G e1_7 = 16) (ge1_8 : G e1_8 = 17) (be1_0 : (0 ≤ e1_0.toInt ∧ e1_0.toInt ≤ 3)) (e1_3_0 : Int32) (e1_3_1 : Nat) (e1_3_2 : Nat) (e1_3_3 : Int32) (e1_3_4 : Int32) (e1_3_5 : Int32) (ge1_3_1 : G e1_3_1 = 5) (ge1_3_2 : G e1_3_2 = 12) (be1_3_3 : (0 ≤ e1_3_3.toInt ∧ e1_3_3.toInt ≤ 3)) (be1_3_4 : (0 ≤ e1_3_4.toInt ∧ e1_3_4.toInt ≤ 4)) : Met l yX3_takesReceives [Cond.code yX3_takesReceives cX3_takesReceives 1 (some .boolean)] ({ frames := 1, cells := 0, slots := 0, locals := 20 } : Room) (va_Pc [.ref h0] (fun U => (TH E (T1 E) G [] U.heap ∧ va_at (DG E) vwCl (h0, .inr (3, [.ref e0, .ref e1, .int e2])) U.heap ∧ va_at (DG E) vwCl (e1, .inr (8, [.int e1_0, .ref e1_1, .ref e1_2, .ref e1_3, .int e1_4, .int e1_5, .int e1_6, .ref e1_7, .ref e1_8])) U.heap ∧ va_at (DG E) vwCl (e1_3, .inr (5, [.int e1_3_0, .ref e1_3_1, .ref e1_3_2, .int e1_3_3, .int e1_3_4, .int e1_3_5])) U.heap) ∧ KS E z0 U)) (va_Qi (fun (r : Int32) (_ : Unit) => (r = 0 ∨ r = 1) ∧ (r.toInt = 0 ∨ e1_3_4.toInt ≤ 3)) (fun _ t => True) (fun _ : Nat => False)) 0 0 (fun _ : Nat => False) := by
  refine Met.ofW (cc := cX3_takesReceives) (maxL := 1) (ret := (some .boolean)) (by decide) rfl ?_
  intro p e s m args below meth c s₁ B hml hv
  obtain ⟨rfl, ⟨hT, hx0, hx1, hx2⟩, hK⟩ := hv
  have hx := B.exec
  have hb := B.bytes
  have hr := B.returns
  have hts : ∀ w ∈ TS, w.before ([.ref h0] : List Value).toArray s = true := fun w hw => hK.2.1 w hw _
  have hown : s.vm.findClass RX3 = some m.cls := findClass_of_methodNamed B.named
  have hlocks := B.notSynchronized
  have hS : va_S (fun _ : Nat => False) s.heap s.heap [] := va_S.rf
  have hAz : ∀ q, (fun _ : Nat => False) q → z0 ≤ q := fun _ h => h.elim
  have hl := lv_entry ([.ref h0]) (n := 1) (Nat.le_of_ble_eq_true rfl)
  rw [lg_entry_eq]
  generalize (lg_sl ([.ref h0]) ++ List.replicate (1 - (lg_sl ([.ref h0])).length) Slot.unset).toArray = ls at hl ⊢
  have hl : lv_has ls 1 [(0, .ref h0)] := hl
  refine lv_aload_n hx hb dX3_takesReceives_0 rfl (lv_at hl 0 rfl) ?_
  refine va_get (D := DG E) (ci := 3) (v := .int e2) (C := RX3) (T := TX3) (N := 3) hx hb hts iw_X3 hown hK.1 (va_one hx0) 0 rfl rfl 2 (by decide) (hts _ fl_X3_19) (fun _ h9 => h9) rfl dX3_takesReceives_1 ?_
  refine lv_iconst (v := 2) hx hb dX3_takesReceives_4 (by decide) ?_
  refine lv_icmp_eq (tgt := 25) hx hb dX3_takesReceives_5 (by decide) (fun c_1 => ?_) (fun c_1 => ?_)
  · simp only [lt_I, le_I, eq_I, i_0, i_1, i_2, i_3, i_4, i_5, i_6, i_7, i_8, i_10, i_12, i_16, i_20, i_23, i_24, i_31, i_32, i_63, i_64, i_m1] at c_1
    refine lv_iconst (v := 0) hx hb dX3_takesReceives_25 (by decide) ?_
    exact W.zret (v := 0) (ty := .boolean) hx hb hr rfl (fun t ht hW => ⟨⟨0, (), rfl, ⟨by decide, by have h9 := i_0; omega⟩, trivial⟩, hS.F ht⟩) hS.2.2 dX3_takesReceives_26
  · simp only [lt_I, le_I, eq_I, i_0, i_1, i_2, i_3, i_4, i_5, i_6, i_7, i_8, i_10, i_12, i_16, i_20, i_23, i_24, i_31, i_32, i_63, i_64, i_m1] at c_1
    refine lv_aload_n hx hb dX3_takesReceives_8 rfl (lv_at hl 0 rfl) ?_
    refine va_get (D := DG E) (ci := 3) (v := .ref e1) (C := RX3) (T := TX3) (N := 3) hx hb hts iw_X3 hown hK.1 (va_one hx0) 0 rfl rfl 1 (by decide) (hts _ fl_X3_15) (fun _ h9 => h9) rfl dX3_takesReceives_9 ?_
    refine va_get (D := DG E) (ci := 8) (v := .ref e1_3) (C := RX8) (T := TX8) (N := 9) hx hb hts iw_X8 hown hK.1 (va_one hx1) 0 rfl rfl 3 (by decide) (hts _ fl_X3_48) (fun _ h9 => h9) rfl dX3_takesReceives_12 ?_
    refine va_calli (rnV (fun H => TH E (T1 E) G [] H ∧ va_at (DG E) vwCl (e1_3, .inr (5, [.int e1_3_0, .ref e1_3_1, .ref e1_3_2, .int e1_3_3, .int e1_3_4, .int e1_3_5])) H) (As := []) (rest := []) ⟨hx, hb, hml, hown, hts⟩ (t_X5_isFull l E z0 G hGz e1_3 ge1_3 e1_3_0 e1_3_1 e1_3_2 e1_3_3 e1_3_4 e1_3_5 ge1_3_1 ge1_3_2 (by omega) (by omega)) (cwV 0 hts (gdV ml_X3_42 im_X5_isFull se_X5_X5_isFull in_X5 co_X5_isFull rfl) rfl rfl rfl (by decide +kernel) ⟨Nat.le_of_ble_eq_true rfl, Nat.le_of_ble_eq_true rfl⟩) ⟨hT, hx2⟩ (fun U hU hW => hK.go hW hS hAz hU) (va_recv hK.1 (va_one hx2) (ci := 5) (q0 := 0) rfl rfl) rfl rfl hl.1 rfl (lv_room (Nat.le_of_ble_eq_true rfl)) dX3_takesReceives_15 ⟨Nat.le_of_ble_eq_true rfl, Nat.le_of_ble_eq_true rfl⟩) hS (fun q _ h => h.elim) (fun q h => h.elim) (fun r_2 _ t H locs ht hvm hwr_2 hB hz hk hS => ?_)
    have hT : TH E (T1 E) G [] H := hT.kept (fun q hq => hk q hq (fun h => h))
    have hx0 := hx0.kept (hk _ hx0.lt (fun h => h))
    have hx1 := hx1.kept (hk _ hx1.lt (fun h => h))
    have hx2 := hx2.kept (hk _ hx2.lt (fun h => h))
    have hzr_2 := s_rng hwr_2.1
    refine lv_if_ne (tgt := 25) hx hb dX3_takesReceives_18 (by decide) (fun c_3 => ?_) (fun c_3 => ?_)
    · simp only [lt_I, le_I, eq_I, i_0, i_1, i_2, i_3, i_4, i_5, i_6, i_7, i_8, i_10, i_12, i_16, i_20, i_23, i_24, i_31, i_32, i_63, i_64, i_m1] at c_3
      refine lv_iconst (v := 0) hx hb dX3_takesReceives_25 (by decide) ?_
      exact W.zret (v := 0) (ty := .boolean) hx hb hr rfl (fun t ht hW => ⟨⟨0, (), rfl, ⟨by decide, by have h9 := i_0; omega⟩, trivial⟩, hS.F ht⟩) hS.2.2 dX3_takesReceives_26
    · simp only [lt_I, le_I, eq_I, i_0, i_1, i_2, i_3, i_4, i_5, i_6, i_7, i_8, i_10, i_12, i_16, i_20, i_23, i_24, i_31, i_32, i_63, i_64, i_m1] at c_3
      refine lv_iconst (v := 1) hx hb dX3_takesReceives_21 (by decide) ?_
      refine lv_goto (tgt := 26) hx hb dX3_takesReceives_22 (by decide) ?_
      exact W.zret (v := 1) (ty := .boolean) hx hb hr rfl (fun t ht hW => ⟨⟨1, (), rfl, ⟨by decide, by have h9 := i_1; omega⟩, trivial⟩, hS.F ht⟩) hS.2.2 dX3_takesReceives_26
theorem dX3_fail_0 : decode cX3_fail 0 = .ok (.aload_n 0, 1) := by decide +kernel
theorem dX3_fail_1 : decode cX3_fail 1 = .ok (.iconst 2, 1) := by decide +kernel
theorem dX3_fail_2 : decode cX3_fail 2 = .ok (.putfield 19, 3) := by decide +kernel
theorem dX3_fail_5 : decode cX3_fail 5 = .ok (.aload_n 0, 1) := by decide +kernel
theorem dX3_fail_6 : decode cX3_fail 6 = .ok (.getfield 9, 3) := by decide +kernel
theorem dX3_fail_9 : decode cX3_fail 9 = .ok (.getfield 38, 3) := by decide +kernel
theorem dX3_fail_12 : decode cX3_fail 12 = .ok (.iload_n 1, 1) := by decide +kernel
theorem dX3_fail_13 : decode cX3_fail 13 = .ok (.invokevirtual 84, 3) := by decide +kernel
theorem dX3_fail_16 : decode cX3_fail 16 = .ok (.aload_n 0, 1) := by decide +kernel
theorem dX3_fail_17 : decode cX3_fail 17 = .ok (.getfield 15, 3) := by decide +kernel
theorem dX3_fail_20 : decode cX3_fail 20 = .ok (.iload_n 2, 1) := by decide +kernel
theorem dX3_fail_21 : decode cX3_fail 21 = .ok (.invokevirtual 87, 3) := by decide +kernel
theorem dX3_fail_24 : decode cX3_fail 24 = .ok (.return_, 1) := by decide +kernel
set_option maxHeartbeats 8000000 in
set_option maxRecDepth 100000 in
theorem t_X3_fail (l : Launch) (E : EE) (z0 : Nat) (G : Nat → Nat) (hGz : ∀ q, G q ≠ 0 → z0 ≤ q) (h0 : Nat) (p0 : Int32) (p1 : Int32) (hG : G h0 = 8) : Met l yX3_fail [Cond.code yX3_fail cX3_fail 3 none] ({ frames := 4, cells := 0, slots := 0, locals := 89 } : Room) (va_Pc [.ref h0, .int p0, .int p1] (fun U => (TH E (T1 E) G [] U.heap) ∧ KS E z0 U)) (va_Qv (fun (_ : Unit) => True) (fun _ t => TH E (T1 E) G [] t.heap) (fun q : Nat => G q ∈ ([8, 5, 15, 11, 10] : List Nat))) 0 0 (fun q : Nat => G q ∈ ([8, 5, 15, 11, 10] : List Nat)) := by
  refine Met.ofW (cc := cX3_fail) (maxL := 3) (ret := none) (by decide) rfl ?_
  intro p e s m args below meth c s₁ B hml hv
  obtain ⟨rfl, hT, hK⟩ := hv
  have hx := B.exec
  have hb := B.bytes
  have hr := B.returns
  have hts : ∀ w ∈ TS, w.before ([.ref h0, .int p0, .int p1] : List Value).toArray s = true := fun w hw => hK.2.1 w hw _
  have hown : s.vm.findClass RX3 = some m.cls := findClass_of_methodNamed B.named
  have hlocks := B.notSynchronized
  have hS : va_S (fun q : Nat => G q ∈ ([8, 5, 15, 11, 10] : List Nat)) s.heap s.heap [] := va_S.rf
  have hAz : ∀ q, (fun q : Nat => G q ∈ ([8, 5, 15, 11, 10] : List Nat)) q → z0 ≤ q := zL hGz (by decide)
  have hl := lv_entry ([.ref h0, .int p0, .int p1]) (n := 3) (Nat.le_of_ble_eq_true rfl)
  rw [lg_entry_eq]
  generalize (lg_sl ([.ref h0, .int p0, .int p1]) ++ List.replicate (3 - (lg_sl ([.ref h0, .int p0, .int p1])).length) Slot.unset).toArray = ls at hl ⊢
  have hl : lv_has ls 3 [(0, .ref h0), (1, .int p0), (2, .int p1)] := hl
  refine lv_aload_n hx hb dX3_fail_0 rfl (lv_at hl 0 rfl) ?_
  refine lv_iconst (v := 2) hx hb dX3_fail_1 (by decide) ?_
  obtain ⟨v0_1, v1_1, v2_1, ha_1, hg0_1, hg1_1⟩ := tr_8 hT hG
  refine rr_put (D := DG E) (ci := 3) (v := .int 2) (ty := .int) (C := RX3) (T := TX3) (N := 3) hx hb hts iw_X3 tyX3 tyX3_ok nmX3 hown hK.1 ha_1 hS (by show G h0 ∈ ([8, 5, 15, 11, 10] : List Nat); rw [hG]; decide) rfl 2 (by decide) (hts _ fl_X3_19) (fun _ h9 => h9) rfl (by decide +kernel) rfl rfl (Nat.le_of_ble_eq_true rfl) dX3_fail_2 (fun H locs hn ho hz hS => ?_)
  have hr_2 : va_at (DG E) vwCl (h0, .inr (3, [.ref v0_1, .ref v1_1, .int 2])) H := hn
  have hT : TH E (T1 E) G [] H := hT.set hG (show T1 E G 8 _ from ⟨v0_1, v1_1, 2, rfl, hg0_1, hg1_1⟩) hr_2 ho
  refine lv_aload_n hx hb dX3_fail_5 rfl (lv_at hl 0 rfl) ?_
  refine va_get (D := DG E) (ci := 3) (v := .ref v0_1) (C := RX3) (T := TX3) (N := 3) hx hb hts iw_X3 hown hK.1 (va_one hr_2) 0 rfl rfl 0 (by decide) (hts _ fl_X3_9) (fun _ h9 => h9) rfl dX3_fail_6 ?_
  obtain ⟨v0_3, v1_3, v2_3, v3_3, v4_3, v5_3, v6_3, v7_3, v8_3, v9_3, v10_3, v11_3, v12_3, v13_3, ha_3, hb0_3, hg1_3, hg2_3, hg6_3⟩ := tr_9 hT hg0_1
  refine va_get (D := DG E) (ci := 7) (v := .ref v6_3) (C := RX7) (T := TX7) (N := 14) hx hb hts iw_X7 hown hK.1 (va_one ha_3) 0 rfl rfl 6 (by decide) (hts _ fl_X3_38) (fun _ h9 => h9) rfl dX3_fail_9 ?_
  refine lv_iload_n hx hb dX3_fail_12 rfl (lv_at hl 1 rfl) ?_
  obtain ⟨v0_4, v1_4, v2_4, v3_4, v4_4, v5_4, ha_4, hg1_4, hg2_4, hb3_4, hb4_4⟩ := tr_11 hT hg6_3
  refine va_callv (rnV (fun H => TH E (T1 E) G [] H) (As := [.int p0]) (rest := []) ⟨hx, hb, hml, hown, hts⟩ (t_X5_completeAll l E z0 G hGz v6_3 p0 hg6_3) (cwV 1 hts (gdV ml_X3_84 im_X5_completeAll se_X5_X5_completeAll in_X5 co_X5_completeAll rfl) rfl rfl rfl (by decide +kernel) ⟨Nat.le_of_ble_eq_true rfl, Nat.le_of_ble_eq_true rfl⟩) hT (fun U hU hW => hK.go hW hS hAz hU) (va_recv hK.1 (va_one ha_4) (ci := 5) (q0 := 0) rfl rfl) rfl rfl hl.1 rfl (lv_room (Nat.le_of_ble_eq_true rfl)) dX3_fail_13 ⟨Nat.le_of_ble_eq_true rfl, Nat.le_of_ble_eq_true rfl⟩) hS (fun q _ h => mL (L' := [5, 15, 11]) (L := [8, 5, 15, 11, 10]) (by decide) h) (fun q h => mL (L' := [5, 15, 11]) (L := [8, 5, 15, 11, 10]) (by decide) h) (fun _ t H locs ht hvm hwr_5 hB hz hk hS => ?_)
  have hT : TH E (T1 E) G [] H := by rw [ht] at hB; exact hB
  have hr_2 := hr_2.kept (hk _ hr_2.lt (nL hG (by decide)))
  have ha_3 := ha_3.kept (hk _ ha_3.lt (nL hg0_1 (by decide)))
  refine lv_aload_n hx hb dX3_fail_16 rfl (lv_at hl 0 rfl) ?_
  refine va_get (D := DG E) (ci := 3) (v := .ref v1_1) (C := RX3) (T := TX3) (N := 3) hx hb hts iw_X3 hown hK.1 (va_one hr_2) 0 rfl rfl 1 (by decide) (hts _ fl_X3_15) (fun _ h9 => h9) rfl dX3_fail_17 ?_
  refine lv_iload_n hx hb dX3_fail_20 rfl (lv_at hl 2 rfl) ?_
  obtain ⟨v0_6, v1_6, v2_6, v3_6, v4_6, v5_6, v6_6, v7_6, v8_6, ha_6, hb0_6, hg1_6, hg2_6, hg3_6, hg7_6, hg8_6⟩ := tr_10 hT hg1_1
  refine va_callv (rnV (fun H => TH E (T1 E) G [] H) (As := [.int p1]) (rest := []) ⟨hx, hb, hml, hown, hts⟩ (t_X8_completeAll l E z0 G hGz v1_1 p1 hg1_1) (cwV 1 hts (gdV ml_X3_87 im_X8_completeAll se_X8_X8_completeAll in_X8 co_X8_completeAll rfl) rfl rfl rfl (by decide +kernel) ⟨Nat.le_of_ble_eq_true rfl, Nat.le_of_ble_eq_true rfl⟩) hT (fun U hU hW => hK.go hW hS hAz hU) (va_recv hK.1 (va_one ha_6) (ci := 8) (q0 := 0) rfl rfl) rfl rfl hl.1 rfl (lv_room (Nat.le_of_ble_eq_true rfl)) dX3_fail_21 ⟨Nat.le_of_ble_eq_true rfl, Nat.le_of_ble_eq_true rfl⟩) hS (fun q _ h => mL (L' := [5, 15, 11, 10]) (L := [8, 5, 15, 11, 10]) (by decide) h) (fun q h => mL (L' := [5, 15, 11, 10]) (L := [8, 5, 15, 11, 10]) (by decide) h) (fun _ t H locs ht hvm hwr_7 hB hz hk hS => ?_)
  have hT : TH E (T1 E) G [] H := by rw [ht] at hB; exact hB
  have hr_2 := hr_2.kept (hk _ hr_2.lt (nL hG (by decide)))
  have ha_3 := ha_3.kept (hk _ ha_3.lt (nL hg0_1 (by decide)))
  exact W.vret hx hb hr (fun t ht hW => ⟨⟨(), rfl, trivial, (by show TH E (T1 E) G [] t.heap; rw [ht]; exact hT)⟩, hS.F ht⟩) hS.2.2 dX3_fail_24
theorem dX3_failsByTime_0 : decode cX3_failsByTime 0 = .ok (.aload_n 0, 1) := by decide +kernel
theorem dX3_failsByTime_1 : decode cX3_failsByTime 1 = .ok (.getfield 19, 3) := by decide +kernel
theorem dX3_failsByTime_4 : decode cX3_failsByTime 4 = .ok (.iconst 1, 1) := by decide +kernel
theorem dX3_failsByTime_5 : decode cX3_failsByTime 5 = .ok (.if_icmp .ne 13, 3) := by decide +kernel
theorem dX3_failsByTime_8 : decode cX3_failsByTime 8 = .ok (.aload_n 0, 1) := by decide +kernel
theorem dX3_failsByTime_9 : decode cX3_failsByTime 9 = .ok (.getfield 9, 3) := by decide +kernel
theorem dX3_failsByTime_12 : decode cX3_failsByTime 12 = .ok (.invokevirtual 81, 3) := by decide +kernel
theorem dX3_failsByTime_15 : decode cX3_failsByTime 15 = .ok (.ifCond .ne 5, 3) := by decide +kernel
theorem dX3_failsByTime_18 : decode cX3_failsByTime 18 = .ok (.iconst 0, 1) := by decide +kernel
theorem dX3_failsByTime_19 : decode cX3_failsByTime 19 = .ok (.ireturn, 1) := by decide +kernel
theorem dX3_failsByTime_20 : decode cX3_failsByTime 20 = .ok (.aload_n 0, 1) := by decide +kernel
theorem dX3_failsByTime_21 : decode cX3_failsByTime 21 = .ok (.iconst 1, 1) := by decide +kernel
theorem dX3_failsByTime_22 : decode cX3_failsByTime 22 = .ok (.iconst 5, 1) := by decide +kernel
theorem dX3_failsByTime_23 : decode cX3_failsByTime 23 = .ok (.invokevirtual 60, 3) := by decide +kernel
theorem dX3_failsByTime_26 : decode cX3_failsByTime 26 = .ok (.iconst 1, 1) := by decide +kernel
theorem dX3_failsByTime_27 : decode cX3_failsByTime 27 = .ok (.ireturn, 1) := by decide +kernel
set_option maxHeartbeats 8000000 in
set_option maxRecDepth 100000 in
theorem t_X3_failsByTime (l : Launch) (E : EE) (z0 : Nat) (G : Nat → Nat) (hGz : ∀ q, G q ≠ 0 → z0 ≤ q) (h0 : Nat) (hG : G h0 = 8) : Met l yX3_failsByTime [Cond.code yX3_failsByTime cX3_failsByTime 1 (some .boolean)] ({ frames := 5, cells := 0, slots := 0, locals := 111 } : Room) (va_Pc [.ref h0] (fun U => (TH E (T1 E) G [] U.heap) ∧ KS E z0 U)) (va_Qi (fun (r : Int32) (_ : Unit) => r = 0 ∨ r = 1) (fun _ t => TH E (T1 E) G [] t.heap) (fun q : Nat => G q ∈ ([8, 5, 15, 11, 10, 9] : List Nat))) 0 0 (fun q : Nat => G q ∈ ([8, 5, 15, 11, 10, 9] : List Nat)) := by
  refine Met.ofW (cc := cX3_failsByTime) (maxL := 1) (ret := (some .boolean)) (by decide) rfl ?_
  intro p e s m args below meth c s₁ B hml hv
  obtain ⟨rfl, hT, hK⟩ := hv
  have hx := B.exec
  have hb := B.bytes
  have hr := B.returns
  have hts : ∀ w ∈ TS, w.before ([.ref h0] : List Value).toArray s = true := fun w hw => hK.2.1 w hw _
  have hown : s.vm.findClass RX3 = some m.cls := findClass_of_methodNamed B.named
  have hlocks := B.notSynchronized
  have hS : va_S (fun q : Nat => G q ∈ ([8, 5, 15, 11, 10, 9] : List Nat)) s.heap s.heap [] := va_S.rf
  have hAz : ∀ q, (fun q : Nat => G q ∈ ([8, 5, 15, 11, 10, 9] : List Nat)) q → z0 ≤ q := zL hGz (by decide)
  have hl := lv_entry ([.ref h0]) (n := 1) (Nat.le_of_ble_eq_true rfl)
  rw [lg_entry_eq]
  generalize (lg_sl ([.ref h0]) ++ List.replicate (1 - (lg_sl ([.ref h0])).length) Slot.unset).toArray = ls at hl ⊢
  have hl : lv_has ls 1 [(0, .ref h0)] := hl
  refine lv_aload_n hx hb dX3_failsByTime_0 rfl (lv_at hl 0 rfl) ?_
  obtain ⟨v0_1, v1_1, v2_1, ha_1, hg0_1, hg1_1⟩ := tr_8 hT hG
  refine va_get (D := DG E) (ci := 3) (v := .int v2_1) (C := RX3) (T := TX3) (N := 3) hx hb hts iw_X3 hown hK.1 (va_one ha_1) 0 rfl rfl 2 (by decide) (hts _ fl_X3_19) (fun _ h9 => h9) rfl dX3_failsByTime_1 ?_
  refine lv_iconst (v := 1) hx hb dX3_failsByTime_4 (by decide) ?_
  refine lv_icmp_ne (tgt := 18) hx hb dX3_failsByTime_5 (by decide) (fun c_2 => ?_) (fun c_2 => ?_)
  · simp only [lt_I, le_I, eq_I, i_0, i_1, i_2, i_3, i_4, i_5, i_6, i_7, i_8, i_10, i_12, i_16, i_20, i_23, i_24, i_31, i_32, i_63, i_64, i_m1] at c_2
    refine lv_iconst (v := 0) hx hb dX3_failsByTime_18 (by decide) ?_
    exact W.zret (v := 0) (ty := .boolean) hx hb hr rfl (fun t ht hW => ⟨⟨0, (), rfl, (by decide), (by show TH E (T1 E) G [] t.heap; rw [ht]; exact hT)⟩, hS.F ht⟩) hS.2.2 dX3_failsByTime_19
  · simp only [lt_I, le_I, eq_I, i_0, i_1, i_2, i_3, i_4, i_5, i_6, i_7, i_8, i_10, i_12, i_16, i_20, i_23, i_24, i_31, i_32, i_63, i_64, i_m1] at c_2
    refine lv_aload_n hx hb dX3_failsByTime_8 rfl (lv_at hl 0 rfl) ?_
    refine va_get (D := DG E) (ci := 3) (v := .ref v0_1) (C := RX3) (T := TX3) (N := 3) hx hb hts iw_X3 hown hK.1 (va_one ha_1) 0 rfl rfl 0 (by decide) (hts _ fl_X3_9) (fun _ h9 => h9) rfl dX3_failsByTime_9 ?_
    obtain ⟨v0_3, v1_3, v2_3, v3_3, v4_3, v5_3, v6_3, v7_3, v8_3, v9_3, v10_3, v11_3, v12_3, v13_3, ha_3, hb0_3, hg1_3, hg2_3, hg6_3⟩ := tr_9 hT hg0_1
    refine va_calli (rnV (fun H => TH E (T1 E) G [] H) (As := []) (rest := []) ⟨hx, hb, hml, hown, hts⟩ (t_X7_waitsTooLong l E z0 G hGz v0_1 hg0_1) (cwV 0 hts (gdV ml_X3_81 im_X7_waitsTooLong se_X7_X7_waitsTooLong in_X7 co_X7_waitsTooLong rfl) rfl rfl rfl (by decide +kernel) ⟨Nat.le_of_ble_eq_true rfl, Nat.le_of_ble_eq_true rfl⟩) hT (fun U hU hW => hK.go hW hS hAz hU) (va_recv hK.1 (va_one ha_3) (ci := 7) (q0 := 0) rfl rfl) rfl rfl hl.1 rfl (lv_room (Nat.le_of_ble_eq_true rfl)) dX3_failsByTime_12 ⟨Nat.le_of_ble_eq_true rfl, Nat.le_of_ble_eq_true rfl⟩) hS (fun q _ h => mL (L' := [9]) (L := [8, 5, 15, 11, 10, 9]) (by decide) h) (fun q h => mL (L' := [9]) (L := [8, 5, 15, 11, 10, 9]) (by decide) h) (fun r_4 _ t H locs ht hvm hwr_4 hB hz hk hS => ?_)
    have hT : TH E (T1 E) G [] H := by rw [ht] at hB; exact hB
    have ha_1 := ha_1.kept (hk _ ha_1.lt (nL hG (by decide)))
    have hzr_4 := s_rng hwr_4
    refine lv_if_ne (tgt := 20) hx hb dX3_failsByTime_15 (by decide) (fun c_5 => ?_) (fun c_5 => ?_)
    · simp only [lt_I, le_I, eq_I, i_0, i_1, i_2, i_3, i_4, i_5, i_6, i_7, i_8, i_10, i_12, i_16, i_20, i_23, i_24, i_31, i_32, i_63, i_64, i_m1] at c_5
      refine lv_aload_n hx hb dX3_failsByTime_20 rfl (lv_at hl 0 rfl) ?_
      refine lv_iconst (v := 1) hx hb dX3_failsByTime_21 (by decide) ?_
      refine lv_iconst (v := 5) hx hb dX3_failsByTime_22 (by decide) ?_
      refine va_callv (rnV (fun H => TH E (T1 E) G [] H) (As := [.int 1, .int 5]) (rest := []) ⟨hx, hb, hml, hown, hts⟩ (t_X3_fail l E z0 G hGz h0 1 5 hG) (cwV 2 hts (gdV ml_X3_60 im_X3_fail se_X3_X3_fail in_X3 co_X3_fail rfl) rfl rfl rfl (by decide +kernel) ⟨Nat.le_of_ble_eq_true rfl, Nat.le_of_ble_eq_true rfl⟩) hT (fun U hU hW => hK.go hW hS hAz hU) (va_recv hK.1 (va_one ha_1) (ci := 3) (q0 := 0) rfl rfl) rfl rfl hl.1 rfl (lv_room (Nat.le_of_ble_eq_true rfl)) dX3_failsByTime_23 ⟨Nat.le_of_ble_eq_true rfl, Nat.le_of_ble_eq_true rfl⟩) hS (fun q _ h => mL (L' := [8, 5, 15, 11, 10]) (L := [8, 5, 15, 11, 10, 9]) (by decide) h) (fun q h => mL (L' := [8, 5, 15, 11, 10]) (L := [8, 5, 15, 11, 10, 9]) (by decide) h) (fun _ t H locs ht hvm hwr_6 hB hz hk hS => ?_)
      have hT : TH E (T1 E) G [] H := by rw [ht] at hB; exact hB
      refine lv_iconst (v := 1) hx hb dX3_failsByTime_26 (by decide) ?_
      exact W.zret (v := 1) (ty := .boolean) hx hb hr rfl (fun t ht hW => ⟨⟨1, (), rfl, (by decide), (by show TH E (T1 E) G [] t.heap; rw [ht]; exact hT)⟩, hS.F ht⟩) hS.2.2 dX3_failsByTime_27
    · simp only [lt_I, le_I, eq_I, i_0, i_1, i_2, i_3, i_4, i_5, i_6, i_7, i_8, i_10, i_12, i_16, i_20, i_23, i_24, i_31, i_32, i_63, i_64, i_m1] at c_5
      refine lv_iconst (v := 0) hx hb dX3_failsByTime_18 (by decide) ?_
      exact W.zret (v := 0) (ty := .boolean) hx hb hr rfl (fun t ht hW => ⟨⟨0, (), rfl, (by decide), (by show TH E (T1 E) G [] t.heap; rw [ht]; exact hT)⟩, hS.F ht⟩) hS.2.2 dX3_failsByTime_19
theorem dX3_takeIn_0 : decode cX3_takeIn 0 = .ok (.aload_n 0, 1) := by decide +kernel
theorem dX3_takeIn_1 : decode cX3_takeIn 1 = .ok (.getfield 19, 3) := by decide +kernel
theorem dX3_takeIn_4 : decode cX3_takeIn 4 = .ok (.iconst 1, 1) := by decide +kernel
theorem dX3_takeIn_5 : decode cX3_takeIn 5 = .ok (.if_icmp .eq 4, 3) := by decide +kernel
theorem dX3_takeIn_8 : decode cX3_takeIn 8 = .ok (.return_, 1) := by decide +kernel
theorem dX3_takeIn_9 : decode cX3_takeIn 9 = .ok (.aload_n 1, 1) := by decide +kernel
theorem dX3_takeIn_10 : decode cX3_takeIn 10 = .ok (.getfield 51, 3) := by decide +kernel
theorem dX3_takeIn_13 : decode cX3_takeIn 13 = .ok (.iconst 3, 1) := by decide +kernel
theorem dX3_takeIn_14 : decode cX3_takeIn 14 = .ok (.if_icmp .gt 25, 3) := by decide +kernel
theorem dX3_takeIn_17 : decode cX3_takeIn 17 = .ok (.aload_n 0, 1) := by decide +kernel
theorem dX3_takeIn_18 : decode cX3_takeIn 18 = .ok (.getfield 15, 3) := by decide +kernel
theorem dX3_takeIn_21 : decode cX3_takeIn 21 = .ok (.aload_n 1, 1) := by decide +kernel
theorem dX3_takeIn_22 : decode cX3_takeIn 22 = .ok (.invokevirtual 56, 3) := by decide +kernel
theorem dX3_takeIn_25 : decode cX3_takeIn 25 = .ok (.istore_n 2, 1) := by decide +kernel
theorem dX3_takeIn_26 : decode cX3_takeIn 26 = .ok (.iload_n 2, 1) := by decide +kernel
theorem dX3_takeIn_27 : decode cX3_takeIn 27 = .ok (.ifCond .eq 9, 3) := by decide +kernel
theorem dX3_takeIn_30 : decode cX3_takeIn 30 = .ok (.aload_n 0, 1) := by decide +kernel
theorem dX3_takeIn_31 : decode cX3_takeIn 31 = .ok (.iconst 5, 1) := by decide +kernel
theorem dX3_takeIn_32 : decode cX3_takeIn 32 = .ok (.iload_n 2, 1) := by decide +kernel
theorem dX3_takeIn_33 : decode cX3_takeIn 33 = .ok (.invokevirtual 60, 3) := by decide +kernel
theorem dX3_takeIn_36 : decode cX3_takeIn 36 = .ok (.goto 71, 3) := by decide +kernel
theorem dX3_takeIn_39 : decode cX3_takeIn 39 = .ok (.aload_n 1, 1) := by decide +kernel
theorem dX3_takeIn_40 : decode cX3_takeIn 40 = .ok (.getfield 51, 3) := by decide +kernel
theorem dX3_takeIn_43 : decode cX3_takeIn 43 = .ok (.bipush 6, 2) := by decide +kernel
theorem dX3_takeIn_45 : decode cX3_takeIn 45 = .ok (.if_icmp .ne 32, 3) := by decide +kernel
theorem dX3_takeIn_48 : decode cX3_takeIn 48 = .ok (.aload_n 0, 1) := by decide +kernel
theorem dX3_takeIn_49 : decode cX3_takeIn 49 = .ok (.getfield 9, 3) := by decide +kernel
theorem dX3_takeIn_52 : decode cX3_takeIn 52 = .ok (.aload_n 1, 1) := by decide +kernel
theorem dX3_takeIn_53 : decode cX3_takeIn 53 = .ok (.getfield 64, 3) := by decide +kernel
theorem dX3_takeIn_56 : decode cX3_takeIn 56 = .ok (.aload_n 1, 1) := by decide +kernel
theorem dX3_takeIn_57 : decode cX3_takeIn 57 = .ok (.getfield 67, 3) := by decide +kernel
theorem dX3_takeIn_60 : decode cX3_takeIn 60 = .ok (.invokevirtual 70, 3) := by decide +kernel
theorem dX3_takeIn_63 : decode cX3_takeIn 63 = .ok (.istore_n 2, 1) := by decide +kernel
theorem dX3_takeIn_64 : decode cX3_takeIn 64 = .ok (.iload_n 2, 1) := by decide +kernel
theorem dX3_takeIn_65 : decode cX3_takeIn 65 = .ok (.ifCond .eq 9, 3) := by decide +kernel
theorem dX3_takeIn_68 : decode cX3_takeIn 68 = .ok (.aload_n 0, 1) := by decide +kernel
theorem dX3_takeIn_69 : decode cX3_takeIn 69 = .ok (.iload_n 2, 1) := by decide +kernel
theorem dX3_takeIn_70 : decode cX3_takeIn 70 = .ok (.iconst 5, 1) := by decide +kernel
theorem dX3_takeIn_71 : decode cX3_takeIn 71 = .ok (.invokevirtual 60, 3) := by decide +kernel
theorem dX3_takeIn_74 : decode cX3_takeIn 74 = .ok (.goto 33, 3) := by decide +kernel
theorem dX3_takeIn_77 : decode cX3_takeIn 77 = .ok (.aload_n 1, 1) := by decide +kernel
theorem dX3_takeIn_78 : decode cX3_takeIn 78 = .ok (.getfield 51, 3) := by decide +kernel
theorem dX3_takeIn_81 : decode cX3_takeIn 81 = .ok (.iconst 5, 1) := by decide +kernel
theorem dX3_takeIn_82 : decode cX3_takeIn 82 = .ok (.if_icmp .ne 17, 3) := by decide +kernel
theorem dX3_takeIn_85 : decode cX3_takeIn 85 = .ok (.aload_n 0, 1) := by decide +kernel
theorem dX3_takeIn_86 : decode cX3_takeIn 86 = .ok (.getfield 9, 3) := by decide +kernel
theorem dX3_takeIn_89 : decode cX3_takeIn 89 = .ok (.aload_n 1, 1) := by decide +kernel
theorem dX3_takeIn_90 : decode cX3_takeIn 90 = .ok (.getfield 64, 3) := by decide +kernel
theorem dX3_takeIn_93 : decode cX3_takeIn 93 = .ok (.invokevirtual 74, 3) := by decide +kernel
theorem dX3_takeIn_96 : decode cX3_takeIn 96 = .ok (.goto 11, 3) := by decide +kernel
theorem dX3_takeIn_99 : decode cX3_takeIn 99 = .ok (.aload_n 0, 1) := by decide +kernel
theorem dX3_takeIn_100 : decode cX3_takeIn 100 = .ok (.getfield 9, 3) := by decide +kernel
theorem dX3_takeIn_103 : decode cX3_takeIn 103 = .ok (.aload_n 1, 1) := by decide +kernel
theorem dX3_takeIn_104 : decode cX3_takeIn 104 = .ok (.invokevirtual 77, 3) := by decide +kernel
theorem dX3_takeIn_107 : decode cX3_takeIn 107 = .ok (.return_, 1) := by decide +kernel
set_option maxHeartbeats 8000000 in
set_option maxRecDepth 100000 in
theorem t_X3_takeIn (l : Launch) (E : EE) (z0 : Nat) (G : Nat → Nat) (hGz : ∀ q, G q ≠ 0 → z0 ≤ q) (h0 : Nat) (p0 : Nat) (hG : G h0 = 8) (hG0 : G p0 = 31) : Met l yX3_takeIn [Cond.code yX3_takeIn cX3_takeIn 3 none] ({ frames := 6, cells := 0, slots := 0, locals := 132 } : Room) (va_Pc [.ref h0, .ref p0] (fun U => (TH E (T1 E) G [] U.heap) ∧ KS E z0 U)) (va_Qv (fun (_ : Unit) => True) (fun _ t => TH E (T1 E) G [] t.heap) (fun q : Nat => G q ∈ ([8, 9, 10, 4, 31, 32, 14, 13, 5, 15, 11, 16, 17] : List Nat))) 0 0 (fun q : Nat => G q ∈ ([8, 9, 10, 4, 31, 32, 14, 13, 5, 15, 11, 16, 17] : List Nat)) := by
  refine Met.ofW (cc := cX3_takeIn) (maxL := 3) (ret := none) (by decide) rfl ?_
  intro p e s m args below meth c s₁ B hml hv
  obtain ⟨rfl, hT, hK⟩ := hv
  have hx := B.exec
  have hb := B.bytes
  have hr := B.returns
  have hts : ∀ w ∈ TS, w.before ([.ref h0, .ref p0] : List Value).toArray s = true := fun w hw => hK.2.1 w hw _
  have hown : s.vm.findClass RX3 = some m.cls := findClass_of_methodNamed B.named
  have hlocks := B.notSynchronized
  have hS : va_S (fun q : Nat => G q ∈ ([8, 9, 10, 4, 31, 32, 14, 13, 5, 15, 11, 16, 17] : List Nat)) s.heap s.heap [] := va_S.rf
  have hAz : ∀ q, (fun q : Nat => G q ∈ ([8, 9, 10, 4, 31, 32, 14, 13, 5, 15, 11, 16, 17] : List Nat)) q → z0 ≤ q := zL hGz (by decide)
  have hl := lv_entry ([.ref h0, .ref p0]) (n := 3) (Nat.le_of_ble_eq_true rfl)
  rw [lg_entry_eq]
  generalize (lg_sl ([.ref h0, .ref p0]) ++ List.replicate (3 - (lg_sl ([.ref h0, .ref p0])).length) Slot.unset).toArray = ls at hl ⊢
  have hl : lv_has ls 3 [(0, .ref h0), (1, .ref p0)] := hl
  refine lv_aload_n hx hb dX3_takeIn_0 rfl (lv_at hl 0 rfl) ?_
  obtain ⟨v0_1, v1_1, v2_1, ha_1, hg0_1, hg1_1⟩ := tr_8 hT hG
  refine va_get (D := DG E) (ci := 3) (v := .int v2_1) (C := RX3) (T := TX3) (N := 3) hx hb hts iw_X3 hown hK.1 (va_one ha_1) 0 rfl rfl 2 (by decide) (hts _ fl_X3_19) (fun _ h9 => h9) rfl dX3_takeIn_1 ?_
  refine lv_iconst (v := 1) hx hb dX3_takeIn_4 (by decide) ?_
  refine lv_icmp_eq (tgt := 9) hx hb dX3_takeIn_5 (by decide) (fun c_2 => ?_) (fun c_2 => ?_)
  · simp only [lt_I, le_I, eq_I, i_0, i_1, i_2, i_3, i_4, i_5, i_6, i_7, i_8, i_10, i_12, i_16, i_20, i_23, i_24, i_31, i_32, i_63, i_64, i_m1] at c_2
    refine lv_aload_n hx hb dX3_takeIn_9 rfl (lv_at hl 1 rfl) ?_
    obtain ⟨v0_3, v1_3, v2_3, v3_3, v4_3, v5_3, v6_3, v7_3, ha_3, hb0_3, hb3_3, hg7_3⟩ := tr_31 hT hG0
    refine va_get (D := DG E) (ci := 2) (v := .int v1_3) (C := RX2) (T := TX2) (N := 8) hx hb hts iw_X2 hown hK.1 (va_one ha_3) 0 rfl rfl 1 (by decide) (hts _ fl_X3_51) (fun _ h9 => h9) rfl dX3_takeIn_10 ?_
    refine lv_iconst (v := 3) hx hb dX3_takeIn_13 (by decide) ?_
    refine lv_icmp_gt (tgt := 39) hx hb dX3_takeIn_14 (by decide) (fun c_4 => ?_) (fun c_4 => ?_)
    · simp only [lt_I, le_I, eq_I, i_0, i_1, i_2, i_3, i_4, i_5, i_6, i_7, i_8, i_10, i_12, i_16, i_20, i_23, i_24, i_31, i_32, i_63, i_64, i_m1] at c_4
      refine lv_aload_n hx hb dX3_takeIn_39 rfl (lv_at hl 1 rfl) ?_
      refine va_get (D := DG E) (ci := 2) (v := .int v1_3) (C := RX2) (T := TX2) (N := 8) hx hb hts iw_X2 hown hK.1 (va_one ha_3) 0 rfl rfl 1 (by decide) (hts _ fl_X3_51) (fun _ h9 => h9) rfl dX3_takeIn_40 ?_
      refine lv_bipush (v := 6) hx hb dX3_takeIn_43 (by decide) ?_
      refine lv_icmp_ne (tgt := 77) hx hb dX3_takeIn_45 (by decide) (fun c_5 => ?_) (fun c_5 => ?_)
      · simp only [lt_I, le_I, eq_I, i_0, i_1, i_2, i_3, i_4, i_5, i_6, i_7, i_8, i_10, i_12, i_16, i_20, i_23, i_24, i_31, i_32, i_63, i_64, i_m1] at c_5
        refine lv_aload_n hx hb dX3_takeIn_77 rfl (lv_at hl 1 rfl) ?_
        refine va_get (D := DG E) (ci := 2) (v := .int v1_3) (C := RX2) (T := TX2) (N := 8) hx hb hts iw_X2 hown hK.1 (va_one ha_3) 0 rfl rfl 1 (by decide) (hts _ fl_X3_51) (fun _ h9 => h9) rfl dX3_takeIn_78 ?_
        refine lv_iconst (v := 5) hx hb dX3_takeIn_81 (by decide) ?_
        refine lv_icmp_ne (tgt := 99) hx hb dX3_takeIn_82 (by decide) (fun c_6 => ?_) (fun c_6 => ?_)
        · simp only [lt_I, le_I, eq_I, i_0, i_1, i_2, i_3, i_4, i_5, i_6, i_7, i_8, i_10, i_12, i_16, i_20, i_23, i_24, i_31, i_32, i_63, i_64, i_m1] at c_6
          refine lv_aload_n hx hb dX3_takeIn_99 rfl (lv_at hl 0 rfl) ?_
          refine va_get (D := DG E) (ci := 3) (v := .ref v0_1) (C := RX3) (T := TX3) (N := 3) hx hb hts iw_X3 hown hK.1 (va_one ha_1) 0 rfl rfl 0 (by decide) (hts _ fl_X3_9) (fun _ h9 => h9) rfl dX3_takeIn_100 ?_
          refine lv_aload_n hx hb dX3_takeIn_103 rfl (lv_at hl 1 rfl) ?_
          obtain ⟨v0_7, v1_7, v2_7, v3_7, v4_7, v5_7, v6_7, v7_7, v8_7, v9_7, v10_7, v11_7, v12_7, v13_7, ha_7, hb0_7, hg1_7, hg2_7, hg6_7⟩ := tr_9 hT hg0_1
          refine va_callv (rnV (fun H => TH E (T1 E) G [] H) (As := [.ref p0]) (rest := []) ⟨hx, hb, hml, hown, hts⟩ (t_X7_takeReply l E z0 G hGz v0_1 p0 hg0_1 hG0) (cwV 1 hts (gdV ml_X3_77 im_X7_takeReply se_X7_X7_takeReply in_X7 co_X7_takeReply rfl) rfl rfl rfl (by decide +kernel) ⟨Nat.le_of_ble_eq_true rfl, Nat.le_of_ble_eq_true rfl⟩) hT (fun U hU hW => hK.go hW hS hAz hU) (va_recv hK.1 (va_one ha_7) (ci := 7) (q0 := 0) rfl rfl) rfl rfl hl.1 rfl (lv_room (Nat.le_of_ble_eq_true rfl)) dX3_takeIn_104 ⟨Nat.le_of_ble_eq_true rfl, Nat.le_of_ble_eq_true rfl⟩) hS (fun q _ h => mL (L' := [14, 9, 11, 5, 15]) (L := [8, 9, 10, 4, 31, 32, 14, 13, 5, 15, 11, 16, 17]) (by decide) h) (fun q h => mL (L' := [14, 9, 11, 5, 15]) (L := [8, 9, 10, 4, 31, 32, 14, 13, 5, 15, 11, 16, 17]) (by decide) h) (fun _ t H locs ht hvm hwr_8 hB hz hk hS => ?_)
          have hT : TH E (T1 E) G [] H := by rw [ht] at hB; exact hB
          have ha_1 := ha_1.kept (hk _ ha_1.lt (nL hG (by decide)))
          have ha_3 := ha_3.kept (hk _ ha_3.lt (nL hG0 (by decide)))
          exact W.vret hx hb hr (fun t ht hW => ⟨⟨(), rfl, trivial, (by show TH E (T1 E) G [] t.heap; rw [ht]; exact hT)⟩, hS.F ht⟩) hS.2.2 dX3_takeIn_107
        · simp only [lt_I, le_I, eq_I, i_0, i_1, i_2, i_3, i_4, i_5, i_6, i_7, i_8, i_10, i_12, i_16, i_20, i_23, i_24, i_31, i_32, i_63, i_64, i_m1] at c_6
          refine lv_aload_n hx hb dX3_takeIn_85 rfl (lv_at hl 0 rfl) ?_
          refine va_get (D := DG E) (ci := 3) (v := .ref v0_1) (C := RX3) (T := TX3) (N := 3) hx hb hts iw_X3 hown hK.1 (va_one ha_1) 0 rfl rfl 0 (by decide) (hts _ fl_X3_9) (fun _ h9 => h9) rfl dX3_takeIn_86 ?_
          refine lv_aload_n hx hb dX3_takeIn_89 rfl (lv_at hl 1 rfl) ?_
          refine va_get (D := DG E) (ci := 2) (v := .int v2_3) (C := RX2) (T := TX2) (N := 8) hx hb hts iw_X2 hown hK.1 (va_one ha_3) 0 rfl rfl 2 (by decide) (hts _ fl_X3_64) (fun _ h9 => h9) rfl dX3_takeIn_90 ?_
          obtain ⟨v0_9, v1_9, v2_9, v3_9, v4_9, v5_9, v6_9, v7_9, v8_9, v9_9, v10_9, v11_9, v12_9, v13_9, ha_9, hb0_9, hg1_9, hg2_9, hg6_9⟩ := tr_9 hT hg0_1
          refine va_callv (rnV (fun H => TH E (T1 E) G [] H) (As := [.int v2_3]) (rest := []) ⟨hx, hb, hml, hown, hts⟩ (t_X7_takeAck l E z0 G hGz v0_1 v2_3 hg0_1) (cwV 1 hts (gdV ml_X3_74 im_X7_takeAck se_X7_X7_takeAck in_X7 co_X7_takeAck rfl) rfl rfl rfl (by decide +kernel) ⟨Nat.le_of_ble_eq_true rfl, Nat.le_of_ble_eq_true rfl⟩) hT (fun U hU hW => hK.go hW hS hAz hU) (va_recv hK.1 (va_one ha_9) (ci := 7) (q0 := 0) rfl rfl) rfl rfl hl.1 rfl (lv_room (Nat.le_of_ble_eq_true rfl)) dX3_takeIn_93 ⟨Nat.le_of_ble_eq_true rfl, Nat.le_of_ble_eq_true rfl⟩) hS (fun q _ h => mL (L' := [9, 11, 5, 15]) (L := [8, 9, 10, 4, 31, 32, 14, 13, 5, 15, 11, 16, 17]) (by decide) h) (fun q h => mL (L' := [9, 11, 5, 15]) (L := [8, 9, 10, 4, 31, 32, 14, 13, 5, 15, 11, 16, 17]) (by decide) h) (fun _ t H locs ht hvm hwr_10 hB hz hk hS => ?_)
          have hT : TH E (T1 E) G [] H := by rw [ht] at hB; exact hB
          have ha_1 := ha_1.kept (hk _ ha_1.lt (nL hG (by decide)))
          have ha_3 := ha_3.kept (hk _ ha_3.lt (nL hG0 (by decide)))
          refine lv_goto (tgt := 107) hx hb dX3_takeIn_96 (by decide) ?_
          exact W.vret hx hb hr (fun t ht hW => ⟨⟨(), rfl, trivial, (by show TH E (T1 E) G [] t.heap; rw [ht]; exact hT)⟩, hS.F ht⟩) hS.2.2 dX3_takeIn_107
      · simp only [lt_I, le_I, eq_I, i_0, i_1, i_2, i_3, i_4, i_5, i_6, i_7, i_8, i_10, i_12, i_16, i_20, i_23, i_24, i_31, i_32, i_63, i_64, i_m1] at c_5
        refine lv_aload_n hx hb dX3_takeIn_48 rfl (lv_at hl 0 rfl) ?_
        refine va_get (D := DG E) (ci := 3) (v := .ref v0_1) (C := RX3) (T := TX3) (N := 3) hx hb hts iw_X3 hown hK.1 (va_one ha_1) 0 rfl rfl 0 (by decide) (hts _ fl_X3_9) (fun _ h9 => h9) rfl dX3_takeIn_49 ?_
        refine lv_aload_n hx hb dX3_takeIn_52 rfl (lv_at hl 1 rfl) ?_
        refine va_get (D := DG E) (ci := 2) (v := .int v2_3) (C := RX2) (T := TX2) (N := 8) hx hb hts iw_X2 hown hK.1 (va_one ha_3) 0 rfl rfl 2 (by decide) (hts _ fl_X3_64) (fun _ h9 => h9) rfl dX3_takeIn_53 ?_
        refine lv_aload_n hx hb dX3_takeIn_56 rfl (lv_at hl 1 rfl) ?_
        refine va_get (D := DG E) (ci := 2) (v := .int v4_3) (C := RX2) (T := TX2) (N := 8) hx hb hts iw_X2 hown hK.1 (va_one ha_3) 0 rfl rfl 4 (by decide) (hts _ fl_X3_67) (fun _ h9 => h9) rfl dX3_takeIn_57 ?_
        obtain ⟨v0_11, v1_11, v2_11, v3_11, v4_11, v5_11, v6_11, v7_11, v8_11, v9_11, v10_11, v11_11, v12_11, v13_11, ha_11, hb0_11, hg1_11, hg2_11, hg6_11⟩ := tr_9 hT hg0_1
        refine va_calli (rnV (fun H => TH E (T1 E) G [] H) (As := [.int v2_3, .int v4_3]) (rest := []) ⟨hx, hb, hml, hown, hts⟩ (t_X7_takeNak l E z0 G hGz v0_1 v2_3 v4_3 hg0_1) (cwV 2 hts (gdV ml_X3_70 im_X7_takeNak se_X7_X7_takeNak in_X7 co_X7_takeNak rfl) rfl rfl rfl (by decide +kernel) ⟨Nat.le_of_ble_eq_true rfl, Nat.le_of_ble_eq_true rfl⟩) hT (fun U hU hW => hK.go hW hS hAz hU) (va_recv hK.1 (va_one ha_11) (ci := 7) (q0 := 0) rfl rfl) rfl rfl hl.1 rfl (lv_room (Nat.le_of_ble_eq_true rfl)) dX3_takeIn_60 ⟨Nat.le_of_ble_eq_true rfl, Nat.le_of_ble_eq_true rfl⟩) hS (fun q _ h => mL (L' := [9, 11, 5, 15]) (L := [8, 9, 10, 4, 31, 32, 14, 13, 5, 15, 11, 16, 17]) (by decide) h) (fun q h => mL (L' := [9, 11, 5, 15]) (L := [8, 9, 10, 4, 31, 32, 14, 13, 5, 15, 11, 16, 17]) (by decide) h) (fun r_12 _ t H locs ht hvm hwr_12 hB hz hk hS => ?_)
        have hT : TH E (T1 E) G [] H := by rw [ht] at hB; exact hB
        have ha_1 := ha_1.kept (hk _ ha_1.lt (nL hG (by decide)))
        have ha_3 := ha_3.kept (hk _ ha_3.lt (nL hG0 (by decide)))
        refine lv_istore_n (lv' := [(2, .int r_12), (0, .ref h0), (1, .ref p0)]) hx hb dX3_takeIn_63 rfl hl (by decide) rfl (fun ls hl => ?_)
        refine lv_iload_n hx hb dX3_takeIn_64 rfl (lv_at hl 0 rfl) ?_
        refine lv_if_eq (tgt := 74) hx hb dX3_takeIn_65 (by decide) (fun c_13 => ?_) (fun c_13 => ?_)
        · simp only [lt_I, le_I, eq_I, i_0, i_1, i_2, i_3, i_4, i_5, i_6, i_7, i_8, i_10, i_12, i_16, i_20, i_23, i_24, i_31, i_32, i_63, i_64, i_m1] at c_13
          refine lv_goto (tgt := 107) hx hb dX3_takeIn_74 (by decide) ?_
          exact W.vret hx hb hr (fun t ht hW => ⟨⟨(), rfl, trivial, (by show TH E (T1 E) G [] t.heap; rw [ht]; exact hT)⟩, hS.F ht⟩) hS.2.2 dX3_takeIn_107
        · simp only [lt_I, le_I, eq_I, i_0, i_1, i_2, i_3, i_4, i_5, i_6, i_7, i_8, i_10, i_12, i_16, i_20, i_23, i_24, i_31, i_32, i_63, i_64, i_m1] at c_13
          refine lv_aload_n hx hb dX3_takeIn_68 rfl (lv_at hl 1 rfl) ?_
          refine lv_iload_n hx hb dX3_takeIn_69 rfl (lv_at hl 0 rfl) ?_
          refine lv_iconst (v := 5) hx hb dX3_takeIn_70 (by decide) ?_
          refine va_callv (rnV (fun H => TH E (T1 E) G [] H) (As := [.int r_12, .int 5]) (rest := []) ⟨hx, hb, hml, hown, hts⟩ (t_X3_fail l E z0 G hGz h0 r_12 5 hG) (cwV 2 hts (gdV ml_X3_60 im_X3_fail se_X3_X3_fail in_X3 co_X3_fail rfl) rfl rfl rfl (by decide +kernel) ⟨Nat.le_of_ble_eq_true rfl, Nat.le_of_ble_eq_true rfl⟩) hT (fun U hU hW => hK.go hW hS hAz hU) (va_recv hK.1 (va_one ha_1) (ci := 3) (q0 := 0) rfl rfl) rfl rfl hl.1 rfl (lv_room (Nat.le_of_ble_eq_true rfl)) dX3_takeIn_71 ⟨Nat.le_of_ble_eq_true rfl, Nat.le_of_ble_eq_true rfl⟩) hS (fun q _ h => mL (L' := [8, 5, 15, 11, 10]) (L := [8, 9, 10, 4, 31, 32, 14, 13, 5, 15, 11, 16, 17]) (by decide) h) (fun q h => mL (L' := [8, 5, 15, 11, 10]) (L := [8, 9, 10, 4, 31, 32, 14, 13, 5, 15, 11, 16, 17]) (by decide) h) (fun _ t H locs ht hvm hwr_14 hB hz hk hS => ?_)
          have hT : TH E (T1 E) G [] H := by rw [ht] at hB; exact hB
          have ha_3 := ha_3.kept (hk _ ha_3.lt (nL hG0 (by decide)))
          refine lv_goto (tgt := 107) hx hb dX3_takeIn_74 (by decide) ?_
          exact W.vret hx hb hr (fun t ht hW => ⟨⟨(), rfl, trivial, (by show TH E (T1 E) G [] t.heap; rw [ht]; exact hT)⟩, hS.F ht⟩) hS.2.2 dX3_takeIn_107
    · simp only [lt_I, le_I, eq_I, i_0, i_1, i_2, i_3, i_4, i_5, i_6, i_7, i_8, i_10, i_12, i_16, i_20, i_23, i_24, i_31, i_32, i_63, i_64, i_m1] at c_4
      refine lv_aload_n hx hb dX3_takeIn_17 rfl (lv_at hl 0 rfl) ?_
      refine va_get (D := DG E) (ci := 3) (v := .ref v1_1) (C := RX3) (T := TX3) (N := 3) hx hb hts iw_X3 hown hK.1 (va_one ha_1) 0 rfl rfl 1 (by decide) (hts _ fl_X3_15) (fun _ h9 => h9) rfl dX3_takeIn_18 ?_
      refine lv_aload_n hx hb dX3_takeIn_21 rfl (lv_at hl 1 rfl) ?_
      obtain ⟨v0_15, v1_15, v2_15, v3_15, v4_15, v5_15, v6_15, v7_15, v8_15, ha_15, hb0_15, hg1_15, hg2_15, hg3_15, hg7_15, hg8_15⟩ := tr_10 hT hg1_1
      refine va_calli (rnV (fun H => TH E (T1 E) G [] H) (As := [.ref p0]) (rest := []) ⟨hx, hb, hml, hown, hts⟩ (t_X8_takeIn l E z0 G hGz v1_1 p0 hg1_1 hG0) (cwV 1 hts (gdV ml_X3_56 im_X8_takeIn se_X8_X8_takeIn in_X8 co_X8_takeIn rfl) rfl rfl rfl (by decide +kernel) ⟨Nat.le_of_ble_eq_true rfl, Nat.le_of_ble_eq_true rfl⟩) hT (fun U hU hW => hK.go hW hS hAz hU) (va_recv hK.1 (va_one ha_15) (ci := 8) (q0 := 0) rfl rfl) rfl rfl hl.1 rfl (lv_room (Nat.le_of_ble_eq_true rfl)) dX3_takeIn_22 ⟨Nat.le_of_ble_eq_true rfl, Nat.le_of_ble_eq_true rfl⟩) hS (fun q _ h => mL (L' := [10, 4, 31, 32, 14, 13, 5, 15, 11, 16, 17]) (L := [8, 9, 10, 4, 31, 32, 14, 13, 5, 15, 11, 16, 17]) (by decide) h) (fun q h => mL (L' := [10, 4, 31, 32, 14, 13, 5, 15, 11, 16, 17]) (L := [8, 9, 10, 4, 31, 32, 14, 13, 5, 15, 11, 16, 17]) (by decide) h) (fun r_16 _ t H locs ht hvm hwr_16 hB hz hk hS => ?_)
      have hT : TH E (T1 E) G [] H := by rw [ht] at hB; exact hB
      have ha_1 := ha_1.kept (hk _ ha_1.lt (nL hG (by decide)))
      refine lv_istore_n (lv' := [(2, .int r_16), (0, .ref h0), (1, .ref p0)]) hx hb dX3_takeIn_25 rfl hl (by decide) rfl (fun ls hl => ?_)
      refine lv_iload_n hx hb dX3_takeIn_26 rfl (lv_at hl 0 rfl) ?_
      refine lv_if_eq (tgt := 36) hx hb dX3_takeIn_27 (by decide) (fun c_17 => ?_) (fun c_17 => ?_)
      · simp only [lt_I, le_I, eq_I, i_0, i_1, i_2, i_3, i_4, i_5, i_6, i_7, i_8, i_10, i_12, i_16, i_20, i_23, i_24, i_31, i_32, i_63, i_64, i_m1] at c_17
        refine lv_goto (tgt := 107) hx hb dX3_takeIn_36 (by decide) ?_
        exact W.vret hx hb hr (fun t ht hW => ⟨⟨(), rfl, trivial, (by show TH E (T1 E) G [] t.heap; rw [ht]; exact hT)⟩, hS.F ht⟩) hS.2.2 dX3_takeIn_107
      · simp only [lt_I, le_I, eq_I, i_0, i_1, i_2, i_3, i_4, i_5, i_6, i_7, i_8, i_10, i_12, i_16, i_20, i_23, i_24, i_31, i_32, i_63, i_64, i_m1] at c_17
        refine lv_aload_n hx hb dX3_takeIn_30 rfl (lv_at hl 1 rfl) ?_
        refine lv_iconst (v := 5) hx hb dX3_takeIn_31 (by decide) ?_
        refine lv_iload_n hx hb dX3_takeIn_32 rfl (lv_at hl 0 rfl) ?_
        refine va_callv (rnV (fun H => TH E (T1 E) G [] H) (As := [.int 5, .int r_16]) (rest := []) ⟨hx, hb, hml, hown, hts⟩ (t_X3_fail l E z0 G hGz h0 5 r_16 hG) (cwV 2 hts (gdV ml_X3_60 im_X3_fail se_X3_X3_fail in_X3 co_X3_fail rfl) rfl rfl rfl (by decide +kernel) ⟨Nat.le_of_ble_eq_true rfl, Nat.le_of_ble_eq_true rfl⟩) hT (fun U hU hW => hK.go hW hS hAz hU) (va_recv hK.1 (va_one ha_1) (ci := 3) (q0 := 0) rfl rfl) rfl rfl hl.1 rfl (lv_room (Nat.le_of_ble_eq_true rfl)) dX3_takeIn_33 ⟨Nat.le_of_ble_eq_true rfl, Nat.le_of_ble_eq_true rfl⟩) hS (fun q _ h => mL (L' := [8, 5, 15, 11, 10]) (L := [8, 9, 10, 4, 31, 32, 14, 13, 5, 15, 11, 16, 17]) (by decide) h) (fun q h => mL (L' := [8, 5, 15, 11, 10]) (L := [8, 9, 10, 4, 31, 32, 14, 13, 5, 15, 11, 16, 17]) (by decide) h) (fun _ t H locs ht hvm hwr_18 hB hz hk hS => ?_)
        have hT : TH E (T1 E) G [] H := by rw [ht] at hB; exact hB
        refine lv_goto (tgt := 107) hx hb dX3_takeIn_36 (by decide) ?_
        exact W.vret hx hb hr (fun t ht hW => ⟨⟨(), rfl, trivial, (by show TH E (T1 E) G [] t.heap; rw [ht]; exact hT)⟩, hS.F ht⟩) hS.2.2 dX3_takeIn_107
  · simp only [lt_I, le_I, eq_I, i_0, i_1, i_2, i_3, i_4, i_5, i_6, i_7, i_8, i_10, i_12, i_16, i_20, i_23, i_24, i_31, i_32, i_63, i_64, i_m1] at c_2
    exact W.vret hx hb hr (fun t ht hW => ⟨⟨(), rfl, trivial, (by show TH E (T1 E) G [] t.heap; rw [ht]; exact hT)⟩, hS.F ht⟩) hS.2.2 dX3_takeIn_8
theorem dX3_tell_0 : decode cX3_tell 0 = .ok (.iload_n 1, 1) := by decide +kernel
theorem dX3_tell_1 : decode cX3_tell 1 = .ok (.iconst 1, 1) := by decide +kernel
theorem dX3_tell_2 : decode cX3_tell 2 = .ok (.if_icmp .lt 18, 3) := by decide +kernel
theorem dX3_tell_5 : decode cX3_tell 5 = .ok (.iload_n 1, 1) := by decide +kernel
theorem dX3_tell_6 : decode cX3_tell 6 = .ok (.iconst 4, 1) := by decide +kernel
theorem dX3_tell_7 : decode cX3_tell 7 = .ok (.if_icmp .gt 13, 3) := by decide +kernel
theorem dX3_tell_10 : decode cX3_tell 10 = .ok (.aload_n 0, 1) := by decide +kernel
theorem dX3_tell_11 : decode cX3_tell 11 = .ok (.getfield 19, 3) := by decide +kernel
theorem dX3_tell_14 : decode cX3_tell 14 = .ok (.iconst 1, 1) := by decide +kernel
theorem dX3_tell_15 : decode cX3_tell 15 = .ok (.if_icmp .eq 5, 3) := by decide +kernel
theorem dX3_tell_18 : decode cX3_tell 18 = .ok (.iconst (-1), 1) := by decide +kernel
theorem dX3_tell_19 : decode cX3_tell 19 = .ok (.ireturn, 1) := by decide +kernel
theorem dX3_tell_20 : decode cX3_tell 20 = .ok (.iload_n 1, 1) := by decide +kernel
theorem dX3_tell_21 : decode cX3_tell 21 = .ok (.tableswitch 122 0 7 #[47, 52, 60, 68, 76, 84, 95, 106], 47) := by decide +kernel
theorem dX3_tell_68 : decode cX3_tell 68 = .ok (.aload_n 0, 1) := by decide +kernel
theorem dX3_tell_69 : decode cX3_tell 69 = .ok (.getfield 19, 3) := by decide +kernel
theorem dX3_tell_72 : decode cX3_tell 72 = .ok (.ireturn, 1) := by decide +kernel
theorem dX3_tell_73 : decode cX3_tell 73 = .ok (.aload_n 0, 1) := by decide +kernel
theorem dX3_tell_74 : decode cX3_tell 74 = .ok (.getfield 9, 3) := by decide +kernel
theorem dX3_tell_77 : decode cX3_tell 77 = .ok (.getfield 88, 3) := by decide +kernel
theorem dX3_tell_80 : decode cX3_tell 80 = .ok (.ireturn, 1) := by decide +kernel
theorem dX3_tell_81 : decode cX3_tell 81 = .ok (.aload_n 0, 1) := by decide +kernel
theorem dX3_tell_82 : decode cX3_tell 82 = .ok (.getfield 9, 3) := by decide +kernel
theorem dX3_tell_85 : decode cX3_tell 85 = .ok (.getfield 91, 3) := by decide +kernel
theorem dX3_tell_88 : decode cX3_tell 88 = .ok (.ireturn, 1) := by decide +kernel
theorem dX3_tell_89 : decode cX3_tell 89 = .ok (.aload_n 0, 1) := by decide +kernel
theorem dX3_tell_90 : decode cX3_tell 90 = .ok (.getfield 9, 3) := by decide +kernel
theorem dX3_tell_93 : decode cX3_tell 93 = .ok (.getfield 94, 3) := by decide +kernel
theorem dX3_tell_96 : decode cX3_tell 96 = .ok (.ireturn, 1) := by decide +kernel
theorem dX3_tell_97 : decode cX3_tell 97 = .ok (.aload_n 0, 1) := by decide +kernel
theorem dX3_tell_98 : decode cX3_tell 98 = .ok (.getfield 15, 3) := by decide +kernel
theorem dX3_tell_101 : decode cX3_tell 101 = .ok (.getfield 35, 3) := by decide +kernel
theorem dX3_tell_104 : decode cX3_tell 104 = .ok (.ireturn, 1) := by decide +kernel
theorem dX3_tell_105 : decode cX3_tell 105 = .ok (.aload_n 0, 1) := by decide +kernel
theorem dX3_tell_106 : decode cX3_tell 106 = .ok (.getfield 9, 3) := by decide +kernel
theorem dX3_tell_109 : decode cX3_tell 109 = .ok (.getfield 38, 3) := by decide +kernel
theorem dX3_tell_112 : decode cX3_tell 112 = .ok (.getfield 97, 3) := by decide +kernel
theorem dX3_tell_115 : decode cX3_tell 115 = .ok (.ireturn, 1) := by decide +kernel
theorem dX3_tell_116 : decode cX3_tell 116 = .ok (.aload_n 0, 1) := by decide +kernel
theorem dX3_tell_117 : decode cX3_tell 117 = .ok (.getfield 15, 3) := by decide +kernel
theorem dX3_tell_120 : decode cX3_tell 120 = .ok (.getfield 48, 3) := by decide +kernel
theorem dX3_tell_123 : decode cX3_tell 123 = .ok (.getfield 97, 3) := by decide +kernel
theorem dX3_tell_126 : decode cX3_tell 126 = .ok (.ireturn, 1) := by decide +kernel
theorem dX3_tell_127 : decode cX3_tell 127 = .ok (.aload_n 0, 1) := by decide +kernel
theorem dX3_tell_128 : decode cX3_tell 128 = .ok (.getfield 9, 3) := by decide +kernel
theorem dX3_tell_131 : decode cX3_tell 131 = .ok (.getfield 100, 3) := by decide +kernel
theorem dX3_tell_134 : decode cX3_tell 134 = .ok (.ifCond .eq 7, 3) := by decide +kernel
theorem dX3_tell_137 : decode cX3_tell 137 = .ok (.iconst 1, 1) := by decide +kernel
theorem dX3_tell_138 : decode cX3_tell 138 = .ok (.goto 4, 3) := by decide +kernel
theorem dX3_tell_141 : decode cX3_tell 141 = .ok (.iconst 0, 1) := by decide +kernel
theorem dX3_tell_142 : decode cX3_tell 142 = .ok (.ireturn, 1) := by decide +kernel
theorem dX3_tell_143 : decode cX3_tell 143 = .ok (.iconst (-1), 1) := by decide +kernel
theorem dX3_tell_144 : decode cX3_tell 144 = .ok (.ireturn, 1) := by decide +kernel
set_option maxHeartbeats 8000000 in
set_option maxRecDepth 100000 in
theorem t_X3_tell (l : Launch) (E : EE) (z0 : Nat) (G : Nat → Nat) (hGz : ∀ q, G q ≠ 0 → z0 ≤ q) (h0 : Nat) (p0 : Int32) (hG : G h0 = 8) : Met l yX3_tell [Cond.code yX3_tell cX3_tell 2 (some .int)] ({ frames := 0, cells := 0, slots := 0, locals := 0 } : Room) (va_Pc [.ref h0, .int p0] (fun U => (TH E (T1 E) G [] U.heap) ∧ KS E z0 U)) (va_Qi (fun (r : Int32) (_ : Unit) => True) (fun _ t => True) (fun _ : Nat => False)) 0 0 (fun _ : Nat => False) := by
  refine Met.ofW (cc := cX3_tell) (maxL := 2) (ret := (some .int)) (by decide) rfl ?_
  intro p e s m args below meth c s₁ B hml hv
  obtain ⟨rfl, hT, hK⟩ := hv
  have hx := B.exec
  have hb := B.bytes
  have hr := B.returns
  have hts : ∀ w ∈ TS, w.before ([.ref h0, .int p0] : List Value).toArray s = true := fun w hw => hK.2.1 w hw _
  have hown : s.vm.findClass RX3 = some m.cls := findClass_of_methodNamed B.named
  have hlocks := B.notSynchronized
  have hS : va_S (fun _ : Nat => False) s.heap s.heap [] := va_S.rf
  have hAz : ∀ q, (fun _ : Nat => False) q → z0 ≤ q := fun _ h => h.elim
  have hl := lv_entry ([.ref h0, .int p0]) (n := 2) (Nat.le_of_ble_eq_true rfl)
  rw [lg_entry_eq]
  generalize (lg_sl ([.ref h0, .int p0]) ++ List.replicate (2 - (lg_sl ([.ref h0, .int p0])).length) Slot.unset).toArray = ls at hl ⊢
  have hl : lv_has ls 2 [(0, .ref h0), (1, .int p0)] := hl
  refine lv_iload_n hx hb dX3_tell_0 rfl (lv_at hl 1 rfl) ?_
  refine lv_iconst (v := 1) hx hb dX3_tell_1 (by decide) ?_
  refine lv_icmp_lt (tgt := 20) hx hb dX3_tell_2 (by decide) (fun c_1 => ?_) (fun c_1 => ?_)
  · simp only [lt_I, le_I, eq_I, i_0, i_1, i_2, i_3, i_4, i_5, i_6, i_7, i_8, i_10, i_12, i_16, i_20, i_23, i_24, i_31, i_32, i_63, i_64, i_m1] at c_1
    refine lv_iload_n hx hb dX3_tell_20 rfl (lv_at hl 1 rfl) ?_
    rcases (show p0.toInt = 0 ∨ p0.toInt = 1 ∨ p0.toInt = 2 ∨ p0.toInt = 3 ∨ p0.toInt = 4 ∨ p0.toInt = 5 ∨ p0.toInt = 6 ∨ p0.toInt = 7 ∨ (p0.toInt < 0 ∨ 7 < p0.toInt) by omega) with c_2 | c_2 | c_2 | c_2 | c_2 | c_2 | c_2 | c_2 | c_2
    · refine lv_tableIn (tgt := 68) (off := 47) hx hb dX3_tell_21 (by omega) (by omega) (by rw [c_2]; rfl) (by decide) ?_
      refine lv_aload_n hx hb dX3_tell_68 rfl (lv_at hl 0 rfl) ?_
      obtain ⟨v0_3, v1_3, v2_3, ha_3, hg0_3, hg1_3⟩ := tr_8 hT hG
      refine va_get (D := DG E) (ci := 3) (v := .int v2_3) (C := RX3) (T := TX3) (N := 3) hx hb hts iw_X3 hown hK.1 (va_one ha_3) 0 rfl rfl 2 (by decide) (hts _ fl_X3_19) (fun _ h9 => h9) rfl dX3_tell_69 ?_
      exact W.iret (v := v2_3) hx hb hr (fun t ht hW => ⟨⟨v2_3, (), rfl, trivial, trivial⟩, hS.F ht⟩) hS.2.2 dX3_tell_72
    · refine lv_tableIn (tgt := 73) (off := 52) hx hb dX3_tell_21 (by omega) (by omega) (by rw [c_2]; rfl) (by decide) ?_
      refine lv_aload_n hx hb dX3_tell_73 rfl (lv_at hl 0 rfl) ?_
      obtain ⟨v0_4, v1_4, v2_4, ha_4, hg0_4, hg1_4⟩ := tr_8 hT hG
      refine va_get (D := DG E) (ci := 3) (v := .ref v0_4) (C := RX3) (T := TX3) (N := 3) hx hb hts iw_X3 hown hK.1 (va_one ha_4) 0 rfl rfl 0 (by decide) (hts _ fl_X3_9) (fun _ h9 => h9) rfl dX3_tell_74 ?_
      obtain ⟨v0_5, v1_5, v2_5, v3_5, v4_5, v5_5, v6_5, v7_5, v8_5, v9_5, v10_5, v11_5, v12_5, v13_5, ha_5, hb0_5, hg1_5, hg2_5, hg6_5⟩ := tr_9 hT hg0_4
      refine va_get (D := DG E) (ci := 7) (v := .int v7_5) (C := RX7) (T := TX7) (N := 14) hx hb hts iw_X7 hown hK.1 (va_one ha_5) 0 rfl rfl 7 (by decide) (hts _ fl_X3_88) (fun _ h9 => h9) rfl dX3_tell_77 ?_
      exact W.iret (v := v7_5) hx hb hr (fun t ht hW => ⟨⟨v7_5, (), rfl, trivial, trivial⟩, hS.F ht⟩) hS.2.2 dX3_tell_80
    · refine lv_tableIn (tgt := 81) (off := 60) hx hb dX3_tell_21 (by omega) (by omega) (by rw [c_2]; rfl) (by decide) ?_
      refine lv_aload_n hx hb dX3_tell_81 rfl (lv_at hl 0 rfl) ?_
      obtain ⟨v0_6, v1_6, v2_6, ha_6, hg0_6, hg1_6⟩ := tr_8 hT hG
      refine va_get (D := DG E) (ci := 3) (v := .ref v0_6) (C := RX3) (T := TX3) (N := 3) hx hb hts iw_X3 hown hK.1 (va_one ha_6) 0 rfl rfl 0 (by decide) (hts _ fl_X3_9) (fun _ h9 => h9) rfl dX3_tell_82 ?_
      obtain ⟨v0_7, v1_7, v2_7, v3_7, v4_7, v5_7, v6_7, v7_7, v8_7, v9_7, v10_7, v11_7, v12_7, v13_7, ha_7, hb0_7, hg1_7, hg2_7, hg6_7⟩ := tr_9 hT hg0_6
      refine va_get (D := DG E) (ci := 7) (v := .int v8_7) (C := RX7) (T := TX7) (N := 14) hx hb hts iw_X7 hown hK.1 (va_one ha_7) 0 rfl rfl 8 (by decide) (hts _ fl_X3_91) (fun _ h9 => h9) rfl dX3_tell_85 ?_
      exact W.iret (v := v8_7) hx hb hr (fun t ht hW => ⟨⟨v8_7, (), rfl, trivial, trivial⟩, hS.F ht⟩) hS.2.2 dX3_tell_88
    · refine lv_tableIn (tgt := 89) (off := 68) hx hb dX3_tell_21 (by omega) (by omega) (by rw [c_2]; rfl) (by decide) ?_
      refine lv_aload_n hx hb dX3_tell_89 rfl (lv_at hl 0 rfl) ?_
      obtain ⟨v0_8, v1_8, v2_8, ha_8, hg0_8, hg1_8⟩ := tr_8 hT hG
      refine va_get (D := DG E) (ci := 3) (v := .ref v0_8) (C := RX3) (T := TX3) (N := 3) hx hb hts iw_X3 hown hK.1 (va_one ha_8) 0 rfl rfl 0 (by decide) (hts _ fl_X3_9) (fun _ h9 => h9) rfl dX3_tell_90 ?_
      obtain ⟨v0_9, v1_9, v2_9, v3_9, v4_9, v5_9, v6_9, v7_9, v8_9, v9_9, v10_9, v11_9, v12_9, v13_9, ha_9, hb0_9, hg1_9, hg2_9, hg6_9⟩ := tr_9 hT hg0_8
      refine va_get (D := DG E) (ci := 7) (v := .int v9_9) (C := RX7) (T := TX7) (N := 14) hx hb hts iw_X7 hown hK.1 (va_one ha_9) 0 rfl rfl 9 (by decide) (hts _ fl_X3_94) (fun _ h9 => h9) rfl dX3_tell_93 ?_
      exact W.iret (v := v9_9) hx hb hr (fun t ht hW => ⟨⟨v9_9, (), rfl, trivial, trivial⟩, hS.F ht⟩) hS.2.2 dX3_tell_96
    · refine lv_tableIn (tgt := 97) (off := 76) hx hb dX3_tell_21 (by omega) (by omega) (by rw [c_2]; rfl) (by decide) ?_
      refine lv_aload_n hx hb dX3_tell_97 rfl (lv_at hl 0 rfl) ?_
      obtain ⟨v0_10, v1_10, v2_10, ha_10, hg0_10, hg1_10⟩ := tr_8 hT hG
      refine va_get (D := DG E) (ci := 3) (v := .ref v1_10) (C := RX3) (T := TX3) (N := 3) hx hb hts iw_X3 hown hK.1 (va_one ha_10) 0 rfl rfl 1 (by decide) (hts _ fl_X3_15) (fun _ h9 => h9) rfl dX3_tell_98 ?_
      obtain ⟨v0_11, v1_11, v2_11, v3_11, v4_11, v5_11, v6_11, v7_11, v8_11, ha_11, hb0_11, hg1_11, hg2_11, hg3_11, hg7_11, hg8_11⟩ := tr_10 hT hg1_10
      refine va_get (D := DG E) (ci := 8) (v := .int v4_11) (C := RX8) (T := TX8) (N := 9) hx hb hts iw_X8 hown hK.1 (va_one ha_11) 0 rfl rfl 4 (by decide) (hts _ fl_X3_35) (fun _ h9 => h9) rfl dX3_tell_101 ?_
      exact W.iret (v := v4_11) hx hb hr (fun t ht hW => ⟨⟨v4_11, (), rfl, trivial, trivial⟩, hS.F ht⟩) hS.2.2 dX3_tell_104
    · refine lv_tableIn (tgt := 105) (off := 84) hx hb dX3_tell_21 (by omega) (by omega) (by rw [c_2]; rfl) (by decide) ?_
      refine lv_aload_n hx hb dX3_tell_105 rfl (lv_at hl 0 rfl) ?_
      obtain ⟨v0_12, v1_12, v2_12, ha_12, hg0_12, hg1_12⟩ := tr_8 hT hG
      refine va_get (D := DG E) (ci := 3) (v := .ref v0_12) (C := RX3) (T := TX3) (N := 3) hx hb hts iw_X3 hown hK.1 (va_one ha_12) 0 rfl rfl 0 (by decide) (hts _ fl_X3_9) (fun _ h9 => h9) rfl dX3_tell_106 ?_
      obtain ⟨v0_13, v1_13, v2_13, v3_13, v4_13, v5_13, v6_13, v7_13, v8_13, v9_13, v10_13, v11_13, v12_13, v13_13, ha_13, hb0_13, hg1_13, hg2_13, hg6_13⟩ := tr_9 hT hg0_12
      refine va_get (D := DG E) (ci := 7) (v := .ref v6_13) (C := RX7) (T := TX7) (N := 14) hx hb hts iw_X7 hown hK.1 (va_one ha_13) 0 rfl rfl 6 (by decide) (hts _ fl_X3_38) (fun _ h9 => h9) rfl dX3_tell_109 ?_
      obtain ⟨v0_14, v1_14, v2_14, v3_14, v4_14, v5_14, ha_14, hg1_14, hg2_14, hb3_14, hb4_14⟩ := tr_11 hT hg6_13
      refine va_get (D := DG E) (ci := 5) (v := .int v4_14) (C := RX5) (T := TX5) (N := 6) hx hb hts iw_X5 hown hK.1 (va_one ha_14) 0 rfl rfl 4 (by decide) (hts _ fl_X3_97) (fun _ h9 => h9) rfl dX3_tell_112 ?_
      exact W.iret (v := v4_14) hx hb hr (fun t ht hW => ⟨⟨v4_14, (), rfl, trivial, trivial⟩, hS.F ht⟩) hS.2.2 dX3_tell_115
    · refine lv_tableIn (tgt := 116) (off := 95) hx hb dX3_tell_21 (by omega) (by omega) (by rw [c_2]; rfl) (by decide) ?_
      refine lv_aload_n hx hb dX3_tell_116 rfl (lv_at hl 0 rfl) ?_
      obtain ⟨v0_15, v1_15, v2_15, ha_15, hg0_15, hg1_15⟩ := tr_8 hT hG
      refine va_get (D := DG E) (ci := 3) (v := .ref v1_15) (C := RX3) (T := TX3) (N := 3) hx hb hts iw_X3 hown hK.1 (va_one ha_15) 0 rfl rfl 1 (by decide) (hts _ fl_X3_15) (fun _ h9 => h9) rfl dX3_tell_117 ?_
      obtain ⟨v0_16, v1_16, v2_16, v3_16, v4_16, v5_16, v6_16, v7_16, v8_16, ha_16, hb0_16, hg1_16, hg2_16, hg3_16, hg7_16, hg8_16⟩ := tr_10 hT hg1_15
      refine va_get (D := DG E) (ci := 8) (v := .ref v3_16) (C := RX8) (T := TX8) (N := 9) hx hb hts iw_X8 hown hK.1 (va_one ha_16) 0 rfl rfl 3 (by decide) (hts _ fl_X3_48) (fun _ h9 => h9) rfl dX3_tell_120 ?_
      obtain ⟨v0_17, v1_17, v2_17, v3_17, v4_17, v5_17, ha_17, hg1_17, hg2_17, hb3_17, hb4_17⟩ := tr_11 hT hg3_16
      refine va_get (D := DG E) (ci := 5) (v := .int v4_17) (C := RX5) (T := TX5) (N := 6) hx hb hts iw_X5 hown hK.1 (va_one ha_17) 0 rfl rfl 4 (by decide) (hts _ fl_X3_97) (fun _ h9 => h9) rfl dX3_tell_123 ?_
      exact W.iret (v := v4_17) hx hb hr (fun t ht hW => ⟨⟨v4_17, (), rfl, trivial, trivial⟩, hS.F ht⟩) hS.2.2 dX3_tell_126
    · refine lv_tableIn (tgt := 127) (off := 106) hx hb dX3_tell_21 (by omega) (by omega) (by rw [c_2]; rfl) (by decide) ?_
      refine lv_aload_n hx hb dX3_tell_127 rfl (lv_at hl 0 rfl) ?_
      obtain ⟨v0_18, v1_18, v2_18, ha_18, hg0_18, hg1_18⟩ := tr_8 hT hG
      refine va_get (D := DG E) (ci := 3) (v := .ref v0_18) (C := RX3) (T := TX3) (N := 3) hx hb hts iw_X3 hown hK.1 (va_one ha_18) 0 rfl rfl 0 (by decide) (hts _ fl_X3_9) (fun _ h9 => h9) rfl dX3_tell_128 ?_
      obtain ⟨v0_19, v1_19, v2_19, v3_19, v4_19, v5_19, v6_19, v7_19, v8_19, v9_19, v10_19, v11_19, v12_19, v13_19, ha_19, hb0_19, hg1_19, hg2_19, hg6_19⟩ := tr_9 hT hg0_18
      refine va_get (D := DG E) (ci := 7) (v := .int v13_19) (C := RX7) (T := TX7) (N := 14) hx hb hts iw_X7 hown hK.1 (va_one ha_19) 0 rfl rfl 13 (by decide) (hts _ fl_X3_100) (fun _ h9 => h9) rfl dX3_tell_131 ?_
      refine lv_if_eq (tgt := 141) hx hb dX3_tell_134 (by decide) (fun c_20 => ?_) (fun c_20 => ?_)
      · simp only [lt_I, le_I, eq_I, i_0, i_1, i_2, i_3, i_4, i_5, i_6, i_7, i_8, i_10, i_12, i_16, i_20, i_23, i_24, i_31, i_32, i_63, i_64, i_m1] at c_20
        refine lv_iconst (v := 0) hx hb dX3_tell_141 (by decide) ?_
        exact W.iret (v := 0) hx hb hr (fun t ht hW => ⟨⟨0, (), rfl, trivial, trivial⟩, hS.F ht⟩) hS.2.2 dX3_tell_142
      · simp only [lt_I, le_I, eq_I, i_0, i_1, i_2, i_3, i_4, i_5, i_6, i_7, i_8, i_10, i_12, i_16, i_20, i_23, i_24, i_31, i_32, i_63, i_64, i_m1] at c_20
        refine lv_iconst (v := 1) hx hb dX3_tell_137 (by decide) ?_
        refine lv_goto (tgt := 142) hx hb dX3_tell_138 (by decide) ?_
        exact W.iret (v := 1) hx hb hr (fun t ht hW => ⟨⟨1, (), rfl, trivial, trivial⟩, hS.F ht⟩) hS.2.2 dX3_tell_142
    · refine lv_tableOut (tgt := 143) hx hb dX3_tell_21 c_2 (by decide) ?_
      refine lv_iconst (v := (-1)) hx hb dX3_tell_143 (by decide) ?_
      exact W.iret (v := (-1)) hx hb hr (fun t ht hW => ⟨⟨(-1), (), rfl, trivial, trivial⟩, hS.F ht⟩) hS.2.2 dX3_tell_144
  · simp only [lt_I, le_I, eq_I, i_0, i_1, i_2, i_3, i_4, i_5, i_6, i_7, i_8, i_10, i_12, i_16, i_20, i_23, i_24, i_31, i_32, i_63, i_64, i_m1] at c_1
    refine lv_iload_n hx hb dX3_tell_5 rfl (lv_at hl 1 rfl) ?_
    refine lv_iconst (v := 4) hx hb dX3_tell_6 (by decide) ?_
    refine lv_icmp_gt (tgt := 20) hx hb dX3_tell_7 (by decide) (fun c_21 => ?_) (fun c_21 => ?_)
    · simp only [lt_I, le_I, eq_I, i_0, i_1, i_2, i_3, i_4, i_5, i_6, i_7, i_8, i_10, i_12, i_16, i_20, i_23, i_24, i_31, i_32, i_63, i_64, i_m1] at c_21
      refine lv_iload_n hx hb dX3_tell_20 rfl (lv_at hl 1 rfl) ?_
      rcases (show p0.toInt = 0 ∨ p0.toInt = 1 ∨ p0.toInt = 2 ∨ p0.toInt = 3 ∨ p0.toInt = 4 ∨ p0.toInt = 5 ∨ p0.toInt = 6 ∨ p0.toInt = 7 ∨ (p0.toInt < 0 ∨ 7 < p0.toInt) by omega) with c_22 | c_22 | c_22 | c_22 | c_22 | c_22 | c_22 | c_22 | c_22
      · refine lv_tableIn (tgt := 68) (off := 47) hx hb dX3_tell_21 (by omega) (by omega) (by rw [c_22]; rfl) (by decide) ?_
        refine lv_aload_n hx hb dX3_tell_68 rfl (lv_at hl 0 rfl) ?_
        obtain ⟨v0_23, v1_23, v2_23, ha_23, hg0_23, hg1_23⟩ := tr_8 hT hG
        refine va_get (D := DG E) (ci := 3) (v := .int v2_23) (C := RX3) (T := TX3) (N := 3) hx hb hts iw_X3 hown hK.1 (va_one ha_23) 0 rfl rfl 2 (by decide) (hts _ fl_X3_19) (fun _ h9 => h9) rfl dX3_tell_69 ?_
        exact W.iret (v := v2_23) hx hb hr (fun t ht hW => ⟨⟨v2_23, (), rfl, trivial, trivial⟩, hS.F ht⟩) hS.2.2 dX3_tell_72
      · refine lv_tableIn (tgt := 73) (off := 52) hx hb dX3_tell_21 (by omega) (by omega) (by rw [c_22]; rfl) (by decide) ?_
        refine lv_aload_n hx hb dX3_tell_73 rfl (lv_at hl 0 rfl) ?_
        obtain ⟨v0_24, v1_24, v2_24, ha_24, hg0_24, hg1_24⟩ := tr_8 hT hG
        refine va_get (D := DG E) (ci := 3) (v := .ref v0_24) (C := RX3) (T := TX3) (N := 3) hx hb hts iw_X3 hown hK.1 (va_one ha_24) 0 rfl rfl 0 (by decide) (hts _ fl_X3_9) (fun _ h9 => h9) rfl dX3_tell_74 ?_
        obtain ⟨v0_25, v1_25, v2_25, v3_25, v4_25, v5_25, v6_25, v7_25, v8_25, v9_25, v10_25, v11_25, v12_25, v13_25, ha_25, hb0_25, hg1_25, hg2_25, hg6_25⟩ := tr_9 hT hg0_24
        refine va_get (D := DG E) (ci := 7) (v := .int v7_25) (C := RX7) (T := TX7) (N := 14) hx hb hts iw_X7 hown hK.1 (va_one ha_25) 0 rfl rfl 7 (by decide) (hts _ fl_X3_88) (fun _ h9 => h9) rfl dX3_tell_77 ?_
        exact W.iret (v := v7_25) hx hb hr (fun t ht hW => ⟨⟨v7_25, (), rfl, trivial, trivial⟩, hS.F ht⟩) hS.2.2 dX3_tell_80
      · refine lv_tableIn (tgt := 81) (off := 60) hx hb dX3_tell_21 (by omega) (by omega) (by rw [c_22]; rfl) (by decide) ?_
        refine lv_aload_n hx hb dX3_tell_81 rfl (lv_at hl 0 rfl) ?_
        obtain ⟨v0_26, v1_26, v2_26, ha_26, hg0_26, hg1_26⟩ := tr_8 hT hG
        refine va_get (D := DG E) (ci := 3) (v := .ref v0_26) (C := RX3) (T := TX3) (N := 3) hx hb hts iw_X3 hown hK.1 (va_one ha_26) 0 rfl rfl 0 (by decide) (hts _ fl_X3_9) (fun _ h9 => h9) rfl dX3_tell_82 ?_
        obtain ⟨v0_27, v1_27, v2_27, v3_27, v4_27, v5_27, v6_27, v7_27, v8_27, v9_27, v10_27, v11_27, v12_27, v13_27, ha_27, hb0_27, hg1_27, hg2_27, hg6_27⟩ := tr_9 hT hg0_26
        refine va_get (D := DG E) (ci := 7) (v := .int v8_27) (C := RX7) (T := TX7) (N := 14) hx hb hts iw_X7 hown hK.1 (va_one ha_27) 0 rfl rfl 8 (by decide) (hts _ fl_X3_91) (fun _ h9 => h9) rfl dX3_tell_85 ?_
        exact W.iret (v := v8_27) hx hb hr (fun t ht hW => ⟨⟨v8_27, (), rfl, trivial, trivial⟩, hS.F ht⟩) hS.2.2 dX3_tell_88
      · refine lv_tableIn (tgt := 89) (off := 68) hx hb dX3_tell_21 (by omega) (by omega) (by rw [c_22]; rfl) (by decide) ?_
        refine lv_aload_n hx hb dX3_tell_89 rfl (lv_at hl 0 rfl) ?_
        obtain ⟨v0_28, v1_28, v2_28, ha_28, hg0_28, hg1_28⟩ := tr_8 hT hG
        refine va_get (D := DG E) (ci := 3) (v := .ref v0_28) (C := RX3) (T := TX3) (N := 3) hx hb hts iw_X3 hown hK.1 (va_one ha_28) 0 rfl rfl 0 (by decide) (hts _ fl_X3_9) (fun _ h9 => h9) rfl dX3_tell_90 ?_
        obtain ⟨v0_29, v1_29, v2_29, v3_29, v4_29, v5_29, v6_29, v7_29, v8_29, v9_29, v10_29, v11_29, v12_29, v13_29, ha_29, hb0_29, hg1_29, hg2_29, hg6_29⟩ := tr_9 hT hg0_28
        refine va_get (D := DG E) (ci := 7) (v := .int v9_29) (C := RX7) (T := TX7) (N := 14) hx hb hts iw_X7 hown hK.1 (va_one ha_29) 0 rfl rfl 9 (by decide) (hts _ fl_X3_94) (fun _ h9 => h9) rfl dX3_tell_93 ?_
        exact W.iret (v := v9_29) hx hb hr (fun t ht hW => ⟨⟨v9_29, (), rfl, trivial, trivial⟩, hS.F ht⟩) hS.2.2 dX3_tell_96
      · refine lv_tableIn (tgt := 97) (off := 76) hx hb dX3_tell_21 (by omega) (by omega) (by rw [c_22]; rfl) (by decide) ?_
        refine lv_aload_n hx hb dX3_tell_97 rfl (lv_at hl 0 rfl) ?_
        obtain ⟨v0_30, v1_30, v2_30, ha_30, hg0_30, hg1_30⟩ := tr_8 hT hG
        refine va_get (D := DG E) (ci := 3) (v := .ref v1_30) (C := RX3) (T := TX3) (N := 3) hx hb hts iw_X3 hown hK.1 (va_one ha_30) 0 rfl rfl 1 (by decide) (hts _ fl_X3_15) (fun _ h9 => h9) rfl dX3_tell_98 ?_
        obtain ⟨v0_31, v1_31, v2_31, v3_31, v4_31, v5_31, v6_31, v7_31, v8_31, ha_31, hb0_31, hg1_31, hg2_31, hg3_31, hg7_31, hg8_31⟩ := tr_10 hT hg1_30
        refine va_get (D := DG E) (ci := 8) (v := .int v4_31) (C := RX8) (T := TX8) (N := 9) hx hb hts iw_X8 hown hK.1 (va_one ha_31) 0 rfl rfl 4 (by decide) (hts _ fl_X3_35) (fun _ h9 => h9) rfl dX3_tell_101 ?_
        exact W.iret (v := v4_31) hx hb hr (fun t ht hW => ⟨⟨v4_31, (), rfl, trivial, trivial⟩, hS.F ht⟩) hS.2.2 dX3_tell_104
      · refine lv_tableIn (tgt := 105) (off := 84) hx hb dX3_tell_21 (by omega) (by omega) (by rw [c_22]; rfl) (by decide) ?_
        refine lv_aload_n hx hb dX3_tell_105 rfl (lv_at hl 0 rfl) ?_
        obtain ⟨v0_32, v1_32, v2_32, ha_32, hg0_32, hg1_32⟩ := tr_8 hT hG
        refine va_get (D := DG E) (ci := 3) (v := .ref v0_32) (C := RX3) (T := TX3) (N := 3) hx hb hts iw_X3 hown hK.1 (va_one ha_32) 0 rfl rfl 0 (by decide) (hts _ fl_X3_9) (fun _ h9 => h9) rfl dX3_tell_106 ?_
        obtain ⟨v0_33, v1_33, v2_33, v3_33, v4_33, v5_33, v6_33, v7_33, v8_33, v9_33, v10_33, v11_33, v12_33, v13_33, ha_33, hb0_33, hg1_33, hg2_33, hg6_33⟩ := tr_9 hT hg0_32
        refine va_get (D := DG E) (ci := 7) (v := .ref v6_33) (C := RX7) (T := TX7) (N := 14) hx hb hts iw_X7 hown hK.1 (va_one ha_33) 0 rfl rfl 6 (by decide) (hts _ fl_X3_38) (fun _ h9 => h9) rfl dX3_tell_109 ?_
        obtain ⟨v0_34, v1_34, v2_34, v3_34, v4_34, v5_34, ha_34, hg1_34, hg2_34, hb3_34, hb4_34⟩ := tr_11 hT hg6_33
        refine va_get (D := DG E) (ci := 5) (v := .int v4_34) (C := RX5) (T := TX5) (N := 6) hx hb hts iw_X5 hown hK.1 (va_one ha_34) 0 rfl rfl 4 (by decide) (hts _ fl_X3_97) (fun _ h9 => h9) rfl dX3_tell_112 ?_
        exact W.iret (v := v4_34) hx hb hr (fun t ht hW => ⟨⟨v4_34, (), rfl, trivial, trivial⟩, hS.F ht⟩) hS.2.2 dX3_tell_115
      · refine lv_tableIn (tgt := 116) (off := 95) hx hb dX3_tell_21 (by omega) (by omega) (by rw [c_22]; rfl) (by decide) ?_
        refine lv_aload_n hx hb dX3_tell_116 rfl (lv_at hl 0 rfl) ?_
        obtain ⟨v0_35, v1_35, v2_35, ha_35, hg0_35, hg1_35⟩ := tr_8 hT hG
        refine va_get (D := DG E) (ci := 3) (v := .ref v1_35) (C := RX3) (T := TX3) (N := 3) hx hb hts iw_X3 hown hK.1 (va_one ha_35) 0 rfl rfl 1 (by decide) (hts _ fl_X3_15) (fun _ h9 => h9) rfl dX3_tell_117 ?_
        obtain ⟨v0_36, v1_36, v2_36, v3_36, v4_36, v5_36, v6_36, v7_36, v8_36, ha_36, hb0_36, hg1_36, hg2_36, hg3_36, hg7_36, hg8_36⟩ := tr_10 hT hg1_35
        refine va_get (D := DG E) (ci := 8) (v := .ref v3_36) (C := RX8) (T := TX8) (N := 9) hx hb hts iw_X8 hown hK.1 (va_one ha_36) 0 rfl rfl 3 (by decide) (hts _ fl_X3_48) (fun _ h9 => h9) rfl dX3_tell_120 ?_
        obtain ⟨v0_37, v1_37, v2_37, v3_37, v4_37, v5_37, ha_37, hg1_37, hg2_37, hb3_37, hb4_37⟩ := tr_11 hT hg3_36
        refine va_get (D := DG E) (ci := 5) (v := .int v4_37) (C := RX5) (T := TX5) (N := 6) hx hb hts iw_X5 hown hK.1 (va_one ha_37) 0 rfl rfl 4 (by decide) (hts _ fl_X3_97) (fun _ h9 => h9) rfl dX3_tell_123 ?_
        exact W.iret (v := v4_37) hx hb hr (fun t ht hW => ⟨⟨v4_37, (), rfl, trivial, trivial⟩, hS.F ht⟩) hS.2.2 dX3_tell_126
      · refine lv_tableIn (tgt := 127) (off := 106) hx hb dX3_tell_21 (by omega) (by omega) (by rw [c_22]; rfl) (by decide) ?_
        refine lv_aload_n hx hb dX3_tell_127 rfl (lv_at hl 0 rfl) ?_
        obtain ⟨v0_38, v1_38, v2_38, ha_38, hg0_38, hg1_38⟩ := tr_8 hT hG
        refine va_get (D := DG E) (ci := 3) (v := .ref v0_38) (C := RX3) (T := TX3) (N := 3) hx hb hts iw_X3 hown hK.1 (va_one ha_38) 0 rfl rfl 0 (by decide) (hts _ fl_X3_9) (fun _ h9 => h9) rfl dX3_tell_128 ?_
        obtain ⟨v0_39, v1_39, v2_39, v3_39, v4_39, v5_39, v6_39, v7_39, v8_39, v9_39, v10_39, v11_39, v12_39, v13_39, ha_39, hb0_39, hg1_39, hg2_39, hg6_39⟩ := tr_9 hT hg0_38
        refine va_get (D := DG E) (ci := 7) (v := .int v13_39) (C := RX7) (T := TX7) (N := 14) hx hb hts iw_X7 hown hK.1 (va_one ha_39) 0 rfl rfl 13 (by decide) (hts _ fl_X3_100) (fun _ h9 => h9) rfl dX3_tell_131 ?_
        refine lv_if_eq (tgt := 141) hx hb dX3_tell_134 (by decide) (fun c_40 => ?_) (fun c_40 => ?_)
        · simp only [lt_I, le_I, eq_I, i_0, i_1, i_2, i_3, i_4, i_5, i_6, i_7, i_8, i_10, i_12, i_16, i_20, i_23, i_24, i_31, i_32, i_63, i_64, i_m1] at c_40
          refine lv_iconst (v := 0) hx hb dX3_tell_141 (by decide) ?_
          exact W.iret (v := 0) hx hb hr (fun t ht hW => ⟨⟨0, (), rfl, trivial, trivial⟩, hS.F ht⟩) hS.2.2 dX3_tell_142
        · simp only [lt_I, le_I, eq_I, i_0, i_1, i_2, i_3, i_4, i_5, i_6, i_7, i_8, i_10, i_12, i_16, i_20, i_23, i_24, i_31, i_32, i_63, i_64, i_m1] at c_40
          refine lv_iconst (v := 1) hx hb dX3_tell_137 (by decide) ?_
          refine lv_goto (tgt := 142) hx hb dX3_tell_138 (by decide) ?_
          exact W.iret (v := 1) hx hb hr (fun t ht hW => ⟨⟨1, (), rfl, trivial, trivial⟩, hS.F ht⟩) hS.2.2 dX3_tell_142
      · refine lv_tableOut (tgt := 143) hx hb dX3_tell_21 c_22 (by decide) ?_
        refine lv_iconst (v := (-1)) hx hb dX3_tell_143 (by decide) ?_
        exact W.iret (v := (-1)) hx hb hr (fun t ht hW => ⟨⟨(-1), (), rfl, trivial, trivial⟩, hS.F ht⟩) hS.2.2 dX3_tell_144
    · simp only [lt_I, le_I, eq_I, i_0, i_1, i_2, i_3, i_4, i_5, i_6, i_7, i_8, i_10, i_12, i_16, i_20, i_23, i_24, i_31, i_32, i_63, i_64, i_m1] at c_21
      refine lv_aload_n hx hb dX3_tell_10 rfl (lv_at hl 0 rfl) ?_
      obtain ⟨v0_41, v1_41, v2_41, ha_41, hg0_41, hg1_41⟩ := tr_8 hT hG
      refine va_get (D := DG E) (ci := 3) (v := .int v2_41) (C := RX3) (T := TX3) (N := 3) hx hb hts iw_X3 hown hK.1 (va_one ha_41) 0 rfl rfl 2 (by decide) (hts _ fl_X3_19) (fun _ h9 => h9) rfl dX3_tell_11 ?_
      refine lv_iconst (v := 1) hx hb dX3_tell_14 (by decide) ?_
      refine lv_icmp_eq (tgt := 20) hx hb dX3_tell_15 (by decide) (fun c_42 => ?_) (fun c_42 => ?_)
      · simp only [lt_I, le_I, eq_I, i_0, i_1, i_2, i_3, i_4, i_5, i_6, i_7, i_8, i_10, i_12, i_16, i_20, i_23, i_24, i_31, i_32, i_63, i_64, i_m1] at c_42
        refine lv_iload_n hx hb dX3_tell_20 rfl (lv_at hl 1 rfl) ?_
        rcases (show p0.toInt = 0 ∨ p0.toInt = 1 ∨ p0.toInt = 2 ∨ p0.toInt = 3 ∨ p0.toInt = 4 ∨ p0.toInt = 5 ∨ p0.toInt = 6 ∨ p0.toInt = 7 ∨ (p0.toInt < 0 ∨ 7 < p0.toInt) by omega) with c_43 | c_43 | c_43 | c_43 | c_43 | c_43 | c_43 | c_43 | c_43
        · refine lv_tableIn (tgt := 68) (off := 47) hx hb dX3_tell_21 (by omega) (by omega) (by rw [c_43]; rfl) (by decide) ?_
          refine lv_aload_n hx hb dX3_tell_68 rfl (lv_at hl 0 rfl) ?_
          refine va_get (D := DG E) (ci := 3) (v := .int v2_41) (C := RX3) (T := TX3) (N := 3) hx hb hts iw_X3 hown hK.1 (va_one ha_41) 0 rfl rfl 2 (by decide) (hts _ fl_X3_19) (fun _ h9 => h9) rfl dX3_tell_69 ?_
          exact W.iret (v := v2_41) hx hb hr (fun t ht hW => ⟨⟨v2_41, (), rfl, trivial, trivial⟩, hS.F ht⟩) hS.2.2 dX3_tell_72
        · refine lv_tableIn (tgt := 73) (off := 52) hx hb dX3_tell_21 (by omega) (by omega) (by rw [c_43]; rfl) (by decide) ?_
          refine lv_aload_n hx hb dX3_tell_73 rfl (lv_at hl 0 rfl) ?_
          refine va_get (D := DG E) (ci := 3) (v := .ref v0_41) (C := RX3) (T := TX3) (N := 3) hx hb hts iw_X3 hown hK.1 (va_one ha_41) 0 rfl rfl 0 (by decide) (hts _ fl_X3_9) (fun _ h9 => h9) rfl dX3_tell_74 ?_
          obtain ⟨v0_44, v1_44, v2_44, v3_44, v4_44, v5_44, v6_44, v7_44, v8_44, v9_44, v10_44, v11_44, v12_44, v13_44, ha_44, hb0_44, hg1_44, hg2_44, hg6_44⟩ := tr_9 hT hg0_41
          refine va_get (D := DG E) (ci := 7) (v := .int v7_44) (C := RX7) (T := TX7) (N := 14) hx hb hts iw_X7 hown hK.1 (va_one ha_44) 0 rfl rfl 7 (by decide) (hts _ fl_X3_88) (fun _ h9 => h9) rfl dX3_tell_77 ?_
          exact W.iret (v := v7_44) hx hb hr (fun t ht hW => ⟨⟨v7_44, (), rfl, trivial, trivial⟩, hS.F ht⟩) hS.2.2 dX3_tell_80
        · refine lv_tableIn (tgt := 81) (off := 60) hx hb dX3_tell_21 (by omega) (by omega) (by rw [c_43]; rfl) (by decide) ?_
          refine lv_aload_n hx hb dX3_tell_81 rfl (lv_at hl 0 rfl) ?_
          refine va_get (D := DG E) (ci := 3) (v := .ref v0_41) (C := RX3) (T := TX3) (N := 3) hx hb hts iw_X3 hown hK.1 (va_one ha_41) 0 rfl rfl 0 (by decide) (hts _ fl_X3_9) (fun _ h9 => h9) rfl dX3_tell_82 ?_
          obtain ⟨v0_45, v1_45, v2_45, v3_45, v4_45, v5_45, v6_45, v7_45, v8_45, v9_45, v10_45, v11_45, v12_45, v13_45, ha_45, hb0_45, hg1_45, hg2_45, hg6_45⟩ := tr_9 hT hg0_41
          refine va_get (D := DG E) (ci := 7) (v := .int v8_45) (C := RX7) (T := TX7) (N := 14) hx hb hts iw_X7 hown hK.1 (va_one ha_45) 0 rfl rfl 8 (by decide) (hts _ fl_X3_91) (fun _ h9 => h9) rfl dX3_tell_85 ?_
          exact W.iret (v := v8_45) hx hb hr (fun t ht hW => ⟨⟨v8_45, (), rfl, trivial, trivial⟩, hS.F ht⟩) hS.2.2 dX3_tell_88
        · refine lv_tableIn (tgt := 89) (off := 68) hx hb dX3_tell_21 (by omega) (by omega) (by rw [c_43]; rfl) (by decide) ?_
          refine lv_aload_n hx hb dX3_tell_89 rfl (lv_at hl 0 rfl) ?_
          refine va_get (D := DG E) (ci := 3) (v := .ref v0_41) (C := RX3) (T := TX3) (N := 3) hx hb hts iw_X3 hown hK.1 (va_one ha_41) 0 rfl rfl 0 (by decide) (hts _ fl_X3_9) (fun _ h9 => h9) rfl dX3_tell_90 ?_
          obtain ⟨v0_46, v1_46, v2_46, v3_46, v4_46, v5_46, v6_46, v7_46, v8_46, v9_46, v10_46, v11_46, v12_46, v13_46, ha_46, hb0_46, hg1_46, hg2_46, hg6_46⟩ := tr_9 hT hg0_41
          refine va_get (D := DG E) (ci := 7) (v := .int v9_46) (C := RX7) (T := TX7) (N := 14) hx hb hts iw_X7 hown hK.1 (va_one ha_46) 0 rfl rfl 9 (by decide) (hts _ fl_X3_94) (fun _ h9 => h9) rfl dX3_tell_93 ?_
          exact W.iret (v := v9_46) hx hb hr (fun t ht hW => ⟨⟨v9_46, (), rfl, trivial, trivial⟩, hS.F ht⟩) hS.2.2 dX3_tell_96
        · refine lv_tableIn (tgt := 97) (off := 76) hx hb dX3_tell_21 (by omega) (by omega) (by rw [c_43]; rfl) (by decide) ?_
          refine lv_aload_n hx hb dX3_tell_97 rfl (lv_at hl 0 rfl) ?_
          refine va_get (D := DG E) (ci := 3) (v := .ref v1_41) (C := RX3) (T := TX3) (N := 3) hx hb hts iw_X3 hown hK.1 (va_one ha_41) 0 rfl rfl 1 (by decide) (hts _ fl_X3_15) (fun _ h9 => h9) rfl dX3_tell_98 ?_
          obtain ⟨v0_47, v1_47, v2_47, v3_47, v4_47, v5_47, v6_47, v7_47, v8_47, ha_47, hb0_47, hg1_47, hg2_47, hg3_47, hg7_47, hg8_47⟩ := tr_10 hT hg1_41
          refine va_get (D := DG E) (ci := 8) (v := .int v4_47) (C := RX8) (T := TX8) (N := 9) hx hb hts iw_X8 hown hK.1 (va_one ha_47) 0 rfl rfl 4 (by decide) (hts _ fl_X3_35) (fun _ h9 => h9) rfl dX3_tell_101 ?_
          exact W.iret (v := v4_47) hx hb hr (fun t ht hW => ⟨⟨v4_47, (), rfl, trivial, trivial⟩, hS.F ht⟩) hS.2.2 dX3_tell_104
        · refine lv_tableIn (tgt := 105) (off := 84) hx hb dX3_tell_21 (by omega) (by omega) (by rw [c_43]; rfl) (by decide) ?_
          refine lv_aload_n hx hb dX3_tell_105 rfl (lv_at hl 0 rfl) ?_
          refine va_get (D := DG E) (ci := 3) (v := .ref v0_41) (C := RX3) (T := TX3) (N := 3) hx hb hts iw_X3 hown hK.1 (va_one ha_41) 0 rfl rfl 0 (by decide) (hts _ fl_X3_9) (fun _ h9 => h9) rfl dX3_tell_106 ?_
          obtain ⟨v0_48, v1_48, v2_48, v3_48, v4_48, v5_48, v6_48, v7_48, v8_48, v9_48, v10_48, v11_48, v12_48, v13_48, ha_48, hb0_48, hg1_48, hg2_48, hg6_48⟩ := tr_9 hT hg0_41
          refine va_get (D := DG E) (ci := 7) (v := .ref v6_48) (C := RX7) (T := TX7) (N := 14) hx hb hts iw_X7 hown hK.1 (va_one ha_48) 0 rfl rfl 6 (by decide) (hts _ fl_X3_38) (fun _ h9 => h9) rfl dX3_tell_109 ?_
          obtain ⟨v0_49, v1_49, v2_49, v3_49, v4_49, v5_49, ha_49, hg1_49, hg2_49, hb3_49, hb4_49⟩ := tr_11 hT hg6_48
          refine va_get (D := DG E) (ci := 5) (v := .int v4_49) (C := RX5) (T := TX5) (N := 6) hx hb hts iw_X5 hown hK.1 (va_one ha_49) 0 rfl rfl 4 (by decide) (hts _ fl_X3_97) (fun _ h9 => h9) rfl dX3_tell_112 ?_
          exact W.iret (v := v4_49) hx hb hr (fun t ht hW => ⟨⟨v4_49, (), rfl, trivial, trivial⟩, hS.F ht⟩) hS.2.2 dX3_tell_115
        · refine lv_tableIn (tgt := 116) (off := 95) hx hb dX3_tell_21 (by omega) (by omega) (by rw [c_43]; rfl) (by decide) ?_
          refine lv_aload_n hx hb dX3_tell_116 rfl (lv_at hl 0 rfl) ?_
          refine va_get (D := DG E) (ci := 3) (v := .ref v1_41) (C := RX3) (T := TX3) (N := 3) hx hb hts iw_X3 hown hK.1 (va_one ha_41) 0 rfl rfl 1 (by decide) (hts _ fl_X3_15) (fun _ h9 => h9) rfl dX3_tell_117 ?_
          obtain ⟨v0_50, v1_50, v2_50, v3_50, v4_50, v5_50, v6_50, v7_50, v8_50, ha_50, hb0_50, hg1_50, hg2_50, hg3_50, hg7_50, hg8_50⟩ := tr_10 hT hg1_41
          refine va_get (D := DG E) (ci := 8) (v := .ref v3_50) (C := RX8) (T := TX8) (N := 9) hx hb hts iw_X8 hown hK.1 (va_one ha_50) 0 rfl rfl 3 (by decide) (hts _ fl_X3_48) (fun _ h9 => h9) rfl dX3_tell_120 ?_
          obtain ⟨v0_51, v1_51, v2_51, v3_51, v4_51, v5_51, ha_51, hg1_51, hg2_51, hb3_51, hb4_51⟩ := tr_11 hT hg3_50
          refine va_get (D := DG E) (ci := 5) (v := .int v4_51) (C := RX5) (T := TX5) (N := 6) hx hb hts iw_X5 hown hK.1 (va_one ha_51) 0 rfl rfl 4 (by decide) (hts _ fl_X3_97) (fun _ h9 => h9) rfl dX3_tell_123 ?_
          exact W.iret (v := v4_51) hx hb hr (fun t ht hW => ⟨⟨v4_51, (), rfl, trivial, trivial⟩, hS.F ht⟩) hS.2.2 dX3_tell_126
        · refine lv_tableIn (tgt := 127) (off := 106) hx hb dX3_tell_21 (by omega) (by omega) (by rw [c_43]; rfl) (by decide) ?_
          refine lv_aload_n hx hb dX3_tell_127 rfl (lv_at hl 0 rfl) ?_
          refine va_get (D := DG E) (ci := 3) (v := .ref v0_41) (C := RX3) (T := TX3) (N := 3) hx hb hts iw_X3 hown hK.1 (va_one ha_41) 0 rfl rfl 0 (by decide) (hts _ fl_X3_9) (fun _ h9 => h9) rfl dX3_tell_128 ?_
          obtain ⟨v0_52, v1_52, v2_52, v3_52, v4_52, v5_52, v6_52, v7_52, v8_52, v9_52, v10_52, v11_52, v12_52, v13_52, ha_52, hb0_52, hg1_52, hg2_52, hg6_52⟩ := tr_9 hT hg0_41
          refine va_get (D := DG E) (ci := 7) (v := .int v13_52) (C := RX7) (T := TX7) (N := 14) hx hb hts iw_X7 hown hK.1 (va_one ha_52) 0 rfl rfl 13 (by decide) (hts _ fl_X3_100) (fun _ h9 => h9) rfl dX3_tell_131 ?_
          refine lv_if_eq (tgt := 141) hx hb dX3_tell_134 (by decide) (fun c_53 => ?_) (fun c_53 => ?_)
          · simp only [lt_I, le_I, eq_I, i_0, i_1, i_2, i_3, i_4, i_5, i_6, i_7, i_8, i_10, i_12, i_16, i_20, i_23, i_24, i_31, i_32, i_63, i_64, i_m1] at c_53
            refine lv_iconst (v := 0) hx hb dX3_tell_141 (by decide) ?_
            exact W.iret (v := 0) hx hb hr (fun t ht hW => ⟨⟨0, (), rfl, trivial, trivial⟩, hS.F ht⟩) hS.2.2 dX3_tell_142
          · simp only [lt_I, le_I, eq_I, i_0, i_1, i_2, i_3, i_4, i_5, i_6, i_7, i_8, i_10, i_12, i_16, i_20, i_23, i_24, i_31, i_32, i_63, i_64, i_m1] at c_53
            refine lv_iconst (v := 1) hx hb dX3_tell_137 (by decide) ?_
            refine lv_goto (tgt := 142) hx hb dX3_tell_138 (by decide) ?_
            exact W.iret (v := 1) hx hb hr (fun t ht hW => ⟨⟨1, (), rfl, trivial, trivial⟩, hS.F ht⟩) hS.2.2 dX3_tell_142
        · refine lv_tableOut (tgt := 143) hx hb dX3_tell_21 c_43 (by decide) ?_
          refine lv_iconst (v := (-1)) hx hb dX3_tell_143 (by decide) ?_
          exact W.iret (v := (-1)) hx hb hr (fun t ht hW => ⟨⟨(-1), (), rfl, trivial, trivial⟩, hS.F ht⟩) hS.2.2 dX3_tell_144
      · simp only [lt_I, le_I, eq_I, i_0, i_1, i_2, i_3, i_4, i_5, i_6, i_7, i_8, i_10, i_12, i_16, i_20, i_23, i_24, i_31, i_32, i_63, i_64, i_m1] at c_42
        refine lv_iconst (v := (-1)) hx hb dX3_tell_18 (by decide) ?_
        exact W.iret (v := (-1)) hx hb hr (fun t ht hW => ⟨⟨(-1), (), rfl, trivial, trivial⟩, hS.F ht⟩) hS.2.2 dX3_tell_19
