theorem dX7_start_0 : decode cX7_start 0 = .ok (.aload_n 0, 1) := by decide +kernel
theorem dX7_start_1 : decode cX7_start 1 = .ok (.iload_n 1, 1) := by decide +kernel
theorem dX7_start_2 : decode cX7_start 2 = .ok (.putfield 65, 3) := by decide +kernel
theorem dX7_start_5 : decode cX7_start 5 = .ok (.aload_n 0, 1) := by decide +kernel
theorem dX7_start_6 : decode cX7_start 6 = .ok (.iload_n 1, 1) := by decide +kernel
theorem dX7_start_7 : decode cX7_start 7 = .ok (.putfield 68, 3) := by decide +kernel
theorem dX7_start_10 : decode cX7_start 10 = .ok (.aload_n 0, 1) := by decide +kernel
theorem dX7_start_11 : decode cX7_start 11 = .ok (.iload_n 1, 1) := by decide +kernel
theorem dX7_start_12 : decode cX7_start 12 = .ok (.putfield 71, 3) := by decide +kernel
theorem dX7_start_15 : decode cX7_start 15 = .ok (.return_, 1) := by decide +kernel
set_option maxHeartbeats 8000000 in
set_option maxRecDepth 100000 in
theorem t_X7_start (l : Launch) (E : EE) (z0 : Nat) (G : Nat → Nat) (hGz : ∀ q, G q ≠ 0 → z0 ≤ q) (h0 : Nat) (p0 : Int32) (hG : G h0 = 9) : Met l yX7_start [Cond.code yX7_start cX7_start 2 none] ({ frames := 0, cells := 0, slots := 0, locals := 0 } : Room) (va_Pc [.ref h0, .int p0] (fun U => (TH E (T1 E) G [] U.heap) ∧ KS E z0 U)) (va_Qv (fun (_ : Unit) => True) (fun _ t => TH E (T1 E) G [] t.heap) (fun q : Nat => G q ∈ ([9] : List Nat))) 0 0 (fun q : Nat => G q ∈ ([9] : List Nat)) := by
  refine Met.ofW (cc := cX7_start) (maxL := 2) (ret := none) (by decide) rfl ?_
  intro p e s m args below meth c s₁ B hml hv
  obtain ⟨rfl, hT, hK⟩ := hv
  have hx := B.exec
  have hb := B.bytes
  have hr := B.returns
  have hts : ∀ w ∈ TS, w.before ([.ref h0, .int p0] : List Value).toArray s = true := fun w hw => hK.2.1 w hw _
  have hown : s.vm.findClass RX7 = some m.cls := findClass_of_methodNamed B.named
  have hlocks := B.notSynchronized
  have hS : va_S (fun q : Nat => G q ∈ ([9] : List Nat)) s.heap s.heap [] := va_S.rf
  have hAz : ∀ q, (fun q : Nat => G q ∈ ([9] : List Nat)) q → z0 ≤ q := zL hGz (by decide)
  have hl := lv_entry ([.ref h0, .int p0]) (n := 2) (Nat.le_of_ble_eq_true rfl)
  rw [lg_entry_eq]
  generalize (lg_sl ([.ref h0, .int p0]) ++ List.replicate (2 - (lg_sl ([.ref h0, .int p0])).length) Slot.unset).toArray = ls at hl ⊢
  have hl : lv_has ls 2 [(0, .ref h0), (1, .int p0)] := hl
  refine lv_aload_n hx hb dX7_start_0 rfl (lv_at hl 0 rfl) ?_
  refine lv_iload_n hx hb dX7_start_1 rfl (lv_at hl 1 rfl) ?_
  obtain ⟨v0_1, v1_1, v2_1, v3_1, v4_1, v5_1, v6_1, v7_1, v8_1, v9_1, v10_1, v11_1, v12_1, v13_1, ha_1, hb0_1, hg1_1, hg2_1, hg6_1⟩ := tr_9 hT hG
  refine rr_put (D := DG E) (ci := 7) (v := .int p0) (ty := .int) (C := RX7) (T := TX7) (N := 14) hx hb hts iw_X7 tyX7 tyX7_ok nmX7 hown hK.1 ha_1 hS (by show G h0 ∈ ([9] : List Nat); rw [hG]; decide) rfl 7 (by decide) (hts _ fl_X7_65) (fun _ h9 => h9) rfl (by decide +kernel) rfl rfl (Nat.le_of_ble_eq_true rfl) dX7_start_2 (fun H locs hn ho hz hS => ?_)
  have hr_2 : va_at (DG E) vwCl (h0, .inr (7, [.int v0_1, .ref v1_1, .ref v2_1, .int v3_1, .int v4_1, .int v5_1, .ref v6_1, .int p0, .int v8_1, .int v9_1, .int v10_1, .int v11_1, .int v12_1, .int v13_1])) H := hn
  have hT : TH E (T1 E) G [] H := hT.set hG (show T1 E G 9 _ from ⟨v0_1, v1_1, v2_1, v3_1, v4_1, v5_1, v6_1, p0, v8_1, v9_1, v10_1, v11_1, v12_1, v13_1, rfl, (by omega), hg1_1, hg2_1, hg6_1⟩) hr_2 ho
  refine lv_aload_n hx hb dX7_start_5 rfl (lv_at hl 0 rfl) ?_
  refine lv_iload_n hx hb dX7_start_6 rfl (lv_at hl 1 rfl) ?_
  refine rr_put (D := DG E) (ci := 7) (v := .int p0) (ty := .int) (C := RX7) (T := TX7) (N := 14) hx hb hts iw_X7 tyX7 tyX7_ok nmX7 hown hK.1 hr_2 hS (by show G h0 ∈ ([9] : List Nat); rw [hG]; decide) rfl 8 (by decide) (hts _ fl_X7_68) (fun _ h9 => h9) rfl (by decide +kernel) rfl rfl (Nat.le_of_ble_eq_true rfl) dX7_start_7 (fun H locs hn ho hz hS => ?_)
  have hr_3 : va_at (DG E) vwCl (h0, .inr (7, [.int v0_1, .ref v1_1, .ref v2_1, .int v3_1, .int v4_1, .int v5_1, .ref v6_1, .int p0, .int p0, .int v9_1, .int v10_1, .int v11_1, .int v12_1, .int v13_1])) H := hn
  have hT : TH E (T1 E) G [] H := hT.set hG (show T1 E G 9 _ from ⟨v0_1, v1_1, v2_1, v3_1, v4_1, v5_1, v6_1, p0, p0, v9_1, v10_1, v11_1, v12_1, v13_1, rfl, (by omega), hg1_1, hg2_1, hg6_1⟩) hr_3 ho
  refine lv_aload_n hx hb dX7_start_10 rfl (lv_at hl 0 rfl) ?_
  refine lv_iload_n hx hb dX7_start_11 rfl (lv_at hl 1 rfl) ?_
  refine rr_put (D := DG E) (ci := 7) (v := .int p0) (ty := .int) (C := RX7) (T := TX7) (N := 14) hx hb hts iw_X7 tyX7 tyX7_ok nmX7 hown hK.1 hr_3 hS (by show G h0 ∈ ([9] : List Nat); rw [hG]; decide) rfl 9 (by decide) (hts _ fl_X7_71) (fun _ h9 => h9) rfl (by decide +kernel) rfl rfl (Nat.le_of_ble_eq_true rfl) dX7_start_12 (fun H locs hn ho hz hS => ?_)
  have hr_4 : va_at (DG E) vwCl (h0, .inr (7, [.int v0_1, .ref v1_1, .ref v2_1, .int v3_1, .int v4_1, .int v5_1, .ref v6_1, .int p0, .int p0, .int p0, .int v10_1, .int v11_1, .int v12_1, .int v13_1])) H := hn
  have hT : TH E (T1 E) G [] H := hT.set hG (show T1 E G 9 _ from ⟨v0_1, v1_1, v2_1, v3_1, v4_1, v5_1, v6_1, p0, p0, p0, v10_1, v11_1, v12_1, v13_1, rfl, (by omega), hg1_1, hg2_1, hg6_1⟩) hr_4 ho
  exact W.vret hx hb hr (fun t ht hW => ⟨⟨(), rfl, trivial, (by show TH E (T1 E) G [] t.heap; rw [ht]; exact hT)⟩, hS.F ht⟩) hS.2.2 dX7_start_15
theorem dX7_clear_0 : decode cX7_clear 0 = .ok (.aload_n 0, 1) := by decide +kernel
theorem dX7_clear_1 : decode cX7_clear 1 = .ok (.getfield 41, 3) := by decide +kernel
theorem dX7_clear_4 : decode cX7_clear 4 = .ok (.invokevirtual 45, 3) := by decide +kernel
theorem dX7_clear_7 : decode cX7_clear 7 = .ok (.aload_n 0, 1) := by decide +kernel
theorem dX7_clear_8 : decode cX7_clear 8 = .ok (.iconst 0, 1) := by decide +kernel
theorem dX7_clear_9 : decode cX7_clear 9 = .ok (.invokevirtual 48, 3) := by decide +kernel
theorem dX7_clear_12 : decode cX7_clear 12 = .ok (.aload_n 0, 1) := by decide +kernel
theorem dX7_clear_13 : decode cX7_clear 13 = .ok (.iconst 0, 1) := by decide +kernel
theorem dX7_clear_14 : decode cX7_clear 14 = .ok (.putfield 52, 3) := by decide +kernel
theorem dX7_clear_17 : decode cX7_clear 17 = .ok (.aload_n 0, 1) := by decide +kernel
theorem dX7_clear_18 : decode cX7_clear 18 = .ok (.iconst 0, 1) := by decide +kernel
theorem dX7_clear_19 : decode cX7_clear 19 = .ok (.putfield 55, 3) := by decide +kernel
theorem dX7_clear_22 : decode cX7_clear 22 = .ok (.aload_n 0, 1) := by decide +kernel
theorem dX7_clear_23 : decode cX7_clear 23 = .ok (.iconst 0, 1) := by decide +kernel
theorem dX7_clear_24 : decode cX7_clear 24 = .ok (.putfield 58, 3) := by decide +kernel
theorem dX7_clear_27 : decode cX7_clear 27 = .ok (.aload_n 0, 1) := by decide +kernel
theorem dX7_clear_28 : decode cX7_clear 28 = .ok (.iconst 0, 1) := by decide +kernel
theorem dX7_clear_29 : decode cX7_clear 29 = .ok (.putfield 61, 3) := by decide +kernel
theorem dX7_clear_32 : decode cX7_clear 32 = .ok (.return_, 1) := by decide +kernel
set_option maxHeartbeats 8000000 in
set_option maxRecDepth 100000 in
theorem t_X7_clear (l : Launch) (E : EE) (z0 : Nat) (G : Nat → Nat) (hGz : ∀ q, G q ≠ 0 → z0 ≤ q) (h0 : Nat) (hG : G h0 = 9) : Met l yX7_clear [Cond.code yX7_clear cX7_clear 1 none] ({ frames := 1, cells := 0, slots := 0, locals := 21 } : Room) (va_Pc [.ref h0] (fun U => (TH E (T1 E) G [] U.heap) ∧ KS E z0 U)) (va_Qv (fun (_ : Unit) => True) (fun _ t => TH E (T1 E) G [] t.heap) (fun q : Nat => G q ∈ ([9, 11] : List Nat))) 0 0 (fun q : Nat => G q ∈ ([9, 11] : List Nat)) := by
  refine Met.ofW (cc := cX7_clear) (maxL := 1) (ret := none) (by decide) rfl ?_
  intro p e s m args below meth c s₁ B hml hv
  obtain ⟨rfl, hT, hK⟩ := hv
  have hx := B.exec
  have hb := B.bytes
  have hr := B.returns
  have hts : ∀ w ∈ TS, w.before ([.ref h0] : List Value).toArray s = true := fun w hw => hK.2.1 w hw _
  have hown : s.vm.findClass RX7 = some m.cls := findClass_of_methodNamed B.named
  have hlocks := B.notSynchronized
  have hS : va_S (fun q : Nat => G q ∈ ([9, 11] : List Nat)) s.heap s.heap [] := va_S.rf
  have hAz : ∀ q, (fun q : Nat => G q ∈ ([9, 11] : List Nat)) q → z0 ≤ q := zL hGz (by decide)
  have hl := lv_entry ([.ref h0]) (n := 1) (Nat.le_of_ble_eq_true rfl)
  rw [lg_entry_eq]
  generalize (lg_sl ([.ref h0]) ++ List.replicate (1 - (lg_sl ([.ref h0])).length) Slot.unset).toArray = ls at hl ⊢
  have hl : lv_has ls 1 [(0, .ref h0)] := hl
  refine lv_aload_n hx hb dX7_clear_0 rfl (lv_at hl 0 rfl) ?_
  obtain ⟨v0_1, v1_1, v2_1, v3_1, v4_1, v5_1, v6_1, v7_1, v8_1, v9_1, v10_1, v11_1, v12_1, v13_1, ha_1, hb0_1, hg1_1, hg2_1, hg6_1⟩ := tr_9 hT hG
  refine va_get (D := DG E) (ci := 7) (v := .ref v6_1) (C := RX7) (T := TX7) (N := 14) hx hb hts iw_X7 hown hK.1 (va_one ha_1) 0 rfl rfl 6 (by decide) (hts _ fl_X7_41) (fun _ h9 => h9) rfl dX7_clear_1 ?_
  obtain ⟨v0_2, v1_2, v2_2, v3_2, v4_2, v5_2, ha_2, hg1_2, hg2_2, hb3_2, hb4_2⟩ := tr_11 hT hg6_1
  refine va_callv (rnV (fun H => TH E (T1 E) G [] H) (As := []) (rest := []) ⟨hx, hb, hml, hown, hts⟩ (t_X5_clear l E z0 G hGz v6_1 hg6_1) (cwV 0 hts (gdV ml_X7_45 im_X5_clear se_X5_X5_clear in_X5 co_X5_clear rfl) rfl rfl rfl (by decide +kernel) ⟨Nat.le_of_ble_eq_true rfl, Nat.le_of_ble_eq_true rfl⟩) hT (fun U hU hW => hK.go hW hS hAz hU) (va_recv hK.1 (va_one ha_2) (ci := 5) (q0 := 0) rfl rfl) rfl rfl hl.1 rfl (lv_room (Nat.le_of_ble_eq_true rfl)) dX7_clear_4 ⟨Nat.le_of_ble_eq_true rfl, Nat.le_of_ble_eq_true rfl⟩) hS (fun q _ h => mL (L' := [11]) (L := [9, 11]) (by decide) h) (fun q h => mL (L' := [11]) (L := [9, 11]) (by decide) h) (fun _ t H locs ht hvm hwr_3 hB hz hk hS => ?_)
  have hT : TH E (T1 E) G [] H := by rw [ht] at hB; exact hB
  have ha_1 := ha_1.kept (hk _ ha_1.lt (nL hG (by decide)))
  refine lv_aload_n hx hb dX7_clear_7 rfl (lv_at hl 0 rfl) ?_
  refine lv_iconst (v := 0) hx hb dX7_clear_8 (by decide) ?_
  refine va_callv (rnV (fun H => TH E (T1 E) G [] H) (As := [.int 0]) (rest := []) ⟨hx, hb, hml, hown, hts⟩ (t_X7_start l E z0 G hGz h0 0 hG) (cwV 1 hts (gdV ml_X7_48 im_X7_start se_X7_X7_start in_X7 co_X7_start rfl) rfl rfl rfl (by decide +kernel) ⟨Nat.le_of_ble_eq_true rfl, Nat.le_of_ble_eq_true rfl⟩) hT (fun U hU hW => hK.go hW hS hAz hU) (va_recv hK.1 (va_one ha_1) (ci := 7) (q0 := 0) rfl rfl) rfl rfl hl.1 rfl (lv_room (Nat.le_of_ble_eq_true rfl)) dX7_clear_9 ⟨Nat.le_of_ble_eq_true rfl, Nat.le_of_ble_eq_true rfl⟩) hS (fun q _ h => mL (L' := [9]) (L := [9, 11]) (by decide) h) (fun q h => mL (L' := [9]) (L := [9, 11]) (by decide) h) (fun _ t H locs ht hvm hwr_4 hB hz hk hS => ?_)
  have hT : TH E (T1 E) G [] H := by rw [ht] at hB; exact hB
  refine lv_aload_n hx hb dX7_clear_12 rfl (lv_at hl 0 rfl) ?_
  refine lv_iconst (v := 0) hx hb dX7_clear_13 (by decide) ?_
  obtain ⟨v0_5, v1_5, v2_5, v3_5, v4_5, v5_5, v6_5, v7_5, v8_5, v9_5, v10_5, v11_5, v12_5, v13_5, ha_5, hb0_5, hg1_5, hg2_5, hg6_5⟩ := tr_9 hT hG
  refine rr_put (D := DG E) (ci := 7) (v := .int 0) (ty := .int) (C := RX7) (T := TX7) (N := 14) hx hb hts iw_X7 tyX7 tyX7_ok nmX7 hown hK.1 ha_5 hS (by show G h0 ∈ ([9, 11] : List Nat); rw [hG]; decide) rfl 10 (by decide) (hts _ fl_X7_52) (fun _ h9 => h9) rfl (by decide +kernel) rfl rfl (Nat.le_of_ble_eq_true rfl) dX7_clear_14 (fun H locs hn ho hz hS => ?_)
  have hr_6 : va_at (DG E) vwCl (h0, .inr (7, [.int v0_5, .ref v1_5, .ref v2_5, .int v3_5, .int v4_5, .int v5_5, .ref v6_5, .int v7_5, .int v8_5, .int v9_5, .int 0, .int v11_5, .int v12_5, .int v13_5])) H := hn
  have hT : TH E (T1 E) G [] H := hT.set hG (show T1 E G 9 _ from ⟨v0_5, v1_5, v2_5, v3_5, v4_5, v5_5, v6_5, v7_5, v8_5, v9_5, 0, v11_5, v12_5, v13_5, rfl, (by omega), hg1_5, hg2_5, hg6_5⟩) hr_6 ho
  refine lv_aload_n hx hb dX7_clear_17 rfl (lv_at hl 0 rfl) ?_
  refine lv_iconst (v := 0) hx hb dX7_clear_18 (by decide) ?_
  refine rr_put (D := DG E) (ci := 7) (v := .int 0) (ty := .int) (C := RX7) (T := TX7) (N := 14) hx hb hts iw_X7 tyX7 tyX7_ok nmX7 hown hK.1 hr_6 hS (by show G h0 ∈ ([9, 11] : List Nat); rw [hG]; decide) rfl 11 (by decide) (hts _ fl_X7_55) (fun _ h9 => h9) rfl (by decide +kernel) rfl rfl (Nat.le_of_ble_eq_true rfl) dX7_clear_19 (fun H locs hn ho hz hS => ?_)
  have hr_7 : va_at (DG E) vwCl (h0, .inr (7, [.int v0_5, .ref v1_5, .ref v2_5, .int v3_5, .int v4_5, .int v5_5, .ref v6_5, .int v7_5, .int v8_5, .int v9_5, .int 0, .int 0, .int v12_5, .int v13_5])) H := hn
  have hT : TH E (T1 E) G [] H := hT.set hG (show T1 E G 9 _ from ⟨v0_5, v1_5, v2_5, v3_5, v4_5, v5_5, v6_5, v7_5, v8_5, v9_5, 0, 0, v12_5, v13_5, rfl, (by omega), hg1_5, hg2_5, hg6_5⟩) hr_7 ho
  refine lv_aload_n hx hb dX7_clear_22 rfl (lv_at hl 0 rfl) ?_
  refine lv_iconst (v := 0) hx hb dX7_clear_23 (by decide) ?_
  refine rr_put (D := DG E) (ci := 7) (v := .int 0) (ty := .int) (C := RX7) (T := TX7) (N := 14) hx hb hts iw_X7 tyX7 tyX7_ok nmX7 hown hK.1 hr_7 hS (by show G h0 ∈ ([9, 11] : List Nat); rw [hG]; decide) rfl 12 (by decide) (hts _ fl_X7_58) (fun _ h9 => h9) rfl (by decide +kernel) rfl rfl (Nat.le_of_ble_eq_true rfl) dX7_clear_24 (fun H locs hn ho hz hS => ?_)
  have hr_8 : va_at (DG E) vwCl (h0, .inr (7, [.int v0_5, .ref v1_5, .ref v2_5, .int v3_5, .int v4_5, .int v5_5, .ref v6_5, .int v7_5, .int v8_5, .int v9_5, .int 0, .int 0, .int 0, .int v13_5])) H := hn
  have hT : TH E (T1 E) G [] H := hT.set hG (show T1 E G 9 _ from ⟨v0_5, v1_5, v2_5, v3_5, v4_5, v5_5, v6_5, v7_5, v8_5, v9_5, 0, 0, 0, v13_5, rfl, (by omega), hg1_5, hg2_5, hg6_5⟩) hr_8 ho
  refine lv_aload_n hx hb dX7_clear_27 rfl (lv_at hl 0 rfl) ?_
  refine lv_iconst (v := 0) hx hb dX7_clear_28 (by decide) ?_
  refine rr_put (D := DG E) (ci := 7) (v := .int 0) (ty := .boolean) (C := RX7) (T := TX7) (N := 14) hx hb hts iw_X7 tyX7 tyX7_ok nmX7 hown hK.1 hr_8 hS (by show G h0 ∈ ([9, 11] : List Nat); rw [hG]; decide) rfl 13 (by decide) (hts _ fl_X7_61) (fun _ h9 => h9) rfl (by decide +kernel) rfl rfl (Nat.le_of_ble_eq_true rfl) dX7_clear_29 (fun H locs hn ho hz hS => ?_)
  have hr_9 : va_at (DG E) vwCl (h0, .inr (7, [.int v0_5, .ref v1_5, .ref v2_5, .int v3_5, .int v4_5, .int v5_5, .ref v6_5, .int v7_5, .int v8_5, .int v9_5, .int 0, .int 0, .int 0, .int 0])) H := hn
  have hT : TH E (T1 E) G [] H := hT.set hG (show T1 E G 9 _ from ⟨v0_5, v1_5, v2_5, v3_5, v4_5, v5_5, v6_5, v7_5, v8_5, v9_5, 0, 0, 0, 0, rfl, (by omega), hg1_5, hg2_5, hg6_5⟩) hr_9 ho
  exact W.vret hx hb hr (fun t ht hW => ⟨⟨(), rfl, trivial, (by show TH E (T1 E) G [] t.heap; rw [ht]; exact hT)⟩, hS.F ht⟩) hS.2.2 dX7_clear_32
theorem dX7_post_0 : decode cX7_post 0 = .ok (.aload_n 0, 1) := by decide +kernel
theorem dX7_post_1 : decode cX7_post 1 = .ok (.getfield 41, 3) := by decide +kernel
theorem dX7_post_4 : decode cX7_post 4 = .ok (.iload_n 1, 1) := by decide +kernel
theorem dX7_post_5 : decode cX7_post 5 = .ok (.iload_n 2, 1) := by decide +kernel
theorem dX7_post_6 : decode cX7_post 6 = .ok (.iload_n 3, 1) := by decide +kernel
theorem dX7_post_7 : decode cX7_post 7 = .ok (.invokevirtual 74, 3) := by decide +kernel
theorem dX7_post_10 : decode cX7_post 10 = .ok (.astore 7, 2) := by decide +kernel
theorem dX7_post_12 : decode cX7_post 12 = .ok (.aload 7, 2) := by decide +kernel
theorem dX7_post_14 : decode cX7_post 14 = .ok (.aload_n 0, 1) := by decide +kernel
theorem dX7_post_15 : decode cX7_post 15 = .ok (.getfield 65, 3) := by decide +kernel
theorem dX7_post_18 : decode cX7_post 18 = .ok (.putfield 78, 3) := by decide +kernel
theorem dX7_post_21 : decode cX7_post 21 = .ok (.aload 7, 2) := by decide +kernel
theorem dX7_post_23 : decode cX7_post 23 = .ok (.iload_n 3, 1) := by decide +kernel
theorem dX7_post_24 : decode cX7_post 24 = .ok (.invokestatic 83, 3) := by decide +kernel
theorem dX7_post_27 : decode cX7_post 27 = .ok (.putfield 86, 3) := by decide +kernel
theorem dX7_post_30 : decode cX7_post 30 = .ok (.aload 7, 2) := by decide +kernel
theorem dX7_post_32 : decode cX7_post 32 = .ok (.iload 4, 2) := by decide +kernel
theorem dX7_post_34 : decode cX7_post 34 = .ok (.putfield 89, 3) := by decide +kernel
theorem dX7_post_37 : decode cX7_post 37 = .ok (.aload 7, 2) := by decide +kernel
theorem dX7_post_39 : decode cX7_post 39 = .ok (.iload 5, 2) := by decide +kernel
theorem dX7_post_41 : decode cX7_post 41 = .ok (.putfield 92, 3) := by decide +kernel
theorem dX7_post_44 : decode cX7_post 44 = .ok (.aload 7, 2) := by decide +kernel
theorem dX7_post_46 : decode cX7_post 46 = .ok (.iload 6, 2) := by decide +kernel
theorem dX7_post_48 : decode cX7_post 48 = .ok (.putfield 95, 3) := by decide +kernel
theorem dX7_post_51 : decode cX7_post 51 = .ok (.aload_n 0, 1) := by decide +kernel
theorem dX7_post_52 : decode cX7_post 52 = .ok (.aload_n 0, 1) := by decide +kernel
theorem dX7_post_53 : decode cX7_post 53 = .ok (.getfield 65, 3) := by decide +kernel
theorem dX7_post_56 : decode cX7_post 56 = .ok (.aload 7, 2) := by decide +kernel
theorem dX7_post_58 : decode cX7_post 58 = .ok (.getfield 86, 3) := by decide +kernel
theorem dX7_post_61 : decode cX7_post 61 = .ok (.invokestatic 98, 3) := by decide +kernel
theorem dX7_post_64 : decode cX7_post 64 = .ok (.putfield 65, 3) := by decide +kernel
theorem dX7_post_67 : decode cX7_post 67 = .ok (.aload 7, 2) := by decide +kernel
theorem dX7_post_69 : decode cX7_post 69 = .ok (.getfield 102, 3) := by decide +kernel
theorem dX7_post_72 : decode cX7_post 72 = .ok (.ireturn, 1) := by decide +kernel
set_option maxHeartbeats 8000000 in
set_option maxRecDepth 100000 in
theorem t_X7_post (l : Launch) (E : EE) (z0 : Nat) (G : Nat → Nat) (hGz : ∀ q, G q ≠ 0 → z0 ≤ q) (h0 : Nat) (p0 : Int32) (p1 : Int32) (p2 : Int32) (p3 : Int32) (p4 : Int32) (p5 : Int32) (hG : G h0 = 9) (e0 : Int32) (e1 : Nat) (e2 : Nat) (e3 : Int32) (e4 : Int32) (e5 : Int32) (e6 : Nat) (e7 : Int32) (e8 : Int32) (e9 : Int32) (e10 : Int32) (e11 : Int32) (e12 : Int32) (e13 : Int32) (ge1 : G e1 = 5) (ge2 : G e2 = 4) (ge6 : G e6 = 11) (be0 : (0 ≤ e0.toInt ∧ e0.toInt ≤ 3)) (e6_0 : Int32) (e6_1 : Nat) (e6_2 : Nat) (e6_3 : Int32) (e6_4 : Int32) (e6_5 : Int32) (ge6_1 : G e6_1 = 5) (ge6_2 : G e6_2 = 12) (be6_3 : (0 ≤ e6_3.toInt ∧ e6_3.toInt ≤ 3)) (be6_4 : (0 ≤ e6_4.toInt ∧ e6_4.toInt ≤ 4)) (hy0 : 0 ≤ p2.toInt ∧ p2.toInt ≤ 12) (hy1 : e6_4.toInt ≤ 3) : Met l yX7_post [Cond.code yX7_post cX7_post 8 (some .int)] ({ frames := 2, cells := 0, slots := 0, locals := 45 } : Room) (va_Pc [.ref h0, .int p0, .int p1, .int p2, .int p3, .int p4, .int p5] (fun U => (TH E (T1 E) G [] U.heap ∧ va_at (DG E) vwCl (h0, .inr (7, [.int e0, .ref e1, .ref e2, .int e3, .int e4, .int e5, .ref e6, .int e7, .int e8, .int e9, .int e10, .int e11, .int e12, .int e13])) U.heap ∧ va_at (DG E) vwCl (e6, .inr (5, [.int e6_0, .ref e6_1, .ref e6_2, .int e6_3, .int e6_4, .int e6_5])) U.heap) ∧ KS E z0 U)) (va_Qi (fun (r : Int32) (_ : Unit) => True) (fun _ t => TH E (T1 E) G [] t.heap) (fun q : Nat => G q ∈ ([9, 11, 13] : List Nat))) 0 0 (fun q : Nat => G q ∈ ([9, 11, 13] : List Nat)) := by
  refine Met.ofW (cc := cX7_post) (maxL := 8) (ret := (some .int)) (by decide) rfl ?_
  intro p e s m args below meth c s₁ B hml hv
  obtain ⟨rfl, ⟨hT, hx0, hx1⟩, hK⟩ := hv
  have hx := B.exec
  have hb := B.bytes
  have hr := B.returns
  have hts : ∀ w ∈ TS, w.before ([.ref h0, .int p0, .int p1, .int p2, .int p3, .int p4, .int p5] : List Value).toArray s = true := fun w hw => hK.2.1 w hw _
  have hown : s.vm.findClass RX7 = some m.cls := findClass_of_methodNamed B.named
  have hlocks := B.notSynchronized
  have hS : va_S (fun q : Nat => G q ∈ ([9, 11, 13] : List Nat)) s.heap s.heap [] := va_S.rf
  have hAz : ∀ q, (fun q : Nat => G q ∈ ([9, 11, 13] : List Nat)) q → z0 ≤ q := zL hGz (by decide)
  have hl := lv_entry ([.ref h0, .int p0, .int p1, .int p2, .int p3, .int p4, .int p5]) (n := 8) (Nat.le_of_ble_eq_true rfl)
  rw [lg_entry_eq]
  generalize (lg_sl ([.ref h0, .int p0, .int p1, .int p2, .int p3, .int p4, .int p5]) ++ List.replicate (8 - (lg_sl ([.ref h0, .int p0, .int p1, .int p2, .int p3, .int p4, .int p5])).length) Slot.unset).toArray = ls at hl ⊢
  have hl : lv_has ls 8 [(0, .ref h0), (1, .int p0), (2, .int p1), (3, .int p2), (4, .int p3), (5, .int p4), (6, .int p5)] := hl
  refine lv_aload_n hx hb dX7_post_0 rfl (lv_at hl 0 rfl) ?_
  refine va_get (D := DG E) (ci := 7) (v := .ref e6) (C := RX7) (T := TX7) (N := 14) hx hb hts iw_X7 hown hK.1 (va_one hx0) 0 rfl rfl 6 (by decide) (hts _ fl_X7_41) (fun _ h9 => h9) rfl dX7_post_1 ?_
  refine lv_iload_n hx hb dX7_post_4 rfl (lv_at hl 1 rfl) ?_
  refine lv_iload_n hx hb dX7_post_5 rfl (lv_at hl 2 rfl) ?_
  refine lv_iload_n hx hb dX7_post_6 rfl (lv_at hl 3 rfl) ?_
  refine va_callr (rnV (fun H => TH E (T1 E) G [] H ∧ va_at (DG E) vwCl (e6, .inr (5, [.int e6_0, .ref e6_1, .ref e6_2, .int e6_3, .int e6_4, .int e6_5])) H) (As := [.int p0, .int p1, .int p2]) (rest := []) ⟨hx, hb, hml, hown, hts⟩ (t_X5_append l E z0 G hGz e6 p0 p1 p2 ge6 e6_0 e6_1 e6_2 e6_3 e6_4 e6_5 ge6_1 ge6_2 (by omega) (by omega) (by first | omega | decide) (by first | omega | decide)) (cwV 3 hts (gdV ml_X7_74 im_X5_append se_X5_X5_append in_X5 co_X5_append rfl) rfl rfl rfl (by decide +kernel) ⟨Nat.le_of_ble_eq_true rfl, Nat.le_of_ble_eq_true rfl⟩) ⟨hT, hx1⟩ (fun U hU hW => hK.go hW hS hAz hU) (va_recv hK.1 (va_one hx1) (ci := 5) (q0 := 0) rfl rfl) rfl rfl hl.1 rfl (lv_room (Nat.le_of_ble_eq_true rfl)) dX7_post_7 ⟨Nat.le_of_ble_eq_true rfl, Nat.le_of_ble_eq_true rfl⟩) hS (fun q _ h => mL (L' := [11, 13]) (L := [9, 11, 13]) (by decide) h) (fun q h => mL (L' := [11, 13]) (L := [9, 11, 13]) (by decide) h) (fun _ r_1 t H locs ht hvm hwr_1 hB hz hk hS => ?_)
  have hT : TH E (T1 E) G [] H := by have hB := hB.2; rw [ht] at hB; exact hB
  have grr_1 : G r_1 = 13 := hB.1
  have hx0 := hx0.kept (hk _ hx0.lt (nL hG (by decide)))
  refine lv_astore (lv' := [(7, .ref r_1), (0, .ref h0), (1, .int p0), (2, .int p1), (3, .int p2), (4, .int p3), (5, .int p4), (6, .int p5)]) hx hb dX7_post_10 hl (by decide) rfl (fun ls hl => ?_)
  refine lv_aload hx hb dX7_post_12 (lv_at hl 0 rfl) ?_
  refine lv_aload_n hx hb dX7_post_14 rfl (lv_at hl 1 rfl) ?_
  refine va_get (D := DG E) (ci := 7) (v := .int e7) (C := RX7) (T := TX7) (N := 14) hx hb hts iw_X7 hown hK.1 (va_one hx0) 0 rfl rfl 7 (by decide) (hts _ fl_X7_65) (fun _ h9 => h9) rfl dX7_post_15 ?_
  obtain ⟨v0_2, v1_2, v2_2, v3_2, v4_2, v5_2, v6_2, v7_2, v8_2, v9_2, ha_2, hb3_2⟩ := tr_13 hT grr_1
  refine rr_put (D := DG E) (ci := 4) (v := .int e7) (ty := .int) (C := RX4) (T := TX4) (N := 10) hx hb hts iw_X4 tyX4 tyX4_ok nmX4 hown hK.1 ha_2 hS (by show G r_1 ∈ ([9, 11, 13] : List Nat); rw [grr_1]; decide) rfl 4 (by decide) (hts _ fl_X7_78) (fun _ h9 => h9) rfl (by decide +kernel) rfl rfl (Nat.le_of_ble_eq_true rfl) dX7_post_18 (fun H locs hn ho hz hS => ?_)
  have hr_3 : va_at (DG E) vwCl (r_1, .inr (4, [.int v0_2, .int v1_2, .int v2_2, .int v3_2, .int e7, .int v5_2, .int v6_2, .int v7_2, .int v8_2, .int v9_2])) H := hn
  have hT : TH E (T1 E) G [] H := hT.set grr_1 (show T1 E G 13 _ from ⟨v0_2, v1_2, v2_2, v3_2, e7, v5_2, v6_2, v7_2, v8_2, v9_2, rfl, (by omega)⟩) hr_3 ho
  have hx0 := hx0.kept (ho _ (ne_G hG grr_1 (by decide)))
  refine lv_aload hx hb dX7_post_21 (lv_at hl 0 rfl) ?_
  refine lv_iload_n hx hb dX7_post_23 rfl (lv_at hl 4 rfl) ?_
  refine rnSN (As := [.int p2]) (rest := [.ref r_1]) ⟨hx, hb, hml, hown, hts⟩ (c_X9_numbersFor l p2) ⟨va_cnB (host := RX9) 1 hts (gd1 co_X9_numbersFor rfl) rfl rfl rfl (hK.2.1 _ mn_X7_83 #[]) (hts _ in_X9) (by decide +kernel) ⟨Nat.le_of_ble_eq_true rfl, Nat.le_of_ble_eq_true rfl⟩, hts _ st_X9_numbersFor, trivial⟩ rfl rfl hl.1 rfl (lv_room (Nat.le_of_ble_eq_true rfl)) dX7_post_24 ⟨Nat.le_of_ble_eq_true rfl, Nat.le_of_ble_eq_true rfl⟩ ?_
  refine W.eq (g2 := F0 m 27 ls [.int (((p2 + 4) - 1) / 4), .ref r_1]) (by rfl) ?_
  refine lv_topi (fun x_4 ex_4 => ?_)
  refine rr_put (D := DG E) (ci := 4) (v := .int x_4) (ty := .int) (C := RX4) (T := TX4) (N := 10) hx hb hts iw_X4 tyX4 tyX4_ok nmX4 hown hK.1 hr_3 hS (by show G r_1 ∈ ([9, 11, 13] : List Nat); rw [grr_1]; decide) rfl 5 (by decide) (hts _ fl_X7_86) (fun _ h9 => h9) rfl (by decide +kernel) rfl rfl (Nat.le_of_ble_eq_true rfl) dX7_post_27 (fun H locs hn ho hz hS => ?_)
  have hr_5 : va_at (DG E) vwCl (r_1, .inr (4, [.int v0_2, .int v1_2, .int v2_2, .int v3_2, .int e7, .int x_4, .int v6_2, .int v7_2, .int v8_2, .int v9_2])) H := hn
  have hT : TH E (T1 E) G [] H := hT.set grr_1 (show T1 E G 13 _ from ⟨v0_2, v1_2, v2_2, v3_2, e7, x_4, v6_2, v7_2, v8_2, v9_2, rfl, (by omega)⟩) hr_5 ho
  have hx0 := hx0.kept (ho _ (ne_G hG grr_1 (by decide)))
  refine lv_aload hx hb dX7_post_30 (lv_at hl 0 rfl) ?_
  refine lv_iload hx hb dX7_post_32 (lv_at hl 5 rfl) ?_
  refine rr_put (D := DG E) (ci := 4) (v := .int p3) (ty := .int) (C := RX4) (T := TX4) (N := 10) hx hb hts iw_X4 tyX4 tyX4_ok nmX4 hown hK.1 hr_5 hS (by show G r_1 ∈ ([9, 11, 13] : List Nat); rw [grr_1]; decide) rfl 6 (by decide) (hts _ fl_X7_89) (fun _ h9 => h9) rfl (by decide +kernel) rfl rfl (Nat.le_of_ble_eq_true rfl) dX7_post_34 (fun H locs hn ho hz hS => ?_)
  have hr_6 : va_at (DG E) vwCl (r_1, .inr (4, [.int v0_2, .int v1_2, .int v2_2, .int v3_2, .int e7, .int x_4, .int p3, .int v7_2, .int v8_2, .int v9_2])) H := hn
  have hT : TH E (T1 E) G [] H := hT.set grr_1 (show T1 E G 13 _ from ⟨v0_2, v1_2, v2_2, v3_2, e7, x_4, p3, v7_2, v8_2, v9_2, rfl, (by omega)⟩) hr_6 ho
  have hx0 := hx0.kept (ho _ (ne_G hG grr_1 (by decide)))
  refine lv_aload hx hb dX7_post_37 (lv_at hl 0 rfl) ?_
  refine lv_iload hx hb dX7_post_39 (lv_at hl 6 rfl) ?_
  refine rr_put (D := DG E) (ci := 4) (v := .int p4) (ty := .int) (C := RX4) (T := TX4) (N := 10) hx hb hts iw_X4 tyX4 tyX4_ok nmX4 hown hK.1 hr_6 hS (by show G r_1 ∈ ([9, 11, 13] : List Nat); rw [grr_1]; decide) rfl 7 (by decide) (hts _ fl_X7_92) (fun _ h9 => h9) rfl (by decide +kernel) rfl rfl (Nat.le_of_ble_eq_true rfl) dX7_post_41 (fun H locs hn ho hz hS => ?_)
  have hr_7 : va_at (DG E) vwCl (r_1, .inr (4, [.int v0_2, .int v1_2, .int v2_2, .int v3_2, .int e7, .int x_4, .int p3, .int p4, .int v8_2, .int v9_2])) H := hn
  have hT : TH E (T1 E) G [] H := hT.set grr_1 (show T1 E G 13 _ from ⟨v0_2, v1_2, v2_2, v3_2, e7, x_4, p3, p4, v8_2, v9_2, rfl, (by omega)⟩) hr_7 ho
  have hx0 := hx0.kept (ho _ (ne_G hG grr_1 (by decide)))
  refine lv_aload hx hb dX7_post_44 (lv_at hl 0 rfl) ?_
  refine lv_iload hx hb dX7_post_46 (lv_at hl 7 rfl) ?_
  refine rr_put (D := DG E) (ci := 4) (v := .int p5) (ty := .int) (C := RX4) (T := TX4) (N := 10) hx hb hts iw_X4 tyX4 tyX4_ok nmX4 hown hK.1 hr_7 hS (by show G r_1 ∈ ([9, 11, 13] : List Nat); rw [grr_1]; decide) rfl 8 (by decide) (hts _ fl_X7_95) (fun _ h9 => h9) rfl (by decide +kernel) rfl rfl (Nat.le_of_ble_eq_true rfl) dX7_post_48 (fun H locs hn ho hz hS => ?_)
  have hr_8 : va_at (DG E) vwCl (r_1, .inr (4, [.int v0_2, .int v1_2, .int v2_2, .int v3_2, .int e7, .int x_4, .int p3, .int p4, .int p5, .int v9_2])) H := hn
  have hT : TH E (T1 E) G [] H := hT.set grr_1 (show T1 E G 13 _ from ⟨v0_2, v1_2, v2_2, v3_2, e7, x_4, p3, p4, p5, v9_2, rfl, (by omega)⟩) hr_8 ho
  have hx0 := hx0.kept (ho _ (ne_G hG grr_1 (by decide)))
  refine lv_aload_n hx hb dX7_post_51 rfl (lv_at hl 1 rfl) ?_
  refine lv_aload_n hx hb dX7_post_52 rfl (lv_at hl 1 rfl) ?_
  refine va_get (D := DG E) (ci := 7) (v := .int e7) (C := RX7) (T := TX7) (N := 14) hx hb hts iw_X7 hown hK.1 (va_one hx0) 0 rfl rfl 7 (by decide) (hts _ fl_X7_65) (fun _ h9 => h9) rfl dX7_post_53 ?_
  refine lv_aload hx hb dX7_post_56 (lv_at hl 0 rfl) ?_
  refine va_get (D := DG E) (ci := 4) (v := .int x_4) (C := RX4) (T := TX4) (N := 10) hx hb hts iw_X4 hown hK.1 (va_one hr_8) 0 rfl rfl 5 (by decide) (hts _ fl_X7_86) (fun _ h9 => h9) rfl dX7_post_58 ?_
  refine rnSN (As := [.int e7, .int x_4]) (rest := [.ref h0]) ⟨hx, hb, hml, hown, hts⟩ (c_X9_after l e7 x_4) ⟨va_cnB (host := RX9) 2 hts (gd1 co_X9_after rfl) rfl rfl rfl (hK.2.1 _ mn_X7_98 #[]) (hts _ in_X9) (by decide +kernel) ⟨Nat.le_of_ble_eq_true rfl, Nat.le_of_ble_eq_true rfl⟩, hts _ st_X9_after, trivial⟩ rfl rfl hl.1 rfl (lv_room (Nat.le_of_ble_eq_true rfl)) dX7_post_61 ⟨Nat.le_of_ble_eq_true rfl, Nat.le_of_ble_eq_true rfl⟩ ?_
  refine W.eq (g2 := F0 m 64 ls [.int ((e7 + x_4) &&& 63), .ref h0]) (by rfl) ?_
  refine lv_topi (fun x_9 ex_9 => ?_)
  have fx_9 := s_and63 (e7 + x_4); rw [← ex_9] at fx_9
  refine rr_put (D := DG E) (ci := 7) (v := .int x_9) (ty := .int) (C := RX7) (T := TX7) (N := 14) hx hb hts iw_X7 tyX7 tyX7_ok nmX7 hown hK.1 hx0 hS (by show G h0 ∈ ([9, 11, 13] : List Nat); rw [hG]; decide) rfl 7 (by decide) (hts _ fl_X7_65) (fun _ h9 => h9) rfl (by decide +kernel) rfl rfl (Nat.le_of_ble_eq_true rfl) dX7_post_64 (fun H locs hn ho hz hS => ?_)
  have hr_10 : va_at (DG E) vwCl (h0, .inr (7, [.int e0, .ref e1, .ref e2, .int e3, .int e4, .int e5, .ref e6, .int x_9, .int e8, .int e9, .int e10, .int e11, .int e12, .int e13])) H := hn
  have hT : TH E (T1 E) G [] H := hT.set hG (show T1 E G 9 _ from ⟨e0, e1, e2, e3, e4, e5, e6, x_9, e8, e9, e10, e11, e12, e13, rfl, (by omega), ge1, ge2, ge6⟩) hr_10 ho
  have hr_8 := hr_8.kept (ho _ (ne_G grr_1 hG (by decide)))
  refine lv_aload hx hb dX7_post_67 (lv_at hl 0 rfl) ?_
  refine va_get (D := DG E) (ci := 4) (v := .int v1_2) (C := RX4) (T := TX4) (N := 10) hx hb hts iw_X4 hown hK.1 (va_one hr_8) 0 rfl rfl 1 (by decide) (hts _ fl_X7_102) (fun _ h9 => h9) rfl dX7_post_69 ?_
  exact W.iret (v := v1_2) hx hb hr (fun t ht hW => ⟨⟨v1_2, (), rfl, trivial, (by show TH E (T1 E) G [] t.heap; rw [ht]; exact hT)⟩, hS.F ht⟩) hS.2.2 dX7_post_72
theorem dX7_ownerOf_0 : decode cX7_ownerOf 0 = .ok (.iconst 0, 1) := by decide +kernel
theorem dX7_ownerOf_1 : decode cX7_ownerOf 1 = .ok (.istore_n 2, 1) := by decide +kernel
theorem dX7_ownerOf_2 : decode cX7_ownerOf 2 = .ok (.iload_n 2, 1) := by decide +kernel
theorem dX7_ownerOf_3 : decode cX7_ownerOf 3 = .ok (.aload_n 0, 1) := by decide +kernel
theorem dX7_ownerOf_4 : decode cX7_ownerOf 4 = .ok (.getfield 41, 3) := by decide +kernel
theorem dX7_ownerOf_7 : decode cX7_ownerOf 7 = .ok (.getfield 105, 3) := by decide +kernel
theorem dX7_ownerOf_10 : decode cX7_ownerOf 10 = .ok (.if_icmp .ge 35, 3) := by decide +kernel
theorem dX7_ownerOf_13 : decode cX7_ownerOf 13 = .ok (.aload_n 0, 1) := by decide +kernel
theorem dX7_ownerOf_14 : decode cX7_ownerOf 14 = .ok (.getfield 41, 3) := by decide +kernel
theorem dX7_ownerOf_17 : decode cX7_ownerOf 17 = .ok (.iload_n 2, 1) := by decide +kernel
theorem dX7_ownerOf_18 : decode cX7_ownerOf 18 = .ok (.invokevirtual 108, 3) := by decide +kernel
theorem dX7_ownerOf_21 : decode cX7_ownerOf 21 = .ok (.astore_n 3, 1) := by decide +kernel
theorem dX7_ownerOf_22 : decode cX7_ownerOf 22 = .ok (.aload_n 3, 1) := by decide +kernel
theorem dX7_ownerOf_23 : decode cX7_ownerOf 23 = .ok (.getfield 78, 3) := by decide +kernel
theorem dX7_ownerOf_26 : decode cX7_ownerOf 26 = .ok (.iload_n 1, 1) := by decide +kernel
theorem dX7_ownerOf_27 : decode cX7_ownerOf 27 = .ok (.invokestatic 112, 3) := by decide +kernel
theorem dX7_ownerOf_30 : decode cX7_ownerOf 30 = .ok (.aload_n 3, 1) := by decide +kernel
theorem dX7_ownerOf_31 : decode cX7_ownerOf 31 = .ok (.getfield 86, 3) := by decide +kernel
theorem dX7_ownerOf_34 : decode cX7_ownerOf 34 = .ok (.if_icmp .ge 5, 3) := by decide +kernel
theorem dX7_ownerOf_37 : decode cX7_ownerOf 37 = .ok (.iload_n 2, 1) := by decide +kernel
theorem dX7_ownerOf_38 : decode cX7_ownerOf 38 = .ok (.ireturn, 1) := by decide +kernel
theorem dX7_ownerOf_39 : decode cX7_ownerOf 39 = .ok (.iinc 2 1, 3) := by decide +kernel
theorem dX7_ownerOf_42 : decode cX7_ownerOf 42 = .ok (.goto (-40), 3) := by decide +kernel
theorem dX7_ownerOf_45 : decode cX7_ownerOf 45 = .ok (.iconst (-1), 1) := by decide +kernel
theorem dX7_ownerOf_46 : decode cX7_ownerOf 46 = .ok (.ireturn, 1) := by decide +kernel
set_option maxHeartbeats 8000000 in
set_option maxRecDepth 100000 in
theorem t_X7_ownerOf (l : Launch) (E : EE) (z0 : Nat) (G : Nat → Nat) (hGz : ∀ q, G q ≠ 0 → z0 ≤ q) (h0 : Nat) (p0 : Int32) (hG : G h0 = 9) : Met l yX7_ownerOf [Cond.code yX7_ownerOf cX7_ownerOf 4 (some .int)] ({ frames := 1, cells := 0, slots := 0, locals := 21 } : Room) (va_Pc [.ref h0, .int p0] (fun U => (TH E (T1 E) G [] U.heap) ∧ KS E z0 U)) (va_Qi (fun (r : Int32) (_ : Unit) => -1 ≤ r.toInt ∧ r.toInt ≤ 3) (fun _ t => True) (fun _ : Nat => False)) 0 0 (fun _ : Nat => False) := by
  refine Met.ofW (cc := cX7_ownerOf) (maxL := 4) (ret := (some .int)) (by decide) rfl ?_
  intro p e s m args below meth c s₁ B hml hv
  obtain ⟨rfl, hT, hK⟩ := hv
  have hx := B.exec
  have hb := B.bytes
  have hr := B.returns
  have hts : ∀ w ∈ TS, w.before ([.ref h0, .int p0] : List Value).toArray s = true := fun w hw => hK.2.1 w hw _
  have hown : s.vm.findClass RX7 = some m.cls := findClass_of_methodNamed B.named
  have hlocks := B.notSynchronized
  have hS : va_S (fun _ : Nat => False) s.heap s.heap [] := va_S.rf
  have hAz : ∀ q, (fun _ : Nat => False) q → z0 ≤ q := fun _ h => h.elim
  have hl := lv_entry ([.ref h0, .int p0]) (n := 4) (Nat.le_of_ble_eq_true rfl)
  rw [lg_entry_eq]
  generalize (lg_sl ([.ref h0, .int p0]) ++ List.replicate (4 - (lg_sl ([.ref h0, .int p0])).length) Slot.unset).toArray = ls at hl ⊢
  have hl : lv_has ls 4 [(0, .ref h0), (1, .int p0)] := hl
  refine lv_iconst (v := 0) hx hb dX7_ownerOf_0 (by decide) ?_
  refine lv_istore_n (lv' := [(2, .int 0), (0, .ref h0), (1, .int p0)]) hx hb dX7_ownerOf_1 rfl hl (by decide) rfl (fun ls hl => ?_)
  refine lv_iload_n hx hb dX7_ownerOf_2 rfl (lv_at hl 0 rfl) ?_
  refine lv_aload_n hx hb dX7_ownerOf_3 rfl (lv_at hl 1 rfl) ?_
  obtain ⟨v0_1, v1_1, v2_1, v3_1, v4_1, v5_1, v6_1, v7_1, v8_1, v9_1, v10_1, v11_1, v12_1, v13_1, ha_1, hb0_1, hg1_1, hg2_1, hg6_1⟩ := tr_9 hT hG
  refine va_get (D := DG E) (ci := 7) (v := .ref v6_1) (C := RX7) (T := TX7) (N := 14) hx hb hts iw_X7 hown hK.1 (va_one ha_1) 0 rfl rfl 6 (by decide) (hts _ fl_X7_41) (fun _ h9 => h9) rfl dX7_ownerOf_4 ?_
  obtain ⟨v0_2, v1_2, v2_2, v3_2, v4_2, v5_2, ha_2, hg1_2, hg2_2, hb3_2, hb4_2⟩ := tr_11 hT hg6_1
  refine va_get (D := DG E) (ci := 5) (v := .int v4_2) (C := RX5) (T := TX5) (N := 6) hx hb hts iw_X5 hown hK.1 (va_one ha_2) 0 rfl rfl 4 (by decide) (hts _ fl_X7_105) (fun _ h9 => h9) rfl dX7_ownerOf_7 ?_
  refine lv_icmp_ge (tgt := 45) hx hb dX7_ownerOf_10 (by decide) (fun c_3 => ?_) (fun c_3 => ?_)
  · simp only [lt_I, le_I, eq_I, i_0, i_1, i_2, i_3, i_4, i_5, i_6, i_7, i_8, i_10, i_12, i_16, i_20, i_23, i_24, i_31, i_32, i_63, i_64, i_m1] at c_3
    refine lv_iconst (v := (-1)) hx hb dX7_ownerOf_45 (by decide) ?_
    exact W.iret (v := (-1)) hx hb hr (fun t ht hW => ⟨⟨(-1), (), rfl, (by have h9 := i_m1; omega), trivial⟩, hS.F ht⟩) hS.2.2 dX7_ownerOf_46
  · simp only [lt_I, le_I, eq_I, i_0, i_1, i_2, i_3, i_4, i_5, i_6, i_7, i_8, i_10, i_12, i_16, i_20, i_23, i_24, i_31, i_32, i_63, i_64, i_m1] at c_3
    refine lv_aload_n hx hb dX7_ownerOf_13 rfl (lv_at hl 1 rfl) ?_
    refine va_get (D := DG E) (ci := 7) (v := .ref v6_1) (C := RX7) (T := TX7) (N := 14) hx hb hts iw_X7 hown hK.1 (va_one ha_1) 0 rfl rfl 6 (by decide) (hts _ fl_X7_41) (fun _ h9 => h9) rfl dX7_ownerOf_14 ?_
    refine lv_iload_n hx hb dX7_ownerOf_17 rfl (lv_at hl 0 rfl) ?_
    refine va_callr (rnV (fun H => TH E (T1 E) G [] H) (As := [.int 0]) (rest := []) ⟨hx, hb, hml, hown, hts⟩ (t_X5_at l E z0 G hGz v6_1 0 hg6_1 (by have := i_0; first | omega | decide)) (cwV 1 hts (gdV ml_X7_108 im_X5_at se_X5_X5_at in_X5 co_X5_at rfl) rfl rfl rfl (by decide +kernel) ⟨Nat.le_of_ble_eq_true rfl, Nat.le_of_ble_eq_true rfl⟩) hT (fun U hU hW => hK.go hW hS hAz hU) (va_recv hK.1 (va_one ha_2) (ci := 5) (q0 := 0) rfl rfl) rfl rfl hl.1 rfl (lv_room (Nat.le_of_ble_eq_true rfl)) dX7_ownerOf_18 ⟨Nat.le_of_ble_eq_true rfl, Nat.le_of_ble_eq_true rfl⟩) hS (fun q _ h => h.elim) (fun q h => h.elim) (fun _ r_4 t H locs ht hvm hwr_4 hB hz hk hS => ?_)
    have grr_4 : G r_4 = 13 := hB
    have hT : TH E (T1 E) G [] H := hT.kept (fun q hq => hk q hq (fun h => h))
    have ha_1 := ha_1.kept (hk _ ha_1.lt (fun h => h))
    have ha_2 := ha_2.kept (hk _ ha_2.lt (fun h => h))
    refine lv_astore_n (lv' := [(3, .ref r_4), (2, .int 0), (0, .ref h0), (1, .int p0)]) hx hb dX7_ownerOf_21 rfl hl (by decide) rfl (fun ls hl => ?_)
    refine lv_aload_n hx hb dX7_ownerOf_22 rfl (lv_at hl 0 rfl) ?_
    obtain ⟨v0_5, v1_5, v2_5, v3_5, v4_5, v5_5, v6_5, v7_5, v8_5, v9_5, ha_5, hb3_5⟩ := tr_13 hT grr_4
    refine va_get (D := DG E) (ci := 4) (v := .int v4_5) (C := RX4) (T := TX4) (N := 10) hx hb hts iw_X4 hown hK.1 (va_one ha_5) 0 rfl rfl 4 (by decide) (hts _ fl_X7_78) (fun _ h9 => h9) rfl dX7_ownerOf_23 ?_
    refine lv_iload_n hx hb dX7_ownerOf_26 rfl (lv_at hl 3 rfl) ?_
    refine rnSN (As := [.int v4_5, .int p0]) (rest := []) ⟨hx, hb, hml, hown, hts⟩ (c_X9_distance l v4_5 p0) ⟨va_cnB (host := RX9) 2 hts (gd1 co_X9_distance rfl) rfl rfl rfl (hK.2.1 _ mn_X7_112 #[]) (hts _ in_X9) (by decide +kernel) ⟨Nat.le_of_ble_eq_true rfl, Nat.le_of_ble_eq_true rfl⟩, hts _ st_X9_distance, trivial⟩ rfl rfl hl.1 rfl (lv_room (Nat.le_of_ble_eq_true rfl)) dX7_ownerOf_27 ⟨Nat.le_of_ble_eq_true rfl, Nat.le_of_ble_eq_true rfl⟩ ?_
    refine W.eq (g2 := F0 m 30 ls [.int ((p0 - v4_5) &&& 63)]) (by rfl) ?_
    refine lv_topi (fun x_6 ex_6 => ?_)
    have fx_6 := s_and63 (p0 - v4_5); rw [← ex_6] at fx_6
    refine lv_aload_n hx hb dX7_ownerOf_30 rfl (lv_at hl 0 rfl) ?_
    refine va_get (D := DG E) (ci := 4) (v := .int v5_5) (C := RX4) (T := TX4) (N := 10) hx hb hts iw_X4 hown hK.1 (va_one ha_5) 0 rfl rfl 5 (by decide) (hts _ fl_X7_86) (fun _ h9 => h9) rfl dX7_ownerOf_31 ?_
    refine lv_icmp_ge (tgt := 39) hx hb dX7_ownerOf_34 (by decide) (fun c_7 => ?_) (fun c_7 => ?_)
    · simp only [lt_I, le_I, eq_I, i_0, i_1, i_2, i_3, i_4, i_5, i_6, i_7, i_8, i_10, i_12, i_16, i_20, i_23, i_24, i_31, i_32, i_63, i_64, i_m1] at c_7
      refine lv_iinc (v := 1) (lv' := [(2, .int 1), (3, .ref r_4), (0, .ref h0), (1, .int p0)]) hx hb dX7_ownerOf_39 hl (k := 1) rfl (by decide) (by decide) rfl (fun ls hl => ?_)
      refine lv_goto (tgt := 2) hx hb dX7_ownerOf_42 (by decide) ?_
      refine lv_iload_n hx hb dX7_ownerOf_2 rfl (lv_at hl 0 rfl) ?_
      refine lv_aload_n hx hb dX7_ownerOf_3 rfl (lv_at hl 2 rfl) ?_
      refine va_get (D := DG E) (ci := 7) (v := .ref v6_1) (C := RX7) (T := TX7) (N := 14) hx hb hts iw_X7 hown hK.1 (va_one ha_1) 0 rfl rfl 6 (by decide) (hts _ fl_X7_41) (fun _ h9 => h9) rfl dX7_ownerOf_4 ?_
      refine va_get (D := DG E) (ci := 5) (v := .int v4_2) (C := RX5) (T := TX5) (N := 6) hx hb hts iw_X5 hown hK.1 (va_one ha_2) 0 rfl rfl 4 (by decide) (hts _ fl_X7_105) (fun _ h9 => h9) rfl dX7_ownerOf_7 ?_
      refine lv_icmp_ge (tgt := 45) hx hb dX7_ownerOf_10 (by decide) (fun c_8 => ?_) (fun c_8 => ?_)
      · simp only [lt_I, le_I, eq_I, i_0, i_1, i_2, i_3, i_4, i_5, i_6, i_7, i_8, i_10, i_12, i_16, i_20, i_23, i_24, i_31, i_32, i_63, i_64, i_m1] at c_8
        refine lv_iconst (v := (-1)) hx hb dX7_ownerOf_45 (by decide) ?_
        exact W.iret (v := (-1)) hx hb hr (fun t ht hW => ⟨⟨(-1), (), rfl, (by have h9 := i_m1; omega), trivial⟩, hS.F ht⟩) hS.2.2 dX7_ownerOf_46
      · simp only [lt_I, le_I, eq_I, i_0, i_1, i_2, i_3, i_4, i_5, i_6, i_7, i_8, i_10, i_12, i_16, i_20, i_23, i_24, i_31, i_32, i_63, i_64, i_m1] at c_8
        refine lv_aload_n hx hb dX7_ownerOf_13 rfl (lv_at hl 2 rfl) ?_
        refine va_get (D := DG E) (ci := 7) (v := .ref v6_1) (C := RX7) (T := TX7) (N := 14) hx hb hts iw_X7 hown hK.1 (va_one ha_1) 0 rfl rfl 6 (by decide) (hts _ fl_X7_41) (fun _ h9 => h9) rfl dX7_ownerOf_14 ?_
        refine lv_iload_n hx hb dX7_ownerOf_17 rfl (lv_at hl 0 rfl) ?_
        refine va_callr (rnV (fun H => TH E (T1 E) G [] H) (As := [.int 1]) (rest := []) ⟨hx, hb, hml, hown, hts⟩ (t_X5_at l E z0 G hGz v6_1 1 hg6_1 (by have := i_1; first | omega | decide)) (cwV 1 hts (gdV ml_X7_108 im_X5_at se_X5_X5_at in_X5 co_X5_at rfl) rfl rfl rfl (by decide +kernel) ⟨Nat.le_of_ble_eq_true rfl, Nat.le_of_ble_eq_true rfl⟩) hT (fun U hU hW => hK.go hW hS hAz hU) (va_recv hK.1 (va_one ha_2) (ci := 5) (q0 := 0) rfl rfl) rfl rfl hl.1 rfl (lv_room (Nat.le_of_ble_eq_true rfl)) dX7_ownerOf_18 ⟨Nat.le_of_ble_eq_true rfl, Nat.le_of_ble_eq_true rfl⟩) hS (fun q _ h => h.elim) (fun q h => h.elim) (fun _ r_9 t H locs ht hvm hwr_9 hB hz hk hS => ?_)
        have grr_9 : G r_9 = 13 := hB
        have hT : TH E (T1 E) G [] H := hT.kept (fun q hq => hk q hq (fun h => h))
        have ha_1 := ha_1.kept (hk _ ha_1.lt (fun h => h))
        have ha_2 := ha_2.kept (hk _ ha_2.lt (fun h => h))
        have ha_5 := ha_5.kept (hk _ ha_5.lt (fun h => h))
        refine lv_astore_n (lv' := [(3, .ref r_9), (2, .int 1), (0, .ref h0), (1, .int p0)]) hx hb dX7_ownerOf_21 rfl hl (by decide) rfl (fun ls hl => ?_)
        refine lv_aload_n hx hb dX7_ownerOf_22 rfl (lv_at hl 0 rfl) ?_
        obtain ⟨v0_10, v1_10, v2_10, v3_10, v4_10, v5_10, v6_10, v7_10, v8_10, v9_10, ha_10, hb3_10⟩ := tr_13 hT grr_9
        refine va_get (D := DG E) (ci := 4) (v := .int v4_10) (C := RX4) (T := TX4) (N := 10) hx hb hts iw_X4 hown hK.1 (va_one ha_10) 0 rfl rfl 4 (by decide) (hts _ fl_X7_78) (fun _ h9 => h9) rfl dX7_ownerOf_23 ?_
        refine lv_iload_n hx hb dX7_ownerOf_26 rfl (lv_at hl 3 rfl) ?_
        refine rnSN (As := [.int v4_10, .int p0]) (rest := []) ⟨hx, hb, hml, hown, hts⟩ (c_X9_distance l v4_10 p0) ⟨va_cnB (host := RX9) 2 hts (gd1 co_X9_distance rfl) rfl rfl rfl (hK.2.1 _ mn_X7_112 #[]) (hts _ in_X9) (by decide +kernel) ⟨Nat.le_of_ble_eq_true rfl, Nat.le_of_ble_eq_true rfl⟩, hts _ st_X9_distance, trivial⟩ rfl rfl hl.1 rfl (lv_room (Nat.le_of_ble_eq_true rfl)) dX7_ownerOf_27 ⟨Nat.le_of_ble_eq_true rfl, Nat.le_of_ble_eq_true rfl⟩ ?_
        refine W.eq (g2 := F0 m 30 ls [.int ((p0 - v4_10) &&& 63)]) (by rfl) ?_
        refine lv_topi (fun x_11 ex_11 => ?_)
        have fx_11 := s_and63 (p0 - v4_10); rw [← ex_11] at fx_11
        refine lv_aload_n hx hb dX7_ownerOf_30 rfl (lv_at hl 0 rfl) ?_
        refine va_get (D := DG E) (ci := 4) (v := .int v5_10) (C := RX4) (T := TX4) (N := 10) hx hb hts iw_X4 hown hK.1 (va_one ha_10) 0 rfl rfl 5 (by decide) (hts _ fl_X7_86) (fun _ h9 => h9) rfl dX7_ownerOf_31 ?_
        refine lv_icmp_ge (tgt := 39) hx hb dX7_ownerOf_34 (by decide) (fun c_12 => ?_) (fun c_12 => ?_)
        · simp only [lt_I, le_I, eq_I, i_0, i_1, i_2, i_3, i_4, i_5, i_6, i_7, i_8, i_10, i_12, i_16, i_20, i_23, i_24, i_31, i_32, i_63, i_64, i_m1] at c_12
          refine lv_iinc (v := 2) (lv' := [(2, .int 2), (3, .ref r_9), (0, .ref h0), (1, .int p0)]) hx hb dX7_ownerOf_39 hl (k := 1) rfl (by decide) (by decide) rfl (fun ls hl => ?_)
          refine lv_goto (tgt := 2) hx hb dX7_ownerOf_42 (by decide) ?_
          refine lv_iload_n hx hb dX7_ownerOf_2 rfl (lv_at hl 0 rfl) ?_
          refine lv_aload_n hx hb dX7_ownerOf_3 rfl (lv_at hl 2 rfl) ?_
          refine va_get (D := DG E) (ci := 7) (v := .ref v6_1) (C := RX7) (T := TX7) (N := 14) hx hb hts iw_X7 hown hK.1 (va_one ha_1) 0 rfl rfl 6 (by decide) (hts _ fl_X7_41) (fun _ h9 => h9) rfl dX7_ownerOf_4 ?_
          refine va_get (D := DG E) (ci := 5) (v := .int v4_2) (C := RX5) (T := TX5) (N := 6) hx hb hts iw_X5 hown hK.1 (va_one ha_2) 0 rfl rfl 4 (by decide) (hts _ fl_X7_105) (fun _ h9 => h9) rfl dX7_ownerOf_7 ?_
          refine lv_icmp_ge (tgt := 45) hx hb dX7_ownerOf_10 (by decide) (fun c_13 => ?_) (fun c_13 => ?_)
          · simp only [lt_I, le_I, eq_I, i_0, i_1, i_2, i_3, i_4, i_5, i_6, i_7, i_8, i_10, i_12, i_16, i_20, i_23, i_24, i_31, i_32, i_63, i_64, i_m1] at c_13
            refine lv_iconst (v := (-1)) hx hb dX7_ownerOf_45 (by decide) ?_
            exact W.iret (v := (-1)) hx hb hr (fun t ht hW => ⟨⟨(-1), (), rfl, (by have h9 := i_m1; omega), trivial⟩, hS.F ht⟩) hS.2.2 dX7_ownerOf_46
          · simp only [lt_I, le_I, eq_I, i_0, i_1, i_2, i_3, i_4, i_5, i_6, i_7, i_8, i_10, i_12, i_16, i_20, i_23, i_24, i_31, i_32, i_63, i_64, i_m1] at c_13
            refine lv_aload_n hx hb dX7_ownerOf_13 rfl (lv_at hl 2 rfl) ?_
            refine va_get (D := DG E) (ci := 7) (v := .ref v6_1) (C := RX7) (T := TX7) (N := 14) hx hb hts iw_X7 hown hK.1 (va_one ha_1) 0 rfl rfl 6 (by decide) (hts _ fl_X7_41) (fun _ h9 => h9) rfl dX7_ownerOf_14 ?_
            refine lv_iload_n hx hb dX7_ownerOf_17 rfl (lv_at hl 0 rfl) ?_
            refine va_callr (rnV (fun H => TH E (T1 E) G [] H) (As := [.int 2]) (rest := []) ⟨hx, hb, hml, hown, hts⟩ (t_X5_at l E z0 G hGz v6_1 2 hg6_1 (by have := i_2; first | omega | decide)) (cwV 1 hts (gdV ml_X7_108 im_X5_at se_X5_X5_at in_X5 co_X5_at rfl) rfl rfl rfl (by decide +kernel) ⟨Nat.le_of_ble_eq_true rfl, Nat.le_of_ble_eq_true rfl⟩) hT (fun U hU hW => hK.go hW hS hAz hU) (va_recv hK.1 (va_one ha_2) (ci := 5) (q0 := 0) rfl rfl) rfl rfl hl.1 rfl (lv_room (Nat.le_of_ble_eq_true rfl)) dX7_ownerOf_18 ⟨Nat.le_of_ble_eq_true rfl, Nat.le_of_ble_eq_true rfl⟩) hS (fun q _ h => h.elim) (fun q h => h.elim) (fun _ r_14 t H locs ht hvm hwr_14 hB hz hk hS => ?_)
            have grr_14 : G r_14 = 13 := hB
            have hT : TH E (T1 E) G [] H := hT.kept (fun q hq => hk q hq (fun h => h))
            have ha_1 := ha_1.kept (hk _ ha_1.lt (fun h => h))
            have ha_2 := ha_2.kept (hk _ ha_2.lt (fun h => h))
            have ha_5 := ha_5.kept (hk _ ha_5.lt (fun h => h))
            have ha_10 := ha_10.kept (hk _ ha_10.lt (fun h => h))
            refine lv_astore_n (lv' := [(3, .ref r_14), (2, .int 2), (0, .ref h0), (1, .int p0)]) hx hb dX7_ownerOf_21 rfl hl (by decide) rfl (fun ls hl => ?_)
            refine lv_aload_n hx hb dX7_ownerOf_22 rfl (lv_at hl 0 rfl) ?_
            obtain ⟨v0_15, v1_15, v2_15, v3_15, v4_15, v5_15, v6_15, v7_15, v8_15, v9_15, ha_15, hb3_15⟩ := tr_13 hT grr_14
            refine va_get (D := DG E) (ci := 4) (v := .int v4_15) (C := RX4) (T := TX4) (N := 10) hx hb hts iw_X4 hown hK.1 (va_one ha_15) 0 rfl rfl 4 (by decide) (hts _ fl_X7_78) (fun _ h9 => h9) rfl dX7_ownerOf_23 ?_
            refine lv_iload_n hx hb dX7_ownerOf_26 rfl (lv_at hl 3 rfl) ?_
            refine rnSN (As := [.int v4_15, .int p0]) (rest := []) ⟨hx, hb, hml, hown, hts⟩ (c_X9_distance l v4_15 p0) ⟨va_cnB (host := RX9) 2 hts (gd1 co_X9_distance rfl) rfl rfl rfl (hK.2.1 _ mn_X7_112 #[]) (hts _ in_X9) (by decide +kernel) ⟨Nat.le_of_ble_eq_true rfl, Nat.le_of_ble_eq_true rfl⟩, hts _ st_X9_distance, trivial⟩ rfl rfl hl.1 rfl (lv_room (Nat.le_of_ble_eq_true rfl)) dX7_ownerOf_27 ⟨Nat.le_of_ble_eq_true rfl, Nat.le_of_ble_eq_true rfl⟩ ?_
            refine W.eq (g2 := F0 m 30 ls [.int ((p0 - v4_15) &&& 63)]) (by rfl) ?_
            refine lv_topi (fun x_16 ex_16 => ?_)
            have fx_16 := s_and63 (p0 - v4_15); rw [← ex_16] at fx_16
            refine lv_aload_n hx hb dX7_ownerOf_30 rfl (lv_at hl 0 rfl) ?_
            refine va_get (D := DG E) (ci := 4) (v := .int v5_15) (C := RX4) (T := TX4) (N := 10) hx hb hts iw_X4 hown hK.1 (va_one ha_15) 0 rfl rfl 5 (by decide) (hts _ fl_X7_86) (fun _ h9 => h9) rfl dX7_ownerOf_31 ?_
            refine lv_icmp_ge (tgt := 39) hx hb dX7_ownerOf_34 (by decide) (fun c_17 => ?_) (fun c_17 => ?_)
            · simp only [lt_I, le_I, eq_I, i_0, i_1, i_2, i_3, i_4, i_5, i_6, i_7, i_8, i_10, i_12, i_16, i_20, i_23, i_24, i_31, i_32, i_63, i_64, i_m1] at c_17
              refine lv_iinc (v := 3) (lv' := [(2, .int 3), (3, .ref r_14), (0, .ref h0), (1, .int p0)]) hx hb dX7_ownerOf_39 hl (k := 1) rfl (by decide) (by decide) rfl (fun ls hl => ?_)
              refine lv_goto (tgt := 2) hx hb dX7_ownerOf_42 (by decide) ?_
              refine lv_iload_n hx hb dX7_ownerOf_2 rfl (lv_at hl 0 rfl) ?_
              refine lv_aload_n hx hb dX7_ownerOf_3 rfl (lv_at hl 2 rfl) ?_
              refine va_get (D := DG E) (ci := 7) (v := .ref v6_1) (C := RX7) (T := TX7) (N := 14) hx hb hts iw_X7 hown hK.1 (va_one ha_1) 0 rfl rfl 6 (by decide) (hts _ fl_X7_41) (fun _ h9 => h9) rfl dX7_ownerOf_4 ?_
              refine va_get (D := DG E) (ci := 5) (v := .int v4_2) (C := RX5) (T := TX5) (N := 6) hx hb hts iw_X5 hown hK.1 (va_one ha_2) 0 rfl rfl 4 (by decide) (hts _ fl_X7_105) (fun _ h9 => h9) rfl dX7_ownerOf_7 ?_
              refine lv_icmp_ge (tgt := 45) hx hb dX7_ownerOf_10 (by decide) (fun c_18 => ?_) (fun c_18 => ?_)
              · simp only [lt_I, le_I, eq_I, i_0, i_1, i_2, i_3, i_4, i_5, i_6, i_7, i_8, i_10, i_12, i_16, i_20, i_23, i_24, i_31, i_32, i_63, i_64, i_m1] at c_18
                refine lv_iconst (v := (-1)) hx hb dX7_ownerOf_45 (by decide) ?_
                exact W.iret (v := (-1)) hx hb hr (fun t ht hW => ⟨⟨(-1), (), rfl, (by have h9 := i_m1; omega), trivial⟩, hS.F ht⟩) hS.2.2 dX7_ownerOf_46
              · simp only [lt_I, le_I, eq_I, i_0, i_1, i_2, i_3, i_4, i_5, i_6, i_7, i_8, i_10, i_12, i_16, i_20, i_23, i_24, i_31, i_32, i_63, i_64, i_m1] at c_18
                refine lv_aload_n hx hb dX7_ownerOf_13 rfl (lv_at hl 2 rfl) ?_
                refine va_get (D := DG E) (ci := 7) (v := .ref v6_1) (C := RX7) (T := TX7) (N := 14) hx hb hts iw_X7 hown hK.1 (va_one ha_1) 0 rfl rfl 6 (by decide) (hts _ fl_X7_41) (fun _ h9 => h9) rfl dX7_ownerOf_14 ?_
                refine lv_iload_n hx hb dX7_ownerOf_17 rfl (lv_at hl 0 rfl) ?_
                refine va_callr (rnV (fun H => TH E (T1 E) G [] H) (As := [.int 3]) (rest := []) ⟨hx, hb, hml, hown, hts⟩ (t_X5_at l E z0 G hGz v6_1 3 hg6_1 (by have := i_3; first | omega | decide)) (cwV 1 hts (gdV ml_X7_108 im_X5_at se_X5_X5_at in_X5 co_X5_at rfl) rfl rfl rfl (by decide +kernel) ⟨Nat.le_of_ble_eq_true rfl, Nat.le_of_ble_eq_true rfl⟩) hT (fun U hU hW => hK.go hW hS hAz hU) (va_recv hK.1 (va_one ha_2) (ci := 5) (q0 := 0) rfl rfl) rfl rfl hl.1 rfl (lv_room (Nat.le_of_ble_eq_true rfl)) dX7_ownerOf_18 ⟨Nat.le_of_ble_eq_true rfl, Nat.le_of_ble_eq_true rfl⟩) hS (fun q _ h => h.elim) (fun q h => h.elim) (fun _ r_19 t H locs ht hvm hwr_19 hB hz hk hS => ?_)
                have grr_19 : G r_19 = 13 := hB
                have hT : TH E (T1 E) G [] H := hT.kept (fun q hq => hk q hq (fun h => h))
                have ha_1 := ha_1.kept (hk _ ha_1.lt (fun h => h))
                have ha_2 := ha_2.kept (hk _ ha_2.lt (fun h => h))
                have ha_5 := ha_5.kept (hk _ ha_5.lt (fun h => h))
                have ha_10 := ha_10.kept (hk _ ha_10.lt (fun h => h))
                have ha_15 := ha_15.kept (hk _ ha_15.lt (fun h => h))
                refine lv_astore_n (lv' := [(3, .ref r_19), (2, .int 3), (0, .ref h0), (1, .int p0)]) hx hb dX7_ownerOf_21 rfl hl (by decide) rfl (fun ls hl => ?_)
                refine lv_aload_n hx hb dX7_ownerOf_22 rfl (lv_at hl 0 rfl) ?_
                obtain ⟨v0_20, v1_20, v2_20, v3_20, v4_20, v5_20, v6_20, v7_20, v8_20, v9_20, ha_20, hb3_20⟩ := tr_13 hT grr_19
                refine va_get (D := DG E) (ci := 4) (v := .int v4_20) (C := RX4) (T := TX4) (N := 10) hx hb hts iw_X4 hown hK.1 (va_one ha_20) 0 rfl rfl 4 (by decide) (hts _ fl_X7_78) (fun _ h9 => h9) rfl dX7_ownerOf_23 ?_
                refine lv_iload_n hx hb dX7_ownerOf_26 rfl (lv_at hl 3 rfl) ?_
                refine rnSN (As := [.int v4_20, .int p0]) (rest := []) ⟨hx, hb, hml, hown, hts⟩ (c_X9_distance l v4_20 p0) ⟨va_cnB (host := RX9) 2 hts (gd1 co_X9_distance rfl) rfl rfl rfl (hK.2.1 _ mn_X7_112 #[]) (hts _ in_X9) (by decide +kernel) ⟨Nat.le_of_ble_eq_true rfl, Nat.le_of_ble_eq_true rfl⟩, hts _ st_X9_distance, trivial⟩ rfl rfl hl.1 rfl (lv_room (Nat.le_of_ble_eq_true rfl)) dX7_ownerOf_27 ⟨Nat.le_of_ble_eq_true rfl, Nat.le_of_ble_eq_true rfl⟩ ?_
                refine W.eq (g2 := F0 m 30 ls [.int ((p0 - v4_20) &&& 63)]) (by rfl) ?_
                refine lv_topi (fun x_21 ex_21 => ?_)
                have fx_21 := s_and63 (p0 - v4_20); rw [← ex_21] at fx_21
                refine lv_aload_n hx hb dX7_ownerOf_30 rfl (lv_at hl 0 rfl) ?_
                refine va_get (D := DG E) (ci := 4) (v := .int v5_20) (C := RX4) (T := TX4) (N := 10) hx hb hts iw_X4 hown hK.1 (va_one ha_20) 0 rfl rfl 5 (by decide) (hts _ fl_X7_86) (fun _ h9 => h9) rfl dX7_ownerOf_31 ?_
                refine lv_icmp_ge (tgt := 39) hx hb dX7_ownerOf_34 (by decide) (fun c_22 => ?_) (fun c_22 => ?_)
                · simp only [lt_I, le_I, eq_I, i_0, i_1, i_2, i_3, i_4, i_5, i_6, i_7, i_8, i_10, i_12, i_16, i_20, i_23, i_24, i_31, i_32, i_63, i_64, i_m1] at c_22
                  refine lv_iinc (v := 4) (lv' := [(2, .int 4), (3, .ref r_19), (0, .ref h0), (1, .int p0)]) hx hb dX7_ownerOf_39 hl (k := 1) rfl (by decide) (by decide) rfl (fun ls hl => ?_)
                  refine lv_goto (tgt := 2) hx hb dX7_ownerOf_42 (by decide) ?_
                  refine lv_iload_n hx hb dX7_ownerOf_2 rfl (lv_at hl 0 rfl) ?_
                  refine lv_aload_n hx hb dX7_ownerOf_3 rfl (lv_at hl 2 rfl) ?_
                  refine va_get (D := DG E) (ci := 7) (v := .ref v6_1) (C := RX7) (T := TX7) (N := 14) hx hb hts iw_X7 hown hK.1 (va_one ha_1) 0 rfl rfl 6 (by decide) (hts _ fl_X7_41) (fun _ h9 => h9) rfl dX7_ownerOf_4 ?_
                  refine va_get (D := DG E) (ci := 5) (v := .int v4_2) (C := RX5) (T := TX5) (N := 6) hx hb hts iw_X5 hown hK.1 (va_one ha_2) 0 rfl rfl 4 (by decide) (hts _ fl_X7_105) (fun _ h9 => h9) rfl dX7_ownerOf_7 ?_
                  refine lv_icmp_ge (tgt := 45) hx hb dX7_ownerOf_10 (by decide) (fun c_23 => ?_) (fun c_23 => by exfalso; simp only [lt_I, le_I, eq_I, i_0, i_1, i_2, i_3, i_4, i_5, i_6, i_7, i_8, i_10, i_12, i_16, i_20, i_23, i_24, i_31, i_32, i_63, i_64, i_m1] at c_23; omega)
                  simp only [lt_I, le_I, eq_I, i_0, i_1, i_2, i_3, i_4, i_5, i_6, i_7, i_8, i_10, i_12, i_16, i_20, i_23, i_24, i_31, i_32, i_63, i_64, i_m1] at c_23
                  refine lv_iconst (v := (-1)) hx hb dX7_ownerOf_45 (by decide) ?_
                  exact W.iret (v := (-1)) hx hb hr (fun t ht hW => ⟨⟨(-1), (), rfl, (by have h9 := i_m1; omega), trivial⟩, hS.F ht⟩) hS.2.2 dX7_ownerOf_46
                · simp only [lt_I, le_I, eq_I, i_0, i_1, i_2, i_3, i_4, i_5, i_6, i_7, i_8, i_10, i_12, i_16, i_20, i_23, i_24, i_31, i_32, i_63, i_64, i_m1] at c_22
                  refine lv_iload_n hx hb dX7_ownerOf_37 rfl (lv_at hl 1 rfl) ?_
                  exact W.iret (v := 3) hx hb hr (fun t ht hW => ⟨⟨3, (), rfl, (by have h9 := i_3; omega), trivial⟩, hS.F ht⟩) hS.2.2 dX7_ownerOf_38
            · simp only [lt_I, le_I, eq_I, i_0, i_1, i_2, i_3, i_4, i_5, i_6, i_7, i_8, i_10, i_12, i_16, i_20, i_23, i_24, i_31, i_32, i_63, i_64, i_m1] at c_17
              refine lv_iload_n hx hb dX7_ownerOf_37 rfl (lv_at hl 1 rfl) ?_
              exact W.iret (v := 2) hx hb hr (fun t ht hW => ⟨⟨2, (), rfl, (by have h9 := i_2; omega), trivial⟩, hS.F ht⟩) hS.2.2 dX7_ownerOf_38
        · simp only [lt_I, le_I, eq_I, i_0, i_1, i_2, i_3, i_4, i_5, i_6, i_7, i_8, i_10, i_12, i_16, i_20, i_23, i_24, i_31, i_32, i_63, i_64, i_m1] at c_12
          refine lv_iload_n hx hb dX7_ownerOf_37 rfl (lv_at hl 1 rfl) ?_
          exact W.iret (v := 1) hx hb hr (fun t ht hW => ⟨⟨1, (), rfl, (by have h9 := i_1; omega), trivial⟩, hS.F ht⟩) hS.2.2 dX7_ownerOf_38
    · simp only [lt_I, le_I, eq_I, i_0, i_1, i_2, i_3, i_4, i_5, i_6, i_7, i_8, i_10, i_12, i_16, i_20, i_23, i_24, i_31, i_32, i_63, i_64, i_m1] at c_7
      refine lv_iload_n hx hb dX7_ownerOf_37 rfl (lv_at hl 1 rfl) ?_
      exact W.iret (v := 0) hx hb hr (fun t ht hW => ⟨⟨0, (), rfl, (by have h9 := i_0; omega), trivial⟩, hS.F ht⟩) hS.2.2 dX7_ownerOf_38
theorem dX7_isOpen_0 : decode cX7_isOpen 0 = .ok (.aload_n 0, 1) := by decide +kernel
theorem dX7_isOpen_1 : decode cX7_isOpen 1 = .ok (.getfield 68, 3) := by decide +kernel
theorem dX7_isOpen_4 : decode cX7_isOpen 4 = .ok (.iload_n 1, 1) := by decide +kernel
theorem dX7_isOpen_5 : decode cX7_isOpen 5 = .ok (.invokestatic 112, 3) := by decide +kernel
theorem dX7_isOpen_8 : decode cX7_isOpen 8 = .ok (.aload_n 0, 1) := by decide +kernel
theorem dX7_isOpen_9 : decode cX7_isOpen 9 = .ok (.getfield 68, 3) := by decide +kernel
theorem dX7_isOpen_12 : decode cX7_isOpen 12 = .ok (.aload_n 0, 1) := by decide +kernel
theorem dX7_isOpen_13 : decode cX7_isOpen 13 = .ok (.getfield 71, 3) := by decide +kernel
theorem dX7_isOpen_16 : decode cX7_isOpen 16 = .ok (.invokestatic 112, 3) := by decide +kernel
theorem dX7_isOpen_19 : decode cX7_isOpen 19 = .ok (.if_icmp .ge 7, 3) := by decide +kernel
theorem dX7_isOpen_22 : decode cX7_isOpen 22 = .ok (.iconst 1, 1) := by decide +kernel
theorem dX7_isOpen_23 : decode cX7_isOpen 23 = .ok (.goto 4, 3) := by decide +kernel
theorem dX7_isOpen_26 : decode cX7_isOpen 26 = .ok (.iconst 0, 1) := by decide +kernel
theorem dX7_isOpen_27 : decode cX7_isOpen 27 = .ok (.ireturn, 1) := by decide +kernel
set_option maxHeartbeats 8000000 in
set_option maxRecDepth 100000 in
theorem t_X7_isOpen (l : Launch) (E : EE) (z0 : Nat) (G : Nat → Nat) (hGz : ∀ q, G q ≠ 0 → z0 ≤ q) (h0 : Nat) (p0 : Int32) (hG : G h0 = 9) : Met l yX7_isOpen [Cond.code yX7_isOpen cX7_isOpen 2 (some .boolean)] ({ frames := 1, cells := 0, slots := 0, locals := 21 } : Room) (va_Pc [.ref h0, .int p0] (fun U => (TH E (T1 E) G [] U.heap) ∧ KS E z0 U)) (va_Qi (fun (r : Int32) (_ : Unit) => r = 0 ∨ r = 1) (fun _ t => True) (fun _ : Nat => False)) 0 0 (fun _ : Nat => False) := by
  refine Met.ofW (cc := cX7_isOpen) (maxL := 2) (ret := (some .boolean)) (by decide) rfl ?_
  intro p e s m args below meth c s₁ B hml hv
  obtain ⟨rfl, hT, hK⟩ := hv
  have hx := B.exec
  have hb := B.bytes
  have hr := B.returns
  have hts : ∀ w ∈ TS, w.before ([.ref h0, .int p0] : List Value).toArray s = true := fun w hw => hK.2.1 w hw _
  have hown : s.vm.findClass RX7 = some m.cls := findClass_of_methodNamed B.named
  have hlocks := B.notSynchronized
  have hS : va_S (fun _ : Nat => False) s.heap s.heap [] := va_S.rf
  have hAz : ∀ q, (fun _ : Nat => False) q → z0 ≤ q := fun _ h => h.elim
  have hl := lv_entry ([.ref h0, .int p0]) (n := 2) (Nat.le_of_ble_eq_true rfl)
  rw [lg_entry_eq]
  generalize (lg_sl ([.ref h0, .int p0]) ++ List.replicate (2 - (lg_sl ([.ref h0, .int p0])).length) Slot.unset).toArray = ls at hl ⊢
  have hl : lv_has ls 2 [(0, .ref h0), (1, .int p0)] := hl
  refine lv_aload_n hx hb dX7_isOpen_0 rfl (lv_at hl 0 rfl) ?_
  obtain ⟨v0_1, v1_1, v2_1, v3_1, v4_1, v5_1, v6_1, v7_1, v8_1, v9_1, v10_1, v11_1, v12_1, v13_1, ha_1, hb0_1, hg1_1, hg2_1, hg6_1⟩ := tr_9 hT hG
  refine va_get (D := DG E) (ci := 7) (v := .int v8_1) (C := RX7) (T := TX7) (N := 14) hx hb hts iw_X7 hown hK.1 (va_one ha_1) 0 rfl rfl 8 (by decide) (hts _ fl_X7_68) (fun _ h9 => h9) rfl dX7_isOpen_1 ?_
  refine lv_iload_n hx hb dX7_isOpen_4 rfl (lv_at hl 1 rfl) ?_
  refine rnSN (As := [.int v8_1, .int p0]) (rest := []) ⟨hx, hb, hml, hown, hts⟩ (c_X9_distance l v8_1 p0) ⟨va_cnB (host := RX9) 2 hts (gd1 co_X9_distance rfl) rfl rfl rfl (hK.2.1 _ mn_X7_112 #[]) (hts _ in_X9) (by decide +kernel) ⟨Nat.le_of_ble_eq_true rfl, Nat.le_of_ble_eq_true rfl⟩, hts _ st_X9_distance, trivial⟩ rfl rfl hl.1 rfl (lv_room (Nat.le_of_ble_eq_true rfl)) dX7_isOpen_5 ⟨Nat.le_of_ble_eq_true rfl, Nat.le_of_ble_eq_true rfl⟩ ?_
  refine W.eq (g2 := F0 m 8 ls [.int ((p0 - v8_1) &&& 63)]) (by rfl) ?_
  refine lv_topi (fun x_2 ex_2 => ?_)
  have fx_2 := s_and63 (p0 - v8_1); rw [← ex_2] at fx_2
  refine lv_aload_n hx hb dX7_isOpen_8 rfl (lv_at hl 0 rfl) ?_
  refine va_get (D := DG E) (ci := 7) (v := .int v8_1) (C := RX7) (T := TX7) (N := 14) hx hb hts iw_X7 hown hK.1 (va_one ha_1) 0 rfl rfl 8 (by decide) (hts _ fl_X7_68) (fun _ h9 => h9) rfl dX7_isOpen_9 ?_
  refine lv_aload_n hx hb dX7_isOpen_12 rfl (lv_at hl 0 rfl) ?_
  refine va_get (D := DG E) (ci := 7) (v := .int v9_1) (C := RX7) (T := TX7) (N := 14) hx hb hts iw_X7 hown hK.1 (va_one ha_1) 0 rfl rfl 9 (by decide) (hts _ fl_X7_71) (fun _ h9 => h9) rfl dX7_isOpen_13 ?_
  refine rnSN (As := [.int v8_1, .int v9_1]) (rest := [.int x_2]) ⟨hx, hb, hml, hown, hts⟩ (c_X9_distance l v8_1 v9_1) ⟨va_cnB (host := RX9) 2 hts (gd1 co_X9_distance rfl) rfl rfl rfl (hK.2.1 _ mn_X7_112 #[]) (hts _ in_X9) (by decide +kernel) ⟨Nat.le_of_ble_eq_true rfl, Nat.le_of_ble_eq_true rfl⟩, hts _ st_X9_distance, trivial⟩ rfl rfl hl.1 rfl (lv_room (Nat.le_of_ble_eq_true rfl)) dX7_isOpen_16 ⟨Nat.le_of_ble_eq_true rfl, Nat.le_of_ble_eq_true rfl⟩ ?_
  refine W.eq (g2 := F0 m 19 ls [.int ((v9_1 - v8_1) &&& 63), .int x_2]) (by rfl) ?_
  refine lv_topi (fun x_3 ex_3 => ?_)
  have fx_3 := s_and63 (v9_1 - v8_1); rw [← ex_3] at fx_3
  refine lv_icmp_ge (tgt := 26) hx hb dX7_isOpen_19 (by decide) (fun c_4 => ?_) (fun c_4 => ?_)
  · simp only [lt_I, le_I, eq_I, i_0, i_1, i_2, i_3, i_4, i_5, i_6, i_7, i_8, i_10, i_12, i_16, i_20, i_23, i_24, i_31, i_32, i_63, i_64, i_m1] at c_4
    refine lv_iconst (v := 0) hx hb dX7_isOpen_26 (by decide) ?_
    exact W.zret (v := 0) (ty := .boolean) hx hb hr rfl (fun t ht hW => ⟨⟨0, (), rfl, (by decide), trivial⟩, hS.F ht⟩) hS.2.2 dX7_isOpen_27
  · simp only [lt_I, le_I, eq_I, i_0, i_1, i_2, i_3, i_4, i_5, i_6, i_7, i_8, i_10, i_12, i_16, i_20, i_23, i_24, i_31, i_32, i_63, i_64, i_m1] at c_4
    refine lv_iconst (v := 1) hx hb dX7_isOpen_22 (by decide) ?_
    refine lv_goto (tgt := 27) hx hb dX7_isOpen_23 (by decide) ?_
    exact W.zret (v := 1) (ty := .boolean) hx hb hr rfl (fun t ht hW => ⟨⟨1, (), rfl, (by decide), trivial⟩, hS.F ht⟩) hS.2.2 dX7_isOpen_27
theorem dX7_awaitsReply_0 : decode cX7_awaitsReply 0 = .ok (.aload_n 0, 1) := by decide +kernel
theorem dX7_awaitsReply_1 : decode cX7_awaitsReply 1 = .ok (.iload_n 1, 1) := by decide +kernel
theorem dX7_awaitsReply_2 : decode cX7_awaitsReply 2 = .ok (.invokevirtual 115, 3) := by decide +kernel
theorem dX7_awaitsReply_5 : decode cX7_awaitsReply 5 = .ok (.istore_n 2, 1) := by decide +kernel
theorem dX7_awaitsReply_6 : decode cX7_awaitsReply 6 = .ok (.iload_n 2, 1) := by decide +kernel
theorem dX7_awaitsReply_7 : decode cX7_awaitsReply 7 = .ok (.iconst (-1), 1) := by decide +kernel
theorem dX7_awaitsReply_8 : decode cX7_awaitsReply 8 = .ok (.if_icmp .eq 21, 3) := by decide +kernel
theorem dX7_awaitsReply_11 : decode cX7_awaitsReply 11 = .ok (.aload_n 0, 1) := by decide +kernel
theorem dX7_awaitsReply_12 : decode cX7_awaitsReply 12 = .ok (.getfield 41, 3) := by decide +kernel
theorem dX7_awaitsReply_15 : decode cX7_awaitsReply 15 = .ok (.iload_n 2, 1) := by decide +kernel
theorem dX7_awaitsReply_16 : decode cX7_awaitsReply 16 = .ok (.invokevirtual 108, 3) := by decide +kernel
theorem dX7_awaitsReply_19 : decode cX7_awaitsReply 19 = .ok (.invokevirtual 165, 3) := by decide +kernel
theorem dX7_awaitsReply_22 : decode cX7_awaitsReply 22 = .ok (.ifCond .eq 7, 3) := by decide +kernel
theorem dX7_awaitsReply_25 : decode cX7_awaitsReply 25 = .ok (.iconst 1, 1) := by decide +kernel
theorem dX7_awaitsReply_26 : decode cX7_awaitsReply 26 = .ok (.goto 4, 3) := by decide +kernel
theorem dX7_awaitsReply_29 : decode cX7_awaitsReply 29 = .ok (.iconst 0, 1) := by decide +kernel
theorem dX7_awaitsReply_30 : decode cX7_awaitsReply 30 = .ok (.ireturn, 1) := by decide +kernel
set_option maxHeartbeats 8000000 in
set_option maxRecDepth 100000 in
theorem t_X7_awaitsReply (l : Launch) (E : EE) (z0 : Nat) (G : Nat → Nat) (hGz : ∀ q, G q ≠ 0 → z0 ≤ q) (h0 : Nat) (p0 : Int32) (hG : G h0 = 9) : Met l yX7_awaitsReply [Cond.code yX7_awaitsReply cX7_awaitsReply 3 (some .boolean)] ({ frames := 2, cells := 0, slots := 0, locals := 44 } : Room) (va_Pc [.ref h0, .int p0] (fun U => (TH E (T1 E) G [] U.heap) ∧ KS E z0 U)) (va_Qi (fun (r : Int32) (_ : Unit) => r = 0 ∨ r = 1) (fun _ t => True) (fun _ : Nat => False)) 0 0 (fun _ : Nat => False) := by
  refine Met.ofW (cc := cX7_awaitsReply) (maxL := 3) (ret := (some .boolean)) (by decide) rfl ?_
  intro p e s m args below meth c s₁ B hml hv
  obtain ⟨rfl, hT, hK⟩ := hv
  have hx := B.exec
  have hb := B.bytes
  have hr := B.returns
  have hts : ∀ w ∈ TS, w.before ([.ref h0, .int p0] : List Value).toArray s = true := fun w hw => hK.2.1 w hw _
  have hown : s.vm.findClass RX7 = some m.cls := findClass_of_methodNamed B.named
  have hlocks := B.notSynchronized
  have hS : va_S (fun _ : Nat => False) s.heap s.heap [] := va_S.rf
  have hAz : ∀ q, (fun _ : Nat => False) q → z0 ≤ q := fun _ h => h.elim
  have hl := lv_entry ([.ref h0, .int p0]) (n := 3) (Nat.le_of_ble_eq_true rfl)
  rw [lg_entry_eq]
  generalize (lg_sl ([.ref h0, .int p0]) ++ List.replicate (3 - (lg_sl ([.ref h0, .int p0])).length) Slot.unset).toArray = ls at hl ⊢
  have hl : lv_has ls 3 [(0, .ref h0), (1, .int p0)] := hl
  refine lv_aload_n hx hb dX7_awaitsReply_0 rfl (lv_at hl 0 rfl) ?_
  refine lv_iload_n hx hb dX7_awaitsReply_1 rfl (lv_at hl 1 rfl) ?_
  obtain ⟨v0_1, v1_1, v2_1, v3_1, v4_1, v5_1, v6_1, v7_1, v8_1, v9_1, v10_1, v11_1, v12_1, v13_1, ha_1, hb0_1, hg1_1, hg2_1, hg6_1⟩ := tr_9 hT hG
  refine va_calli (rnV (fun H => TH E (T1 E) G [] H) (As := [.int p0]) (rest := []) ⟨hx, hb, hml, hown, hts⟩ (t_X7_ownerOf l E z0 G hGz h0 p0 hG) (cwV 1 hts (gdV ml_X7_115 im_X7_ownerOf se_X7_X7_ownerOf in_X7 co_X7_ownerOf rfl) rfl rfl rfl (by decide +kernel) ⟨Nat.le_of_ble_eq_true rfl, Nat.le_of_ble_eq_true rfl⟩) hT (fun U hU hW => hK.go hW hS hAz hU) (va_recv hK.1 (va_one ha_1) (ci := 7) (q0 := 0) rfl rfl) rfl rfl hl.1 rfl (lv_room (Nat.le_of_ble_eq_true rfl)) dX7_awaitsReply_2 ⟨Nat.le_of_ble_eq_true rfl, Nat.le_of_ble_eq_true rfl⟩) hS (fun q _ h => h.elim) (fun q h => h.elim) (fun r_2 _ t H locs ht hvm hwr_2 hB hz hk hS => ?_)
  have hT : TH E (T1 E) G [] H := hT.kept (fun q hq => hk q hq (fun h => h))
  have ha_1 := ha_1.kept (hk _ ha_1.lt (fun h => h))
  refine lv_istore_n (lv' := [(2, .int r_2), (0, .ref h0), (1, .int p0)]) hx hb dX7_awaitsReply_5 rfl hl (by decide) rfl (fun ls hl => ?_)
  refine lv_iload_n hx hb dX7_awaitsReply_6 rfl (lv_at hl 0 rfl) ?_
  refine lv_iconst (v := (-1)) hx hb dX7_awaitsReply_7 (by decide) ?_
  refine lv_icmp_eq (tgt := 29) hx hb dX7_awaitsReply_8 (by decide) (fun c_3 => ?_) (fun c_3 => ?_)
  · simp only [lt_I, le_I, eq_I, i_0, i_1, i_2, i_3, i_4, i_5, i_6, i_7, i_8, i_10, i_12, i_16, i_20, i_23, i_24, i_31, i_32, i_63, i_64, i_m1] at c_3
    refine lv_iconst (v := 0) hx hb dX7_awaitsReply_29 (by decide) ?_
    exact W.zret (v := 0) (ty := .boolean) hx hb hr rfl (fun t ht hW => ⟨⟨0, (), rfl, (by decide), trivial⟩, hS.F ht⟩) hS.2.2 dX7_awaitsReply_30
  · simp only [lt_I, le_I, eq_I, i_0, i_1, i_2, i_3, i_4, i_5, i_6, i_7, i_8, i_10, i_12, i_16, i_20, i_23, i_24, i_31, i_32, i_63, i_64, i_m1] at c_3
    refine lv_aload_n hx hb dX7_awaitsReply_11 rfl (lv_at hl 1 rfl) ?_
    refine va_get (D := DG E) (ci := 7) (v := .ref v6_1) (C := RX7) (T := TX7) (N := 14) hx hb hts iw_X7 hown hK.1 (va_one ha_1) 0 rfl rfl 6 (by decide) (hts _ fl_X7_41) (fun _ h9 => h9) rfl dX7_awaitsReply_12 ?_
    refine lv_iload_n hx hb dX7_awaitsReply_15 rfl (lv_at hl 0 rfl) ?_
    obtain ⟨v0_4, v1_4, v2_4, v3_4, v4_4, v5_4, ha_4, hg1_4, hg2_4, hb3_4, hb4_4⟩ := tr_11 hT hg6_1
    refine va_callr (rnV (fun H => TH E (T1 E) G [] H) (As := [.int r_2]) (rest := []) ⟨hx, hb, hml, hown, hts⟩ (t_X5_at l E z0 G hGz v6_1 r_2 hg6_1 (by first | omega | decide)) (cwV 1 hts (gdV ml_X7_108 im_X5_at se_X5_X5_at in_X5 co_X5_at rfl) rfl rfl rfl (by decide +kernel) ⟨Nat.le_of_ble_eq_true rfl, Nat.le_of_ble_eq_true rfl⟩) hT (fun U hU hW => hK.go hW hS hAz hU) (va_recv hK.1 (va_one ha_4) (ci := 5) (q0 := 0) rfl rfl) rfl rfl hl.1 rfl (lv_room (Nat.le_of_ble_eq_true rfl)) dX7_awaitsReply_16 ⟨Nat.le_of_ble_eq_true rfl, Nat.le_of_ble_eq_true rfl⟩) hS (fun q _ h => h.elim) (fun q h => h.elim) (fun _ r_5 t H locs ht hvm hwr_5 hB hz hk hS => ?_)
    have grr_5 : G r_5 = 13 := hB
    have hT : TH E (T1 E) G [] H := hT.kept (fun q hq => hk q hq (fun h => h))
    have ha_1 := ha_1.kept (hk _ ha_1.lt (fun h => h))
    have ha_4 := ha_4.kept (hk _ ha_4.lt (fun h => h))
    obtain ⟨v0_6, v1_6, v2_6, v3_6, v4_6, v5_6, v6_6, v7_6, v8_6, v9_6, ha_6, hb3_6⟩ := tr_13 hT grr_5
    refine va_calli (rnV (fun H => TH E (T1 E) G [] H) (As := []) (rest := []) ⟨hx, hb, hml, hown, hts⟩ (t_X4_awaitsReply l E z0 G hGz r_5 grr_5) (cwV 0 hts (gdV ml_X7_165 im_X4_awaitsReply se_X4_X4_awaitsReply in_X4 co_X4_awaitsReply rfl) rfl rfl rfl (by decide +kernel) ⟨Nat.le_of_ble_eq_true rfl, Nat.le_of_ble_eq_true rfl⟩) hT (fun U hU hW => hK.go hW hS hAz hU) (va_recv hK.1 (va_one ha_6) (ci := 4) (q0 := 0) rfl rfl) rfl rfl hl.1 rfl (lv_room (Nat.le_of_ble_eq_true rfl)) dX7_awaitsReply_19 ⟨Nat.le_of_ble_eq_true rfl, Nat.le_of_ble_eq_true rfl⟩) hS (fun q _ h => h.elim) (fun q h => h.elim) (fun r_7 _ t H locs ht hvm hwr_7 hB hz hk hS => ?_)
    have hT : TH E (T1 E) G [] H := hT.kept (fun q hq => hk q hq (fun h => h))
    have ha_1 := ha_1.kept (hk _ ha_1.lt (fun h => h))
    have ha_4 := ha_4.kept (hk _ ha_4.lt (fun h => h))
    have ha_6 := ha_6.kept (hk _ ha_6.lt (fun h => h))
    have hzr_7 := s_rng hwr_7
    refine lv_if_eq (tgt := 29) hx hb dX7_awaitsReply_22 (by decide) (fun c_8 => ?_) (fun c_8 => ?_)
    · simp only [lt_I, le_I, eq_I, i_0, i_1, i_2, i_3, i_4, i_5, i_6, i_7, i_8, i_10, i_12, i_16, i_20, i_23, i_24, i_31, i_32, i_63, i_64, i_m1] at c_8
      refine lv_iconst (v := 0) hx hb dX7_awaitsReply_29 (by decide) ?_
      exact W.zret (v := 0) (ty := .boolean) hx hb hr rfl (fun t ht hW => ⟨⟨0, (), rfl, (by decide), trivial⟩, hS.F ht⟩) hS.2.2 dX7_awaitsReply_30
    · simp only [lt_I, le_I, eq_I, i_0, i_1, i_2, i_3, i_4, i_5, i_6, i_7, i_8, i_10, i_12, i_16, i_20, i_23, i_24, i_31, i_32, i_63, i_64, i_m1] at c_8
      refine lv_iconst (v := 1) hx hb dX7_awaitsReply_25 (by decide) ?_
      refine lv_goto (tgt := 30) hx hb dX7_awaitsReply_26 (by decide) ?_
      exact W.zret (v := 1) (ty := .boolean) hx hb hr rfl (fun t ht hW => ⟨⟨1, (), rfl, (by decide), trivial⟩, hS.F ht⟩) hS.2.2 dX7_awaitsReply_30
theorem dX7_firstIsAnswered_0 : decode cX7_firstIsAnswered 0 = .ok (.aload_n 0, 1) := by decide +kernel
theorem dX7_firstIsAnswered_1 : decode cX7_firstIsAnswered 1 = .ok (.getfield 41, 3) := by decide +kernel
theorem dX7_firstIsAnswered_4 : decode cX7_firstIsAnswered 4 = .ok (.iconst 0, 1) := by decide +kernel
theorem dX7_firstIsAnswered_5 : decode cX7_firstIsAnswered 5 = .ok (.invokevirtual 108, 3) := by decide +kernel
theorem dX7_firstIsAnswered_8 : decode cX7_firstIsAnswered 8 = .ok (.astore_n 1, 1) := by decide +kernel
theorem dX7_firstIsAnswered_9 : decode cX7_firstIsAnswered 9 = .ok (.aload_n 0, 1) := by decide +kernel
theorem dX7_firstIsAnswered_10 : decode cX7_firstIsAnswered 10 = .ok (.getfield 41, 3) := by decide +kernel
theorem dX7_firstIsAnswered_13 : decode cX7_firstIsAnswered 13 = .ok (.getfield 105, 3) := by decide +kernel
theorem dX7_firstIsAnswered_16 : decode cX7_firstIsAnswered 16 = .ok (.ifCond .le 25, 3) := by decide +kernel
theorem dX7_firstIsAnswered_19 : decode cX7_firstIsAnswered 19 = .ok (.aload_n 1, 1) := by decide +kernel
theorem dX7_firstIsAnswered_20 : decode cX7_firstIsAnswered 20 = .ok (.getfield 78, 3) := by decide +kernel
theorem dX7_firstIsAnswered_23 : decode cX7_firstIsAnswered 23 = .ok (.aload_n 0, 1) := by decide +kernel
theorem dX7_firstIsAnswered_24 : decode cX7_firstIsAnswered 24 = .ok (.getfield 68, 3) := by decide +kernel
theorem dX7_firstIsAnswered_27 : decode cX7_firstIsAnswered 27 = .ok (.invokestatic 112, 3) := by decide +kernel
theorem dX7_firstIsAnswered_30 : decode cX7_firstIsAnswered 30 = .ok (.aload_n 1, 1) := by decide +kernel
theorem dX7_firstIsAnswered_31 : decode cX7_firstIsAnswered 31 = .ok (.getfield 86, 3) := by decide +kernel
theorem dX7_firstIsAnswered_34 : decode cX7_firstIsAnswered 34 = .ok (.if_icmp .lt 7, 3) := by decide +kernel
theorem dX7_firstIsAnswered_37 : decode cX7_firstIsAnswered 37 = .ok (.iconst 1, 1) := by decide +kernel
theorem dX7_firstIsAnswered_38 : decode cX7_firstIsAnswered 38 = .ok (.goto 4, 3) := by decide +kernel
theorem dX7_firstIsAnswered_41 : decode cX7_firstIsAnswered 41 = .ok (.iconst 0, 1) := by decide +kernel
theorem dX7_firstIsAnswered_42 : decode cX7_firstIsAnswered 42 = .ok (.ireturn, 1) := by decide +kernel
set_option maxHeartbeats 8000000 in
set_option maxRecDepth 100000 in
theorem t_X7_firstIsAnswered (l : Launch) (E : EE) (z0 : Nat) (G : Nat → Nat) (hGz : ∀ q, G q ≠ 0 → z0 ≤ q) (h0 : Nat) (hG : G h0 = 9) (e0 : Int32) (e1 : Nat) (e2 : Nat) (e3 : Int32) (e4 : Int32) (e5 : Int32) (e6 : Nat) (e7 : Int32) (e8 : Int32) (e9 : Int32) (e10 : Int32) (e11 : Int32) (e12 : Int32) (e13 : Int32) (ge1 : G e1 = 5) (ge2 : G e2 = 4) (ge6 : G e6 = 11) (be0 : (0 ≤ e0.toInt ∧ e0.toInt ≤ 3)) (e6_0 : Int32) (e6_1 : Nat) (e6_2 : Nat) (e6_3 : Int32) (e6_4 : Int32) (e6_5 : Int32) (ge6_1 : G e6_1 = 5) (ge6_2 : G e6_2 = 12) (be6_3 : (0 ≤ e6_3.toInt ∧ e6_3.toInt ≤ 3)) (be6_4 : (0 ≤ e6_4.toInt ∧ e6_4.toInt ≤ 4)) : Met l yX7_firstIsAnswered [Cond.code yX7_firstIsAnswered cX7_firstIsAnswered 2 (some .boolean)] ({ frames := 1, cells := 0, slots := 0, locals := 21 } : Room) (va_Pc [.ref h0] (fun U => (TH E (T1 E) G [] U.heap ∧ va_at (DG E) vwCl (h0, .inr (7, [.int e0, .ref e1, .ref e2, .int e3, .int e4, .int e5, .ref e6, .int e7, .int e8, .int e9, .int e10, .int e11, .int e12, .int e13])) U.heap ∧ va_at (DG E) vwCl (e6, .inr (5, [.int e6_0, .ref e6_1, .ref e6_2, .int e6_3, .int e6_4, .int e6_5])) U.heap) ∧ KS E z0 U)) (va_Qi (fun (r : Int32) (_ : Unit) => (r = 0 ∨ r = 1) ∧ (r.toInt = 0 ∨ 1 ≤ e6_4.toInt)) (fun _ t => True) (fun _ : Nat => False)) 0 0 (fun _ : Nat => False) := by
  refine Met.ofW (cc := cX7_firstIsAnswered) (maxL := 2) (ret := (some .boolean)) (by decide) rfl ?_
  intro p e s m args below meth c s₁ B hml hv
  obtain ⟨rfl, ⟨hT, hx0, hx1⟩, hK⟩ := hv
  have hx := B.exec
  have hb := B.bytes
  have hr := B.returns
  have hts : ∀ w ∈ TS, w.before ([.ref h0] : List Value).toArray s = true := fun w hw => hK.2.1 w hw _
  have hown : s.vm.findClass RX7 = some m.cls := findClass_of_methodNamed B.named
  have hlocks := B.notSynchronized
  have hS : va_S (fun _ : Nat => False) s.heap s.heap [] := va_S.rf
  have hAz : ∀ q, (fun _ : Nat => False) q → z0 ≤ q := fun _ h => h.elim
  have hl := lv_entry ([.ref h0]) (n := 2) (Nat.le_of_ble_eq_true rfl)
  rw [lg_entry_eq]
  generalize (lg_sl ([.ref h0]) ++ List.replicate (2 - (lg_sl ([.ref h0])).length) Slot.unset).toArray = ls at hl ⊢
  have hl : lv_has ls 2 [(0, .ref h0)] := hl
  refine lv_aload_n hx hb dX7_firstIsAnswered_0 rfl (lv_at hl 0 rfl) ?_
  refine va_get (D := DG E) (ci := 7) (v := .ref e6) (C := RX7) (T := TX7) (N := 14) hx hb hts iw_X7 hown hK.1 (va_one hx0) 0 rfl rfl 6 (by decide) (hts _ fl_X7_41) (fun _ h9 => h9) rfl dX7_firstIsAnswered_1 ?_
  refine lv_iconst (v := 0) hx hb dX7_firstIsAnswered_4 (by decide) ?_
  refine va_callr (rnV (fun H => TH E (T1 E) G [] H) (As := [.int 0]) (rest := []) ⟨hx, hb, hml, hown, hts⟩ (t_X5_at l E z0 G hGz e6 0 ge6 (by have := i_0; first | omega | decide)) (cwV 1 hts (gdV ml_X7_108 im_X5_at se_X5_X5_at in_X5 co_X5_at rfl) rfl rfl rfl (by decide +kernel) ⟨Nat.le_of_ble_eq_true rfl, Nat.le_of_ble_eq_true rfl⟩) hT (fun U hU hW => hK.go hW hS hAz hU) (va_recv hK.1 (va_one hx1) (ci := 5) (q0 := 0) rfl rfl) rfl rfl hl.1 rfl (lv_room (Nat.le_of_ble_eq_true rfl)) dX7_firstIsAnswered_5 ⟨Nat.le_of_ble_eq_true rfl, Nat.le_of_ble_eq_true rfl⟩) hS (fun q _ h => h.elim) (fun q h => h.elim) (fun _ r_1 t H locs ht hvm hwr_1 hB hz hk hS => ?_)
  have grr_1 : G r_1 = 13 := hB
  have hT : TH E (T1 E) G [] H := hT.kept (fun q hq => hk q hq (fun h => h))
  have hx0 := hx0.kept (hk _ hx0.lt (fun h => h))
  have hx1 := hx1.kept (hk _ hx1.lt (fun h => h))
  refine lv_astore_n (lv' := [(1, .ref r_1), (0, .ref h0)]) hx hb dX7_firstIsAnswered_8 rfl hl (by decide) rfl (fun ls hl => ?_)
  refine lv_aload_n hx hb dX7_firstIsAnswered_9 rfl (lv_at hl 1 rfl) ?_
  refine va_get (D := DG E) (ci := 7) (v := .ref e6) (C := RX7) (T := TX7) (N := 14) hx hb hts iw_X7 hown hK.1 (va_one hx0) 0 rfl rfl 6 (by decide) (hts _ fl_X7_41) (fun _ h9 => h9) rfl dX7_firstIsAnswered_10 ?_
  refine va_get (D := DG E) (ci := 5) (v := .int e6_4) (C := RX5) (T := TX5) (N := 6) hx hb hts iw_X5 hown hK.1 (va_one hx1) 0 rfl rfl 4 (by decide) (hts _ fl_X7_105) (fun _ h9 => h9) rfl dX7_firstIsAnswered_13 ?_
  refine lv_if_le (tgt := 41) hx hb dX7_firstIsAnswered_16 (by decide) (fun c_2 => ?_) (fun c_2 => ?_)
  · simp only [lt_I, le_I, eq_I, i_0, i_1, i_2, i_3, i_4, i_5, i_6, i_7, i_8, i_10, i_12, i_16, i_20, i_23, i_24, i_31, i_32, i_63, i_64, i_m1] at c_2
    refine lv_iconst (v := 0) hx hb dX7_firstIsAnswered_41 (by decide) ?_
    exact W.zret (v := 0) (ty := .boolean) hx hb hr rfl (fun t ht hW => ⟨⟨0, (), rfl, ⟨by decide, by have h9 := i_0; omega⟩, trivial⟩, hS.F ht⟩) hS.2.2 dX7_firstIsAnswered_42
  · simp only [lt_I, le_I, eq_I, i_0, i_1, i_2, i_3, i_4, i_5, i_6, i_7, i_8, i_10, i_12, i_16, i_20, i_23, i_24, i_31, i_32, i_63, i_64, i_m1] at c_2
    refine lv_aload_n hx hb dX7_firstIsAnswered_19 rfl (lv_at hl 0 rfl) ?_
    obtain ⟨v0_3, v1_3, v2_3, v3_3, v4_3, v5_3, v6_3, v7_3, v8_3, v9_3, ha_3, hb3_3⟩ := tr_13 hT grr_1
    refine va_get (D := DG E) (ci := 4) (v := .int v4_3) (C := RX4) (T := TX4) (N := 10) hx hb hts iw_X4 hown hK.1 (va_one ha_3) 0 rfl rfl 4 (by decide) (hts _ fl_X7_78) (fun _ h9 => h9) rfl dX7_firstIsAnswered_20 ?_
    refine lv_aload_n hx hb dX7_firstIsAnswered_23 rfl (lv_at hl 1 rfl) ?_
    refine va_get (D := DG E) (ci := 7) (v := .int e8) (C := RX7) (T := TX7) (N := 14) hx hb hts iw_X7 hown hK.1 (va_one hx0) 0 rfl rfl 8 (by decide) (hts _ fl_X7_68) (fun _ h9 => h9) rfl dX7_firstIsAnswered_24 ?_
    refine rnSN (As := [.int v4_3, .int e8]) (rest := []) ⟨hx, hb, hml, hown, hts⟩ (c_X9_distance l v4_3 e8) ⟨va_cnB (host := RX9) 2 hts (gd1 co_X9_distance rfl) rfl rfl rfl (hK.2.1 _ mn_X7_112 #[]) (hts _ in_X9) (by decide +kernel) ⟨Nat.le_of_ble_eq_true rfl, Nat.le_of_ble_eq_true rfl⟩, hts _ st_X9_distance, trivial⟩ rfl rfl hl.1 rfl (lv_room (Nat.le_of_ble_eq_true rfl)) dX7_firstIsAnswered_27 ⟨Nat.le_of_ble_eq_true rfl, Nat.le_of_ble_eq_true rfl⟩ ?_
    refine W.eq (g2 := F0 m 30 ls [.int ((e8 - v4_3) &&& 63)]) (by rfl) ?_
    refine lv_topi (fun x_4 ex_4 => ?_)
    have fx_4 := s_and63 (e8 - v4_3); rw [← ex_4] at fx_4
    refine lv_aload_n hx hb dX7_firstIsAnswered_30 rfl (lv_at hl 0 rfl) ?_
    refine va_get (D := DG E) (ci := 4) (v := .int v5_3) (C := RX4) (T := TX4) (N := 10) hx hb hts iw_X4 hown hK.1 (va_one ha_3) 0 rfl rfl 5 (by decide) (hts _ fl_X7_86) (fun _ h9 => h9) rfl dX7_firstIsAnswered_31 ?_
    refine lv_icmp_lt (tgt := 41) hx hb dX7_firstIsAnswered_34 (by decide) (fun c_5 => ?_) (fun c_5 => ?_)
    · simp only [lt_I, le_I, eq_I, i_0, i_1, i_2, i_3, i_4, i_5, i_6, i_7, i_8, i_10, i_12, i_16, i_20, i_23, i_24, i_31, i_32, i_63, i_64, i_m1] at c_5
      refine lv_iconst (v := 0) hx hb dX7_firstIsAnswered_41 (by decide) ?_
      exact W.zret (v := 0) (ty := .boolean) hx hb hr rfl (fun t ht hW => ⟨⟨0, (), rfl, ⟨by decide, by have h9 := i_0; omega⟩, trivial⟩, hS.F ht⟩) hS.2.2 dX7_firstIsAnswered_42
    · simp only [lt_I, le_I, eq_I, i_0, i_1, i_2, i_3, i_4, i_5, i_6, i_7, i_8, i_10, i_12, i_16, i_20, i_23, i_24, i_31, i_32, i_63, i_64, i_m1] at c_5
      refine lv_iconst (v := 1) hx hb dX7_firstIsAnswered_37 (by decide) ?_
      refine lv_goto (tgt := 42) hx hb dX7_firstIsAnswered_38 (by decide) ?_
      exact W.zret (v := 1) (ty := .boolean) hx hb hr rfl (fun t ht hW => ⟨⟨1, (), rfl, ⟨by decide, by have h9 := i_1; omega⟩, trivial⟩, hS.F ht⟩) hS.2.2 dX7_firstIsAnswered_42
theorem dX7_answer_0 : decode cX7_answer 0 = .ok (.iload_n 1, 1) := by decide +kernel
theorem dX7_answer_1 : decode cX7_answer 1 = .ok (.ifCond .ne 4, 3) := by decide +kernel
theorem dX7_answer_4 : decode cX7_answer 4 = .ok (.return_, 1) := by decide +kernel
theorem dX7_answer_5 : decode cX7_answer 5 = .ok (.aload_n 0, 1) := by decide +kernel
theorem dX7_answer_6 : decode cX7_answer 6 = .ok (.aload_n 0, 1) := by decide +kernel
theorem dX7_answer_7 : decode cX7_answer 7 = .ok (.getfield 68, 3) := by decide +kernel
theorem dX7_answer_10 : decode cX7_answer 10 = .ok (.iload_n 1, 1) := by decide +kernel
theorem dX7_answer_11 : decode cX7_answer 11 = .ok (.invokestatic 98, 3) := by decide +kernel
theorem dX7_answer_14 : decode cX7_answer 14 = .ok (.putfield 68, 3) := by decide +kernel
theorem dX7_answer_17 : decode cX7_answer 17 = .ok (.aload_n 0, 1) := by decide +kernel
theorem dX7_answer_18 : decode cX7_answer 18 = .ok (.iconst 0, 1) := by decide +kernel
theorem dX7_answer_19 : decode cX7_answer 19 = .ok (.putfield 52, 3) := by decide +kernel
theorem dX7_answer_22 : decode cX7_answer 22 = .ok (.aload_n 0, 1) := by decide +kernel
theorem dX7_answer_23 : decode cX7_answer 23 = .ok (.iconst 0, 1) := by decide +kernel
theorem dX7_answer_24 : decode cX7_answer 24 = .ok (.putfield 55, 3) := by decide +kernel
theorem dX7_answer_27 : decode cX7_answer 27 = .ok (.aload_n 0, 1) := by decide +kernel
theorem dX7_answer_28 : decode cX7_answer 28 = .ok (.iconst 0, 1) := by decide +kernel
theorem dX7_answer_29 : decode cX7_answer 29 = .ok (.putfield 58, 3) := by decide +kernel
theorem dX7_answer_32 : decode cX7_answer 32 = .ok (.aload_n 0, 1) := by decide +kernel
theorem dX7_answer_33 : decode cX7_answer 33 = .ok (.iconst 0, 1) := by decide +kernel
theorem dX7_answer_34 : decode cX7_answer 34 = .ok (.putfield 61, 3) := by decide +kernel
theorem dX7_answer_37 : decode cX7_answer 37 = .ok (.iconst 0, 1) := by decide +kernel
theorem dX7_answer_38 : decode cX7_answer 38 = .ok (.istore_n 2, 1) := by decide +kernel
theorem dX7_answer_39 : decode cX7_answer 39 = .ok (.iload_n 2, 1) := by decide +kernel
theorem dX7_answer_40 : decode cX7_answer 40 = .ok (.iconst 4, 1) := by decide +kernel
theorem dX7_answer_41 : decode cX7_answer 41 = .ok (.if_icmp .ge 24, 3) := by decide +kernel
theorem dX7_answer_44 : decode cX7_answer 44 = .ok (.aload_n 0, 1) := by decide +kernel
theorem dX7_answer_45 : decode cX7_answer 45 = .ok (.invokevirtual 184, 3) := by decide +kernel
theorem dX7_answer_48 : decode cX7_answer 48 = .ok (.ifCond .eq 17, 3) := by decide +kernel
theorem dX7_answer_51 : decode cX7_answer 51 = .ok (.aload_n 0, 1) := by decide +kernel
theorem dX7_answer_52 : decode cX7_answer 52 = .ok (.getfield 41, 3) := by decide +kernel
theorem dX7_answer_55 : decode cX7_answer 55 = .ok (.iconst 0, 1) := by decide +kernel
theorem dX7_answer_56 : decode cX7_answer 56 = .ok (.invokevirtual 187, 3) := by decide +kernel
theorem dX7_answer_59 : decode cX7_answer 59 = .ok (.iinc 2 1, 3) := by decide +kernel
theorem dX7_answer_62 : decode cX7_answer 62 = .ok (.goto (-23), 3) := by decide +kernel
theorem dX7_answer_65 : decode cX7_answer 65 = .ok (.return_, 1) := by decide +kernel
set_option maxHeartbeats 8000000 in
set_option maxRecDepth 100000 in
theorem t_X7_answer (l : Launch) (E : EE) (z0 : Nat) (G : Nat → Nat) (hGz : ∀ q, G q ≠ 0 → z0 ≤ q) (h0 : Nat) (p0 : Int32) (hG : G h0 = 9) : Met l yX7_answer [Cond.code yX7_answer cX7_answer 3 none] ({ frames := 2, cells := 0, slots := 0, locals := 45 } : Room) (va_Pc [.ref h0, .int p0] (fun U => (TH E (T1 E) G [] U.heap) ∧ KS E z0 U)) (va_Qv (fun (_ : Unit) => True) (fun _ t => TH E (T1 E) G [] t.heap) (fun q : Nat => G q ∈ ([9, 11, 5, 15] : List Nat))) 0 0 (fun q : Nat => G q ∈ ([9, 11, 5, 15] : List Nat)) := by
  refine Met.ofW (cc := cX7_answer) (maxL := 3) (ret := none) (by decide) rfl ?_
  intro p e s m args below meth c s₁ B hml hv
  obtain ⟨rfl, hT, hK⟩ := hv
  have hx := B.exec
  have hb := B.bytes
  have hr := B.returns
  have hts : ∀ w ∈ TS, w.before ([.ref h0, .int p0] : List Value).toArray s = true := fun w hw => hK.2.1 w hw _
  have hown : s.vm.findClass RX7 = some m.cls := findClass_of_methodNamed B.named
  have hlocks := B.notSynchronized
  have hS : va_S (fun q : Nat => G q ∈ ([9, 11, 5, 15] : List Nat)) s.heap s.heap [] := va_S.rf
  have hAz : ∀ q, (fun q : Nat => G q ∈ ([9, 11, 5, 15] : List Nat)) q → z0 ≤ q := zL hGz (by decide)
  have hl := lv_entry ([.ref h0, .int p0]) (n := 3) (Nat.le_of_ble_eq_true rfl)
  rw [lg_entry_eq]
  generalize (lg_sl ([.ref h0, .int p0]) ++ List.replicate (3 - (lg_sl ([.ref h0, .int p0])).length) Slot.unset).toArray = ls at hl ⊢
  have hl : lv_has ls 3 [(0, .ref h0), (1, .int p0)] := hl
  refine lv_iload_n hx hb dX7_answer_0 rfl (lv_at hl 1 rfl) ?_
  refine lv_if_ne (tgt := 5) hx hb dX7_answer_1 (by decide) (fun c_1 => ?_) (fun c_1 => ?_)
  · simp only [lt_I, le_I, eq_I, i_0, i_1, i_2, i_3, i_4, i_5, i_6, i_7, i_8, i_10, i_12, i_16, i_20, i_23, i_24, i_31, i_32, i_63, i_64, i_m1] at c_1
    refine lv_aload_n hx hb dX7_answer_5 rfl (lv_at hl 0 rfl) ?_
    refine lv_aload_n hx hb dX7_answer_6 rfl (lv_at hl 0 rfl) ?_
    obtain ⟨v0_2, v1_2, v2_2, v3_2, v4_2, v5_2, v6_2, v7_2, v8_2, v9_2, v10_2, v11_2, v12_2, v13_2, ha_2, hb0_2, hg1_2, hg2_2, hg6_2⟩ := tr_9 hT hG
    refine va_get (D := DG E) (ci := 7) (v := .int v8_2) (C := RX7) (T := TX7) (N := 14) hx hb hts iw_X7 hown hK.1 (va_one ha_2) 0 rfl rfl 8 (by decide) (hts _ fl_X7_68) (fun _ h9 => h9) rfl dX7_answer_7 ?_
    refine lv_iload_n hx hb dX7_answer_10 rfl (lv_at hl 1 rfl) ?_
    refine rnSN (As := [.int v8_2, .int p0]) (rest := [.ref h0]) ⟨hx, hb, hml, hown, hts⟩ (c_X9_after l v8_2 p0) ⟨va_cnB (host := RX9) 2 hts (gd1 co_X9_after rfl) rfl rfl rfl (hK.2.1 _ mn_X7_98 #[]) (hts _ in_X9) (by decide +kernel) ⟨Nat.le_of_ble_eq_true rfl, Nat.le_of_ble_eq_true rfl⟩, hts _ st_X9_after, trivial⟩ rfl rfl hl.1 rfl (lv_room (Nat.le_of_ble_eq_true rfl)) dX7_answer_11 ⟨Nat.le_of_ble_eq_true rfl, Nat.le_of_ble_eq_true rfl⟩ ?_
    refine W.eq (g2 := F0 m 14 ls [.int ((v8_2 + p0) &&& 63), .ref h0]) (by rfl) ?_
    refine lv_topi (fun x_3 ex_3 => ?_)
    have fx_3 := s_and63 (v8_2 + p0); rw [← ex_3] at fx_3
    refine rr_put (D := DG E) (ci := 7) (v := .int x_3) (ty := .int) (C := RX7) (T := TX7) (N := 14) hx hb hts iw_X7 tyX7 tyX7_ok nmX7 hown hK.1 ha_2 hS (by show G h0 ∈ ([9, 11, 5, 15] : List Nat); rw [hG]; decide) rfl 8 (by decide) (hts _ fl_X7_68) (fun _ h9 => h9) rfl (by decide +kernel) rfl rfl (Nat.le_of_ble_eq_true rfl) dX7_answer_14 (fun H locs hn ho hz hS => ?_)
    have hr_4 : va_at (DG E) vwCl (h0, .inr (7, [.int v0_2, .ref v1_2, .ref v2_2, .int v3_2, .int v4_2, .int v5_2, .ref v6_2, .int v7_2, .int x_3, .int v9_2, .int v10_2, .int v11_2, .int v12_2, .int v13_2])) H := hn
    have hT : TH E (T1 E) G [] H := hT.set hG (show T1 E G 9 _ from ⟨v0_2, v1_2, v2_2, v3_2, v4_2, v5_2, v6_2, v7_2, x_3, v9_2, v10_2, v11_2, v12_2, v13_2, rfl, (by omega), hg1_2, hg2_2, hg6_2⟩) hr_4 ho
    refine lv_aload_n hx hb dX7_answer_17 rfl (lv_at hl 0 rfl) ?_
    refine lv_iconst (v := 0) hx hb dX7_answer_18 (by decide) ?_
    refine rr_put (D := DG E) (ci := 7) (v := .int 0) (ty := .int) (C := RX7) (T := TX7) (N := 14) hx hb hts iw_X7 tyX7 tyX7_ok nmX7 hown hK.1 hr_4 hS (by show G h0 ∈ ([9, 11, 5, 15] : List Nat); rw [hG]; decide) rfl 10 (by decide) (hts _ fl_X7_52) (fun _ h9 => h9) rfl (by decide +kernel) rfl rfl (Nat.le_of_ble_eq_true rfl) dX7_answer_19 (fun H locs hn ho hz hS => ?_)
    have hr_5 : va_at (DG E) vwCl (h0, .inr (7, [.int v0_2, .ref v1_2, .ref v2_2, .int v3_2, .int v4_2, .int v5_2, .ref v6_2, .int v7_2, .int x_3, .int v9_2, .int 0, .int v11_2, .int v12_2, .int v13_2])) H := hn
    have hT : TH E (T1 E) G [] H := hT.set hG (show T1 E G 9 _ from ⟨v0_2, v1_2, v2_2, v3_2, v4_2, v5_2, v6_2, v7_2, x_3, v9_2, 0, v11_2, v12_2, v13_2, rfl, (by omega), hg1_2, hg2_2, hg6_2⟩) hr_5 ho
    refine lv_aload_n hx hb dX7_answer_22 rfl (lv_at hl 0 rfl) ?_
    refine lv_iconst (v := 0) hx hb dX7_answer_23 (by decide) ?_
    refine rr_put (D := DG E) (ci := 7) (v := .int 0) (ty := .int) (C := RX7) (T := TX7) (N := 14) hx hb hts iw_X7 tyX7 tyX7_ok nmX7 hown hK.1 hr_5 hS (by show G h0 ∈ ([9, 11, 5, 15] : List Nat); rw [hG]; decide) rfl 11 (by decide) (hts _ fl_X7_55) (fun _ h9 => h9) rfl (by decide +kernel) rfl rfl (Nat.le_of_ble_eq_true rfl) dX7_answer_24 (fun H locs hn ho hz hS => ?_)
    have hr_6 : va_at (DG E) vwCl (h0, .inr (7, [.int v0_2, .ref v1_2, .ref v2_2, .int v3_2, .int v4_2, .int v5_2, .ref v6_2, .int v7_2, .int x_3, .int v9_2, .int 0, .int 0, .int v12_2, .int v13_2])) H := hn
    have hT : TH E (T1 E) G [] H := hT.set hG (show T1 E G 9 _ from ⟨v0_2, v1_2, v2_2, v3_2, v4_2, v5_2, v6_2, v7_2, x_3, v9_2, 0, 0, v12_2, v13_2, rfl, (by omega), hg1_2, hg2_2, hg6_2⟩) hr_6 ho
    refine lv_aload_n hx hb dX7_answer_27 rfl (lv_at hl 0 rfl) ?_
    refine lv_iconst (v := 0) hx hb dX7_answer_28 (by decide) ?_
    refine rr_put (D := DG E) (ci := 7) (v := .int 0) (ty := .int) (C := RX7) (T := TX7) (N := 14) hx hb hts iw_X7 tyX7 tyX7_ok nmX7 hown hK.1 hr_6 hS (by show G h0 ∈ ([9, 11, 5, 15] : List Nat); rw [hG]; decide) rfl 12 (by decide) (hts _ fl_X7_58) (fun _ h9 => h9) rfl (by decide +kernel) rfl rfl (Nat.le_of_ble_eq_true rfl) dX7_answer_29 (fun H locs hn ho hz hS => ?_)
    have hr_7 : va_at (DG E) vwCl (h0, .inr (7, [.int v0_2, .ref v1_2, .ref v2_2, .int v3_2, .int v4_2, .int v5_2, .ref v6_2, .int v7_2, .int x_3, .int v9_2, .int 0, .int 0, .int 0, .int v13_2])) H := hn
    have hT : TH E (T1 E) G [] H := hT.set hG (show T1 E G 9 _ from ⟨v0_2, v1_2, v2_2, v3_2, v4_2, v5_2, v6_2, v7_2, x_3, v9_2, 0, 0, 0, v13_2, rfl, (by omega), hg1_2, hg2_2, hg6_2⟩) hr_7 ho
    refine lv_aload_n hx hb dX7_answer_32 rfl (lv_at hl 0 rfl) ?_
    refine lv_iconst (v := 0) hx hb dX7_answer_33 (by decide) ?_
    refine rr_put (D := DG E) (ci := 7) (v := .int 0) (ty := .boolean) (C := RX7) (T := TX7) (N := 14) hx hb hts iw_X7 tyX7 tyX7_ok nmX7 hown hK.1 hr_7 hS (by show G h0 ∈ ([9, 11, 5, 15] : List Nat); rw [hG]; decide) rfl 13 (by decide) (hts _ fl_X7_61) (fun _ h9 => h9) rfl (by decide +kernel) rfl rfl (Nat.le_of_ble_eq_true rfl) dX7_answer_34 (fun H locs hn ho hz hS => ?_)
    have hr_8 : va_at (DG E) vwCl (h0, .inr (7, [.int v0_2, .ref v1_2, .ref v2_2, .int v3_2, .int v4_2, .int v5_2, .ref v6_2, .int v7_2, .int x_3, .int v9_2, .int 0, .int 0, .int 0, .int 0])) H := hn
    have hT : TH E (T1 E) G [] H := hT.set hG (show T1 E G 9 _ from ⟨v0_2, v1_2, v2_2, v3_2, v4_2, v5_2, v6_2, v7_2, x_3, v9_2, 0, 0, 0, 0, rfl, (by omega), hg1_2, hg2_2, hg6_2⟩) hr_8 ho
    refine lv_iconst (v := 0) hx hb dX7_answer_37 (by decide) ?_
    refine lv_istore_n (lv' := [(2, .int 0), (0, .ref h0), (1, .int p0)]) hx hb dX7_answer_38 rfl hl (by decide) rfl (fun ls hl => ?_)
    refine lv_iload_n hx hb dX7_answer_39 rfl (lv_at hl 0 rfl) ?_
    refine lv_iconst (v := 4) hx hb dX7_answer_40 (by decide) ?_
    refine lv_icmp_ge (tgt := 65) hx hb dX7_answer_41 (by decide) (fun c_9 => absurd c_9 (by decide)) (fun c_9 => ?_)
    refine lv_aload_n hx hb dX7_answer_44 rfl (lv_at hl 1 rfl) ?_
    obtain ⟨v0_10, v1_10, v2_10, v3_10, v4_10, v5_10, ha_10, hg1_10, hg2_10, hb3_10, hb4_10⟩ := tr_11 hT hg6_2
    refine va_calli (rnV (fun H => TH E (T1 E) G [] H ∧ va_at (DG E) vwCl (h0, .inr (7, [.int v0_2, .ref v1_2, .ref v2_2, .int v3_2, .int v4_2, .int v5_2, .ref v6_2, .int v7_2, .int x_3, .int v9_2, .int 0, .int 0, .int 0, .int 0])) H ∧ va_at (DG E) vwCl (v6_2, .inr (5, [.int v0_10, .ref v1_10, .ref v2_10, .int v3_10, .int v4_10, .int v5_10])) H) (As := []) (rest := []) ⟨hx, hb, hml, hown, hts⟩ (t_X7_firstIsAnswered l E z0 G hGz h0 hG v0_2 v1_2 v2_2 v3_2 v4_2 v5_2 v6_2 v7_2 x_3 v9_2 0 0 0 0 hg1_2 hg2_2 hg6_2 (by omega) v0_10 v1_10 v2_10 v3_10 v4_10 v5_10 hg1_10 hg2_10 (by omega) (by omega)) (cwV 0 hts (gdV ml_X7_184 im_X7_firstIsAnswered se_X7_X7_firstIsAnswered in_X7 co_X7_firstIsAnswered rfl) rfl rfl rfl (by decide +kernel) ⟨Nat.le_of_ble_eq_true rfl, Nat.le_of_ble_eq_true rfl⟩) ⟨hT, hr_8, ha_10⟩ (fun U hU hW => hK.go hW hS hAz hU) (va_recv hK.1 (va_one hr_8) (ci := 7) (q0 := 0) rfl rfl) rfl rfl hl.1 rfl (lv_room (Nat.le_of_ble_eq_true rfl)) dX7_answer_45 ⟨Nat.le_of_ble_eq_true rfl, Nat.le_of_ble_eq_true rfl⟩) hS (fun q _ h => h.elim) (fun q h => h.elim) (fun r_11 _ t H locs ht hvm hwr_11 hB hz hk hS => ?_)
    have hT : TH E (T1 E) G [] H := hT.kept (fun q hq => hk q hq (fun h => h))
    have hr_8 := hr_8.kept (hk _ hr_8.lt (fun h => h))
    have ha_10 := ha_10.kept (hk _ ha_10.lt (fun h => h))
    have hzr_11 := s_rng hwr_11.1
    refine lv_if_eq (tgt := 65) hx hb dX7_answer_48 (by decide) (fun c_12 => ?_) (fun c_12 => ?_)
    · simp only [lt_I, le_I, eq_I, i_0, i_1, i_2, i_3, i_4, i_5, i_6, i_7, i_8, i_10, i_12, i_16, i_20, i_23, i_24, i_31, i_32, i_63, i_64, i_m1] at c_12
      exact W.vret hx hb hr (fun t ht hW => ⟨⟨(), rfl, trivial, (by show TH E (T1 E) G [] t.heap; rw [ht]; exact hT)⟩, hS.F ht⟩) hS.2.2 dX7_answer_65
    · simp only [lt_I, le_I, eq_I, i_0, i_1, i_2, i_3, i_4, i_5, i_6, i_7, i_8, i_10, i_12, i_16, i_20, i_23, i_24, i_31, i_32, i_63, i_64, i_m1] at c_12
      refine lv_aload_n hx hb dX7_answer_51 rfl (lv_at hl 1 rfl) ?_
      refine va_get (D := DG E) (ci := 7) (v := .ref v6_2) (C := RX7) (T := TX7) (N := 14) hx hb hts iw_X7 hown hK.1 (va_one hr_8) 0 rfl rfl 6 (by decide) (hts _ fl_X7_41) (fun _ h9 => h9) rfl dX7_answer_52 ?_
      refine lv_iconst (v := 0) hx hb dX7_answer_55 (by decide) ?_
      refine va_callv (rnV (fun H => TH E (T1 E) G [] H ∧ va_at (DG E) vwCl (v6_2, .inr (5, [.int v0_10, .ref v1_10, .ref v2_10, .int v3_10, .int v4_10, .int v5_10])) H) (As := [.int 0]) (rest := []) ⟨hx, hb, hml, hown, hts⟩ (t_X5_completeFirst l E z0 G hGz v6_2 0 hg6_2 v0_10 v1_10 v2_10 v3_10 v4_10 v5_10 hg1_10 hg2_10 (by omega) (by omega) (by have := i_0; first | omega | decide)) (cwV 1 hts (gdV ml_X7_187 im_X5_completeFirst se_X5_X5_completeFirst in_X5 co_X5_completeFirst rfl) rfl rfl rfl (by decide +kernel) ⟨Nat.le_of_ble_eq_true rfl, Nat.le_of_ble_eq_true rfl⟩) ⟨hT, ha_10⟩ (fun U hU hW => hK.go hW hS hAz hU) (va_recv hK.1 (va_one ha_10) (ci := 5) (q0 := 0) rfl rfl) rfl rfl hl.1 rfl (lv_room (Nat.le_of_ble_eq_true rfl)) dX7_answer_56 ⟨Nat.le_of_ble_eq_true rfl, Nat.le_of_ble_eq_true rfl⟩) hS (fun q _ h => mL (L' := [5, 15, 11]) (L := [9, 11, 5, 15]) (by decide) h) (fun q h => mL (L' := [5, 15, 11]) (L := [9, 11, 5, 15]) (by decide) h) (fun _ t H locs ht hvm hwr_13 hB hz hk hS => ?_)
      have hT : TH E (T1 E) G [] H := by rw [ht] at hB; exact hB
      have hr_8 := hr_8.kept (hk _ hr_8.lt (nL hG (by decide)))
      refine lv_iinc (v := 1) (lv' := [(2, .int 1), (0, .ref h0), (1, .int p0)]) hx hb dX7_answer_59 hl (k := 0) rfl (by decide) (by decide) rfl (fun ls hl => ?_)
      refine lv_goto (tgt := 39) hx hb dX7_answer_62 (by decide) ?_
      refine lv_iload_n hx hb dX7_answer_39 rfl (lv_at hl 0 rfl) ?_
      refine lv_iconst (v := 4) hx hb dX7_answer_40 (by decide) ?_
      refine lv_icmp_ge (tgt := 65) hx hb dX7_answer_41 (by decide) (fun c_14 => absurd c_14 (by decide)) (fun c_14 => ?_)
      refine lv_aload_n hx hb dX7_answer_44 rfl (lv_at hl 1 rfl) ?_
      obtain ⟨v0_15, v1_15, v2_15, v3_15, v4_15, v5_15, ha_15, hg1_15, hg2_15, hb3_15, hb4_15⟩ := tr_11 hT hg6_2
      refine va_calli (rnV (fun H => TH E (T1 E) G [] H ∧ va_at (DG E) vwCl (h0, .inr (7, [.int v0_2, .ref v1_2, .ref v2_2, .int v3_2, .int v4_2, .int v5_2, .ref v6_2, .int v7_2, .int x_3, .int v9_2, .int 0, .int 0, .int 0, .int 0])) H ∧ va_at (DG E) vwCl (v6_2, .inr (5, [.int v0_15, .ref v1_15, .ref v2_15, .int v3_15, .int v4_15, .int v5_15])) H) (As := []) (rest := []) ⟨hx, hb, hml, hown, hts⟩ (t_X7_firstIsAnswered l E z0 G hGz h0 hG v0_2 v1_2 v2_2 v3_2 v4_2 v5_2 v6_2 v7_2 x_3 v9_2 0 0 0 0 hg1_2 hg2_2 hg6_2 (by omega) v0_15 v1_15 v2_15 v3_15 v4_15 v5_15 hg1_15 hg2_15 (by omega) (by omega)) (cwV 0 hts (gdV ml_X7_184 im_X7_firstIsAnswered se_X7_X7_firstIsAnswered in_X7 co_X7_firstIsAnswered rfl) rfl rfl rfl (by decide +kernel) ⟨Nat.le_of_ble_eq_true rfl, Nat.le_of_ble_eq_true rfl⟩) ⟨hT, hr_8, ha_15⟩ (fun U hU hW => hK.go hW hS hAz hU) (va_recv hK.1 (va_one hr_8) (ci := 7) (q0 := 0) rfl rfl) rfl rfl hl.1 rfl (lv_room (Nat.le_of_ble_eq_true rfl)) dX7_answer_45 ⟨Nat.le_of_ble_eq_true rfl, Nat.le_of_ble_eq_true rfl⟩) hS (fun q _ h => h.elim) (fun q h => h.elim) (fun r_16 _ t H locs ht hvm hwr_16 hB hz hk hS => ?_)
      have hT : TH E (T1 E) G [] H := hT.kept (fun q hq => hk q hq (fun h => h))
      have hr_8 := hr_8.kept (hk _ hr_8.lt (fun h => h))
      have ha_15 := ha_15.kept (hk _ ha_15.lt (fun h => h))
      have hzr_16 := s_rng hwr_16.1
      refine lv_if_eq (tgt := 65) hx hb dX7_answer_48 (by decide) (fun c_17 => ?_) (fun c_17 => ?_)
      · simp only [lt_I, le_I, eq_I, i_0, i_1, i_2, i_3, i_4, i_5, i_6, i_7, i_8, i_10, i_12, i_16, i_20, i_23, i_24, i_31, i_32, i_63, i_64, i_m1] at c_17
        exact W.vret hx hb hr (fun t ht hW => ⟨⟨(), rfl, trivial, (by show TH E (T1 E) G [] t.heap; rw [ht]; exact hT)⟩, hS.F ht⟩) hS.2.2 dX7_answer_65
      · simp only [lt_I, le_I, eq_I, i_0, i_1, i_2, i_3, i_4, i_5, i_6, i_7, i_8, i_10, i_12, i_16, i_20, i_23, i_24, i_31, i_32, i_63, i_64, i_m1] at c_17
        refine lv_aload_n hx hb dX7_answer_51 rfl (lv_at hl 1 rfl) ?_
        refine va_get (D := DG E) (ci := 7) (v := .ref v6_2) (C := RX7) (T := TX7) (N := 14) hx hb hts iw_X7 hown hK.1 (va_one hr_8) 0 rfl rfl 6 (by decide) (hts _ fl_X7_41) (fun _ h9 => h9) rfl dX7_answer_52 ?_
        refine lv_iconst (v := 0) hx hb dX7_answer_55 (by decide) ?_
        refine va_callv (rnV (fun H => TH E (T1 E) G [] H ∧ va_at (DG E) vwCl (v6_2, .inr (5, [.int v0_15, .ref v1_15, .ref v2_15, .int v3_15, .int v4_15, .int v5_15])) H) (As := [.int 0]) (rest := []) ⟨hx, hb, hml, hown, hts⟩ (t_X5_completeFirst l E z0 G hGz v6_2 0 hg6_2 v0_15 v1_15 v2_15 v3_15 v4_15 v5_15 hg1_15 hg2_15 (by omega) (by omega) (by have := i_0; first | omega | decide)) (cwV 1 hts (gdV ml_X7_187 im_X5_completeFirst se_X5_X5_completeFirst in_X5 co_X5_completeFirst rfl) rfl rfl rfl (by decide +kernel) ⟨Nat.le_of_ble_eq_true rfl, Nat.le_of_ble_eq_true rfl⟩) ⟨hT, ha_15⟩ (fun U hU hW => hK.go hW hS hAz hU) (va_recv hK.1 (va_one ha_15) (ci := 5) (q0 := 0) rfl rfl) rfl rfl hl.1 rfl (lv_room (Nat.le_of_ble_eq_true rfl)) dX7_answer_56 ⟨Nat.le_of_ble_eq_true rfl, Nat.le_of_ble_eq_true rfl⟩) hS (fun q _ h => mL (L' := [5, 15, 11]) (L := [9, 11, 5, 15]) (by decide) h) (fun q h => mL (L' := [5, 15, 11]) (L := [9, 11, 5, 15]) (by decide) h) (fun _ t H locs ht hvm hwr_18 hB hz hk hS => ?_)
        have hT : TH E (T1 E) G [] H := by rw [ht] at hB; exact hB
        have hr_8 := hr_8.kept (hk _ hr_8.lt (nL hG (by decide)))
        refine lv_iinc (v := 2) (lv' := [(2, .int 2), (0, .ref h0), (1, .int p0)]) hx hb dX7_answer_59 hl (k := 0) rfl (by decide) (by decide) rfl (fun ls hl => ?_)
        refine lv_goto (tgt := 39) hx hb dX7_answer_62 (by decide) ?_
        refine lv_iload_n hx hb dX7_answer_39 rfl (lv_at hl 0 rfl) ?_
        refine lv_iconst (v := 4) hx hb dX7_answer_40 (by decide) ?_
        refine lv_icmp_ge (tgt := 65) hx hb dX7_answer_41 (by decide) (fun c_19 => absurd c_19 (by decide)) (fun c_19 => ?_)
        refine lv_aload_n hx hb dX7_answer_44 rfl (lv_at hl 1 rfl) ?_
        obtain ⟨v0_20, v1_20, v2_20, v3_20, v4_20, v5_20, ha_20, hg1_20, hg2_20, hb3_20, hb4_20⟩ := tr_11 hT hg6_2
        refine va_calli (rnV (fun H => TH E (T1 E) G [] H ∧ va_at (DG E) vwCl (h0, .inr (7, [.int v0_2, .ref v1_2, .ref v2_2, .int v3_2, .int v4_2, .int v5_2, .ref v6_2, .int v7_2, .int x_3, .int v9_2, .int 0, .int 0, .int 0, .int 0])) H ∧ va_at (DG E) vwCl (v6_2, .inr (5, [.int v0_20, .ref v1_20, .ref v2_20, .int v3_20, .int v4_20, .int v5_20])) H) (As := []) (rest := []) ⟨hx, hb, hml, hown, hts⟩ (t_X7_firstIsAnswered l E z0 G hGz h0 hG v0_2 v1_2 v2_2 v3_2 v4_2 v5_2 v6_2 v7_2 x_3 v9_2 0 0 0 0 hg1_2 hg2_2 hg6_2 (by omega) v0_20 v1_20 v2_20 v3_20 v4_20 v5_20 hg1_20 hg2_20 (by omega) (by omega)) (cwV 0 hts (gdV ml_X7_184 im_X7_firstIsAnswered se_X7_X7_firstIsAnswered in_X7 co_X7_firstIsAnswered rfl) rfl rfl rfl (by decide +kernel) ⟨Nat.le_of_ble_eq_true rfl, Nat.le_of_ble_eq_true rfl⟩) ⟨hT, hr_8, ha_20⟩ (fun U hU hW => hK.go hW hS hAz hU) (va_recv hK.1 (va_one hr_8) (ci := 7) (q0 := 0) rfl rfl) rfl rfl hl.1 rfl (lv_room (Nat.le_of_ble_eq_true rfl)) dX7_answer_45 ⟨Nat.le_of_ble_eq_true rfl, Nat.le_of_ble_eq_true rfl⟩) hS (fun q _ h => h.elim) (fun q h => h.elim) (fun r_21 _ t H locs ht hvm hwr_21 hB hz hk hS => ?_)
        have hT : TH E (T1 E) G [] H := hT.kept (fun q hq => hk q hq (fun h => h))
        have hr_8 := hr_8.kept (hk _ hr_8.lt (fun h => h))
        have ha_20 := ha_20.kept (hk _ ha_20.lt (fun h => h))
        have hzr_21 := s_rng hwr_21.1
        refine lv_if_eq (tgt := 65) hx hb dX7_answer_48 (by decide) (fun c_22 => ?_) (fun c_22 => ?_)
        · simp only [lt_I, le_I, eq_I, i_0, i_1, i_2, i_3, i_4, i_5, i_6, i_7, i_8, i_10, i_12, i_16, i_20, i_23, i_24, i_31, i_32, i_63, i_64, i_m1] at c_22
          exact W.vret hx hb hr (fun t ht hW => ⟨⟨(), rfl, trivial, (by show TH E (T1 E) G [] t.heap; rw [ht]; exact hT)⟩, hS.F ht⟩) hS.2.2 dX7_answer_65
        · simp only [lt_I, le_I, eq_I, i_0, i_1, i_2, i_3, i_4, i_5, i_6, i_7, i_8, i_10, i_12, i_16, i_20, i_23, i_24, i_31, i_32, i_63, i_64, i_m1] at c_22
          refine lv_aload_n hx hb dX7_answer_51 rfl (lv_at hl 1 rfl) ?_
          refine va_get (D := DG E) (ci := 7) (v := .ref v6_2) (C := RX7) (T := TX7) (N := 14) hx hb hts iw_X7 hown hK.1 (va_one hr_8) 0 rfl rfl 6 (by decide) (hts _ fl_X7_41) (fun _ h9 => h9) rfl dX7_answer_52 ?_
          refine lv_iconst (v := 0) hx hb dX7_answer_55 (by decide) ?_
          refine va_callv (rnV (fun H => TH E (T1 E) G [] H ∧ va_at (DG E) vwCl (v6_2, .inr (5, [.int v0_20, .ref v1_20, .ref v2_20, .int v3_20, .int v4_20, .int v5_20])) H) (As := [.int 0]) (rest := []) ⟨hx, hb, hml, hown, hts⟩ (t_X5_completeFirst l E z0 G hGz v6_2 0 hg6_2 v0_20 v1_20 v2_20 v3_20 v4_20 v5_20 hg1_20 hg2_20 (by omega) (by omega) (by have := i_0; first | omega | decide)) (cwV 1 hts (gdV ml_X7_187 im_X5_completeFirst se_X5_X5_completeFirst in_X5 co_X5_completeFirst rfl) rfl rfl rfl (by decide +kernel) ⟨Nat.le_of_ble_eq_true rfl, Nat.le_of_ble_eq_true rfl⟩) ⟨hT, ha_20⟩ (fun U hU hW => hK.go hW hS hAz hU) (va_recv hK.1 (va_one ha_20) (ci := 5) (q0 := 0) rfl rfl) rfl rfl hl.1 rfl (lv_room (Nat.le_of_ble_eq_true rfl)) dX7_answer_56 ⟨Nat.le_of_ble_eq_true rfl, Nat.le_of_ble_eq_true rfl⟩) hS (fun q _ h => mL (L' := [5, 15, 11]) (L := [9, 11, 5, 15]) (by decide) h) (fun q h => mL (L' := [5, 15, 11]) (L := [9, 11, 5, 15]) (by decide) h) (fun _ t H locs ht hvm hwr_23 hB hz hk hS => ?_)
          have hT : TH E (T1 E) G [] H := by rw [ht] at hB; exact hB
          have hr_8 := hr_8.kept (hk _ hr_8.lt (nL hG (by decide)))
          refine lv_iinc (v := 3) (lv' := [(2, .int 3), (0, .ref h0), (1, .int p0)]) hx hb dX7_answer_59 hl (k := 0) rfl (by decide) (by decide) rfl (fun ls hl => ?_)
          refine lv_goto (tgt := 39) hx hb dX7_answer_62 (by decide) ?_
          refine lv_iload_n hx hb dX7_answer_39 rfl (lv_at hl 0 rfl) ?_
          refine lv_iconst (v := 4) hx hb dX7_answer_40 (by decide) ?_
          refine lv_icmp_ge (tgt := 65) hx hb dX7_answer_41 (by decide) (fun c_24 => absurd c_24 (by decide)) (fun c_24 => ?_)
          refine lv_aload_n hx hb dX7_answer_44 rfl (lv_at hl 1 rfl) ?_
          obtain ⟨v0_25, v1_25, v2_25, v3_25, v4_25, v5_25, ha_25, hg1_25, hg2_25, hb3_25, hb4_25⟩ := tr_11 hT hg6_2
          refine va_calli (rnV (fun H => TH E (T1 E) G [] H ∧ va_at (DG E) vwCl (h0, .inr (7, [.int v0_2, .ref v1_2, .ref v2_2, .int v3_2, .int v4_2, .int v5_2, .ref v6_2, .int v7_2, .int x_3, .int v9_2, .int 0, .int 0, .int 0, .int 0])) H ∧ va_at (DG E) vwCl (v6_2, .inr (5, [.int v0_25, .ref v1_25, .ref v2_25, .int v3_25, .int v4_25, .int v5_25])) H) (As := []) (rest := []) ⟨hx, hb, hml, hown, hts⟩ (t_X7_firstIsAnswered l E z0 G hGz h0 hG v0_2 v1_2 v2_2 v3_2 v4_2 v5_2 v6_2 v7_2 x_3 v9_2 0 0 0 0 hg1_2 hg2_2 hg6_2 (by omega) v0_25 v1_25 v2_25 v3_25 v4_25 v5_25 hg1_25 hg2_25 (by omega) (by omega)) (cwV 0 hts (gdV ml_X7_184 im_X7_firstIsAnswered se_X7_X7_firstIsAnswered in_X7 co_X7_firstIsAnswered rfl) rfl rfl rfl (by decide +kernel) ⟨Nat.le_of_ble_eq_true rfl, Nat.le_of_ble_eq_true rfl⟩) ⟨hT, hr_8, ha_25⟩ (fun U hU hW => hK.go hW hS hAz hU) (va_recv hK.1 (va_one hr_8) (ci := 7) (q0 := 0) rfl rfl) rfl rfl hl.1 rfl (lv_room (Nat.le_of_ble_eq_true rfl)) dX7_answer_45 ⟨Nat.le_of_ble_eq_true rfl, Nat.le_of_ble_eq_true rfl⟩) hS (fun q _ h => h.elim) (fun q h => h.elim) (fun r_26 _ t H locs ht hvm hwr_26 hB hz hk hS => ?_)
          have hT : TH E (T1 E) G [] H := hT.kept (fun q hq => hk q hq (fun h => h))
          have hr_8 := hr_8.kept (hk _ hr_8.lt (fun h => h))
          have ha_25 := ha_25.kept (hk _ ha_25.lt (fun h => h))
          have hzr_26 := s_rng hwr_26.1
          refine lv_if_eq (tgt := 65) hx hb dX7_answer_48 (by decide) (fun c_27 => ?_) (fun c_27 => ?_)
          · simp only [lt_I, le_I, eq_I, i_0, i_1, i_2, i_3, i_4, i_5, i_6, i_7, i_8, i_10, i_12, i_16, i_20, i_23, i_24, i_31, i_32, i_63, i_64, i_m1] at c_27
            exact W.vret hx hb hr (fun t ht hW => ⟨⟨(), rfl, trivial, (by show TH E (T1 E) G [] t.heap; rw [ht]; exact hT)⟩, hS.F ht⟩) hS.2.2 dX7_answer_65
          · simp only [lt_I, le_I, eq_I, i_0, i_1, i_2, i_3, i_4, i_5, i_6, i_7, i_8, i_10, i_12, i_16, i_20, i_23, i_24, i_31, i_32, i_63, i_64, i_m1] at c_27
            refine lv_aload_n hx hb dX7_answer_51 rfl (lv_at hl 1 rfl) ?_
            refine va_get (D := DG E) (ci := 7) (v := .ref v6_2) (C := RX7) (T := TX7) (N := 14) hx hb hts iw_X7 hown hK.1 (va_one hr_8) 0 rfl rfl 6 (by decide) (hts _ fl_X7_41) (fun _ h9 => h9) rfl dX7_answer_52 ?_
            refine lv_iconst (v := 0) hx hb dX7_answer_55 (by decide) ?_
            refine va_callv (rnV (fun H => TH E (T1 E) G [] H ∧ va_at (DG E) vwCl (v6_2, .inr (5, [.int v0_25, .ref v1_25, .ref v2_25, .int v3_25, .int v4_25, .int v5_25])) H) (As := [.int 0]) (rest := []) ⟨hx, hb, hml, hown, hts⟩ (t_X5_completeFirst l E z0 G hGz v6_2 0 hg6_2 v0_25 v1_25 v2_25 v3_25 v4_25 v5_25 hg1_25 hg2_25 (by omega) (by omega) (by have := i_0; first | omega | decide)) (cwV 1 hts (gdV ml_X7_187 im_X5_completeFirst se_X5_X5_completeFirst in_X5 co_X5_completeFirst rfl) rfl rfl rfl (by decide +kernel) ⟨Nat.le_of_ble_eq_true rfl, Nat.le_of_ble_eq_true rfl⟩) ⟨hT, ha_25⟩ (fun U hU hW => hK.go hW hS hAz hU) (va_recv hK.1 (va_one ha_25) (ci := 5) (q0 := 0) rfl rfl) rfl rfl hl.1 rfl (lv_room (Nat.le_of_ble_eq_true rfl)) dX7_answer_56 ⟨Nat.le_of_ble_eq_true rfl, Nat.le_of_ble_eq_true rfl⟩) hS (fun q _ h => mL (L' := [5, 15, 11]) (L := [9, 11, 5, 15]) (by decide) h) (fun q h => mL (L' := [5, 15, 11]) (L := [9, 11, 5, 15]) (by decide) h) (fun _ t H locs ht hvm hwr_28 hB hz hk hS => ?_)
            have hT : TH E (T1 E) G [] H := by rw [ht] at hB; exact hB
            have hr_8 := hr_8.kept (hk _ hr_8.lt (nL hG (by decide)))
            refine lv_iinc (v := 4) (lv' := [(2, .int 4), (0, .ref h0), (1, .int p0)]) hx hb dX7_answer_59 hl (k := 0) rfl (by decide) (by decide) rfl (fun ls hl => ?_)
            refine lv_goto (tgt := 39) hx hb dX7_answer_62 (by decide) ?_
            refine lv_iload_n hx hb dX7_answer_39 rfl (lv_at hl 0 rfl) ?_
            refine lv_iconst (v := 4) hx hb dX7_answer_40 (by decide) ?_
            refine lv_icmp_ge (tgt := 65) hx hb dX7_answer_41 (by decide) (fun c_29 => ?_) (fun c_29 => absurd c_29 (by decide))
            exact W.vret hx hb hr (fun t ht hW => ⟨⟨(), rfl, trivial, (by show TH E (T1 E) G [] t.heap; rw [ht]; exact hT)⟩, hS.F ht⟩) hS.2.2 dX7_answer_65
  · simp only [lt_I, le_I, eq_I, i_0, i_1, i_2, i_3, i_4, i_5, i_6, i_7, i_8, i_10, i_12, i_16, i_20, i_23, i_24, i_31, i_32, i_63, i_64, i_m1] at c_1
    exact W.vret hx hb hr (fun t ht hW => ⟨⟨(), rfl, trivial, (by show TH E (T1 E) G [] t.heap; rw [ht]; exact hT)⟩, hS.F ht⟩) hS.2.2 dX7_answer_4
theorem dX7_takeAck_0 : decode cX7_takeAck 0 = .ok (.aload_n 0, 1) := by decide +kernel
theorem dX7_takeAck_1 : decode cX7_takeAck 1 = .ok (.iload_n 1, 1) := by decide +kernel
theorem dX7_takeAck_2 : decode cX7_takeAck 2 = .ok (.invokevirtual 156, 3) := by decide +kernel
theorem dX7_takeAck_5 : decode cX7_takeAck 5 = .ok (.ifCond .ne 4, 3) := by decide +kernel
theorem dX7_takeAck_8 : decode cX7_takeAck 8 = .ok (.return_, 1) := by decide +kernel
theorem dX7_takeAck_9 : decode cX7_takeAck 9 = .ok (.aload_n 0, 1) := by decide +kernel
theorem dX7_takeAck_10 : decode cX7_takeAck 10 = .ok (.getfield 68, 3) := by decide +kernel
theorem dX7_takeAck_13 : decode cX7_takeAck 13 = .ok (.iload_n 1, 1) := by decide +kernel
theorem dX7_takeAck_14 : decode cX7_takeAck 14 = .ok (.invokestatic 112, 3) := by decide +kernel
theorem dX7_takeAck_17 : decode cX7_takeAck 17 = .ok (.iconst 1, 1) := by decide +kernel
theorem dX7_takeAck_18 : decode cX7_takeAck 18 = .ok (.iadd, 1) := by decide +kernel
theorem dX7_takeAck_19 : decode cX7_takeAck 19 = .ok (.istore_n 2, 1) := by decide +kernel
theorem dX7_takeAck_20 : decode cX7_takeAck 20 = .ok (.iconst 0, 1) := by decide +kernel
theorem dX7_takeAck_21 : decode cX7_takeAck 21 = .ok (.istore_n 3, 1) := by decide +kernel
theorem dX7_takeAck_22 : decode cX7_takeAck 22 = .ok (.iload_n 3, 1) := by decide +kernel
theorem dX7_takeAck_23 : decode cX7_takeAck 23 = .ok (.iload_n 2, 1) := by decide +kernel
theorem dX7_takeAck_24 : decode cX7_takeAck 24 = .ok (.if_icmp .ge 24, 3) := by decide +kernel
theorem dX7_takeAck_27 : decode cX7_takeAck 27 = .ok (.aload_n 0, 1) := by decide +kernel
theorem dX7_takeAck_28 : decode cX7_takeAck 28 = .ok (.aload_n 0, 1) := by decide +kernel
theorem dX7_takeAck_29 : decode cX7_takeAck 29 = .ok (.getfield 68, 3) := by decide +kernel
theorem dX7_takeAck_32 : decode cX7_takeAck 32 = .ok (.iload_n 3, 1) := by decide +kernel
theorem dX7_takeAck_33 : decode cX7_takeAck 33 = .ok (.invokestatic 98, 3) := by decide +kernel
theorem dX7_takeAck_36 : decode cX7_takeAck 36 = .ok (.invokevirtual 159, 3) := by decide +kernel
theorem dX7_takeAck_39 : decode cX7_takeAck 39 = .ok (.ifCond .ne 9, 3) := by decide +kernel
theorem dX7_takeAck_42 : decode cX7_takeAck 42 = .ok (.iinc 3 1, 3) := by decide +kernel
theorem dX7_takeAck_45 : decode cX7_takeAck 45 = .ok (.goto (-23), 3) := by decide +kernel
theorem dX7_takeAck_48 : decode cX7_takeAck 48 = .ok (.aload_n 0, 1) := by decide +kernel
theorem dX7_takeAck_49 : decode cX7_takeAck 49 = .ok (.iload_n 3, 1) := by decide +kernel
theorem dX7_takeAck_50 : decode cX7_takeAck 50 = .ok (.invokevirtual 162, 3) := by decide +kernel
theorem dX7_takeAck_53 : decode cX7_takeAck 53 = .ok (.return_, 1) := by decide +kernel
set_option maxHeartbeats 8000000 in
set_option maxRecDepth 100000 in
theorem t_X7_takeAck (l : Launch) (E : EE) (z0 : Nat) (G : Nat → Nat) (hGz : ∀ q, G q ≠ 0 → z0 ≤ q) (h0 : Nat) (p0 : Int32) (hG : G h0 = 9) : Met l yX7_takeAck [Cond.code yX7_takeAck cX7_takeAck 4 none] ({ frames := 3, cells := 0, slots := 0, locals := 67 } : Room) (va_Pc [.ref h0, .int p0] (fun U => (TH E (T1 E) G [] U.heap) ∧ KS E z0 U)) (va_Qv (fun (_ : Unit) => True) (fun _ t => TH E (T1 E) G [] t.heap) (fun q : Nat => G q ∈ ([9, 11, 5, 15] : List Nat))) 0 0 (fun q : Nat => G q ∈ ([9, 11, 5, 15] : List Nat)) := by
  refine Met.ofW (cc := cX7_takeAck) (maxL := 4) (ret := none) (by decide) rfl ?_
  intro p e s m args below meth c s₁ B hml hv
  obtain ⟨rfl, hT, hK⟩ := hv
  have hx := B.exec
  have hb := B.bytes
  have hr := B.returns
  have hts : ∀ w ∈ TS, w.before ([.ref h0, .int p0] : List Value).toArray s = true := fun w hw => hK.2.1 w hw _
  have hown : s.vm.findClass RX7 = some m.cls := findClass_of_methodNamed B.named
  have hlocks := B.notSynchronized
  have hS : va_S (fun q : Nat => G q ∈ ([9, 11, 5, 15] : List Nat)) s.heap s.heap [] := va_S.rf
  have hAz : ∀ q, (fun q : Nat => G q ∈ ([9, 11, 5, 15] : List Nat)) q → z0 ≤ q := zL hGz (by decide)
  have hl := lv_entry ([.ref h0, .int p0]) (n := 4) (Nat.le_of_ble_eq_true rfl)
  rw [lg_entry_eq]
  generalize (lg_sl ([.ref h0, .int p0]) ++ List.replicate (4 - (lg_sl ([.ref h0, .int p0])).length) Slot.unset).toArray = ls at hl ⊢
  have hl : lv_has ls 4 [(0, .ref h0), (1, .int p0)] := hl
  refine lv_aload_n hx hb dX7_takeAck_0 rfl (lv_at hl 0 rfl) ?_
  refine lv_iload_n hx hb dX7_takeAck_1 rfl (lv_at hl 1 rfl) ?_
  obtain ⟨v0_1, v1_1, v2_1, v3_1, v4_1, v5_1, v6_1, v7_1, v8_1, v9_1, v10_1, v11_1, v12_1, v13_1, ha_1, hb0_1, hg1_1, hg2_1, hg6_1⟩ := tr_9 hT hG
  refine va_calli (rnV (fun H => TH E (T1 E) G [] H) (As := [.int p0]) (rest := []) ⟨hx, hb, hml, hown, hts⟩ (t_X7_isOpen l E z0 G hGz h0 p0 hG) (cwV 1 hts (gdV ml_X7_156 im_X7_isOpen se_X7_X7_isOpen in_X7 co_X7_isOpen rfl) rfl rfl rfl (by decide +kernel) ⟨Nat.le_of_ble_eq_true rfl, Nat.le_of_ble_eq_true rfl⟩) hT (fun U hU hW => hK.go hW hS hAz hU) (va_recv hK.1 (va_one ha_1) (ci := 7) (q0 := 0) rfl rfl) rfl rfl hl.1 rfl (lv_room (Nat.le_of_ble_eq_true rfl)) dX7_takeAck_2 ⟨Nat.le_of_ble_eq_true rfl, Nat.le_of_ble_eq_true rfl⟩) hS (fun q _ h => h.elim) (fun q h => h.elim) (fun r_2 _ t H locs ht hvm hwr_2 hB hz hk hS => ?_)
  have hT : TH E (T1 E) G [] H := hT.kept (fun q hq => hk q hq (fun h => h))
  have ha_1 := ha_1.kept (hk _ ha_1.lt (fun h => h))
  have hzr_2 := s_rng hwr_2
  refine lv_if_ne (tgt := 9) hx hb dX7_takeAck_5 (by decide) (fun c_3 => ?_) (fun c_3 => ?_)
  · simp only [lt_I, le_I, eq_I, i_0, i_1, i_2, i_3, i_4, i_5, i_6, i_7, i_8, i_10, i_12, i_16, i_20, i_23, i_24, i_31, i_32, i_63, i_64, i_m1] at c_3
    refine lv_aload_n hx hb dX7_takeAck_9 rfl (lv_at hl 0 rfl) ?_
    refine va_get (D := DG E) (ci := 7) (v := .int v8_1) (C := RX7) (T := TX7) (N := 14) hx hb hts iw_X7 hown hK.1 (va_one ha_1) 0 rfl rfl 8 (by decide) (hts _ fl_X7_68) (fun _ h9 => h9) rfl dX7_takeAck_10 ?_
    refine lv_iload_n hx hb dX7_takeAck_13 rfl (lv_at hl 1 rfl) ?_
    refine rnSN (As := [.int v8_1, .int p0]) (rest := []) ⟨hx, hb, hml, hown, hts⟩ (c_X9_distance l v8_1 p0) ⟨va_cnB (host := RX9) 2 hts (gd1 co_X9_distance rfl) rfl rfl rfl (hK.2.1 _ mn_X7_112 #[]) (hts _ in_X9) (by decide +kernel) ⟨Nat.le_of_ble_eq_true rfl, Nat.le_of_ble_eq_true rfl⟩, hts _ st_X9_distance, trivial⟩ rfl rfl hl.1 rfl (lv_room (Nat.le_of_ble_eq_true rfl)) dX7_takeAck_14 ⟨Nat.le_of_ble_eq_true rfl, Nat.le_of_ble_eq_true rfl⟩ ?_
    refine W.eq (g2 := F0 m 17 ls [.int ((p0 - v8_1) &&& 63)]) (by rfl) ?_
    refine lv_topi (fun x_4 ex_4 => ?_)
    have fx_4 := s_and63 (p0 - v8_1); rw [← ex_4] at fx_4
    refine lv_iconst (v := 1) hx hb dX7_takeAck_17 (by decide) ?_
    refine lv_iadd hx hb dX7_takeAck_18 ?_
    refine lv_topi (fun x_5 ex_5 => ?_)
    have fx_5 : x_5.toInt = x_4.toInt + 1 := by have h9 := s_add (x := x_4) (y := 1) (by rw [i_1]; omega) (by rw [i_1]; omega); rw [i_1] at h9; rw [ex_5]; exact h9
    refine lv_istore_n (lv' := [(2, .int x_5), (0, .ref h0), (1, .int p0)]) hx hb dX7_takeAck_19 rfl hl (by decide) rfl (fun ls hl => ?_)
    refine lv_iconst (v := 0) hx hb dX7_takeAck_20 (by decide) ?_
    refine lv_istore_n (lv' := [(3, .int 0), (2, .int x_5), (0, .ref h0), (1, .int p0)]) hx hb dX7_takeAck_21 rfl hl (by decide) rfl (fun ls hl => ?_)
    refine lp_nat (fun n H locs ls => ∃ i9 : Int32, (0 ≤ i9.toInt ∧ i9.toInt ≤ x_5.toInt) ∧ (x_5.toInt - i9.toInt).toNat = n ∧ TH E (T1 E) G [] H ∧ va_S (fun q : Nat => G q ∈ ([9, 11, 5, 15] : List Nat)) s.heap H locs ∧ lv_has ls 4 [(3, .int i9), (2, .int x_5), (0, .ref h0), (1, .int p0)]) (fun n H locs ls ih hI => ?_) ⟨0, by have := i_0; omega, rfl, hT, hS, hl⟩
    obtain ⟨i9, hi9, hn9, hT, hS, hl⟩ := hI
    refine lv_iload_n hx hb dX7_takeAck_22 rfl (lv_at hl 0 rfl) ?_
    refine lv_iload_n hx hb dX7_takeAck_23 rfl (lv_at hl 1 rfl) ?_
    refine lv_icmp_ge (tgt := 48) hx hb dX7_takeAck_24 (by decide) (fun c_6 => ?_) (fun c_6 => ?_)
    · simp only [lt_I, le_I, eq_I, i_0, i_1, i_2, i_3, i_4, i_5, i_6, i_7, i_8, i_10, i_12, i_16, i_20, i_23, i_24, i_31, i_32, i_63, i_64, i_m1] at c_6
      refine lv_aload_n hx hb dX7_takeAck_48 rfl (lv_at hl 2 rfl) ?_
      refine lv_iload_n hx hb dX7_takeAck_49 rfl (lv_at hl 0 rfl) ?_
      obtain ⟨v0_7, v1_7, v2_7, v3_7, v4_7, v5_7, v6_7, v7_7, v8_7, v9_7, v10_7, v11_7, v12_7, v13_7, ha_7, hb0_7, hg1_7, hg2_7, hg6_7⟩ := tr_9 hT hG
      refine va_callv (rnV (fun H => TH E (T1 E) G [] H) (As := [.int i9]) (rest := []) ⟨hx, hb, hml, hown, hts⟩ (t_X7_answer l E z0 G hGz h0 i9 hG) (cwV 1 hts (gdV ml_X7_162 im_X7_answer se_X7_X7_answer in_X7 co_X7_answer rfl) rfl rfl rfl (by decide +kernel) ⟨Nat.le_of_ble_eq_true rfl, Nat.le_of_ble_eq_true rfl⟩) hT (fun U hU hW => hK.go hW hS hAz hU) (va_recv hK.1 (va_one ha_7) (ci := 7) (q0 := 0) rfl rfl) rfl rfl hl.1 rfl (lv_room (Nat.le_of_ble_eq_true rfl)) dX7_takeAck_50 ⟨Nat.le_of_ble_eq_true rfl, Nat.le_of_ble_eq_true rfl⟩) hS (fun q _ h => mL (L' := [9, 11, 5, 15]) (L := [9, 11, 5, 15]) (by decide) h) (fun q h => mL (L' := [9, 11, 5, 15]) (L := [9, 11, 5, 15]) (by decide) h) (fun _ t H locs ht hvm hwr_8 hB hz hk hS => ?_)
      have hT : TH E (T1 E) G [] H := by rw [ht] at hB; exact hB
      exact W.vret hx hb hr (fun t ht hW => ⟨⟨(), rfl, trivial, (by show TH E (T1 E) G [] t.heap; rw [ht]; exact hT)⟩, hS.F ht⟩) hS.2.2 dX7_takeAck_53
    · simp only [lt_I, le_I, eq_I, i_0, i_1, i_2, i_3, i_4, i_5, i_6, i_7, i_8, i_10, i_12, i_16, i_20, i_23, i_24, i_31, i_32, i_63, i_64, i_m1] at c_6
      refine lv_aload_n hx hb dX7_takeAck_27 rfl (lv_at hl 2 rfl) ?_
      refine lv_aload_n hx hb dX7_takeAck_28 rfl (lv_at hl 2 rfl) ?_
      obtain ⟨v0_9, v1_9, v2_9, v3_9, v4_9, v5_9, v6_9, v7_9, v8_9, v9_9, v10_9, v11_9, v12_9, v13_9, ha_9, hb0_9, hg1_9, hg2_9, hg6_9⟩ := tr_9 hT hG
      refine va_get (D := DG E) (ci := 7) (v := .int v8_9) (C := RX7) (T := TX7) (N := 14) hx hb hts iw_X7 hown hK.1 (va_one ha_9) 0 rfl rfl 8 (by decide) (hts _ fl_X7_68) (fun _ h9 => h9) rfl dX7_takeAck_29 ?_
      refine lv_iload_n hx hb dX7_takeAck_32 rfl (lv_at hl 0 rfl) ?_
      refine rnSN (As := [.int v8_9, .int i9]) (rest := [.ref h0]) ⟨hx, hb, hml, hown, hts⟩ (c_X9_after l v8_9 i9) ⟨va_cnB (host := RX9) 2 hts (gd1 co_X9_after rfl) rfl rfl rfl (hK.2.1 _ mn_X7_98 #[]) (hts _ in_X9) (by decide +kernel) ⟨Nat.le_of_ble_eq_true rfl, Nat.le_of_ble_eq_true rfl⟩, hts _ st_X9_after, trivial⟩ rfl rfl hl.1 rfl (lv_room (Nat.le_of_ble_eq_true rfl)) dX7_takeAck_33 ⟨Nat.le_of_ble_eq_true rfl, Nat.le_of_ble_eq_true rfl⟩ ?_
      refine W.eq (g2 := F0 m 36 ls [.int ((v8_9 + i9) &&& 63), .ref h0]) (by rfl) ?_
      refine lv_topi (fun x_10 ex_10 => ?_)
      have fx_10 := s_and63 (v8_9 + i9); rw [← ex_10] at fx_10
      refine va_calli (rnV (fun H => TH E (T1 E) G [] H) (As := [.int x_10]) (rest := []) ⟨hx, hb, hml, hown, hts⟩ (t_X7_awaitsReply l E z0 G hGz h0 x_10 hG) (cwV 1 hts (gdV ml_X7_159 im_X7_awaitsReply se_X7_X7_awaitsReply in_X7 co_X7_awaitsReply rfl) rfl rfl rfl (by decide +kernel) ⟨Nat.le_of_ble_eq_true rfl, Nat.le_of_ble_eq_true rfl⟩) hT (fun U hU hW => hK.go hW hS hAz hU) (va_recv hK.1 (va_one ha_9) (ci := 7) (q0 := 0) rfl rfl) rfl rfl hl.1 rfl (lv_room (Nat.le_of_ble_eq_true rfl)) dX7_takeAck_36 ⟨Nat.le_of_ble_eq_true rfl, Nat.le_of_ble_eq_true rfl⟩) hS (fun q _ h => h.elim) (fun q h => h.elim) (fun r_11 _ t H locs ht hvm hwr_11 hB hz hk hS => ?_)
      have hT : TH E (T1 E) G [] H := hT.kept (fun q hq => hk q hq (fun h => h))
      have ha_9 := ha_9.kept (hk _ ha_9.lt (fun h => h))
      have hzr_11 := s_rng hwr_11
      refine lv_if_ne (tgt := 48) hx hb dX7_takeAck_39 (by decide) (fun c_12 => ?_) (fun c_12 => ?_)
      · simp only [lt_I, le_I, eq_I, i_0, i_1, i_2, i_3, i_4, i_5, i_6, i_7, i_8, i_10, i_12, i_16, i_20, i_23, i_24, i_31, i_32, i_63, i_64, i_m1] at c_12
        refine lv_aload_n hx hb dX7_takeAck_48 rfl (lv_at hl 2 rfl) ?_
        refine lv_iload_n hx hb dX7_takeAck_49 rfl (lv_at hl 0 rfl) ?_
        refine va_callv (rnV (fun H => TH E (T1 E) G [] H) (As := [.int i9]) (rest := []) ⟨hx, hb, hml, hown, hts⟩ (t_X7_answer l E z0 G hGz h0 i9 hG) (cwV 1 hts (gdV ml_X7_162 im_X7_answer se_X7_X7_answer in_X7 co_X7_answer rfl) rfl rfl rfl (by decide +kernel) ⟨Nat.le_of_ble_eq_true rfl, Nat.le_of_ble_eq_true rfl⟩) hT (fun U hU hW => hK.go hW hS hAz hU) (va_recv hK.1 (va_one ha_9) (ci := 7) (q0 := 0) rfl rfl) rfl rfl hl.1 rfl (lv_room (Nat.le_of_ble_eq_true rfl)) dX7_takeAck_50 ⟨Nat.le_of_ble_eq_true rfl, Nat.le_of_ble_eq_true rfl⟩) hS (fun q _ h => mL (L' := [9, 11, 5, 15]) (L := [9, 11, 5, 15]) (by decide) h) (fun q h => mL (L' := [9, 11, 5, 15]) (L := [9, 11, 5, 15]) (by decide) h) (fun _ t H locs ht hvm hwr_13 hB hz hk hS => ?_)
        have hT : TH E (T1 E) G [] H := by rw [ht] at hB; exact hB
        exact W.vret hx hb hr (fun t ht hW => ⟨⟨(), rfl, trivial, (by show TH E (T1 E) G [] t.heap; rw [ht]; exact hT)⟩, hS.F ht⟩) hS.2.2 dX7_takeAck_53
      · simp only [lt_I, le_I, eq_I, i_0, i_1, i_2, i_3, i_4, i_5, i_6, i_7, i_8, i_10, i_12, i_16, i_20, i_23, i_24, i_31, i_32, i_63, i_64, i_m1] at c_12
        obtain ⟨x_14, ex_14⟩ : ∃ z : Int32, i9 + Int32.ofInt 1 = z := ⟨_, rfl⟩
        have fx_14 : x_14.toInt = i9.toInt + 1 := by have h9 := s_add (x := i9) (y := 1) (by rw [i_1]; omega) (by rw [i_1]; omega); rw [i_1] at h9; rw [← ex_14]; exact h9
        refine lv_iinc (v := x_14) (lv' := [(3, .int x_14), (2, .int x_5), (0, .ref h0), (1, .int p0)]) hx hb dX7_takeAck_42 hl (k := 0) rfl ex_14 (by decide) rfl (fun ls hl => ?_)
        refine lv_goto (tgt := 22) hx hb dX7_takeAck_45 (by decide) ?_
        exact ih _ (by omega) _ _ _ ⟨x_14, by omega, rfl, hT, hS, hl⟩
  · simp only [lt_I, le_I, eq_I, i_0, i_1, i_2, i_3, i_4, i_5, i_6, i_7, i_8, i_10, i_12, i_16, i_20, i_23, i_24, i_31, i_32, i_63, i_64, i_m1] at c_3
    exact W.vret hx hb hr (fun t ht hW => ⟨⟨(), rfl, trivial, (by show TH E (T1 E) G [] t.heap; rw [ht]; exact hT)⟩, hS.F ht⟩) hS.2.2 dX7_takeAck_8
theorem dX7_rest_0 : decode cX7_rest 0 = .ok (.aload_n 0, 1) := by decide +kernel
theorem dX7_rest_1 : decode cX7_rest 1 = .ok (.iconst 1, 1) := by decide +kernel
theorem dX7_rest_2 : decode cX7_rest 2 = .ok (.putfield 61, 3) := by decide +kernel
theorem dX7_rest_5 : decode cX7_rest 5 = .ok (.aload_n 0, 1) := by decide +kernel
theorem dX7_rest_6 : decode cX7_rest 6 = .ok (.iconst 0, 1) := by decide +kernel
theorem dX7_rest_7 : decode cX7_rest 7 = .ok (.putfield 52, 3) := by decide +kernel
theorem dX7_rest_10 : decode cX7_rest 10 = .ok (.aload_n 0, 1) := by decide +kernel
theorem dX7_rest_11 : decode cX7_rest 11 = .ok (.dup, 1) := by decide +kernel
theorem dX7_rest_12 : decode cX7_rest 12 = .ok (.getfield 58, 3) := by decide +kernel
theorem dX7_rest_15 : decode cX7_rest 15 = .ok (.iconst 1, 1) := by decide +kernel
theorem dX7_rest_16 : decode cX7_rest 16 = .ok (.iadd, 1) := by decide +kernel
theorem dX7_rest_17 : decode cX7_rest 17 = .ok (.putfield 58, 3) := by decide +kernel
theorem dX7_rest_20 : decode cX7_rest 20 = .ok (.aload_n 0, 1) := by decide +kernel
theorem dX7_rest_21 : decode cX7_rest 21 = .ok (.getfield 58, 3) := by decide +kernel
theorem dX7_rest_24 : decode cX7_rest 24 = .ok (.aload_n 0, 1) := by decide +kernel
theorem dX7_rest_25 : decode cX7_rest 25 = .ok (.getfield 33, 3) := by decide +kernel
theorem dX7_rest_28 : decode cX7_rest 28 = .ok (.if_icmp .le 7, 3) := by decide +kernel
theorem dX7_rest_31 : decode cX7_rest 31 = .ok (.iconst 2, 1) := by decide +kernel
theorem dX7_rest_32 : decode cX7_rest 32 = .ok (.goto 4, 3) := by decide +kernel
theorem dX7_rest_35 : decode cX7_rest 35 = .ok (.iconst 0, 1) := by decide +kernel
theorem dX7_rest_36 : decode cX7_rest 36 = .ok (.ireturn, 1) := by decide +kernel
set_option maxHeartbeats 8000000 in
set_option maxRecDepth 100000 in
theorem t_X7_rest (l : Launch) (E : EE) (z0 : Nat) (G : Nat → Nat) (hGz : ∀ q, G q ≠ 0 → z0 ≤ q) (h0 : Nat) (hG : G h0 = 9) : Met l yX7_rest [Cond.code yX7_rest cX7_rest 1 (some .int)] ({ frames := 0, cells := 0, slots := 0, locals := 0 } : Room) (va_Pc [.ref h0] (fun U => (TH E (T1 E) G [] U.heap) ∧ KS E z0 U)) (va_Qi (fun (r : Int32) (_ : Unit) => True) (fun _ t => TH E (T1 E) G [] t.heap) (fun q : Nat => G q ∈ ([9] : List Nat))) 0 0 (fun q : Nat => G q ∈ ([9] : List Nat)) := by
  refine Met.ofW (cc := cX7_rest) (maxL := 1) (ret := (some .int)) (by decide) rfl ?_
  intro p e s m args below meth c s₁ B hml hv
  obtain ⟨rfl, hT, hK⟩ := hv
  have hx := B.exec
  have hb := B.bytes
  have hr := B.returns
  have hts : ∀ w ∈ TS, w.before ([.ref h0] : List Value).toArray s = true := fun w hw => hK.2.1 w hw _
  have hown : s.vm.findClass RX7 = some m.cls := findClass_of_methodNamed B.named
  have hlocks := B.notSynchronized
  have hS : va_S (fun q : Nat => G q ∈ ([9] : List Nat)) s.heap s.heap [] := va_S.rf
  have hAz : ∀ q, (fun q : Nat => G q ∈ ([9] : List Nat)) q → z0 ≤ q := zL hGz (by decide)
  have hl := lv_entry ([.ref h0]) (n := 1) (Nat.le_of_ble_eq_true rfl)
  rw [lg_entry_eq]
  generalize (lg_sl ([.ref h0]) ++ List.replicate (1 - (lg_sl ([.ref h0])).length) Slot.unset).toArray = ls at hl ⊢
  have hl : lv_has ls 1 [(0, .ref h0)] := hl
  refine lv_aload_n hx hb dX7_rest_0 rfl (lv_at hl 0 rfl) ?_
  refine lv_iconst (v := 1) hx hb dX7_rest_1 (by decide) ?_
  obtain ⟨v0_1, v1_1, v2_1, v3_1, v4_1, v5_1, v6_1, v7_1, v8_1, v9_1, v10_1, v11_1, v12_1, v13_1, ha_1, hb0_1, hg1_1, hg2_1, hg6_1⟩ := tr_9 hT hG
  refine rr_put (D := DG E) (ci := 7) (v := .int 1) (ty := .boolean) (C := RX7) (T := TX7) (N := 14) hx hb hts iw_X7 tyX7 tyX7_ok nmX7 hown hK.1 ha_1 hS (by show G h0 ∈ ([9] : List Nat); rw [hG]; decide) rfl 13 (by decide) (hts _ fl_X7_61) (fun _ h9 => h9) rfl (by decide +kernel) rfl rfl (Nat.le_of_ble_eq_true rfl) dX7_rest_2 (fun H locs hn ho hz hS => ?_)
  have hr_2 : va_at (DG E) vwCl (h0, .inr (7, [.int v0_1, .ref v1_1, .ref v2_1, .int v3_1, .int v4_1, .int v5_1, .ref v6_1, .int v7_1, .int v8_1, .int v9_1, .int v10_1, .int v11_1, .int v12_1, .int 1])) H := hn
  have hT : TH E (T1 E) G [] H := hT.set hG (show T1 E G 9 _ from ⟨v0_1, v1_1, v2_1, v3_1, v4_1, v5_1, v6_1, v7_1, v8_1, v9_1, v10_1, v11_1, v12_1, 1, rfl, (by omega), hg1_1, hg2_1, hg6_1⟩) hr_2 ho
  refine lv_aload_n hx hb dX7_rest_5 rfl (lv_at hl 0 rfl) ?_
  refine lv_iconst (v := 0) hx hb dX7_rest_6 (by decide) ?_
  refine rr_put (D := DG E) (ci := 7) (v := .int 0) (ty := .int) (C := RX7) (T := TX7) (N := 14) hx hb hts iw_X7 tyX7 tyX7_ok nmX7 hown hK.1 hr_2 hS (by show G h0 ∈ ([9] : List Nat); rw [hG]; decide) rfl 10 (by decide) (hts _ fl_X7_52) (fun _ h9 => h9) rfl (by decide +kernel) rfl rfl (Nat.le_of_ble_eq_true rfl) dX7_rest_7 (fun H locs hn ho hz hS => ?_)
  have hr_3 : va_at (DG E) vwCl (h0, .inr (7, [.int v0_1, .ref v1_1, .ref v2_1, .int v3_1, .int v4_1, .int v5_1, .ref v6_1, .int v7_1, .int v8_1, .int v9_1, .int 0, .int v11_1, .int v12_1, .int 1])) H := hn
  have hT : TH E (T1 E) G [] H := hT.set hG (show T1 E G 9 _ from ⟨v0_1, v1_1, v2_1, v3_1, v4_1, v5_1, v6_1, v7_1, v8_1, v9_1, 0, v11_1, v12_1, 1, rfl, (by omega), hg1_1, hg2_1, hg6_1⟩) hr_3 ho
  refine lv_aload_n hx hb dX7_rest_10 rfl (lv_at hl 0 rfl) ?_
  refine lv_dup hx hb dX7_rest_11 rfl ?_
  refine va_get (D := DG E) (ci := 7) (v := .int v12_1) (C := RX7) (T := TX7) (N := 14) hx hb hts iw_X7 hown hK.1 (va_one hr_3) 0 rfl rfl 12 (by decide) (hts _ fl_X7_58) (fun _ h9 => h9) rfl dX7_rest_12 ?_
  refine lv_iconst (v := 1) hx hb dX7_rest_15 (by decide) ?_
  refine lv_iadd hx hb dX7_rest_16 ?_
  refine lv_topi (fun x_4 ex_4 => ?_)
  refine rr_put (D := DG E) (ci := 7) (v := .int x_4) (ty := .int) (C := RX7) (T := TX7) (N := 14) hx hb hts iw_X7 tyX7 tyX7_ok nmX7 hown hK.1 hr_3 hS (by show G h0 ∈ ([9] : List Nat); rw [hG]; decide) rfl 12 (by decide) (hts _ fl_X7_58) (fun _ h9 => h9) rfl (by decide +kernel) rfl rfl (Nat.le_of_ble_eq_true rfl) dX7_rest_17 (fun H locs hn ho hz hS => ?_)
  have hr_5 : va_at (DG E) vwCl (h0, .inr (7, [.int v0_1, .ref v1_1, .ref v2_1, .int v3_1, .int v4_1, .int v5_1, .ref v6_1, .int v7_1, .int v8_1, .int v9_1, .int 0, .int v11_1, .int x_4, .int 1])) H := hn
  have hT : TH E (T1 E) G [] H := hT.set hG (show T1 E G 9 _ from ⟨v0_1, v1_1, v2_1, v3_1, v4_1, v5_1, v6_1, v7_1, v8_1, v9_1, 0, v11_1, x_4, 1, rfl, (by omega), hg1_1, hg2_1, hg6_1⟩) hr_5 ho
  refine lv_aload_n hx hb dX7_rest_20 rfl (lv_at hl 0 rfl) ?_
  refine va_get (D := DG E) (ci := 7) (v := .int x_4) (C := RX7) (T := TX7) (N := 14) hx hb hts iw_X7 hown hK.1 (va_one hr_5) 0 rfl rfl 12 (by decide) (hts _ fl_X7_58) (fun _ h9 => h9) rfl dX7_rest_21 ?_
  refine lv_aload_n hx hb dX7_rest_24 rfl (lv_at hl 0 rfl) ?_
  refine va_get (D := DG E) (ci := 7) (v := .int v5_1) (C := RX7) (T := TX7) (N := 14) hx hb hts iw_X7 hown hK.1 (va_one hr_5) 0 rfl rfl 5 (by decide) (hts _ fl_X7_33) (fun _ h9 => h9) rfl dX7_rest_25 ?_
  refine lv_icmp_le (tgt := 35) hx hb dX7_rest_28 (by decide) (fun c_6 => ?_) (fun c_6 => ?_)
  · simp only [lt_I, le_I, eq_I, i_0, i_1, i_2, i_3, i_4, i_5, i_6, i_7, i_8, i_10, i_12, i_16, i_20, i_23, i_24, i_31, i_32, i_63, i_64, i_m1] at c_6
    refine lv_iconst (v := 0) hx hb dX7_rest_35 (by decide) ?_
    exact W.iret (v := 0) hx hb hr (fun t ht hW => ⟨⟨0, (), rfl, trivial, (by show TH E (T1 E) G [] t.heap; rw [ht]; exact hT)⟩, hS.F ht⟩) hS.2.2 dX7_rest_36
  · simp only [lt_I, le_I, eq_I, i_0, i_1, i_2, i_3, i_4, i_5, i_6, i_7, i_8, i_10, i_12, i_16, i_20, i_23, i_24, i_31, i_32, i_63, i_64, i_m1] at c_6
    refine lv_iconst (v := 2) hx hb dX7_rest_31 (by decide) ?_
    refine lv_goto (tgt := 36) hx hb dX7_rest_32 (by decide) ?_
    exact W.iret (v := 2) hx hb hr (fun t ht hW => ⟨⟨2, (), rfl, trivial, (by show TH E (T1 E) G [] t.heap; rw [ht]; exact hT)⟩, hS.F ht⟩) hS.2.2 dX7_rest_36
theorem dX7_takeNak_0 : decode cX7_takeNak 0 = .ok (.aload_n 0, 1) := by decide +kernel
theorem dX7_takeNak_1 : decode cX7_takeNak 1 = .ok (.iload_n 1, 1) := by decide +kernel
theorem dX7_takeNak_2 : decode cX7_takeNak 2 = .ok (.invokevirtual 156, 3) := by decide +kernel
theorem dX7_takeNak_5 : decode cX7_takeNak 5 = .ok (.ifCond .ne 5, 3) := by decide +kernel
theorem dX7_takeNak_8 : decode cX7_takeNak 8 = .ok (.iconst 0, 1) := by decide +kernel
theorem dX7_takeNak_9 : decode cX7_takeNak 9 = .ok (.ireturn, 1) := by decide +kernel
theorem dX7_takeNak_10 : decode cX7_takeNak 10 = .ok (.aload_n 0, 1) := by decide +kernel
theorem dX7_takeNak_11 : decode cX7_takeNak 11 = .ok (.iload_n 1, 1) := by decide +kernel
theorem dX7_takeNak_12 : decode cX7_takeNak 12 = .ok (.invokestatic 174, 3) := by decide +kernel
theorem dX7_takeNak_15 : decode cX7_takeNak 15 = .ok (.invokevirtual 177, 3) := by decide +kernel
theorem dX7_takeNak_18 : decode cX7_takeNak 18 = .ok (.iload_n 1, 1) := by decide +kernel
theorem dX7_takeNak_19 : decode cX7_takeNak 19 = .ok (.aload_n 0, 1) := by decide +kernel
theorem dX7_takeNak_20 : decode cX7_takeNak 20 = .ok (.getfield 68, 3) := by decide +kernel
theorem dX7_takeNak_23 : decode cX7_takeNak 23 = .ok (.if_icmp .eq 5, 3) := by decide +kernel
theorem dX7_takeNak_26 : decode cX7_takeNak 26 = .ok (.iconst 0, 1) := by decide +kernel
theorem dX7_takeNak_27 : decode cX7_takeNak 27 = .ok (.ireturn, 1) := by decide +kernel
theorem dX7_takeNak_28 : decode cX7_takeNak 28 = .ok (.iload_n 2, 1) := by decide +kernel
theorem dX7_takeNak_29 : decode cX7_takeNak 29 = .ok (.iconst 3, 1) := by decide +kernel
theorem dX7_takeNak_30 : decode cX7_takeNak 30 = .ok (.if_icmp .eq 8, 3) := by decide +kernel
theorem dX7_takeNak_33 : decode cX7_takeNak 33 = .ok (.iload_n 2, 1) := by decide +kernel
theorem dX7_takeNak_34 : decode cX7_takeNak 34 = .ok (.iconst 4, 1) := by decide +kernel
theorem dX7_takeNak_35 : decode cX7_takeNak 35 = .ok (.if_icmp .ne 5, 3) := by decide +kernel
theorem dX7_takeNak_38 : decode cX7_takeNak 38 = .ok (.iload_n 2, 1) := by decide +kernel
theorem dX7_takeNak_39 : decode cX7_takeNak 39 = .ok (.ireturn, 1) := by decide +kernel
theorem dX7_takeNak_40 : decode cX7_takeNak 40 = .ok (.aload_n 0, 1) := by decide +kernel
theorem dX7_takeNak_41 : decode cX7_takeNak 41 = .ok (.aload_n 0, 1) := by decide +kernel
theorem dX7_takeNak_42 : decode cX7_takeNak 42 = .ok (.getfield 68, 3) := by decide +kernel
theorem dX7_takeNak_45 : decode cX7_takeNak 45 = .ok (.putfield 71, 3) := by decide +kernel
theorem dX7_takeNak_48 : decode cX7_takeNak 48 = .ok (.iload_n 2, 1) := by decide +kernel
theorem dX7_takeNak_49 : decode cX7_takeNak 49 = .ok (.iconst 2, 1) := by decide +kernel
theorem dX7_takeNak_50 : decode cX7_takeNak 50 = .ok (.if_icmp .ne 10, 3) := by decide +kernel
theorem dX7_takeNak_53 : decode cX7_takeNak 53 = .ok (.aload_n 0, 1) := by decide +kernel
theorem dX7_takeNak_54 : decode cX7_takeNak 54 = .ok (.invokevirtual 180, 3) := by decide +kernel
theorem dX7_takeNak_57 : decode cX7_takeNak 57 = .ok (.goto 4, 3) := by decide +kernel
theorem dX7_takeNak_60 : decode cX7_takeNak 60 = .ok (.iconst 0, 1) := by decide +kernel
theorem dX7_takeNak_61 : decode cX7_takeNak 61 = .ok (.ireturn, 1) := by decide +kernel
set_option maxHeartbeats 8000000 in
set_option maxRecDepth 100000 in
theorem t_X7_takeNak (l : Launch) (E : EE) (z0 : Nat) (G : Nat → Nat) (hGz : ∀ q, G q ≠ 0 → z0 ≤ q) (h0 : Nat) (p0 : Int32) (p1 : Int32) (hG : G h0 = 9) : Met l yX7_takeNak [Cond.code yX7_takeNak cX7_takeNak 3 (some .int)] ({ frames := 4, cells := 0, slots := 0, locals := 90 } : Room) (va_Pc [.ref h0, .int p0, .int p1] (fun U => (TH E (T1 E) G [] U.heap) ∧ KS E z0 U)) (va_Qi (fun (r : Int32) (_ : Unit) => True) (fun _ t => TH E (T1 E) G [] t.heap) (fun q : Nat => G q ∈ ([9, 11, 5, 15] : List Nat))) 0 0 (fun q : Nat => G q ∈ ([9, 11, 5, 15] : List Nat)) := by
  refine Met.ofW (cc := cX7_takeNak) (maxL := 3) (ret := (some .int)) (by decide) rfl ?_
  intro p e s m args below meth c s₁ B hml hv
  obtain ⟨rfl, hT, hK⟩ := hv
  have hx := B.exec
  have hb := B.bytes
  have hr := B.returns
  have hts : ∀ w ∈ TS, w.before ([.ref h0, .int p0, .int p1] : List Value).toArray s = true := fun w hw => hK.2.1 w hw _
  have hown : s.vm.findClass RX7 = some m.cls := findClass_of_methodNamed B.named
  have hlocks := B.notSynchronized
  have hS : va_S (fun q : Nat => G q ∈ ([9, 11, 5, 15] : List Nat)) s.heap s.heap [] := va_S.rf
  have hAz : ∀ q, (fun q : Nat => G q ∈ ([9, 11, 5, 15] : List Nat)) q → z0 ≤ q := zL hGz (by decide)
  have hl := lv_entry ([.ref h0, .int p0, .int p1]) (n := 3) (Nat.le_of_ble_eq_true rfl)
  rw [lg_entry_eq]
  generalize (lg_sl ([.ref h0, .int p0, .int p1]) ++ List.replicate (3 - (lg_sl ([.ref h0, .int p0, .int p1])).length) Slot.unset).toArray = ls at hl ⊢
  have hl : lv_has ls 3 [(0, .ref h0), (1, .int p0), (2, .int p1)] := hl
  refine lv_aload_n hx hb dX7_takeNak_0 rfl (lv_at hl 0 rfl) ?_
  refine lv_iload_n hx hb dX7_takeNak_1 rfl (lv_at hl 1 rfl) ?_
  obtain ⟨v0_1, v1_1, v2_1, v3_1, v4_1, v5_1, v6_1, v7_1, v8_1, v9_1, v10_1, v11_1, v12_1, v13_1, ha_1, hb0_1, hg1_1, hg2_1, hg6_1⟩ := tr_9 hT hG
  refine va_calli (rnV (fun H => TH E (T1 E) G [] H) (As := [.int p0]) (rest := []) ⟨hx, hb, hml, hown, hts⟩ (t_X7_isOpen l E z0 G hGz h0 p0 hG) (cwV 1 hts (gdV ml_X7_156 im_X7_isOpen se_X7_X7_isOpen in_X7 co_X7_isOpen rfl) rfl rfl rfl (by decide +kernel) ⟨Nat.le_of_ble_eq_true rfl, Nat.le_of_ble_eq_true rfl⟩) hT (fun U hU hW => hK.go hW hS hAz hU) (va_recv hK.1 (va_one ha_1) (ci := 7) (q0 := 0) rfl rfl) rfl rfl hl.1 rfl (lv_room (Nat.le_of_ble_eq_true rfl)) dX7_takeNak_2 ⟨Nat.le_of_ble_eq_true rfl, Nat.le_of_ble_eq_true rfl⟩) hS (fun q _ h => h.elim) (fun q h => h.elim) (fun r_2 _ t H locs ht hvm hwr_2 hB hz hk hS => ?_)
  have hT : TH E (T1 E) G [] H := hT.kept (fun q hq => hk q hq (fun h => h))
  have ha_1 := ha_1.kept (hk _ ha_1.lt (fun h => h))
  have hzr_2 := s_rng hwr_2
  refine lv_if_ne (tgt := 10) hx hb dX7_takeNak_5 (by decide) (fun c_3 => ?_) (fun c_3 => ?_)
  · simp only [lt_I, le_I, eq_I, i_0, i_1, i_2, i_3, i_4, i_5, i_6, i_7, i_8, i_10, i_12, i_16, i_20, i_23, i_24, i_31, i_32, i_63, i_64, i_m1] at c_3
    refine lv_aload_n hx hb dX7_takeNak_10 rfl (lv_at hl 0 rfl) ?_
    refine lv_iload_n hx hb dX7_takeNak_11 rfl (lv_at hl 1 rfl) ?_
    refine va_calli (rnSK (fun _ => True) (As := [.int p0]) (rest := [.ref h0]) ⟨hx, hb, hml, hown, hts⟩ (t_X9_before l E z0 p0) ⟨va_cnB (host := RX9) 1 hts (gd1 co_X9_before rfl) rfl rfl rfl (hK.2.1 _ mn_X7_174 #[]) (hts _ in_X9) (by decide +kernel) ⟨Nat.le_of_ble_eq_true rfl, Nat.le_of_ble_eq_true rfl⟩, hts _ st_X9_before, trivial⟩ trivial (fun U hU hW => hK.go hW hS hAz hU) rfl rfl hl.1 rfl (lv_room (Nat.le_of_ble_eq_true rfl)) dX7_takeNak_12 ⟨Nat.le_of_ble_eq_true rfl, Nat.le_of_ble_eq_true rfl⟩) hS (fun q _ h => h.elim) (fun q h => h.elim) (fun r_4 _ t H locs ht hvm hw hB hz hk hS => ?_)
    have hT : TH E (T1 E) G [] H := hT.kept (fun q hq => hk q hq (fun h => h))
    have ha_1 := ha_1.kept (hk _ ha_1.lt (fun h => h))
    refine va_callv (rnV (fun H => TH E (T1 E) G [] H) (As := [.int r_4]) (rest := []) ⟨hx, hb, hml, hown, hts⟩ (t_X7_takeAck l E z0 G hGz h0 r_4 hG) (cwV 1 hts (gdV ml_X7_177 im_X7_takeAck se_X7_X7_takeAck in_X7 co_X7_takeAck rfl) rfl rfl rfl (by decide +kernel) ⟨Nat.le_of_ble_eq_true rfl, Nat.le_of_ble_eq_true rfl⟩) hT (fun U hU hW => hK.go hW hS hAz hU) (va_recv hK.1 (va_one ha_1) (ci := 7) (q0 := 0) rfl rfl) rfl rfl hl.1 rfl (lv_room (Nat.le_of_ble_eq_true rfl)) dX7_takeNak_15 ⟨Nat.le_of_ble_eq_true rfl, Nat.le_of_ble_eq_true rfl⟩) hS (fun q _ h => mL (L' := [9, 11, 5, 15]) (L := [9, 11, 5, 15]) (by decide) h) (fun q h => mL (L' := [9, 11, 5, 15]) (L := [9, 11, 5, 15]) (by decide) h) (fun _ t H locs ht hvm hwr_5 hB hz hk hS => ?_)
    have hT : TH E (T1 E) G [] H := by rw [ht] at hB; exact hB
    refine lv_iload_n hx hb dX7_takeNak_18 rfl (lv_at hl 1 rfl) ?_
    refine lv_aload_n hx hb dX7_takeNak_19 rfl (lv_at hl 0 rfl) ?_
    obtain ⟨v0_6, v1_6, v2_6, v3_6, v4_6, v5_6, v6_6, v7_6, v8_6, v9_6, v10_6, v11_6, v12_6, v13_6, ha_6, hb0_6, hg1_6, hg2_6, hg6_6⟩ := tr_9 hT hG
    refine va_get (D := DG E) (ci := 7) (v := .int v8_6) (C := RX7) (T := TX7) (N := 14) hx hb hts iw_X7 hown hK.1 (va_one ha_6) 0 rfl rfl 8 (by decide) (hts _ fl_X7_68) (fun _ h9 => h9) rfl dX7_takeNak_20 ?_
    refine lv_icmp_eq (tgt := 28) hx hb dX7_takeNak_23 (by decide) (fun c_7 => ?_) (fun c_7 => ?_)
    · simp only [lt_I, le_I, eq_I, i_0, i_1, i_2, i_3, i_4, i_5, i_6, i_7, i_8, i_10, i_12, i_16, i_20, i_23, i_24, i_31, i_32, i_63, i_64, i_m1] at c_7
      refine lv_iload_n hx hb dX7_takeNak_28 rfl (lv_at hl 2 rfl) ?_
      refine lv_iconst (v := 3) hx hb dX7_takeNak_29 (by decide) ?_
      refine lv_icmp_eq (tgt := 38) hx hb dX7_takeNak_30 (by decide) (fun c_8 => ?_) (fun c_8 => ?_)
      · simp only [lt_I, le_I, eq_I, i_0, i_1, i_2, i_3, i_4, i_5, i_6, i_7, i_8, i_10, i_12, i_16, i_20, i_23, i_24, i_31, i_32, i_63, i_64, i_m1] at c_8
        refine lv_iload_n hx hb dX7_takeNak_38 rfl (lv_at hl 2 rfl) ?_
        exact W.iret (v := p1) hx hb hr (fun t ht hW => ⟨⟨p1, (), rfl, trivial, (by show TH E (T1 E) G [] t.heap; rw [ht]; exact hT)⟩, hS.F ht⟩) hS.2.2 dX7_takeNak_39
      · simp only [lt_I, le_I, eq_I, i_0, i_1, i_2, i_3, i_4, i_5, i_6, i_7, i_8, i_10, i_12, i_16, i_20, i_23, i_24, i_31, i_32, i_63, i_64, i_m1] at c_8
        refine lv_iload_n hx hb dX7_takeNak_33 rfl (lv_at hl 2 rfl) ?_
        refine lv_iconst (v := 4) hx hb dX7_takeNak_34 (by decide) ?_
        refine lv_icmp_ne (tgt := 40) hx hb dX7_takeNak_35 (by decide) (fun c_9 => ?_) (fun c_9 => ?_)
        · simp only [lt_I, le_I, eq_I, i_0, i_1, i_2, i_3, i_4, i_5, i_6, i_7, i_8, i_10, i_12, i_16, i_20, i_23, i_24, i_31, i_32, i_63, i_64, i_m1] at c_9
          refine lv_aload_n hx hb dX7_takeNak_40 rfl (lv_at hl 0 rfl) ?_
          refine lv_aload_n hx hb dX7_takeNak_41 rfl (lv_at hl 0 rfl) ?_
          refine va_get (D := DG E) (ci := 7) (v := .int v8_6) (C := RX7) (T := TX7) (N := 14) hx hb hts iw_X7 hown hK.1 (va_one ha_6) 0 rfl rfl 8 (by decide) (hts _ fl_X7_68) (fun _ h9 => h9) rfl dX7_takeNak_42 ?_
          refine rr_put (D := DG E) (ci := 7) (v := .int v8_6) (ty := .int) (C := RX7) (T := TX7) (N := 14) hx hb hts iw_X7 tyX7 tyX7_ok nmX7 hown hK.1 ha_6 hS (by show G h0 ∈ ([9, 11, 5, 15] : List Nat); rw [hG]; decide) rfl 9 (by decide) (hts _ fl_X7_71) (fun _ h9 => h9) rfl (by decide +kernel) rfl rfl (Nat.le_of_ble_eq_true rfl) dX7_takeNak_45 (fun H locs hn ho hz hS => ?_)
          have hr_10 : va_at (DG E) vwCl (h0, .inr (7, [.int v0_6, .ref v1_6, .ref v2_6, .int v3_6, .int v4_6, .int v5_6, .ref v6_6, .int v7_6, .int v8_6, .int v8_6, .int v10_6, .int v11_6, .int v12_6, .int v13_6])) H := hn
          have hT : TH E (T1 E) G [] H := hT.set hG (show T1 E G 9 _ from ⟨v0_6, v1_6, v2_6, v3_6, v4_6, v5_6, v6_6, v7_6, v8_6, v8_6, v10_6, v11_6, v12_6, v13_6, rfl, (by omega), hg1_6, hg2_6, hg6_6⟩) hr_10 ho
          refine lv_iload_n hx hb dX7_takeNak_48 rfl (lv_at hl 2 rfl) ?_
          refine lv_iconst (v := 2) hx hb dX7_takeNak_49 (by decide) ?_
          refine lv_icmp_ne (tgt := 60) hx hb dX7_takeNak_50 (by decide) (fun c_11 => ?_) (fun c_11 => ?_)
          · simp only [lt_I, le_I, eq_I, i_0, i_1, i_2, i_3, i_4, i_5, i_6, i_7, i_8, i_10, i_12, i_16, i_20, i_23, i_24, i_31, i_32, i_63, i_64, i_m1] at c_11
            refine lv_iconst (v := 0) hx hb dX7_takeNak_60 (by decide) ?_
            exact W.iret (v := 0) hx hb hr (fun t ht hW => ⟨⟨0, (), rfl, trivial, (by show TH E (T1 E) G [] t.heap; rw [ht]; exact hT)⟩, hS.F ht⟩) hS.2.2 dX7_takeNak_61
          · simp only [lt_I, le_I, eq_I, i_0, i_1, i_2, i_3, i_4, i_5, i_6, i_7, i_8, i_10, i_12, i_16, i_20, i_23, i_24, i_31, i_32, i_63, i_64, i_m1] at c_11
            refine lv_aload_n hx hb dX7_takeNak_53 rfl (lv_at hl 0 rfl) ?_
            refine va_calli (rnV (fun H => TH E (T1 E) G [] H) (As := []) (rest := []) ⟨hx, hb, hml, hown, hts⟩ (t_X7_rest l E z0 G hGz h0 hG) (cwV 0 hts (gdV ml_X7_180 im_X7_rest se_X7_X7_rest in_X7 co_X7_rest rfl) rfl rfl rfl (by decide +kernel) ⟨Nat.le_of_ble_eq_true rfl, Nat.le_of_ble_eq_true rfl⟩) hT (fun U hU hW => hK.go hW hS hAz hU) (va_recv hK.1 (va_one hr_10) (ci := 7) (q0 := 0) rfl rfl) rfl rfl hl.1 rfl (lv_room (Nat.le_of_ble_eq_true rfl)) dX7_takeNak_54 ⟨Nat.le_of_ble_eq_true rfl, Nat.le_of_ble_eq_true rfl⟩) hS (fun q _ h => mL (L' := [9]) (L := [9, 11, 5, 15]) (by decide) h) (fun q h => mL (L' := [9]) (L := [9, 11, 5, 15]) (by decide) h) (fun r_12 _ t H locs ht hvm hwr_12 hB hz hk hS => ?_)
            have hT : TH E (T1 E) G [] H := by rw [ht] at hB; exact hB
            refine lv_goto (tgt := 61) hx hb dX7_takeNak_57 (by decide) ?_
            exact W.iret (v := r_12) hx hb hr (fun t ht hW => ⟨⟨r_12, (), rfl, trivial, (by show TH E (T1 E) G [] t.heap; rw [ht]; exact hT)⟩, hS.F ht⟩) hS.2.2 dX7_takeNak_61
        · simp only [lt_I, le_I, eq_I, i_0, i_1, i_2, i_3, i_4, i_5, i_6, i_7, i_8, i_10, i_12, i_16, i_20, i_23, i_24, i_31, i_32, i_63, i_64, i_m1] at c_9
          refine lv_iload_n hx hb dX7_takeNak_38 rfl (lv_at hl 2 rfl) ?_
          exact W.iret (v := p1) hx hb hr (fun t ht hW => ⟨⟨p1, (), rfl, trivial, (by show TH E (T1 E) G [] t.heap; rw [ht]; exact hT)⟩, hS.F ht⟩) hS.2.2 dX7_takeNak_39
    · simp only [lt_I, le_I, eq_I, i_0, i_1, i_2, i_3, i_4, i_5, i_6, i_7, i_8, i_10, i_12, i_16, i_20, i_23, i_24, i_31, i_32, i_63, i_64, i_m1] at c_7
      refine lv_iconst (v := 0) hx hb dX7_takeNak_26 (by decide) ?_
      exact W.iret (v := 0) hx hb hr (fun t ht hW => ⟨⟨0, (), rfl, trivial, (by show TH E (T1 E) G [] t.heap; rw [ht]; exact hT)⟩, hS.F ht⟩) hS.2.2 dX7_takeNak_27
  · simp only [lt_I, le_I, eq_I, i_0, i_1, i_2, i_3, i_4, i_5, i_6, i_7, i_8, i_10, i_12, i_16, i_20, i_23, i_24, i_31, i_32, i_63, i_64, i_m1] at c_3
    refine lv_iconst (v := 0) hx hb dX7_takeNak_8 (by decide) ?_
    exact W.iret (v := 0) hx hb hr (fun t ht hW => ⟨⟨0, (), rfl, trivial, (by show TH E (T1 E) G [] t.heap; rw [ht]; exact hT)⟩, hS.F ht⟩) hS.2.2 dX7_takeNak_9
theorem dX7_sendPart_0 : decode cX7_sendPart 0 = .ok (.aload_n 0, 1) := by decide +kernel
theorem dX7_sendPart_1 : decode cX7_sendPart 1 = .ok (.getfield 23, 3) := by decide +kernel
theorem dX7_sendPart_4 : decode cX7_sendPart 4 = .ok (.aload_n 0, 1) := by decide +kernel
theorem dX7_sendPart_5 : decode cX7_sendPart 5 = .ok (.getfield 13, 3) := by decide +kernel
theorem dX7_sendPart_8 : decode cX7_sendPart 8 = .ok (.aload_n 1, 1) := by decide +kernel
theorem dX7_sendPart_9 : decode cX7_sendPart 9 = .ok (.getfield 118, 3) := by decide +kernel
theorem dX7_sendPart_12 : decode cX7_sendPart 12 = .ok (.aload_n 1, 1) := by decide +kernel
theorem dX7_sendPart_13 : decode cX7_sendPart 13 = .ok (.getfield 78, 3) := by decide +kernel
theorem dX7_sendPart_16 : decode cX7_sendPart 16 = .ok (.iload_n 2, 1) := by decide +kernel
theorem dX7_sendPart_17 : decode cX7_sendPart 17 = .ok (.invokestatic 98, 3) := by decide +kernel
theorem dX7_sendPart_20 : decode cX7_sendPart 20 = .ok (.invokevirtual 125, 3) := by decide +kernel
theorem dX7_sendPart_23 : decode cX7_sendPart 23 = .ok (.astore_n 3, 1) := by decide +kernel
theorem dX7_sendPart_24 : decode cX7_sendPart 24 = .ok (.iconst 4, 1) := by decide +kernel
theorem dX7_sendPart_25 : decode cX7_sendPart 25 = .ok (.iload_n 2, 1) := by decide +kernel
theorem dX7_sendPart_26 : decode cX7_sendPart 26 = .ok (.imul, 1) := by decide +kernel
theorem dX7_sendPart_27 : decode cX7_sendPart 27 = .ok (.istore 4, 2) := by decide +kernel
theorem dX7_sendPart_29 : decode cX7_sendPart 29 = .ok (.aload_n 1, 1) := by decide +kernel
theorem dX7_sendPart_30 : decode cX7_sendPart 30 = .ok (.getfield 118, 3) := by decide +kernel
theorem dX7_sendPart_33 : decode cX7_sendPart 33 = .ok (.ifCond .ne 33, 3) := by decide +kernel
theorem dX7_sendPart_36 : decode cX7_sendPart 36 = .ok (.aload_n 3, 1) := by decide +kernel
theorem dX7_sendPart_37 : decode cX7_sendPart 37 = .ok (.iload_n 2, 1) := by decide +kernel
theorem dX7_sendPart_38 : decode cX7_sendPart 38 = .ok (.ifCond .ne 7, 3) := by decide +kernel
theorem dX7_sendPart_41 : decode cX7_sendPart 41 = .ok (.iconst 1, 1) := by decide +kernel
theorem dX7_sendPart_42 : decode cX7_sendPart 42 = .ok (.goto 4, 3) := by decide +kernel
theorem dX7_sendPart_45 : decode cX7_sendPart 45 = .ok (.iconst 0, 1) := by decide +kernel
theorem dX7_sendPart_46 : decode cX7_sendPart 46 = .ok (.aload_n 1, 1) := by decide +kernel
theorem dX7_sendPart_47 : decode cX7_sendPart 47 = .ok (.iload_n 2, 1) := by decide +kernel
theorem dX7_sendPart_48 : decode cX7_sendPart 48 = .ok (.invokevirtual 131, 3) := by decide +kernel
theorem dX7_sendPart_51 : decode cX7_sendPart 51 = .ok (.ifCond .eq 7, 3) := by decide +kernel
theorem dX7_sendPart_54 : decode cX7_sendPart 54 = .ok (.iconst 2, 1) := by decide +kernel
theorem dX7_sendPart_55 : decode cX7_sendPart 55 = .ok (.goto 4, 3) := by decide +kernel
theorem dX7_sendPart_58 : decode cX7_sendPart 58 = .ok (.iconst 0, 1) := by decide +kernel
theorem dX7_sendPart_59 : decode cX7_sendPart 59 = .ok (.iadd, 1) := by decide +kernel
theorem dX7_sendPart_60 : decode cX7_sendPart 60 = .ok (.putfield 135, 3) := by decide +kernel
theorem dX7_sendPart_63 : decode cX7_sendPart 63 = .ok (.goto 22, 3) := by decide +kernel
theorem dX7_sendPart_66 : decode cX7_sendPart 66 = .ok (.aload_n 3, 1) := by decide +kernel
theorem dX7_sendPart_67 : decode cX7_sendPart 67 = .ok (.aload_n 1, 1) := by decide +kernel
theorem dX7_sendPart_68 : decode cX7_sendPart 68 = .ok (.getfield 89, 3) := by decide +kernel
theorem dX7_sendPart_71 : decode cX7_sendPart 71 = .ok (.putfield 135, 3) := by decide +kernel
theorem dX7_sendPart_74 : decode cX7_sendPart 74 = .ok (.aload_n 3, 1) := by decide +kernel
theorem dX7_sendPart_75 : decode cX7_sendPart 75 = .ok (.aload_n 1, 1) := by decide +kernel
theorem dX7_sendPart_76 : decode cX7_sendPart 76 = .ok (.getfield 92, 3) := by decide +kernel
theorem dX7_sendPart_79 : decode cX7_sendPart 79 = .ok (.iload 4, 2) := by decide +kernel
theorem dX7_sendPart_81 : decode cX7_sendPart 81 = .ok (.iadd, 1) := by decide +kernel
theorem dX7_sendPart_82 : decode cX7_sendPart 82 = .ok (.putfield 140, 3) := by decide +kernel
theorem dX7_sendPart_85 : decode cX7_sendPart 85 = .ok (.aload_n 1, 1) := by decide +kernel
theorem dX7_sendPart_86 : decode cX7_sendPart 86 = .ok (.getfield 118, 3) := by decide +kernel
theorem dX7_sendPart_89 : decode cX7_sendPart 89 = .ok (.iconst 2, 1) := by decide +kernel
theorem dX7_sendPart_90 : decode cX7_sendPart 90 = .ok (.if_icmp .ne 17, 3) := by decide +kernel
theorem dX7_sendPart_93 : decode cX7_sendPart 93 = .ok (.aload_n 3, 1) := by decide +kernel
theorem dX7_sendPart_94 : decode cX7_sendPart 94 = .ok (.aload_n 1, 1) := by decide +kernel
theorem dX7_sendPart_95 : decode cX7_sendPart 95 = .ok (.getfield 141, 3) := by decide +kernel
theorem dX7_sendPart_98 : decode cX7_sendPart 98 = .ok (.iload 4, 2) := by decide +kernel
theorem dX7_sendPart_100 : decode cX7_sendPart 100 = .ok (.isub, 1) := by decide +kernel
theorem dX7_sendPart_101 : decode cX7_sendPart 101 = .ok (.putfield 144, 3) := by decide +kernel
theorem dX7_sendPart_104 : decode cX7_sendPart 104 = .ok (.goto 42, 3) := by decide +kernel
theorem dX7_sendPart_107 : decode cX7_sendPart 107 = .ok (.aload_n 1, 1) := by decide +kernel
theorem dX7_sendPart_108 : decode cX7_sendPart 108 = .ok (.getfield 118, 3) := by decide +kernel
theorem dX7_sendPart_111 : decode cX7_sendPart 111 = .ok (.iconst 3, 1) := by decide +kernel
theorem dX7_sendPart_112 : decode cX7_sendPart 112 = .ok (.if_icmp .ne 14, 3) := by decide +kernel
theorem dX7_sendPart_115 : decode cX7_sendPart 115 = .ok (.aload_n 3, 1) := by decide +kernel
theorem dX7_sendPart_116 : decode cX7_sendPart 116 = .ok (.aload_n 1, 1) := by decide +kernel
theorem dX7_sendPart_117 : decode cX7_sendPart 117 = .ok (.getfield 95, 3) := by decide +kernel
theorem dX7_sendPart_120 : decode cX7_sendPart 120 = .ok (.putfield 145, 3) := by decide +kernel
theorem dX7_sendPart_123 : decode cX7_sendPart 123 = .ok (.goto 23, 3) := by decide +kernel
theorem dX7_sendPart_126 : decode cX7_sendPart 126 = .ok (.aload_n 3, 1) := by decide +kernel
theorem dX7_sendPart_127 : decode cX7_sendPart 127 = .ok (.aload_n 0, 1) := by decide +kernel
theorem dX7_sendPart_128 : decode cX7_sendPart 128 = .ok (.getfield 19, 3) := by decide +kernel
theorem dX7_sendPart_131 : decode cX7_sendPart 131 = .ok (.aload_n 1, 1) := by decide +kernel
theorem dX7_sendPart_132 : decode cX7_sendPart 132 = .ok (.getfield 146, 3) := by decide +kernel
theorem dX7_sendPart_135 : decode cX7_sendPart 135 = .ok (.iload 4, 2) := by decide +kernel
theorem dX7_sendPart_137 : decode cX7_sendPart 137 = .ok (.iadd, 1) := by decide +kernel
theorem dX7_sendPart_138 : decode cX7_sendPart 138 = .ok (.aload_n 1, 1) := by decide +kernel
theorem dX7_sendPart_139 : decode cX7_sendPart 139 = .ok (.iload_n 2, 1) := by decide +kernel
theorem dX7_sendPart_140 : decode cX7_sendPart 140 = .ok (.invokevirtual 149, 3) := by decide +kernel
theorem dX7_sendPart_143 : decode cX7_sendPart 143 = .ok (.invokevirtual 152, 3) := by decide +kernel
theorem dX7_sendPart_146 : decode cX7_sendPart 146 = .ok (.return_, 1) := by decide +kernel
set_option maxHeartbeats 8000000 in
set_option maxRecDepth 100000 in
theorem t_X7_sendPart (l : Launch) (E : EE) (z0 : Nat) (G : Nat → Nat) (hGz : ∀ q, G q ≠ 0 → z0 ≤ q) (h0 : Nat) (p0 : Nat) (p1 : Int32) (hG : G h0 = 9) (hG0 : G p0 = 13) (hy0 : 0 ≤ p1.toInt ∧ p1.toInt ≤ 63) : Met l yX7_sendPart [Cond.code yX7_sendPart cX7_sendPart 5 none] ({ frames := 3, cells := 0, slots := 0, locals := 65 } : Room) (va_Pc [.ref h0, .ref p0, .int p1] (fun U => (TH E (T1 E) G [] U.heap) ∧ KS E z0 U)) (va_Qv (fun (_ : Unit) => True) (fun _ t => TH E (T1 E) G [] t.heap) (fun q : Nat => G q ∈ ([4, 31, 32] : List Nat))) 0 0 (fun q : Nat => G q ∈ ([4, 31, 32] : List Nat)) := by
  refine Met.ofW (cc := cX7_sendPart) (maxL := 5) (ret := none) (by decide) rfl ?_
  intro p e s m args below meth c s₁ B hml hv
  obtain ⟨rfl, hT, hK⟩ := hv
  have hx := B.exec
  have hb := B.bytes
  have hr := B.returns
  have hts : ∀ w ∈ TS, w.before ([.ref h0, .ref p0, .int p1] : List Value).toArray s = true := fun w hw => hK.2.1 w hw _
  have hown : s.vm.findClass RX7 = some m.cls := findClass_of_methodNamed B.named
  have hlocks := B.notSynchronized
  have hS : va_S (fun q : Nat => G q ∈ ([4, 31, 32] : List Nat)) s.heap s.heap [] := va_S.rf
  have hAz : ∀ q, (fun q : Nat => G q ∈ ([4, 31, 32] : List Nat)) q → z0 ≤ q := zL hGz (by decide)
  have hl := lv_entry ([.ref h0, .ref p0, .int p1]) (n := 5) (Nat.le_of_ble_eq_true rfl)
  rw [lg_entry_eq]
  generalize (lg_sl ([.ref h0, .ref p0, .int p1]) ++ List.replicate (5 - (lg_sl ([.ref h0, .ref p0, .int p1])).length) Slot.unset).toArray = ls at hl ⊢
  have hl : lv_has ls 5 [(0, .ref h0), (1, .ref p0), (2, .int p1)] := hl
  refine lv_aload_n hx hb dX7_sendPart_0 rfl (lv_at hl 0 rfl) ?_
  obtain ⟨v0_1, v1_1, v2_1, v3_1, v4_1, v5_1, v6_1, v7_1, v8_1, v9_1, v10_1, v11_1, v12_1, v13_1, ha_1, hb0_1, hg1_1, hg2_1, hg6_1⟩ := tr_9 hT hG
  refine va_get (D := DG E) (ci := 7) (v := .ref v2_1) (C := RX7) (T := TX7) (N := 14) hx hb hts iw_X7 hown hK.1 (va_one ha_1) 0 rfl rfl 2 (by decide) (hts _ fl_X7_23) (fun _ h9 => h9) rfl dX7_sendPart_1 ?_
  refine lv_aload_n hx hb dX7_sendPart_4 rfl (lv_at hl 0 rfl) ?_
  refine va_get (D := DG E) (ci := 7) (v := .int v0_1) (C := RX7) (T := TX7) (N := 14) hx hb hts iw_X7 hown hK.1 (va_one ha_1) 0 rfl rfl 0 (by decide) (hts _ fl_X7_13) (fun _ h9 => h9) rfl dX7_sendPart_5 ?_
  refine lv_aload_n hx hb dX7_sendPart_8 rfl (lv_at hl 1 rfl) ?_
  obtain ⟨v0_2, v1_2, v2_2, v3_2, v4_2, v5_2, v6_2, v7_2, v8_2, v9_2, ha_2, hb3_2⟩ := tr_13 hT hG0
  refine va_get (D := DG E) (ci := 4) (v := .int v0_2) (C := RX4) (T := TX4) (N := 10) hx hb hts iw_X4 hown hK.1 (va_one ha_2) 0 rfl rfl 0 (by decide) (hts _ fl_X7_118) (fun _ h9 => h9) rfl dX7_sendPart_9 ?_
  refine lv_aload_n hx hb dX7_sendPart_12 rfl (lv_at hl 1 rfl) ?_
  refine va_get (D := DG E) (ci := 4) (v := .int v4_2) (C := RX4) (T := TX4) (N := 10) hx hb hts iw_X4 hown hK.1 (va_one ha_2) 0 rfl rfl 4 (by decide) (hts _ fl_X7_78) (fun _ h9 => h9) rfl dX7_sendPart_13 ?_
  refine lv_iload_n hx hb dX7_sendPart_16 rfl (lv_at hl 2 rfl) ?_
  refine rnSN (As := [.int v4_2, .int p1]) (rest := [.int v0_2, .int v0_1, .ref v2_1]) ⟨hx, hb, hml, hown, hts⟩ (c_X9_after l v4_2 p1) ⟨va_cnB (host := RX9) 2 hts (gd1 co_X9_after rfl) rfl rfl rfl (hK.2.1 _ mn_X7_98 #[]) (hts _ in_X9) (by decide +kernel) ⟨Nat.le_of_ble_eq_true rfl, Nat.le_of_ble_eq_true rfl⟩, hts _ st_X9_after, trivial⟩ rfl rfl hl.1 rfl (lv_room (Nat.le_of_ble_eq_true rfl)) dX7_sendPart_17 ⟨Nat.le_of_ble_eq_true rfl, Nat.le_of_ble_eq_true rfl⟩ ?_
  refine W.eq (g2 := F0 m 20 ls [.int ((v4_2 + p1) &&& 63), .int v0_2, .int v0_1, .ref v2_1]) (by rfl) ?_
  refine lv_topi (fun x_3 ex_3 => ?_)
  have fx_3 := s_and63 (v4_2 + p1); rw [← ex_3] at fx_3
  obtain ⟨v0_4, v1_4, v2_4, v3_4, ha_4, hg0_4, hb1_4, hg2_4, hg3_4⟩ := tr_4 hT hg2_1
  refine va_callr (rnV (fun H => TH E (T1 E) G [] H) (As := [.int v0_1, .int v0_2, .int x_3]) (rest := []) ⟨hx, hb, hml, hown, hts⟩ (t_X0_carry l E z0 G hGz v2_1 v0_1 v0_2 x_3 hg2_1 (by first | omega | decide)) (cwV 3 hts (gdV ml_X7_125 im_X0_carry se_X0_X0_carry in_X0 co_X0_carry rfl) rfl rfl rfl (by decide +kernel) ⟨Nat.le_of_ble_eq_true rfl, Nat.le_of_ble_eq_true rfl⟩) hT (fun U hU hW => hK.go hW hS hAz hU) (va_recv hK.1 (va_one ha_4) (ci := 0) (q0 := 0) rfl rfl) rfl rfl hl.1 rfl (lv_room (Nat.le_of_ble_eq_true rfl)) dX7_sendPart_20 ⟨Nat.le_of_ble_eq_true rfl, Nat.le_of_ble_eq_true rfl⟩) hS (fun q _ h => mL (L' := [4, 31]) (L := [4, 31, 32]) (by decide) h) (fun q h => mL (L' := [4, 31]) (L := [4, 31, 32]) (by decide) h) (fun _ r_5 t H locs ht hvm hwr_5 hB hz hk hS => ?_)
  have hT : TH E (T1 E) G [] H := by have hB := hB.2; rw [ht] at hB; exact hB
  have grr_5 : G r_5 = 31 := hB.1
  have ha_1 := ha_1.kept (hk _ ha_1.lt (nL hG (by decide)))
  have ha_2 := ha_2.kept (hk _ ha_2.lt (nL hG0 (by decide)))
  refine lv_astore_n (lv' := [(3, .ref r_5), (0, .ref h0), (1, .ref p0), (2, .int p1)]) hx hb dX7_sendPart_23 rfl hl (by decide) rfl (fun ls hl => ?_)
  refine lv_iconst (v := 4) hx hb dX7_sendPart_24 (by decide) ?_
  refine lv_iload_n hx hb dX7_sendPart_25 rfl (lv_at hl 3 rfl) ?_
  refine lv_imul hx hb dX7_sendPart_26 ?_
  refine lv_topi (fun x_6 ex_6 => ?_)
  have fx_6 : x_6.toInt = 4 * p1.toInt := by rw [ex_6]; exact s_mulK i_4 (by omega) (by omega)
  refine lv_istore (lv' := [(4, .int x_6), (3, .ref r_5), (0, .ref h0), (1, .ref p0), (2, .int p1)]) hx hb dX7_sendPart_27 hl (by decide) rfl (fun ls hl => ?_)
  refine lv_aload_n hx hb dX7_sendPart_29 rfl (lv_at hl 3 rfl) ?_
  refine va_get (D := DG E) (ci := 4) (v := .int v0_2) (C := RX4) (T := TX4) (N := 10) hx hb hts iw_X4 hown hK.1 (va_one ha_2) 0 rfl rfl 0 (by decide) (hts _ fl_X7_118) (fun _ h9 => h9) rfl dX7_sendPart_30 ?_
  refine lv_if_ne (tgt := 66) hx hb dX7_sendPart_33 (by decide) (fun c_7 => ?_) (fun c_7 => ?_)
  · simp only [lt_I, le_I, eq_I, i_0, i_1, i_2, i_3, i_4, i_5, i_6, i_7, i_8, i_10, i_12, i_16, i_20, i_23, i_24, i_31, i_32, i_63, i_64, i_m1] at c_7
    refine lv_aload_n hx hb dX7_sendPart_66 rfl (lv_at hl 1 rfl) ?_
    refine lv_aload_n hx hb dX7_sendPart_67 rfl (lv_at hl 3 rfl) ?_
    refine va_get (D := DG E) (ci := 4) (v := .int v6_2) (C := RX4) (T := TX4) (N := 10) hx hb hts iw_X4 hown hK.1 (va_one ha_2) 0 rfl rfl 6 (by decide) (hts _ fl_X7_89) (fun _ h9 => h9) rfl dX7_sendPart_68 ?_
    obtain ⟨v0_8, v1_8, v2_8, v3_8, v4_8, v5_8, v6_8, v7_8, ha_8, hb0_8, hb3_8, hg7_8⟩ := tr_31 hT grr_5
    refine rr_put (D := DG E) (ci := 2) (v := .int v6_2) (ty := .int) (C := RX2) (T := TX2) (N := 8) hx hb hts iw_X2 tyX2 tyX2_ok nmX2 hown hK.1 ha_8 hS (by show G r_5 ∈ ([4, 31, 32] : List Nat); rw [grr_5]; decide) rfl 4 (by decide) (hts _ fl_X7_135) (fun _ h9 => h9) rfl (by decide +kernel) rfl rfl (Nat.le_of_ble_eq_true rfl) dX7_sendPart_71 (fun H locs hn ho hz hS => ?_)
    have hr_9 : va_at (DG E) vwCl (r_5, .inr (2, [.int v0_8, .int v1_8, .int v2_8, .int v3_8, .int v6_2, .int v5_8, .int v6_8, .ref v7_8])) H := hn
    have hT : TH E (T1 E) G [] H := hT.set grr_5 (show T1 E G 31 _ from ⟨v0_8, v1_8, v2_8, v3_8, v6_2, v5_8, v6_8, v7_8, rfl, (by omega), (by omega), hg7_8⟩) hr_9 ho
    have ha_1 := ha_1.kept (ho _ (ne_G hG grr_5 (by decide)))
    have ha_2 := ha_2.kept (ho _ (ne_G hG0 grr_5 (by decide)))
    refine lv_aload_n hx hb dX7_sendPart_74 rfl (lv_at hl 1 rfl) ?_
    refine lv_aload_n hx hb dX7_sendPart_75 rfl (lv_at hl 3 rfl) ?_
    refine va_get (D := DG E) (ci := 4) (v := .int v7_2) (C := RX4) (T := TX4) (N := 10) hx hb hts iw_X4 hown hK.1 (va_one ha_2) 0 rfl rfl 7 (by decide) (hts _ fl_X7_92) (fun _ h9 => h9) rfl dX7_sendPart_76 ?_
    refine lv_iload hx hb dX7_sendPart_79 (lv_at hl 0 rfl) ?_
    refine lv_iadd hx hb dX7_sendPart_81 ?_
    refine lv_topi (fun x_10 ex_10 => ?_)
    refine rr_put (D := DG E) (ci := 2) (v := .int x_10) (ty := .int) (C := RX2) (T := TX2) (N := 8) hx hb hts iw_X2 tyX2 tyX2_ok nmX2 hown hK.1 hr_9 hS (by show G r_5 ∈ ([4, 31, 32] : List Nat); rw [grr_5]; decide) rfl 5 (by decide) (hts _ fl_X7_140) (fun _ h9 => h9) rfl (by decide +kernel) rfl rfl (Nat.le_of_ble_eq_true rfl) dX7_sendPart_82 (fun H locs hn ho hz hS => ?_)
    have hr_11 : va_at (DG E) vwCl (r_5, .inr (2, [.int v0_8, .int v1_8, .int v2_8, .int v3_8, .int v6_2, .int x_10, .int v6_8, .ref v7_8])) H := hn
    have hT : TH E (T1 E) G [] H := hT.set grr_5 (show T1 E G 31 _ from ⟨v0_8, v1_8, v2_8, v3_8, v6_2, x_10, v6_8, v7_8, rfl, (by omega), (by omega), hg7_8⟩) hr_11 ho
    have ha_1 := ha_1.kept (ho _ (ne_G hG grr_5 (by decide)))
    have ha_2 := ha_2.kept (ho _ (ne_G hG0 grr_5 (by decide)))
    refine lv_aload_n hx hb dX7_sendPart_85 rfl (lv_at hl 3 rfl) ?_
    refine va_get (D := DG E) (ci := 4) (v := .int v0_2) (C := RX4) (T := TX4) (N := 10) hx hb hts iw_X4 hown hK.1 (va_one ha_2) 0 rfl rfl 0 (by decide) (hts _ fl_X7_118) (fun _ h9 => h9) rfl dX7_sendPart_86 ?_
    refine lv_iconst (v := 2) hx hb dX7_sendPart_89 (by decide) ?_
    refine lv_icmp_ne (tgt := 107) hx hb dX7_sendPart_90 (by decide) (fun c_12 => ?_) (fun c_12 => ?_)
    · simp only [lt_I, le_I, eq_I, i_0, i_1, i_2, i_3, i_4, i_5, i_6, i_7, i_8, i_10, i_12, i_16, i_20, i_23, i_24, i_31, i_32, i_63, i_64, i_m1] at c_12
      refine lv_aload_n hx hb dX7_sendPart_107 rfl (lv_at hl 3 rfl) ?_
      refine va_get (D := DG E) (ci := 4) (v := .int v0_2) (C := RX4) (T := TX4) (N := 10) hx hb hts iw_X4 hown hK.1 (va_one ha_2) 0 rfl rfl 0 (by decide) (hts _ fl_X7_118) (fun _ h9 => h9) rfl dX7_sendPart_108 ?_
      refine lv_iconst (v := 3) hx hb dX7_sendPart_111 (by decide) ?_
      refine lv_icmp_ne (tgt := 126) hx hb dX7_sendPart_112 (by decide) (fun c_13 => ?_) (fun c_13 => ?_)
      · simp only [lt_I, le_I, eq_I, i_0, i_1, i_2, i_3, i_4, i_5, i_6, i_7, i_8, i_10, i_12, i_16, i_20, i_23, i_24, i_31, i_32, i_63, i_64, i_m1] at c_13
        refine lv_aload_n hx hb dX7_sendPart_126 rfl (lv_at hl 1 rfl) ?_
        refine lv_aload_n hx hb dX7_sendPart_127 rfl (lv_at hl 2 rfl) ?_
        refine va_get (D := DG E) (ci := 7) (v := .ref v1_1) (C := RX7) (T := TX7) (N := 14) hx hb hts iw_X7 hown hK.1 (va_one ha_1) 0 rfl rfl 1 (by decide) (hts _ fl_X7_19) (fun _ h9 => h9) rfl dX7_sendPart_128 ?_
        refine lv_aload_n hx hb dX7_sendPart_131 rfl (lv_at hl 3 rfl) ?_
        refine va_get (D := DG E) (ci := 4) (v := .int v2_2) (C := RX4) (T := TX4) (N := 10) hx hb hts iw_X4 hown hK.1 (va_one ha_2) 0 rfl rfl 2 (by decide) (hts _ fl_X7_146) (fun _ h9 => h9) rfl dX7_sendPart_132 ?_
        refine lv_iload hx hb dX7_sendPart_135 (lv_at hl 0 rfl) ?_
        refine lv_iadd hx hb dX7_sendPart_137 ?_
        refine lv_topi (fun x_14 ex_14 => ?_)
        refine lv_aload_n hx hb dX7_sendPart_138 rfl (lv_at hl 3 rfl) ?_
        refine lv_iload_n hx hb dX7_sendPart_139 rfl (lv_at hl 4 rfl) ?_
        refine va_calli (rnV (fun H => TH E (T1 E) G [] H) (As := [.int p1]) (rest := [.int x_14, .ref v1_1, .ref r_5]) ⟨hx, hb, hml, hown, hts⟩ (t_X4_cellsOf l E z0 G hGz p0 p1 hG0) (cwV 1 hts (gdV ml_X7_149 im_X4_cellsOf se_X4_X4_cellsOf in_X4 co_X4_cellsOf rfl) rfl rfl rfl (by decide +kernel) ⟨Nat.le_of_ble_eq_true rfl, Nat.le_of_ble_eq_true rfl⟩) hT (fun U hU hW => hK.go hW hS hAz hU) (va_recv hK.1 (va_one ha_2) (ci := 4) (q0 := 0) rfl rfl) rfl rfl hl.1 rfl (lv_room (Nat.le_of_ble_eq_true rfl)) dX7_sendPart_140 ⟨Nat.le_of_ble_eq_true rfl, Nat.le_of_ble_eq_true rfl⟩) hS (fun q _ h => h.elim) (fun q h => h.elim) (fun r_15 _ t H locs ht hvm hwr_15 hB hz hk hS => ?_)
        have hT : TH E (T1 E) G [] H := hT.kept (fun q hq => hk q hq (fun h => h))
        have ha_1 := ha_1.kept (hk _ ha_1.lt (fun h => h))
        have ha_2 := ha_2.kept (hk _ ha_2.lt (fun h => h))
        have hr_11 := hr_11.kept (hk _ hr_11.lt (fun h => h))
        refine va_callv (rnV (fun H => TH E (T1 E) G [] H) (As := [.ref v1_1, .int x_14, .int r_15]) (rest := []) ⟨hx, hb, hml, hown, hts⟩ (t_X2_load l E z0 G hGz r_5 v1_1 x_14 r_15 grr_5 hg1_1) (cwV 3 hts (gdV ml_X7_152 im_X2_load se_X2_X2_load in_X2 co_X2_load rfl) rfl rfl rfl (by decide +kernel) ⟨Nat.le_of_ble_eq_true rfl, Nat.le_of_ble_eq_true rfl⟩) hT (fun U hU hW => hK.go hW hS hAz hU) (va_recv hK.1 (va_one hr_11) (ci := 2) (q0 := 0) rfl rfl) rfl rfl hl.1 rfl (lv_room (Nat.le_of_ble_eq_true rfl)) dX7_sendPart_143 ⟨Nat.le_of_ble_eq_true rfl, Nat.le_of_ble_eq_true rfl⟩) hS (fun q _ h => mL (L' := [31, 32]) (L := [4, 31, 32]) (by decide) h) (fun q h => mL (L' := [31, 32]) (L := [4, 31, 32]) (by decide) h) (fun _ t H locs ht hvm hwr_16 hB hz hk hS => ?_)
        have hT : TH E (T1 E) G [] H := by rw [ht] at hB; exact hB
        have ha_1 := ha_1.kept (hk _ ha_1.lt (nL hG (by decide)))
        have ha_2 := ha_2.kept (hk _ ha_2.lt (nL hG0 (by decide)))
        exact W.vret hx hb hr (fun t ht hW => ⟨⟨(), rfl, trivial, (by show TH E (T1 E) G [] t.heap; rw [ht]; exact hT)⟩, hS.F ht⟩) hS.2.2 dX7_sendPart_146
      · simp only [lt_I, le_I, eq_I, i_0, i_1, i_2, i_3, i_4, i_5, i_6, i_7, i_8, i_10, i_12, i_16, i_20, i_23, i_24, i_31, i_32, i_63, i_64, i_m1] at c_13
        refine lv_aload_n hx hb dX7_sendPart_115 rfl (lv_at hl 1 rfl) ?_
        refine lv_aload_n hx hb dX7_sendPart_116 rfl (lv_at hl 3 rfl) ?_
        refine va_get (D := DG E) (ci := 4) (v := .int v8_2) (C := RX4) (T := TX4) (N := 10) hx hb hts iw_X4 hown hK.1 (va_one ha_2) 0 rfl rfl 8 (by decide) (hts _ fl_X7_95) (fun _ h9 => h9) rfl dX7_sendPart_117 ?_
        refine rr_put (D := DG E) (ci := 2) (v := .int v8_2) (ty := .int) (C := RX2) (T := TX2) (N := 8) hx hb hts iw_X2 tyX2 tyX2_ok nmX2 hown hK.1 hr_11 hS (by show G r_5 ∈ ([4, 31, 32] : List Nat); rw [grr_5]; decide) rfl 6 (by decide) (hts _ fl_X7_145) (fun _ h9 => h9) rfl (by decide +kernel) rfl rfl (Nat.le_of_ble_eq_true rfl) dX7_sendPart_120 (fun H locs hn ho hz hS => ?_)
        have hr_17 : va_at (DG E) vwCl (r_5, .inr (2, [.int v0_8, .int v1_8, .int v2_8, .int v3_8, .int v6_2, .int x_10, .int v8_2, .ref v7_8])) H := hn
        have hT : TH E (T1 E) G [] H := hT.set grr_5 (show T1 E G 31 _ from ⟨v0_8, v1_8, v2_8, v3_8, v6_2, x_10, v8_2, v7_8, rfl, (by omega), (by omega), hg7_8⟩) hr_17 ho
        have ha_1 := ha_1.kept (ho _ (ne_G hG grr_5 (by decide)))
        have ha_2 := ha_2.kept (ho _ (ne_G hG0 grr_5 (by decide)))
        refine lv_goto (tgt := 146) hx hb dX7_sendPart_123 (by decide) ?_
        exact W.vret hx hb hr (fun t ht hW => ⟨⟨(), rfl, trivial, (by show TH E (T1 E) G [] t.heap; rw [ht]; exact hT)⟩, hS.F ht⟩) hS.2.2 dX7_sendPart_146
    · simp only [lt_I, le_I, eq_I, i_0, i_1, i_2, i_3, i_4, i_5, i_6, i_7, i_8, i_10, i_12, i_16, i_20, i_23, i_24, i_31, i_32, i_63, i_64, i_m1] at c_12
      refine lv_aload_n hx hb dX7_sendPart_93 rfl (lv_at hl 1 rfl) ?_
      refine lv_aload_n hx hb dX7_sendPart_94 rfl (lv_at hl 3 rfl) ?_
      refine va_get (D := DG E) (ci := 4) (v := .int v3_2) (C := RX4) (T := TX4) (N := 10) hx hb hts iw_X4 hown hK.1 (va_one ha_2) 0 rfl rfl 3 (by decide) (hts _ fl_X7_141) (fun _ h9 => h9) rfl dX7_sendPart_95 ?_
      refine lv_iload hx hb dX7_sendPart_98 (lv_at hl 0 rfl) ?_
      refine lv_isub hx hb dX7_sendPart_100 ?_
      refine lv_topi (fun x_18 ex_18 => ?_)
      have fx_18 : x_18.toInt = v3_2.toInt - x_6.toInt := by have h9 := s_sub (x := v3_2) (y := x_6) (by omega) (by omega); rw [ex_18]; exact h9
      refine rr_put (D := DG E) (ci := 2) (v := .int x_18) (ty := .int) (C := RX2) (T := TX2) (N := 8) hx hb hts iw_X2 tyX2 tyX2_ok nmX2 hown hK.1 hr_11 hS (by show G r_5 ∈ ([4, 31, 32] : List Nat); rw [grr_5]; decide) rfl 3 (by decide) (hts _ fl_X7_144) (fun _ h9 => h9) rfl (by decide +kernel) rfl rfl (Nat.le_of_ble_eq_true rfl) dX7_sendPart_101 (fun H locs hn ho hz hS => ?_)
      have hr_19 : va_at (DG E) vwCl (r_5, .inr (2, [.int v0_8, .int v1_8, .int v2_8, .int x_18, .int v6_2, .int x_10, .int v6_8, .ref v7_8])) H := hn
      have hT : TH E (T1 E) G [] H := hT.set grr_5 (show T1 E G 31 _ from ⟨v0_8, v1_8, v2_8, x_18, v6_2, x_10, v6_8, v7_8, rfl, (by omega), (by omega), hg7_8⟩) hr_19 ho
      have ha_1 := ha_1.kept (ho _ (ne_G hG grr_5 (by decide)))
      have ha_2 := ha_2.kept (ho _ (ne_G hG0 grr_5 (by decide)))
      refine lv_goto (tgt := 146) hx hb dX7_sendPart_104 (by decide) ?_
      exact W.vret hx hb hr (fun t ht hW => ⟨⟨(), rfl, trivial, (by show TH E (T1 E) G [] t.heap; rw [ht]; exact hT)⟩, hS.F ht⟩) hS.2.2 dX7_sendPart_146
  · simp only [lt_I, le_I, eq_I, i_0, i_1, i_2, i_3, i_4, i_5, i_6, i_7, i_8, i_10, i_12, i_16, i_20, i_23, i_24, i_31, i_32, i_63, i_64, i_m1] at c_7
    refine lv_aload_n hx hb dX7_sendPart_36 rfl (lv_at hl 1 rfl) ?_
    refine lv_iload_n hx hb dX7_sendPart_37 rfl (lv_at hl 4 rfl) ?_
    refine lv_if_ne (tgt := 45) hx hb dX7_sendPart_38 (by decide) (fun c_20 => ?_) (fun c_20 => ?_)
    · simp only [lt_I, le_I, eq_I, i_0, i_1, i_2, i_3, i_4, i_5, i_6, i_7, i_8, i_10, i_12, i_16, i_20, i_23, i_24, i_31, i_32, i_63, i_64, i_m1] at c_20
      refine lv_iconst (v := 0) hx hb dX7_sendPart_45 (by decide) ?_
      refine lv_aload_n hx hb dX7_sendPart_46 rfl (lv_at hl 3 rfl) ?_
      refine lv_iload_n hx hb dX7_sendPart_47 rfl (lv_at hl 4 rfl) ?_
      refine va_calli (rnV (fun H => TH E (T1 E) G [] H) (As := [.int p1]) (rest := [.int 0, .ref r_5]) ⟨hx, hb, hml, hown, hts⟩ (t_X4_isLastNumber l E z0 G hGz p0 p1 hG0) (cwV 1 hts (gdV ml_X7_131 im_X4_isLastNumber se_X4_X4_isLastNumber in_X4 co_X4_isLastNumber rfl) rfl rfl rfl (by decide +kernel) ⟨Nat.le_of_ble_eq_true rfl, Nat.le_of_ble_eq_true rfl⟩) hT (fun U hU hW => hK.go hW hS hAz hU) (va_recv hK.1 (va_one ha_2) (ci := 4) (q0 := 0) rfl rfl) rfl rfl hl.1 rfl (lv_room (Nat.le_of_ble_eq_true rfl)) dX7_sendPart_48 ⟨Nat.le_of_ble_eq_true rfl, Nat.le_of_ble_eq_true rfl⟩) hS (fun q _ h => h.elim) (fun q h => h.elim) (fun r_21 _ t H locs ht hvm hwr_21 hB hz hk hS => ?_)
      have hT : TH E (T1 E) G [] H := hT.kept (fun q hq => hk q hq (fun h => h))
      have ha_1 := ha_1.kept (hk _ ha_1.lt (fun h => h))
      have ha_2 := ha_2.kept (hk _ ha_2.lt (fun h => h))
      have hzr_21 := s_rng hwr_21
      refine lv_if_eq (tgt := 58) hx hb dX7_sendPart_51 (by decide) (fun c_22 => ?_) (fun c_22 => ?_)
      · simp only [lt_I, le_I, eq_I, i_0, i_1, i_2, i_3, i_4, i_5, i_6, i_7, i_8, i_10, i_12, i_16, i_20, i_23, i_24, i_31, i_32, i_63, i_64, i_m1] at c_22
        refine lv_iconst (v := 0) hx hb dX7_sendPart_58 (by decide) ?_
        refine lv_iadd hx hb dX7_sendPart_59 ?_
        refine W.eq (g2 := F0 m 60 ls [.int 0, .ref r_5]) (by rfl) ?_
        obtain ⟨v0_23, v1_23, v2_23, v3_23, v4_23, v5_23, v6_23, v7_23, ha_23, hb0_23, hb3_23, hg7_23⟩ := tr_31 hT grr_5
        refine rr_put (D := DG E) (ci := 2) (v := .int 0) (ty := .int) (C := RX2) (T := TX2) (N := 8) hx hb hts iw_X2 tyX2 tyX2_ok nmX2 hown hK.1 ha_23 hS (by show G r_5 ∈ ([4, 31, 32] : List Nat); rw [grr_5]; decide) rfl 4 (by decide) (hts _ fl_X7_135) (fun _ h9 => h9) rfl (by decide +kernel) rfl rfl (Nat.le_of_ble_eq_true rfl) dX7_sendPart_60 (fun H locs hn ho hz hS => ?_)
        have hr_24 : va_at (DG E) vwCl (r_5, .inr (2, [.int v0_23, .int v1_23, .int v2_23, .int v3_23, .int 0, .int v5_23, .int v6_23, .ref v7_23])) H := hn
        have hT : TH E (T1 E) G [] H := hT.set grr_5 (show T1 E G 31 _ from ⟨v0_23, v1_23, v2_23, v3_23, 0, v5_23, v6_23, v7_23, rfl, (by omega), (by omega), hg7_23⟩) hr_24 ho
        have ha_1 := ha_1.kept (ho _ (ne_G hG grr_5 (by decide)))
        have ha_2 := ha_2.kept (ho _ (ne_G hG0 grr_5 (by decide)))
        refine lv_goto (tgt := 85) hx hb dX7_sendPart_63 (by decide) ?_
        refine lv_aload_n hx hb dX7_sendPart_85 rfl (lv_at hl 3 rfl) ?_
        refine va_get (D := DG E) (ci := 4) (v := .int v0_2) (C := RX4) (T := TX4) (N := 10) hx hb hts iw_X4 hown hK.1 (va_one ha_2) 0 rfl rfl 0 (by decide) (hts _ fl_X7_118) (fun _ h9 => h9) rfl dX7_sendPart_86 ?_
        refine lv_iconst (v := 2) hx hb dX7_sendPart_89 (by decide) ?_
        refine lv_icmp_ne (tgt := 107) hx hb dX7_sendPart_90 (by decide) (fun c_25 => ?_) (fun c_25 => by exfalso; simp only [lt_I, le_I, eq_I, i_0, i_1, i_2, i_3, i_4, i_5, i_6, i_7, i_8, i_10, i_12, i_16, i_20, i_23, i_24, i_31, i_32, i_63, i_64, i_m1] at c_25; omega)
        simp only [lt_I, le_I, eq_I, i_0, i_1, i_2, i_3, i_4, i_5, i_6, i_7, i_8, i_10, i_12, i_16, i_20, i_23, i_24, i_31, i_32, i_63, i_64, i_m1] at c_25
        refine lv_aload_n hx hb dX7_sendPart_107 rfl (lv_at hl 3 rfl) ?_
        refine va_get (D := DG E) (ci := 4) (v := .int v0_2) (C := RX4) (T := TX4) (N := 10) hx hb hts iw_X4 hown hK.1 (va_one ha_2) 0 rfl rfl 0 (by decide) (hts _ fl_X7_118) (fun _ h9 => h9) rfl dX7_sendPart_108 ?_
        refine lv_iconst (v := 3) hx hb dX7_sendPart_111 (by decide) ?_
        refine lv_icmp_ne (tgt := 126) hx hb dX7_sendPart_112 (by decide) (fun c_26 => ?_) (fun c_26 => by exfalso; simp only [lt_I, le_I, eq_I, i_0, i_1, i_2, i_3, i_4, i_5, i_6, i_7, i_8, i_10, i_12, i_16, i_20, i_23, i_24, i_31, i_32, i_63, i_64, i_m1] at c_26; omega)
        simp only [lt_I, le_I, eq_I, i_0, i_1, i_2, i_3, i_4, i_5, i_6, i_7, i_8, i_10, i_12, i_16, i_20, i_23, i_24, i_31, i_32, i_63, i_64, i_m1] at c_26
        refine lv_aload_n hx hb dX7_sendPart_126 rfl (lv_at hl 1 rfl) ?_
        refine lv_aload_n hx hb dX7_sendPart_127 rfl (lv_at hl 2 rfl) ?_
        refine va_get (D := DG E) (ci := 7) (v := .ref v1_1) (C := RX7) (T := TX7) (N := 14) hx hb hts iw_X7 hown hK.1 (va_one ha_1) 0 rfl rfl 1 (by decide) (hts _ fl_X7_19) (fun _ h9 => h9) rfl dX7_sendPart_128 ?_
        refine lv_aload_n hx hb dX7_sendPart_131 rfl (lv_at hl 3 rfl) ?_
        refine va_get (D := DG E) (ci := 4) (v := .int v2_2) (C := RX4) (T := TX4) (N := 10) hx hb hts iw_X4 hown hK.1 (va_one ha_2) 0 rfl rfl 2 (by decide) (hts _ fl_X7_146) (fun _ h9 => h9) rfl dX7_sendPart_132 ?_
        refine lv_iload hx hb dX7_sendPart_135 (lv_at hl 0 rfl) ?_
        refine lv_iadd hx hb dX7_sendPart_137 ?_
        refine lv_topi (fun x_27 ex_27 => ?_)
        refine lv_aload_n hx hb dX7_sendPart_138 rfl (lv_at hl 3 rfl) ?_
        refine lv_iload_n hx hb dX7_sendPart_139 rfl (lv_at hl 4 rfl) ?_
        refine va_calli (rnV (fun H => TH E (T1 E) G [] H) (As := [.int p1]) (rest := [.int x_27, .ref v1_1, .ref r_5]) ⟨hx, hb, hml, hown, hts⟩ (t_X4_cellsOf l E z0 G hGz p0 p1 hG0) (cwV 1 hts (gdV ml_X7_149 im_X4_cellsOf se_X4_X4_cellsOf in_X4 co_X4_cellsOf rfl) rfl rfl rfl (by decide +kernel) ⟨Nat.le_of_ble_eq_true rfl, Nat.le_of_ble_eq_true rfl⟩) hT (fun U hU hW => hK.go hW hS hAz hU) (va_recv hK.1 (va_one ha_2) (ci := 4) (q0 := 0) rfl rfl) rfl rfl hl.1 rfl (lv_room (Nat.le_of_ble_eq_true rfl)) dX7_sendPart_140 ⟨Nat.le_of_ble_eq_true rfl, Nat.le_of_ble_eq_true rfl⟩) hS (fun q _ h => h.elim) (fun q h => h.elim) (fun r_28 _ t H locs ht hvm hwr_28 hB hz hk hS => ?_)
        have hT : TH E (T1 E) G [] H := hT.kept (fun q hq => hk q hq (fun h => h))
        have ha_1 := ha_1.kept (hk _ ha_1.lt (fun h => h))
        have ha_2 := ha_2.kept (hk _ ha_2.lt (fun h => h))
        have hr_24 := hr_24.kept (hk _ hr_24.lt (fun h => h))
        refine va_callv (rnV (fun H => TH E (T1 E) G [] H) (As := [.ref v1_1, .int x_27, .int r_28]) (rest := []) ⟨hx, hb, hml, hown, hts⟩ (t_X2_load l E z0 G hGz r_5 v1_1 x_27 r_28 grr_5 hg1_1) (cwV 3 hts (gdV ml_X7_152 im_X2_load se_X2_X2_load in_X2 co_X2_load rfl) rfl rfl rfl (by decide +kernel) ⟨Nat.le_of_ble_eq_true rfl, Nat.le_of_ble_eq_true rfl⟩) hT (fun U hU hW => hK.go hW hS hAz hU) (va_recv hK.1 (va_one hr_24) (ci := 2) (q0 := 0) rfl rfl) rfl rfl hl.1 rfl (lv_room (Nat.le_of_ble_eq_true rfl)) dX7_sendPart_143 ⟨Nat.le_of_ble_eq_true rfl, Nat.le_of_ble_eq_true rfl⟩) hS (fun q _ h => mL (L' := [31, 32]) (L := [4, 31, 32]) (by decide) h) (fun q h => mL (L' := [31, 32]) (L := [4, 31, 32]) (by decide) h) (fun _ t H locs ht hvm hwr_29 hB hz hk hS => ?_)
        have hT : TH E (T1 E) G [] H := by rw [ht] at hB; exact hB
        have ha_1 := ha_1.kept (hk _ ha_1.lt (nL hG (by decide)))
        have ha_2 := ha_2.kept (hk _ ha_2.lt (nL hG0 (by decide)))
        exact W.vret hx hb hr (fun t ht hW => ⟨⟨(), rfl, trivial, (by show TH E (T1 E) G [] t.heap; rw [ht]; exact hT)⟩, hS.F ht⟩) hS.2.2 dX7_sendPart_146
      · simp only [lt_I, le_I, eq_I, i_0, i_1, i_2, i_3, i_4, i_5, i_6, i_7, i_8, i_10, i_12, i_16, i_20, i_23, i_24, i_31, i_32, i_63, i_64, i_m1] at c_22
        refine lv_iconst (v := 2) hx hb dX7_sendPart_54 (by decide) ?_
        refine lv_goto (tgt := 59) hx hb dX7_sendPart_55 (by decide) ?_
        refine lv_iadd hx hb dX7_sendPart_59 ?_
        refine W.eq (g2 := F0 m 60 ls [.int 2, .ref r_5]) (by rfl) ?_
        obtain ⟨v0_30, v1_30, v2_30, v3_30, v4_30, v5_30, v6_30, v7_30, ha_30, hb0_30, hb3_30, hg7_30⟩ := tr_31 hT grr_5
        refine rr_put (D := DG E) (ci := 2) (v := .int 2) (ty := .int) (C := RX2) (T := TX2) (N := 8) hx hb hts iw_X2 tyX2 tyX2_ok nmX2 hown hK.1 ha_30 hS (by show G r_5 ∈ ([4, 31, 32] : List Nat); rw [grr_5]; decide) rfl 4 (by decide) (hts _ fl_X7_135) (fun _ h9 => h9) rfl (by decide +kernel) rfl rfl (Nat.le_of_ble_eq_true rfl) dX7_sendPart_60 (fun H locs hn ho hz hS => ?_)
        have hr_31 : va_at (DG E) vwCl (r_5, .inr (2, [.int v0_30, .int v1_30, .int v2_30, .int v3_30, .int 2, .int v5_30, .int v6_30, .ref v7_30])) H := hn
        have hT : TH E (T1 E) G [] H := hT.set grr_5 (show T1 E G 31 _ from ⟨v0_30, v1_30, v2_30, v3_30, 2, v5_30, v6_30, v7_30, rfl, (by omega), (by omega), hg7_30⟩) hr_31 ho
        have ha_1 := ha_1.kept (ho _ (ne_G hG grr_5 (by decide)))
        have ha_2 := ha_2.kept (ho _ (ne_G hG0 grr_5 (by decide)))
        refine lv_goto (tgt := 85) hx hb dX7_sendPart_63 (by decide) ?_
        refine lv_aload_n hx hb dX7_sendPart_85 rfl (lv_at hl 3 rfl) ?_
        refine va_get (D := DG E) (ci := 4) (v := .int v0_2) (C := RX4) (T := TX4) (N := 10) hx hb hts iw_X4 hown hK.1 (va_one ha_2) 0 rfl rfl 0 (by decide) (hts _ fl_X7_118) (fun _ h9 => h9) rfl dX7_sendPart_86 ?_
        refine lv_iconst (v := 2) hx hb dX7_sendPart_89 (by decide) ?_
        refine lv_icmp_ne (tgt := 107) hx hb dX7_sendPart_90 (by decide) (fun c_32 => ?_) (fun c_32 => by exfalso; simp only [lt_I, le_I, eq_I, i_0, i_1, i_2, i_3, i_4, i_5, i_6, i_7, i_8, i_10, i_12, i_16, i_20, i_23, i_24, i_31, i_32, i_63, i_64, i_m1] at c_32; omega)
        simp only [lt_I, le_I, eq_I, i_0, i_1, i_2, i_3, i_4, i_5, i_6, i_7, i_8, i_10, i_12, i_16, i_20, i_23, i_24, i_31, i_32, i_63, i_64, i_m1] at c_32
        refine lv_aload_n hx hb dX7_sendPart_107 rfl (lv_at hl 3 rfl) ?_
        refine va_get (D := DG E) (ci := 4) (v := .int v0_2) (C := RX4) (T := TX4) (N := 10) hx hb hts iw_X4 hown hK.1 (va_one ha_2) 0 rfl rfl 0 (by decide) (hts _ fl_X7_118) (fun _ h9 => h9) rfl dX7_sendPart_108 ?_
        refine lv_iconst (v := 3) hx hb dX7_sendPart_111 (by decide) ?_
        refine lv_icmp_ne (tgt := 126) hx hb dX7_sendPart_112 (by decide) (fun c_33 => ?_) (fun c_33 => by exfalso; simp only [lt_I, le_I, eq_I, i_0, i_1, i_2, i_3, i_4, i_5, i_6, i_7, i_8, i_10, i_12, i_16, i_20, i_23, i_24, i_31, i_32, i_63, i_64, i_m1] at c_33; omega)
        simp only [lt_I, le_I, eq_I, i_0, i_1, i_2, i_3, i_4, i_5, i_6, i_7, i_8, i_10, i_12, i_16, i_20, i_23, i_24, i_31, i_32, i_63, i_64, i_m1] at c_33
        refine lv_aload_n hx hb dX7_sendPart_126 rfl (lv_at hl 1 rfl) ?_
        refine lv_aload_n hx hb dX7_sendPart_127 rfl (lv_at hl 2 rfl) ?_
        refine va_get (D := DG E) (ci := 7) (v := .ref v1_1) (C := RX7) (T := TX7) (N := 14) hx hb hts iw_X7 hown hK.1 (va_one ha_1) 0 rfl rfl 1 (by decide) (hts _ fl_X7_19) (fun _ h9 => h9) rfl dX7_sendPart_128 ?_
        refine lv_aload_n hx hb dX7_sendPart_131 rfl (lv_at hl 3 rfl) ?_
        refine va_get (D := DG E) (ci := 4) (v := .int v2_2) (C := RX4) (T := TX4) (N := 10) hx hb hts iw_X4 hown hK.1 (va_one ha_2) 0 rfl rfl 2 (by decide) (hts _ fl_X7_146) (fun _ h9 => h9) rfl dX7_sendPart_132 ?_
        refine lv_iload hx hb dX7_sendPart_135 (lv_at hl 0 rfl) ?_
        refine lv_iadd hx hb dX7_sendPart_137 ?_
        refine lv_topi (fun x_34 ex_34 => ?_)
        refine lv_aload_n hx hb dX7_sendPart_138 rfl (lv_at hl 3 rfl) ?_
        refine lv_iload_n hx hb dX7_sendPart_139 rfl (lv_at hl 4 rfl) ?_
        refine va_calli (rnV (fun H => TH E (T1 E) G [] H) (As := [.int p1]) (rest := [.int x_34, .ref v1_1, .ref r_5]) ⟨hx, hb, hml, hown, hts⟩ (t_X4_cellsOf l E z0 G hGz p0 p1 hG0) (cwV 1 hts (gdV ml_X7_149 im_X4_cellsOf se_X4_X4_cellsOf in_X4 co_X4_cellsOf rfl) rfl rfl rfl (by decide +kernel) ⟨Nat.le_of_ble_eq_true rfl, Nat.le_of_ble_eq_true rfl⟩) hT (fun U hU hW => hK.go hW hS hAz hU) (va_recv hK.1 (va_one ha_2) (ci := 4) (q0 := 0) rfl rfl) rfl rfl hl.1 rfl (lv_room (Nat.le_of_ble_eq_true rfl)) dX7_sendPart_140 ⟨Nat.le_of_ble_eq_true rfl, Nat.le_of_ble_eq_true rfl⟩) hS (fun q _ h => h.elim) (fun q h => h.elim) (fun r_35 _ t H locs ht hvm hwr_35 hB hz hk hS => ?_)
        have hT : TH E (T1 E) G [] H := hT.kept (fun q hq => hk q hq (fun h => h))
        have ha_1 := ha_1.kept (hk _ ha_1.lt (fun h => h))
        have ha_2 := ha_2.kept (hk _ ha_2.lt (fun h => h))
        have hr_31 := hr_31.kept (hk _ hr_31.lt (fun h => h))
        refine va_callv (rnV (fun H => TH E (T1 E) G [] H) (As := [.ref v1_1, .int x_34, .int r_35]) (rest := []) ⟨hx, hb, hml, hown, hts⟩ (t_X2_load l E z0 G hGz r_5 v1_1 x_34 r_35 grr_5 hg1_1) (cwV 3 hts (gdV ml_X7_152 im_X2_load se_X2_X2_load in_X2 co_X2_load rfl) rfl rfl rfl (by decide +kernel) ⟨Nat.le_of_ble_eq_true rfl, Nat.le_of_ble_eq_true rfl⟩) hT (fun U hU hW => hK.go hW hS hAz hU) (va_recv hK.1 (va_one hr_31) (ci := 2) (q0 := 0) rfl rfl) rfl rfl hl.1 rfl (lv_room (Nat.le_of_ble_eq_true rfl)) dX7_sendPart_143 ⟨Nat.le_of_ble_eq_true rfl, Nat.le_of_ble_eq_true rfl⟩) hS (fun q _ h => mL (L' := [31, 32]) (L := [4, 31, 32]) (by decide) h) (fun q h => mL (L' := [31, 32]) (L := [4, 31, 32]) (by decide) h) (fun _ t H locs ht hvm hwr_36 hB hz hk hS => ?_)
        have hT : TH E (T1 E) G [] H := by rw [ht] at hB; exact hB
        have ha_1 := ha_1.kept (hk _ ha_1.lt (nL hG (by decide)))
        have ha_2 := ha_2.kept (hk _ ha_2.lt (nL hG0 (by decide)))
        exact W.vret hx hb hr (fun t ht hW => ⟨⟨(), rfl, trivial, (by show TH E (T1 E) G [] t.heap; rw [ht]; exact hT)⟩, hS.F ht⟩) hS.2.2 dX7_sendPart_146
    · simp only [lt_I, le_I, eq_I, i_0, i_1, i_2, i_3, i_4, i_5, i_6, i_7, i_8, i_10, i_12, i_16, i_20, i_23, i_24, i_31, i_32, i_63, i_64, i_m1] at c_20
      refine lv_iconst (v := 1) hx hb dX7_sendPart_41 (by decide) ?_
      refine lv_goto (tgt := 46) hx hb dX7_sendPart_42 (by decide) ?_
      refine lv_aload_n hx hb dX7_sendPart_46 rfl (lv_at hl 3 rfl) ?_
      refine lv_iload_n hx hb dX7_sendPart_47 rfl (lv_at hl 4 rfl) ?_
      refine va_calli (rnV (fun H => TH E (T1 E) G [] H) (As := [.int p1]) (rest := [.int 1, .ref r_5]) ⟨hx, hb, hml, hown, hts⟩ (t_X4_isLastNumber l E z0 G hGz p0 p1 hG0) (cwV 1 hts (gdV ml_X7_131 im_X4_isLastNumber se_X4_X4_isLastNumber in_X4 co_X4_isLastNumber rfl) rfl rfl rfl (by decide +kernel) ⟨Nat.le_of_ble_eq_true rfl, Nat.le_of_ble_eq_true rfl⟩) hT (fun U hU hW => hK.go hW hS hAz hU) (va_recv hK.1 (va_one ha_2) (ci := 4) (q0 := 0) rfl rfl) rfl rfl hl.1 rfl (lv_room (Nat.le_of_ble_eq_true rfl)) dX7_sendPart_48 ⟨Nat.le_of_ble_eq_true rfl, Nat.le_of_ble_eq_true rfl⟩) hS (fun q _ h => h.elim) (fun q h => h.elim) (fun r_37 _ t H locs ht hvm hwr_37 hB hz hk hS => ?_)
      have hT : TH E (T1 E) G [] H := hT.kept (fun q hq => hk q hq (fun h => h))
      have ha_1 := ha_1.kept (hk _ ha_1.lt (fun h => h))
      have ha_2 := ha_2.kept (hk _ ha_2.lt (fun h => h))
      have hzr_37 := s_rng hwr_37
      refine lv_if_eq (tgt := 58) hx hb dX7_sendPart_51 (by decide) (fun c_38 => ?_) (fun c_38 => ?_)
      · simp only [lt_I, le_I, eq_I, i_0, i_1, i_2, i_3, i_4, i_5, i_6, i_7, i_8, i_10, i_12, i_16, i_20, i_23, i_24, i_31, i_32, i_63, i_64, i_m1] at c_38
        refine lv_iconst (v := 0) hx hb dX7_sendPart_58 (by decide) ?_
        refine lv_iadd hx hb dX7_sendPart_59 ?_
        refine W.eq (g2 := F0 m 60 ls [.int 1, .ref r_5]) (by rfl) ?_
        obtain ⟨v0_39, v1_39, v2_39, v3_39, v4_39, v5_39, v6_39, v7_39, ha_39, hb0_39, hb3_39, hg7_39⟩ := tr_31 hT grr_5
        refine rr_put (D := DG E) (ci := 2) (v := .int 1) (ty := .int) (C := RX2) (T := TX2) (N := 8) hx hb hts iw_X2 tyX2 tyX2_ok nmX2 hown hK.1 ha_39 hS (by show G r_5 ∈ ([4, 31, 32] : List Nat); rw [grr_5]; decide) rfl 4 (by decide) (hts _ fl_X7_135) (fun _ h9 => h9) rfl (by decide +kernel) rfl rfl (Nat.le_of_ble_eq_true rfl) dX7_sendPart_60 (fun H locs hn ho hz hS => ?_)
        have hr_40 : va_at (DG E) vwCl (r_5, .inr (2, [.int v0_39, .int v1_39, .int v2_39, .int v3_39, .int 1, .int v5_39, .int v6_39, .ref v7_39])) H := hn
        have hT : TH E (T1 E) G [] H := hT.set grr_5 (show T1 E G 31 _ from ⟨v0_39, v1_39, v2_39, v3_39, 1, v5_39, v6_39, v7_39, rfl, (by omega), (by omega), hg7_39⟩) hr_40 ho
        have ha_1 := ha_1.kept (ho _ (ne_G hG grr_5 (by decide)))
        have ha_2 := ha_2.kept (ho _ (ne_G hG0 grr_5 (by decide)))
        refine lv_goto (tgt := 85) hx hb dX7_sendPart_63 (by decide) ?_
        refine lv_aload_n hx hb dX7_sendPart_85 rfl (lv_at hl 3 rfl) ?_
        refine va_get (D := DG E) (ci := 4) (v := .int v0_2) (C := RX4) (T := TX4) (N := 10) hx hb hts iw_X4 hown hK.1 (va_one ha_2) 0 rfl rfl 0 (by decide) (hts _ fl_X7_118) (fun _ h9 => h9) rfl dX7_sendPart_86 ?_
        refine lv_iconst (v := 2) hx hb dX7_sendPart_89 (by decide) ?_
        refine lv_icmp_ne (tgt := 107) hx hb dX7_sendPart_90 (by decide) (fun c_41 => ?_) (fun c_41 => by exfalso; simp only [lt_I, le_I, eq_I, i_0, i_1, i_2, i_3, i_4, i_5, i_6, i_7, i_8, i_10, i_12, i_16, i_20, i_23, i_24, i_31, i_32, i_63, i_64, i_m1] at c_41; omega)
        simp only [lt_I, le_I, eq_I, i_0, i_1, i_2, i_3, i_4, i_5, i_6, i_7, i_8, i_10, i_12, i_16, i_20, i_23, i_24, i_31, i_32, i_63, i_64, i_m1] at c_41
        refine lv_aload_n hx hb dX7_sendPart_107 rfl (lv_at hl 3 rfl) ?_
        refine va_get (D := DG E) (ci := 4) (v := .int v0_2) (C := RX4) (T := TX4) (N := 10) hx hb hts iw_X4 hown hK.1 (va_one ha_2) 0 rfl rfl 0 (by decide) (hts _ fl_X7_118) (fun _ h9 => h9) rfl dX7_sendPart_108 ?_
        refine lv_iconst (v := 3) hx hb dX7_sendPart_111 (by decide) ?_
        refine lv_icmp_ne (tgt := 126) hx hb dX7_sendPart_112 (by decide) (fun c_42 => ?_) (fun c_42 => by exfalso; simp only [lt_I, le_I, eq_I, i_0, i_1, i_2, i_3, i_4, i_5, i_6, i_7, i_8, i_10, i_12, i_16, i_20, i_23, i_24, i_31, i_32, i_63, i_64, i_m1] at c_42; omega)
        simp only [lt_I, le_I, eq_I, i_0, i_1, i_2, i_3, i_4, i_5, i_6, i_7, i_8, i_10, i_12, i_16, i_20, i_23, i_24, i_31, i_32, i_63, i_64, i_m1] at c_42
        refine lv_aload_n hx hb dX7_sendPart_126 rfl (lv_at hl 1 rfl) ?_
        refine lv_aload_n hx hb dX7_sendPart_127 rfl (lv_at hl 2 rfl) ?_
        refine va_get (D := DG E) (ci := 7) (v := .ref v1_1) (C := RX7) (T := TX7) (N := 14) hx hb hts iw_X7 hown hK.1 (va_one ha_1) 0 rfl rfl 1 (by decide) (hts _ fl_X7_19) (fun _ h9 => h9) rfl dX7_sendPart_128 ?_
        refine lv_aload_n hx hb dX7_sendPart_131 rfl (lv_at hl 3 rfl) ?_
        refine va_get (D := DG E) (ci := 4) (v := .int v2_2) (C := RX4) (T := TX4) (N := 10) hx hb hts iw_X4 hown hK.1 (va_one ha_2) 0 rfl rfl 2 (by decide) (hts _ fl_X7_146) (fun _ h9 => h9) rfl dX7_sendPart_132 ?_
        refine lv_iload hx hb dX7_sendPart_135 (lv_at hl 0 rfl) ?_
        refine lv_iadd hx hb dX7_sendPart_137 ?_
        refine lv_topi (fun x_43 ex_43 => ?_)
        refine lv_aload_n hx hb dX7_sendPart_138 rfl (lv_at hl 3 rfl) ?_
        refine lv_iload_n hx hb dX7_sendPart_139 rfl (lv_at hl 4 rfl) ?_
        refine va_calli (rnV (fun H => TH E (T1 E) G [] H) (As := [.int p1]) (rest := [.int x_43, .ref v1_1, .ref r_5]) ⟨hx, hb, hml, hown, hts⟩ (t_X4_cellsOf l E z0 G hGz p0 p1 hG0) (cwV 1 hts (gdV ml_X7_149 im_X4_cellsOf se_X4_X4_cellsOf in_X4 co_X4_cellsOf rfl) rfl rfl rfl (by decide +kernel) ⟨Nat.le_of_ble_eq_true rfl, Nat.le_of_ble_eq_true rfl⟩) hT (fun U hU hW => hK.go hW hS hAz hU) (va_recv hK.1 (va_one ha_2) (ci := 4) (q0 := 0) rfl rfl) rfl rfl hl.1 rfl (lv_room (Nat.le_of_ble_eq_true rfl)) dX7_sendPart_140 ⟨Nat.le_of_ble_eq_true rfl, Nat.le_of_ble_eq_true rfl⟩) hS (fun q _ h => h.elim) (fun q h => h.elim) (fun r_44 _ t H locs ht hvm hwr_44 hB hz hk hS => ?_)
        have hT : TH E (T1 E) G [] H := hT.kept (fun q hq => hk q hq (fun h => h))
        have ha_1 := ha_1.kept (hk _ ha_1.lt (fun h => h))
        have ha_2 := ha_2.kept (hk _ ha_2.lt (fun h => h))
        have hr_40 := hr_40.kept (hk _ hr_40.lt (fun h => h))
        refine va_callv (rnV (fun H => TH E (T1 E) G [] H) (As := [.ref v1_1, .int x_43, .int r_44]) (rest := []) ⟨hx, hb, hml, hown, hts⟩ (t_X2_load l E z0 G hGz r_5 v1_1 x_43 r_44 grr_5 hg1_1) (cwV 3 hts (gdV ml_X7_152 im_X2_load se_X2_X2_load in_X2 co_X2_load rfl) rfl rfl rfl (by decide +kernel) ⟨Nat.le_of_ble_eq_true rfl, Nat.le_of_ble_eq_true rfl⟩) hT (fun U hU hW => hK.go hW hS hAz hU) (va_recv hK.1 (va_one hr_40) (ci := 2) (q0 := 0) rfl rfl) rfl rfl hl.1 rfl (lv_room (Nat.le_of_ble_eq_true rfl)) dX7_sendPart_143 ⟨Nat.le_of_ble_eq_true rfl, Nat.le_of_ble_eq_true rfl⟩) hS (fun q _ h => mL (L' := [31, 32]) (L := [4, 31, 32]) (by decide) h) (fun q h => mL (L' := [31, 32]) (L := [4, 31, 32]) (by decide) h) (fun _ t H locs ht hvm hwr_45 hB hz hk hS => ?_)
        have hT : TH E (T1 E) G [] H := by rw [ht] at hB; exact hB
        have ha_1 := ha_1.kept (hk _ ha_1.lt (nL hG (by decide)))
        have ha_2 := ha_2.kept (hk _ ha_2.lt (nL hG0 (by decide)))
        exact W.vret hx hb hr (fun t ht hW => ⟨⟨(), rfl, trivial, (by show TH E (T1 E) G [] t.heap; rw [ht]; exact hT)⟩, hS.F ht⟩) hS.2.2 dX7_sendPart_146
      · simp only [lt_I, le_I, eq_I, i_0, i_1, i_2, i_3, i_4, i_5, i_6, i_7, i_8, i_10, i_12, i_16, i_20, i_23, i_24, i_31, i_32, i_63, i_64, i_m1] at c_38
        refine lv_iconst (v := 2) hx hb dX7_sendPart_54 (by decide) ?_
        refine lv_goto (tgt := 59) hx hb dX7_sendPart_55 (by decide) ?_
        refine lv_iadd hx hb dX7_sendPart_59 ?_
        refine W.eq (g2 := F0 m 60 ls [.int 3, .ref r_5]) (by rfl) ?_
        obtain ⟨v0_46, v1_46, v2_46, v3_46, v4_46, v5_46, v6_46, v7_46, ha_46, hb0_46, hb3_46, hg7_46⟩ := tr_31 hT grr_5
        refine rr_put (D := DG E) (ci := 2) (v := .int 3) (ty := .int) (C := RX2) (T := TX2) (N := 8) hx hb hts iw_X2 tyX2 tyX2_ok nmX2 hown hK.1 ha_46 hS (by show G r_5 ∈ ([4, 31, 32] : List Nat); rw [grr_5]; decide) rfl 4 (by decide) (hts _ fl_X7_135) (fun _ h9 => h9) rfl (by decide +kernel) rfl rfl (Nat.le_of_ble_eq_true rfl) dX7_sendPart_60 (fun H locs hn ho hz hS => ?_)
        have hr_47 : va_at (DG E) vwCl (r_5, .inr (2, [.int v0_46, .int v1_46, .int v2_46, .int v3_46, .int 3, .int v5_46, .int v6_46, .ref v7_46])) H := hn
        have hT : TH E (T1 E) G [] H := hT.set grr_5 (show T1 E G 31 _ from ⟨v0_46, v1_46, v2_46, v3_46, 3, v5_46, v6_46, v7_46, rfl, (by omega), (by omega), hg7_46⟩) hr_47 ho
        have ha_1 := ha_1.kept (ho _ (ne_G hG grr_5 (by decide)))
        have ha_2 := ha_2.kept (ho _ (ne_G hG0 grr_5 (by decide)))
        refine lv_goto (tgt := 85) hx hb dX7_sendPart_63 (by decide) ?_
        refine lv_aload_n hx hb dX7_sendPart_85 rfl (lv_at hl 3 rfl) ?_
        refine va_get (D := DG E) (ci := 4) (v := .int v0_2) (C := RX4) (T := TX4) (N := 10) hx hb hts iw_X4 hown hK.1 (va_one ha_2) 0 rfl rfl 0 (by decide) (hts _ fl_X7_118) (fun _ h9 => h9) rfl dX7_sendPart_86 ?_
        refine lv_iconst (v := 2) hx hb dX7_sendPart_89 (by decide) ?_
        refine lv_icmp_ne (tgt := 107) hx hb dX7_sendPart_90 (by decide) (fun c_48 => ?_) (fun c_48 => by exfalso; simp only [lt_I, le_I, eq_I, i_0, i_1, i_2, i_3, i_4, i_5, i_6, i_7, i_8, i_10, i_12, i_16, i_20, i_23, i_24, i_31, i_32, i_63, i_64, i_m1] at c_48; omega)
        simp only [lt_I, le_I, eq_I, i_0, i_1, i_2, i_3, i_4, i_5, i_6, i_7, i_8, i_10, i_12, i_16, i_20, i_23, i_24, i_31, i_32, i_63, i_64, i_m1] at c_48
        refine lv_aload_n hx hb dX7_sendPart_107 rfl (lv_at hl 3 rfl) ?_
        refine va_get (D := DG E) (ci := 4) (v := .int v0_2) (C := RX4) (T := TX4) (N := 10) hx hb hts iw_X4 hown hK.1 (va_one ha_2) 0 rfl rfl 0 (by decide) (hts _ fl_X7_118) (fun _ h9 => h9) rfl dX7_sendPart_108 ?_
        refine lv_iconst (v := 3) hx hb dX7_sendPart_111 (by decide) ?_
        refine lv_icmp_ne (tgt := 126) hx hb dX7_sendPart_112 (by decide) (fun c_49 => ?_) (fun c_49 => by exfalso; simp only [lt_I, le_I, eq_I, i_0, i_1, i_2, i_3, i_4, i_5, i_6, i_7, i_8, i_10, i_12, i_16, i_20, i_23, i_24, i_31, i_32, i_63, i_64, i_m1] at c_49; omega)
        simp only [lt_I, le_I, eq_I, i_0, i_1, i_2, i_3, i_4, i_5, i_6, i_7, i_8, i_10, i_12, i_16, i_20, i_23, i_24, i_31, i_32, i_63, i_64, i_m1] at c_49
        refine lv_aload_n hx hb dX7_sendPart_126 rfl (lv_at hl 1 rfl) ?_
        refine lv_aload_n hx hb dX7_sendPart_127 rfl (lv_at hl 2 rfl) ?_
        refine va_get (D := DG E) (ci := 7) (v := .ref v1_1) (C := RX7) (T := TX7) (N := 14) hx hb hts iw_X7 hown hK.1 (va_one ha_1) 0 rfl rfl 1 (by decide) (hts _ fl_X7_19) (fun _ h9 => h9) rfl dX7_sendPart_128 ?_
        refine lv_aload_n hx hb dX7_sendPart_131 rfl (lv_at hl 3 rfl) ?_
        refine va_get (D := DG E) (ci := 4) (v := .int v2_2) (C := RX4) (T := TX4) (N := 10) hx hb hts iw_X4 hown hK.1 (va_one ha_2) 0 rfl rfl 2 (by decide) (hts _ fl_X7_146) (fun _ h9 => h9) rfl dX7_sendPart_132 ?_
        refine lv_iload hx hb dX7_sendPart_135 (lv_at hl 0 rfl) ?_
        refine lv_iadd hx hb dX7_sendPart_137 ?_
        refine lv_topi (fun x_50 ex_50 => ?_)
        refine lv_aload_n hx hb dX7_sendPart_138 rfl (lv_at hl 3 rfl) ?_
        refine lv_iload_n hx hb dX7_sendPart_139 rfl (lv_at hl 4 rfl) ?_
        refine va_calli (rnV (fun H => TH E (T1 E) G [] H) (As := [.int p1]) (rest := [.int x_50, .ref v1_1, .ref r_5]) ⟨hx, hb, hml, hown, hts⟩ (t_X4_cellsOf l E z0 G hGz p0 p1 hG0) (cwV 1 hts (gdV ml_X7_149 im_X4_cellsOf se_X4_X4_cellsOf in_X4 co_X4_cellsOf rfl) rfl rfl rfl (by decide +kernel) ⟨Nat.le_of_ble_eq_true rfl, Nat.le_of_ble_eq_true rfl⟩) hT (fun U hU hW => hK.go hW hS hAz hU) (va_recv hK.1 (va_one ha_2) (ci := 4) (q0 := 0) rfl rfl) rfl rfl hl.1 rfl (lv_room (Nat.le_of_ble_eq_true rfl)) dX7_sendPart_140 ⟨Nat.le_of_ble_eq_true rfl, Nat.le_of_ble_eq_true rfl⟩) hS (fun q _ h => h.elim) (fun q h => h.elim) (fun r_51 _ t H locs ht hvm hwr_51 hB hz hk hS => ?_)
        have hT : TH E (T1 E) G [] H := hT.kept (fun q hq => hk q hq (fun h => h))
        have ha_1 := ha_1.kept (hk _ ha_1.lt (fun h => h))
        have ha_2 := ha_2.kept (hk _ ha_2.lt (fun h => h))
        have hr_47 := hr_47.kept (hk _ hr_47.lt (fun h => h))
        refine va_callv (rnV (fun H => TH E (T1 E) G [] H) (As := [.ref v1_1, .int x_50, .int r_51]) (rest := []) ⟨hx, hb, hml, hown, hts⟩ (t_X2_load l E z0 G hGz r_5 v1_1 x_50 r_51 grr_5 hg1_1) (cwV 3 hts (gdV ml_X7_152 im_X2_load se_X2_X2_load in_X2 co_X2_load rfl) rfl rfl rfl (by decide +kernel) ⟨Nat.le_of_ble_eq_true rfl, Nat.le_of_ble_eq_true rfl⟩) hT (fun U hU hW => hK.go hW hS hAz hU) (va_recv hK.1 (va_one hr_47) (ci := 2) (q0 := 0) rfl rfl) rfl rfl hl.1 rfl (lv_room (Nat.le_of_ble_eq_true rfl)) dX7_sendPart_143 ⟨Nat.le_of_ble_eq_true rfl, Nat.le_of_ble_eq_true rfl⟩) hS (fun q _ h => mL (L' := [31, 32]) (L := [4, 31, 32]) (by decide) h) (fun q h => mL (L' := [31, 32]) (L := [4, 31, 32]) (by decide) h) (fun _ t H locs ht hvm hwr_52 hB hz hk hS => ?_)
        have hT : TH E (T1 E) G [] H := by rw [ht] at hB; exact hB
        have ha_1 := ha_1.kept (hk _ ha_1.lt (nL hG (by decide)))
        have ha_2 := ha_2.kept (hk _ ha_2.lt (nL hG0 (by decide)))
        exact W.vret hx hb hr (fun t ht hW => ⟨⟨(), rfl, trivial, (by show TH E (T1 E) G [] t.heap; rw [ht]; exact hT)⟩, hS.F ht⟩) hS.2.2 dX7_sendPart_146
theorem dX7_sendNext_0 : decode cX7_sendNext 0 = .ok (.aload_n 0, 1) := by decide +kernel
theorem dX7_sendNext_1 : decode cX7_sendNext 1 = .ok (.aload_n 0, 1) := by decide +kernel
theorem dX7_sendNext_2 : decode cX7_sendNext 2 = .ok (.getfield 71, 3) := by decide +kernel
theorem dX7_sendNext_5 : decode cX7_sendNext 5 = .ok (.invokevirtual 115, 3) := by decide +kernel
theorem dX7_sendNext_8 : decode cX7_sendNext 8 = .ok (.istore_n 1, 1) := by decide +kernel
theorem dX7_sendNext_9 : decode cX7_sendNext 9 = .ok (.aload_n 0, 1) := by decide +kernel
theorem dX7_sendNext_10 : decode cX7_sendNext 10 = .ok (.getfield 61, 3) := by decide +kernel
theorem dX7_sendNext_13 : decode cX7_sendNext 13 = .ok (.ifCond .ne 8, 3) := by decide +kernel
theorem dX7_sendNext_16 : decode cX7_sendNext 16 = .ok (.iload_n 1, 1) := by decide +kernel
theorem dX7_sendNext_17 : decode cX7_sendNext 17 = .ok (.iconst (-1), 1) := by decide +kernel
theorem dX7_sendNext_18 : decode cX7_sendNext 18 = .ok (.if_icmp .ne 5, 3) := by decide +kernel
theorem dX7_sendNext_21 : decode cX7_sendNext 21 = .ok (.iconst (-1), 1) := by decide +kernel
theorem dX7_sendNext_22 : decode cX7_sendNext 22 = .ok (.ireturn, 1) := by decide +kernel
theorem dX7_sendNext_23 : decode cX7_sendNext 23 = .ok (.aload_n 0, 1) := by decide +kernel
theorem dX7_sendNext_24 : decode cX7_sendNext 24 = .ok (.getfield 41, 3) := by decide +kernel
theorem dX7_sendNext_27 : decode cX7_sendNext 27 = .ok (.iload_n 1, 1) := by decide +kernel
theorem dX7_sendNext_28 : decode cX7_sendNext 28 = .ok (.invokevirtual 108, 3) := by decide +kernel
theorem dX7_sendNext_31 : decode cX7_sendNext 31 = .ok (.astore_n 2, 1) := by decide +kernel
theorem dX7_sendNext_32 : decode cX7_sendNext 32 = .ok (.aload_n 2, 1) := by decide +kernel
theorem dX7_sendNext_33 : decode cX7_sendNext 33 = .ok (.getfield 78, 3) := by decide +kernel
theorem dX7_sendNext_36 : decode cX7_sendNext 36 = .ok (.aload_n 0, 1) := by decide +kernel
theorem dX7_sendNext_37 : decode cX7_sendNext 37 = .ok (.getfield 71, 3) := by decide +kernel
theorem dX7_sendNext_40 : decode cX7_sendNext 40 = .ok (.invokestatic 112, 3) := by decide +kernel
theorem dX7_sendNext_43 : decode cX7_sendNext 43 = .ok (.istore_n 3, 1) := by decide +kernel
theorem dX7_sendNext_44 : decode cX7_sendNext 44 = .ok (.aload_n 2, 1) := by decide +kernel
theorem dX7_sendNext_45 : decode cX7_sendNext 45 = .ok (.getfield 118, 3) := by decide +kernel
theorem dX7_sendNext_48 : decode cX7_sendNext 48 = .ok (.iconst 2, 1) := by decide +kernel
theorem dX7_sendNext_49 : decode cX7_sendNext 49 = .ok (.if_icmp .ne 12, 3) := by decide +kernel
theorem dX7_sendNext_52 : decode cX7_sendNext 52 = .ok (.aload_n 2, 1) := by decide +kernel
theorem dX7_sendNext_53 : decode cX7_sendNext 53 = .ok (.getfield 86, 3) := by decide +kernel
theorem dX7_sendNext_56 : decode cX7_sendNext 56 = .ok (.iload_n 3, 1) := by decide +kernel
theorem dX7_sendNext_57 : decode cX7_sendNext 57 = .ok (.isub, 1) := by decide +kernel
theorem dX7_sendNext_58 : decode cX7_sendNext 58 = .ok (.goto 4, 3) := by decide +kernel
theorem dX7_sendNext_61 : decode cX7_sendNext 61 = .ok (.iconst 1, 1) := by decide +kernel
theorem dX7_sendNext_62 : decode cX7_sendNext 62 = .ok (.istore 4, 2) := by decide +kernel
theorem dX7_sendNext_64 : decode cX7_sendNext 64 = .ok (.aload_n 0, 1) := by decide +kernel
theorem dX7_sendNext_65 : decode cX7_sendNext 65 = .ok (.getfield 68, 3) := by decide +kernel
theorem dX7_sendNext_68 : decode cX7_sendNext 68 = .ok (.aload_n 0, 1) := by decide +kernel
theorem dX7_sendNext_69 : decode cX7_sendNext 69 = .ok (.getfield 71, 3) := by decide +kernel
theorem dX7_sendNext_72 : decode cX7_sendNext 72 = .ok (.invokestatic 112, 3) := by decide +kernel
theorem dX7_sendNext_75 : decode cX7_sendNext 75 = .ok (.iload 4, 2) := by decide +kernel
theorem dX7_sendNext_77 : decode cX7_sendNext 77 = .ok (.iadd, 1) := by decide +kernel
theorem dX7_sendNext_78 : decode cX7_sendNext 78 = .ok (.bipush 8, 2) := by decide +kernel
theorem dX7_sendNext_80 : decode cX7_sendNext 80 = .ok (.if_icmp .le 5, 3) := by decide +kernel
theorem dX7_sendNext_83 : decode cX7_sendNext 83 = .ok (.iconst (-1), 1) := by decide +kernel
theorem dX7_sendNext_84 : decode cX7_sendNext 84 = .ok (.ireturn, 1) := by decide +kernel
theorem dX7_sendNext_85 : decode cX7_sendNext 85 = .ok (.aload_n 0, 1) := by decide +kernel
theorem dX7_sendNext_86 : decode cX7_sendNext 86 = .ok (.aload_n 2, 1) := by decide +kernel
theorem dX7_sendNext_87 : decode cX7_sendNext 87 = .ok (.iload_n 3, 1) := by decide +kernel
theorem dX7_sendNext_88 : decode cX7_sendNext 88 = .ok (.invokevirtual 121, 3) := by decide +kernel
theorem dX7_sendNext_91 : decode cX7_sendNext 91 = .ok (.aload_n 0, 1) := by decide +kernel
theorem dX7_sendNext_92 : decode cX7_sendNext 92 = .ok (.getfield 71, 3) := by decide +kernel
theorem dX7_sendNext_95 : decode cX7_sendNext 95 = .ok (.aload_n 0, 1) := by decide +kernel
theorem dX7_sendNext_96 : decode cX7_sendNext 96 = .ok (.getfield 68, 3) := by decide +kernel
theorem dX7_sendNext_99 : decode cX7_sendNext 99 = .ok (.if_icmp .ne 8, 3) := by decide +kernel
theorem dX7_sendNext_102 : decode cX7_sendNext 102 = .ok (.aload_n 0, 1) := by decide +kernel
theorem dX7_sendNext_103 : decode cX7_sendNext 103 = .ok (.iconst 0, 1) := by decide +kernel
theorem dX7_sendNext_104 : decode cX7_sendNext 104 = .ok (.putfield 52, 3) := by decide +kernel
theorem dX7_sendNext_107 : decode cX7_sendNext 107 = .ok (.aload_n 0, 1) := by decide +kernel
theorem dX7_sendNext_108 : decode cX7_sendNext 108 = .ok (.getfield 71, 3) := by decide +kernel
theorem dX7_sendNext_111 : decode cX7_sendNext 111 = .ok (.istore 5, 2) := by decide +kernel
theorem dX7_sendNext_113 : decode cX7_sendNext 113 = .ok (.aload_n 0, 1) := by decide +kernel
theorem dX7_sendNext_114 : decode cX7_sendNext 114 = .ok (.aload_n 0, 1) := by decide +kernel
theorem dX7_sendNext_115 : decode cX7_sendNext 115 = .ok (.getfield 71, 3) := by decide +kernel
theorem dX7_sendNext_118 : decode cX7_sendNext 118 = .ok (.iload 4, 2) := by decide +kernel
theorem dX7_sendNext_120 : decode cX7_sendNext 120 = .ok (.invokestatic 98, 3) := by decide +kernel
theorem dX7_sendNext_123 : decode cX7_sendNext 123 = .ok (.putfield 71, 3) := by decide +kernel
theorem dX7_sendNext_126 : decode cX7_sendNext 126 = .ok (.iload 5, 2) := by decide +kernel
theorem dX7_sendNext_128 : decode cX7_sendNext 128 = .ok (.ireturn, 1) := by decide +kernel
set_option maxHeartbeats 8000000 in
set_option maxRecDepth 100000 in
theorem t_X7_sendNext (l : Launch) (E : EE) (z0 : Nat) (G : Nat → Nat) (hGz : ∀ q, G q ≠ 0 → z0 ≤ q) (h0 : Nat) (hG : G h0 = 9) : Met l yX7_sendNext [Cond.code yX7_sendNext cX7_sendNext 6 (some .int)] ({ frames := 4, cells := 0, slots := 0, locals := 89 } : Room) (va_Pc [.ref h0] (fun U => (TH E (T1 E) G [] U.heap) ∧ KS E z0 U)) (va_Qi (fun (r : Int32) (_ : Unit) => True) (fun _ t => TH E (T1 E) G [] t.heap) (fun q : Nat => G q ∈ ([9, 4, 31, 32] : List Nat))) 0 0 (fun q : Nat => G q ∈ ([9, 4, 31, 32] : List Nat)) := by
  refine Met.ofW (cc := cX7_sendNext) (maxL := 6) (ret := (some .int)) (by decide) rfl ?_
  intro p e s m args below meth c s₁ B hml hv
  obtain ⟨rfl, hT, hK⟩ := hv
  have hx := B.exec
  have hb := B.bytes
  have hr := B.returns
  have hts : ∀ w ∈ TS, w.before ([.ref h0] : List Value).toArray s = true := fun w hw => hK.2.1 w hw _
  have hown : s.vm.findClass RX7 = some m.cls := findClass_of_methodNamed B.named
  have hlocks := B.notSynchronized
  have hS : va_S (fun q : Nat => G q ∈ ([9, 4, 31, 32] : List Nat)) s.heap s.heap [] := va_S.rf
  have hAz : ∀ q, (fun q : Nat => G q ∈ ([9, 4, 31, 32] : List Nat)) q → z0 ≤ q := zL hGz (by decide)
  have hl := lv_entry ([.ref h0]) (n := 6) (Nat.le_of_ble_eq_true rfl)
  rw [lg_entry_eq]
  generalize (lg_sl ([.ref h0]) ++ List.replicate (6 - (lg_sl ([.ref h0])).length) Slot.unset).toArray = ls at hl ⊢
  have hl : lv_has ls 6 [(0, .ref h0)] := hl
  refine lv_aload_n hx hb dX7_sendNext_0 rfl (lv_at hl 0 rfl) ?_
  refine lv_aload_n hx hb dX7_sendNext_1 rfl (lv_at hl 0 rfl) ?_
  obtain ⟨v0_1, v1_1, v2_1, v3_1, v4_1, v5_1, v6_1, v7_1, v8_1, v9_1, v10_1, v11_1, v12_1, v13_1, ha_1, hb0_1, hg1_1, hg2_1, hg6_1⟩ := tr_9 hT hG
  refine va_get (D := DG E) (ci := 7) (v := .int v9_1) (C := RX7) (T := TX7) (N := 14) hx hb hts iw_X7 hown hK.1 (va_one ha_1) 0 rfl rfl 9 (by decide) (hts _ fl_X7_71) (fun _ h9 => h9) rfl dX7_sendNext_2 ?_
  refine va_calli (rnV (fun H => TH E (T1 E) G [] H) (As := [.int v9_1]) (rest := []) ⟨hx, hb, hml, hown, hts⟩ (t_X7_ownerOf l E z0 G hGz h0 v9_1 hG) (cwV 1 hts (gdV ml_X7_115 im_X7_ownerOf se_X7_X7_ownerOf in_X7 co_X7_ownerOf rfl) rfl rfl rfl (by decide +kernel) ⟨Nat.le_of_ble_eq_true rfl, Nat.le_of_ble_eq_true rfl⟩) hT (fun U hU hW => hK.go hW hS hAz hU) (va_recv hK.1 (va_one ha_1) (ci := 7) (q0 := 0) rfl rfl) rfl rfl hl.1 rfl (lv_room (Nat.le_of_ble_eq_true rfl)) dX7_sendNext_5 ⟨Nat.le_of_ble_eq_true rfl, Nat.le_of_ble_eq_true rfl⟩) hS (fun q _ h => h.elim) (fun q h => h.elim) (fun r_2 _ t H locs ht hvm hwr_2 hB hz hk hS => ?_)
  have hT : TH E (T1 E) G [] H := hT.kept (fun q hq => hk q hq (fun h => h))
  have ha_1 := ha_1.kept (hk _ ha_1.lt (fun h => h))
  refine lv_istore_n (lv' := [(1, .int r_2), (0, .ref h0)]) hx hb dX7_sendNext_8 rfl hl (by decide) rfl (fun ls hl => ?_)
  refine lv_aload_n hx hb dX7_sendNext_9 rfl (lv_at hl 1 rfl) ?_
  refine va_get (D := DG E) (ci := 7) (v := .int v13_1) (C := RX7) (T := TX7) (N := 14) hx hb hts iw_X7 hown hK.1 (va_one ha_1) 0 rfl rfl 13 (by decide) (hts _ fl_X7_61) (fun _ h9 => h9) rfl dX7_sendNext_10 ?_
  refine lv_if_ne (tgt := 21) hx hb dX7_sendNext_13 (by decide) (fun c_3 => ?_) (fun c_3 => ?_)
  · simp only [lt_I, le_I, eq_I, i_0, i_1, i_2, i_3, i_4, i_5, i_6, i_7, i_8, i_10, i_12, i_16, i_20, i_23, i_24, i_31, i_32, i_63, i_64, i_m1] at c_3
    refine lv_iconst (v := (-1)) hx hb dX7_sendNext_21 (by decide) ?_
    exact W.iret (v := (-1)) hx hb hr (fun t ht hW => ⟨⟨(-1), (), rfl, trivial, (by show TH E (T1 E) G [] t.heap; rw [ht]; exact hT)⟩, hS.F ht⟩) hS.2.2 dX7_sendNext_22
  · simp only [lt_I, le_I, eq_I, i_0, i_1, i_2, i_3, i_4, i_5, i_6, i_7, i_8, i_10, i_12, i_16, i_20, i_23, i_24, i_31, i_32, i_63, i_64, i_m1] at c_3
    refine lv_iload_n hx hb dX7_sendNext_16 rfl (lv_at hl 0 rfl) ?_
    refine lv_iconst (v := (-1)) hx hb dX7_sendNext_17 (by decide) ?_
    refine lv_icmp_ne (tgt := 23) hx hb dX7_sendNext_18 (by decide) (fun c_4 => ?_) (fun c_4 => ?_)
    · simp only [lt_I, le_I, eq_I, i_0, i_1, i_2, i_3, i_4, i_5, i_6, i_7, i_8, i_10, i_12, i_16, i_20, i_23, i_24, i_31, i_32, i_63, i_64, i_m1] at c_4
      refine lv_aload_n hx hb dX7_sendNext_23 rfl (lv_at hl 1 rfl) ?_
      refine va_get (D := DG E) (ci := 7) (v := .ref v6_1) (C := RX7) (T := TX7) (N := 14) hx hb hts iw_X7 hown hK.1 (va_one ha_1) 0 rfl rfl 6 (by decide) (hts _ fl_X7_41) (fun _ h9 => h9) rfl dX7_sendNext_24 ?_
      refine lv_iload_n hx hb dX7_sendNext_27 rfl (lv_at hl 0 rfl) ?_
      obtain ⟨v0_5, v1_5, v2_5, v3_5, v4_5, v5_5, ha_5, hg1_5, hg2_5, hb3_5, hb4_5⟩ := tr_11 hT hg6_1
      refine va_callr (rnV (fun H => TH E (T1 E) G [] H) (As := [.int r_2]) (rest := []) ⟨hx, hb, hml, hown, hts⟩ (t_X5_at l E z0 G hGz v6_1 r_2 hg6_1 (by first | omega | decide)) (cwV 1 hts (gdV ml_X7_108 im_X5_at se_X5_X5_at in_X5 co_X5_at rfl) rfl rfl rfl (by decide +kernel) ⟨Nat.le_of_ble_eq_true rfl, Nat.le_of_ble_eq_true rfl⟩) hT (fun U hU hW => hK.go hW hS hAz hU) (va_recv hK.1 (va_one ha_5) (ci := 5) (q0 := 0) rfl rfl) rfl rfl hl.1 rfl (lv_room (Nat.le_of_ble_eq_true rfl)) dX7_sendNext_28 ⟨Nat.le_of_ble_eq_true rfl, Nat.le_of_ble_eq_true rfl⟩) hS (fun q _ h => h.elim) (fun q h => h.elim) (fun _ r_6 t H locs ht hvm hwr_6 hB hz hk hS => ?_)
      have grr_6 : G r_6 = 13 := hB
      have hT : TH E (T1 E) G [] H := hT.kept (fun q hq => hk q hq (fun h => h))
      have ha_1 := ha_1.kept (hk _ ha_1.lt (fun h => h))
      have ha_5 := ha_5.kept (hk _ ha_5.lt (fun h => h))
      refine lv_astore_n (lv' := [(2, .ref r_6), (1, .int r_2), (0, .ref h0)]) hx hb dX7_sendNext_31 rfl hl (by decide) rfl (fun ls hl => ?_)
      refine lv_aload_n hx hb dX7_sendNext_32 rfl (lv_at hl 0 rfl) ?_
      obtain ⟨v0_7, v1_7, v2_7, v3_7, v4_7, v5_7, v6_7, v7_7, v8_7, v9_7, ha_7, hb3_7⟩ := tr_13 hT grr_6
      refine va_get (D := DG E) (ci := 4) (v := .int v4_7) (C := RX4) (T := TX4) (N := 10) hx hb hts iw_X4 hown hK.1 (va_one ha_7) 0 rfl rfl 4 (by decide) (hts _ fl_X7_78) (fun _ h9 => h9) rfl dX7_sendNext_33 ?_
      refine lv_aload_n hx hb dX7_sendNext_36 rfl (lv_at hl 2 rfl) ?_
      refine va_get (D := DG E) (ci := 7) (v := .int v9_1) (C := RX7) (T := TX7) (N := 14) hx hb hts iw_X7 hown hK.1 (va_one ha_1) 0 rfl rfl 9 (by decide) (hts _ fl_X7_71) (fun _ h9 => h9) rfl dX7_sendNext_37 ?_
      refine rnSN (As := [.int v4_7, .int v9_1]) (rest := []) ⟨hx, hb, hml, hown, hts⟩ (c_X9_distance l v4_7 v9_1) ⟨va_cnB (host := RX9) 2 hts (gd1 co_X9_distance rfl) rfl rfl rfl (hK.2.1 _ mn_X7_112 #[]) (hts _ in_X9) (by decide +kernel) ⟨Nat.le_of_ble_eq_true rfl, Nat.le_of_ble_eq_true rfl⟩, hts _ st_X9_distance, trivial⟩ rfl rfl hl.1 rfl (lv_room (Nat.le_of_ble_eq_true rfl)) dX7_sendNext_40 ⟨Nat.le_of_ble_eq_true rfl, Nat.le_of_ble_eq_true rfl⟩ ?_
      refine W.eq (g2 := F0 m 43 ls [.int ((v9_1 - v4_7) &&& 63)]) (by rfl) ?_
      refine lv_topi (fun x_8 ex_8 => ?_)
      have fx_8 := s_and63 (v9_1 - v4_7); rw [← ex_8] at fx_8
      refine lv_istore_n (lv' := [(3, .int x_8), (2, .ref r_6), (1, .int r_2), (0, .ref h0)]) hx hb dX7_sendNext_43 rfl hl (by decide) rfl (fun ls hl => ?_)
      refine lv_aload_n hx hb dX7_sendNext_44 rfl (lv_at hl 1 rfl) ?_
      refine va_get (D := DG E) (ci := 4) (v := .int v0_7) (C := RX4) (T := TX4) (N := 10) hx hb hts iw_X4 hown hK.1 (va_one ha_7) 0 rfl rfl 0 (by decide) (hts _ fl_X7_118) (fun _ h9 => h9) rfl dX7_sendNext_45 ?_
      refine lv_iconst (v := 2) hx hb dX7_sendNext_48 (by decide) ?_
      refine lv_icmp_ne (tgt := 61) hx hb dX7_sendNext_49 (by decide) (fun c_9 => ?_) (fun c_9 => ?_)
      · simp only [lt_I, le_I, eq_I, i_0, i_1, i_2, i_3, i_4, i_5, i_6, i_7, i_8, i_10, i_12, i_16, i_20, i_23, i_24, i_31, i_32, i_63, i_64, i_m1] at c_9
        refine lv_iconst (v := 1) hx hb dX7_sendNext_61 (by decide) ?_
        refine lv_istore (lv' := [(4, .int 1), (3, .int x_8), (2, .ref r_6), (1, .int r_2), (0, .ref h0)]) hx hb dX7_sendNext_62 hl (by decide) rfl (fun ls hl => ?_)
        refine lv_aload_n hx hb dX7_sendNext_64 rfl (lv_at hl 4 rfl) ?_
        refine va_get (D := DG E) (ci := 7) (v := .int v8_1) (C := RX7) (T := TX7) (N := 14) hx hb hts iw_X7 hown hK.1 (va_one ha_1) 0 rfl rfl 8 (by decide) (hts _ fl_X7_68) (fun _ h9 => h9) rfl dX7_sendNext_65 ?_
        refine lv_aload_n hx hb dX7_sendNext_68 rfl (lv_at hl 4 rfl) ?_
        refine va_get (D := DG E) (ci := 7) (v := .int v9_1) (C := RX7) (T := TX7) (N := 14) hx hb hts iw_X7 hown hK.1 (va_one ha_1) 0 rfl rfl 9 (by decide) (hts _ fl_X7_71) (fun _ h9 => h9) rfl dX7_sendNext_69 ?_
        refine rnSN (As := [.int v8_1, .int v9_1]) (rest := []) ⟨hx, hb, hml, hown, hts⟩ (c_X9_distance l v8_1 v9_1) ⟨va_cnB (host := RX9) 2 hts (gd1 co_X9_distance rfl) rfl rfl rfl (hK.2.1 _ mn_X7_112 #[]) (hts _ in_X9) (by decide +kernel) ⟨Nat.le_of_ble_eq_true rfl, Nat.le_of_ble_eq_true rfl⟩, hts _ st_X9_distance, trivial⟩ rfl rfl hl.1 rfl (lv_room (Nat.le_of_ble_eq_true rfl)) dX7_sendNext_72 ⟨Nat.le_of_ble_eq_true rfl, Nat.le_of_ble_eq_true rfl⟩ ?_
        refine W.eq (g2 := F0 m 75 ls [.int ((v9_1 - v8_1) &&& 63)]) (by rfl) ?_
        refine lv_topi (fun x_10 ex_10 => ?_)
        have fx_10 := s_and63 (v9_1 - v8_1); rw [← ex_10] at fx_10
        refine lv_iload hx hb dX7_sendNext_75 (lv_at hl 0 rfl) ?_
        refine lv_iadd hx hb dX7_sendNext_77 ?_
        refine lv_topi (fun x_11 ex_11 => ?_)
        have fx_11 : x_11.toInt = x_10.toInt + 1 := by have h9 := s_add (x := x_10) (y := 1) (by rw [i_1]; omega) (by rw [i_1]; omega); rw [i_1] at h9; rw [ex_11]; exact h9
        refine lv_bipush (v := 8) hx hb dX7_sendNext_78 (by decide) ?_
        refine lv_icmp_le (tgt := 85) hx hb dX7_sendNext_80 (by decide) (fun c_12 => ?_) (fun c_12 => ?_)
        · simp only [lt_I, le_I, eq_I, i_0, i_1, i_2, i_3, i_4, i_5, i_6, i_7, i_8, i_10, i_12, i_16, i_20, i_23, i_24, i_31, i_32, i_63, i_64, i_m1] at c_12
          refine lv_aload_n hx hb dX7_sendNext_85 rfl (lv_at hl 4 rfl) ?_
          refine lv_aload_n hx hb dX7_sendNext_86 rfl (lv_at hl 2 rfl) ?_
          refine lv_iload_n hx hb dX7_sendNext_87 rfl (lv_at hl 1 rfl) ?_
          refine va_callv (rnV (fun H => TH E (T1 E) G [] H) (As := [.ref r_6, .int x_8]) (rest := []) ⟨hx, hb, hml, hown, hts⟩ (t_X7_sendPart l E z0 G hGz h0 r_6 x_8 hG grr_6 (by first | omega | decide)) (cwV 2 hts (gdV ml_X7_121 im_X7_sendPart se_X7_X7_sendPart in_X7 co_X7_sendPart rfl) rfl rfl rfl (by decide +kernel) ⟨Nat.le_of_ble_eq_true rfl, Nat.le_of_ble_eq_true rfl⟩) hT (fun U hU hW => hK.go hW hS hAz hU) (va_recv hK.1 (va_one ha_1) (ci := 7) (q0 := 0) rfl rfl) rfl rfl hl.1 rfl (lv_room (Nat.le_of_ble_eq_true rfl)) dX7_sendNext_88 ⟨Nat.le_of_ble_eq_true rfl, Nat.le_of_ble_eq_true rfl⟩) hS (fun q _ h => mL (L' := [4, 31, 32]) (L := [9, 4, 31, 32]) (by decide) h) (fun q h => mL (L' := [4, 31, 32]) (L := [9, 4, 31, 32]) (by decide) h) (fun _ t H locs ht hvm hwr_13 hB hz hk hS => ?_)
          have hT : TH E (T1 E) G [] H := by rw [ht] at hB; exact hB
          have ha_1 := ha_1.kept (hk _ ha_1.lt (nL hG (by decide)))
          have ha_5 := ha_5.kept (hk _ ha_5.lt (nL hg6_1 (by decide)))
          have ha_7 := ha_7.kept (hk _ ha_7.lt (nL grr_6 (by decide)))
          refine lv_aload_n hx hb dX7_sendNext_91 rfl (lv_at hl 4 rfl) ?_
          refine va_get (D := DG E) (ci := 7) (v := .int v9_1) (C := RX7) (T := TX7) (N := 14) hx hb hts iw_X7 hown hK.1 (va_one ha_1) 0 rfl rfl 9 (by decide) (hts _ fl_X7_71) (fun _ h9 => h9) rfl dX7_sendNext_92 ?_
          refine lv_aload_n hx hb dX7_sendNext_95 rfl (lv_at hl 4 rfl) ?_
          refine va_get (D := DG E) (ci := 7) (v := .int v8_1) (C := RX7) (T := TX7) (N := 14) hx hb hts iw_X7 hown hK.1 (va_one ha_1) 0 rfl rfl 8 (by decide) (hts _ fl_X7_68) (fun _ h9 => h9) rfl dX7_sendNext_96 ?_
          refine lv_icmp_ne (tgt := 107) hx hb dX7_sendNext_99 (by decide) (fun c_14 => ?_) (fun c_14 => ?_)
          · simp only [lt_I, le_I, eq_I, i_0, i_1, i_2, i_3, i_4, i_5, i_6, i_7, i_8, i_10, i_12, i_16, i_20, i_23, i_24, i_31, i_32, i_63, i_64, i_m1] at c_14
            refine lv_aload_n hx hb dX7_sendNext_107 rfl (lv_at hl 4 rfl) ?_
            refine va_get (D := DG E) (ci := 7) (v := .int v9_1) (C := RX7) (T := TX7) (N := 14) hx hb hts iw_X7 hown hK.1 (va_one ha_1) 0 rfl rfl 9 (by decide) (hts _ fl_X7_71) (fun _ h9 => h9) rfl dX7_sendNext_108 ?_
            refine lv_istore (lv' := [(5, .int v9_1), (4, .int 1), (3, .int x_8), (2, .ref r_6), (1, .int r_2), (0, .ref h0)]) hx hb dX7_sendNext_111 hl (by decide) rfl (fun ls hl => ?_)
            refine lv_aload_n hx hb dX7_sendNext_113 rfl (lv_at hl 5 rfl) ?_
            refine lv_aload_n hx hb dX7_sendNext_114 rfl (lv_at hl 5 rfl) ?_
            refine va_get (D := DG E) (ci := 7) (v := .int v9_1) (C := RX7) (T := TX7) (N := 14) hx hb hts iw_X7 hown hK.1 (va_one ha_1) 0 rfl rfl 9 (by decide) (hts _ fl_X7_71) (fun _ h9 => h9) rfl dX7_sendNext_115 ?_
            refine lv_iload hx hb dX7_sendNext_118 (lv_at hl 1 rfl) ?_
            refine rnSN (As := [.int v9_1, .int 1]) (rest := [.ref h0]) ⟨hx, hb, hml, hown, hts⟩ (c_X9_after l v9_1 1) ⟨va_cnB (host := RX9) 2 hts (gd1 co_X9_after rfl) rfl rfl rfl (hK.2.1 _ mn_X7_98 #[]) (hts _ in_X9) (by decide +kernel) ⟨Nat.le_of_ble_eq_true rfl, Nat.le_of_ble_eq_true rfl⟩, hts _ st_X9_after, trivial⟩ rfl rfl hl.1 rfl (lv_room (Nat.le_of_ble_eq_true rfl)) dX7_sendNext_120 ⟨Nat.le_of_ble_eq_true rfl, Nat.le_of_ble_eq_true rfl⟩ ?_
            refine W.eq (g2 := F0 m 123 ls [.int ((v9_1 + 1) &&& 63), .ref h0]) (by rfl) ?_
            refine lv_topi (fun x_15 ex_15 => ?_)
            have fx_15 := s_and63 (v9_1 + 1); rw [← ex_15] at fx_15
            refine rr_put (D := DG E) (ci := 7) (v := .int x_15) (ty := .int) (C := RX7) (T := TX7) (N := 14) hx hb hts iw_X7 tyX7 tyX7_ok nmX7 hown hK.1 ha_1 hS (by show G h0 ∈ ([9, 4, 31, 32] : List Nat); rw [hG]; decide) rfl 9 (by decide) (hts _ fl_X7_71) (fun _ h9 => h9) rfl (by decide +kernel) rfl rfl (Nat.le_of_ble_eq_true rfl) dX7_sendNext_123 (fun H locs hn ho hz hS => ?_)
            have hr_16 : va_at (DG E) vwCl (h0, .inr (7, [.int v0_1, .ref v1_1, .ref v2_1, .int v3_1, .int v4_1, .int v5_1, .ref v6_1, .int v7_1, .int v8_1, .int x_15, .int v10_1, .int v11_1, .int v12_1, .int v13_1])) H := hn
            have hT : TH E (T1 E) G [] H := hT.set hG (show T1 E G 9 _ from ⟨v0_1, v1_1, v2_1, v3_1, v4_1, v5_1, v6_1, v7_1, v8_1, x_15, v10_1, v11_1, v12_1, v13_1, rfl, (by omega), hg1_1, hg2_1, hg6_1⟩) hr_16 ho
            have ha_5 := ha_5.kept (ho _ (ne_G hg6_1 hG (by decide)))
            have ha_7 := ha_7.kept (ho _ (ne_G grr_6 hG (by decide)))
            refine lv_iload hx hb dX7_sendNext_126 (lv_at hl 0 rfl) ?_
            exact W.iret (v := v9_1) hx hb hr (fun t ht hW => ⟨⟨v9_1, (), rfl, trivial, (by show TH E (T1 E) G [] t.heap; rw [ht]; exact hT)⟩, hS.F ht⟩) hS.2.2 dX7_sendNext_128
          · simp only [lt_I, le_I, eq_I, i_0, i_1, i_2, i_3, i_4, i_5, i_6, i_7, i_8, i_10, i_12, i_16, i_20, i_23, i_24, i_31, i_32, i_63, i_64, i_m1] at c_14
            refine lv_aload_n hx hb dX7_sendNext_102 rfl (lv_at hl 4 rfl) ?_
            refine lv_iconst (v := 0) hx hb dX7_sendNext_103 (by decide) ?_
            refine rr_put (D := DG E) (ci := 7) (v := .int 0) (ty := .int) (C := RX7) (T := TX7) (N := 14) hx hb hts iw_X7 tyX7 tyX7_ok nmX7 hown hK.1 ha_1 hS (by show G h0 ∈ ([9, 4, 31, 32] : List Nat); rw [hG]; decide) rfl 10 (by decide) (hts _ fl_X7_52) (fun _ h9 => h9) rfl (by decide +kernel) rfl rfl (Nat.le_of_ble_eq_true rfl) dX7_sendNext_104 (fun H locs hn ho hz hS => ?_)
            have hr_17 : va_at (DG E) vwCl (h0, .inr (7, [.int v0_1, .ref v1_1, .ref v2_1, .int v3_1, .int v4_1, .int v5_1, .ref v6_1, .int v7_1, .int v8_1, .int v9_1, .int 0, .int v11_1, .int v12_1, .int v13_1])) H := hn
            have hT : TH E (T1 E) G [] H := hT.set hG (show T1 E G 9 _ from ⟨v0_1, v1_1, v2_1, v3_1, v4_1, v5_1, v6_1, v7_1, v8_1, v9_1, 0, v11_1, v12_1, v13_1, rfl, (by omega), hg1_1, hg2_1, hg6_1⟩) hr_17 ho
            have ha_5 := ha_5.kept (ho _ (ne_G hg6_1 hG (by decide)))
            have ha_7 := ha_7.kept (ho _ (ne_G grr_6 hG (by decide)))
            refine lv_aload_n hx hb dX7_sendNext_107 rfl (lv_at hl 4 rfl) ?_
            refine va_get (D := DG E) (ci := 7) (v := .int v9_1) (C := RX7) (T := TX7) (N := 14) hx hb hts iw_X7 hown hK.1 (va_one hr_17) 0 rfl rfl 9 (by decide) (hts _ fl_X7_71) (fun _ h9 => h9) rfl dX7_sendNext_108 ?_
            refine lv_istore (lv' := [(5, .int v9_1), (4, .int 1), (3, .int x_8), (2, .ref r_6), (1, .int r_2), (0, .ref h0)]) hx hb dX7_sendNext_111 hl (by decide) rfl (fun ls hl => ?_)
            refine lv_aload_n hx hb dX7_sendNext_113 rfl (lv_at hl 5 rfl) ?_
            refine lv_aload_n hx hb dX7_sendNext_114 rfl (lv_at hl 5 rfl) ?_
            refine va_get (D := DG E) (ci := 7) (v := .int v9_1) (C := RX7) (T := TX7) (N := 14) hx hb hts iw_X7 hown hK.1 (va_one hr_17) 0 rfl rfl 9 (by decide) (hts _ fl_X7_71) (fun _ h9 => h9) rfl dX7_sendNext_115 ?_
            refine lv_iload hx hb dX7_sendNext_118 (lv_at hl 1 rfl) ?_
            refine rnSN (As := [.int v9_1, .int 1]) (rest := [.ref h0]) ⟨hx, hb, hml, hown, hts⟩ (c_X9_after l v9_1 1) ⟨va_cnB (host := RX9) 2 hts (gd1 co_X9_after rfl) rfl rfl rfl (hK.2.1 _ mn_X7_98 #[]) (hts _ in_X9) (by decide +kernel) ⟨Nat.le_of_ble_eq_true rfl, Nat.le_of_ble_eq_true rfl⟩, hts _ st_X9_after, trivial⟩ rfl rfl hl.1 rfl (lv_room (Nat.le_of_ble_eq_true rfl)) dX7_sendNext_120 ⟨Nat.le_of_ble_eq_true rfl, Nat.le_of_ble_eq_true rfl⟩ ?_
            refine W.eq (g2 := F0 m 123 ls [.int ((v9_1 + 1) &&& 63), .ref h0]) (by rfl) ?_
            refine lv_topi (fun x_18 ex_18 => ?_)
            have fx_18 := s_and63 (v9_1 + 1); rw [← ex_18] at fx_18
            refine rr_put (D := DG E) (ci := 7) (v := .int x_18) (ty := .int) (C := RX7) (T := TX7) (N := 14) hx hb hts iw_X7 tyX7 tyX7_ok nmX7 hown hK.1 hr_17 hS (by show G h0 ∈ ([9, 4, 31, 32] : List Nat); rw [hG]; decide) rfl 9 (by decide) (hts _ fl_X7_71) (fun _ h9 => h9) rfl (by decide +kernel) rfl rfl (Nat.le_of_ble_eq_true rfl) dX7_sendNext_123 (fun H locs hn ho hz hS => ?_)
            have hr_19 : va_at (DG E) vwCl (h0, .inr (7, [.int v0_1, .ref v1_1, .ref v2_1, .int v3_1, .int v4_1, .int v5_1, .ref v6_1, .int v7_1, .int v8_1, .int x_18, .int 0, .int v11_1, .int v12_1, .int v13_1])) H := hn
            have hT : TH E (T1 E) G [] H := hT.set hG (show T1 E G 9 _ from ⟨v0_1, v1_1, v2_1, v3_1, v4_1, v5_1, v6_1, v7_1, v8_1, x_18, 0, v11_1, v12_1, v13_1, rfl, (by omega), hg1_1, hg2_1, hg6_1⟩) hr_19 ho
            have ha_5 := ha_5.kept (ho _ (ne_G hg6_1 hG (by decide)))
            have ha_7 := ha_7.kept (ho _ (ne_G grr_6 hG (by decide)))
            refine lv_iload hx hb dX7_sendNext_126 (lv_at hl 0 rfl) ?_
            exact W.iret (v := v9_1) hx hb hr (fun t ht hW => ⟨⟨v9_1, (), rfl, trivial, (by show TH E (T1 E) G [] t.heap; rw [ht]; exact hT)⟩, hS.F ht⟩) hS.2.2 dX7_sendNext_128
        · simp only [lt_I, le_I, eq_I, i_0, i_1, i_2, i_3, i_4, i_5, i_6, i_7, i_8, i_10, i_12, i_16, i_20, i_23, i_24, i_31, i_32, i_63, i_64, i_m1] at c_12
          refine lv_iconst (v := (-1)) hx hb dX7_sendNext_83 (by decide) ?_
          exact W.iret (v := (-1)) hx hb hr (fun t ht hW => ⟨⟨(-1), (), rfl, trivial, (by show TH E (T1 E) G [] t.heap; rw [ht]; exact hT)⟩, hS.F ht⟩) hS.2.2 dX7_sendNext_84
      · simp only [lt_I, le_I, eq_I, i_0, i_1, i_2, i_3, i_4, i_5, i_6, i_7, i_8, i_10, i_12, i_16, i_20, i_23, i_24, i_31, i_32, i_63, i_64, i_m1] at c_9
        refine lv_aload_n hx hb dX7_sendNext_52 rfl (lv_at hl 1 rfl) ?_
        refine va_get (D := DG E) (ci := 4) (v := .int v5_7) (C := RX4) (T := TX4) (N := 10) hx hb hts iw_X4 hown hK.1 (va_one ha_7) 0 rfl rfl 5 (by decide) (hts _ fl_X7_86) (fun _ h9 => h9) rfl dX7_sendNext_53 ?_
        refine lv_iload_n hx hb dX7_sendNext_56 rfl (lv_at hl 0 rfl) ?_
        refine lv_isub hx hb dX7_sendNext_57 ?_
        refine lv_topi (fun x_20 ex_20 => ?_)
        refine lv_goto (tgt := 62) hx hb dX7_sendNext_58 (by decide) ?_
        refine lv_istore (lv' := [(4, .int x_20), (3, .int x_8), (2, .ref r_6), (1, .int r_2), (0, .ref h0)]) hx hb dX7_sendNext_62 hl (by decide) rfl (fun ls hl => ?_)
        refine lv_aload_n hx hb dX7_sendNext_64 rfl (lv_at hl 4 rfl) ?_
        refine va_get (D := DG E) (ci := 7) (v := .int v8_1) (C := RX7) (T := TX7) (N := 14) hx hb hts iw_X7 hown hK.1 (va_one ha_1) 0 rfl rfl 8 (by decide) (hts _ fl_X7_68) (fun _ h9 => h9) rfl dX7_sendNext_65 ?_
        refine lv_aload_n hx hb dX7_sendNext_68 rfl (lv_at hl 4 rfl) ?_
        refine va_get (D := DG E) (ci := 7) (v := .int v9_1) (C := RX7) (T := TX7) (N := 14) hx hb hts iw_X7 hown hK.1 (va_one ha_1) 0 rfl rfl 9 (by decide) (hts _ fl_X7_71) (fun _ h9 => h9) rfl dX7_sendNext_69 ?_
        refine rnSN (As := [.int v8_1, .int v9_1]) (rest := []) ⟨hx, hb, hml, hown, hts⟩ (c_X9_distance l v8_1 v9_1) ⟨va_cnB (host := RX9) 2 hts (gd1 co_X9_distance rfl) rfl rfl rfl (hK.2.1 _ mn_X7_112 #[]) (hts _ in_X9) (by decide +kernel) ⟨Nat.le_of_ble_eq_true rfl, Nat.le_of_ble_eq_true rfl⟩, hts _ st_X9_distance, trivial⟩ rfl rfl hl.1 rfl (lv_room (Nat.le_of_ble_eq_true rfl)) dX7_sendNext_72 ⟨Nat.le_of_ble_eq_true rfl, Nat.le_of_ble_eq_true rfl⟩ ?_
        refine W.eq (g2 := F0 m 75 ls [.int ((v9_1 - v8_1) &&& 63)]) (by rfl) ?_
        refine lv_topi (fun x_21 ex_21 => ?_)
        have fx_21 := s_and63 (v9_1 - v8_1); rw [← ex_21] at fx_21
        refine lv_iload hx hb dX7_sendNext_75 (lv_at hl 0 rfl) ?_
        refine lv_iadd hx hb dX7_sendNext_77 ?_
        refine lv_topi (fun x_22 ex_22 => ?_)
        refine lv_bipush (v := 8) hx hb dX7_sendNext_78 (by decide) ?_
        refine lv_icmp_le (tgt := 85) hx hb dX7_sendNext_80 (by decide) (fun c_23 => ?_) (fun c_23 => ?_)
        · simp only [lt_I, le_I, eq_I, i_0, i_1, i_2, i_3, i_4, i_5, i_6, i_7, i_8, i_10, i_12, i_16, i_20, i_23, i_24, i_31, i_32, i_63, i_64, i_m1] at c_23
          refine lv_aload_n hx hb dX7_sendNext_85 rfl (lv_at hl 4 rfl) ?_
          refine lv_aload_n hx hb dX7_sendNext_86 rfl (lv_at hl 2 rfl) ?_
          refine lv_iload_n hx hb dX7_sendNext_87 rfl (lv_at hl 1 rfl) ?_
          refine va_callv (rnV (fun H => TH E (T1 E) G [] H) (As := [.ref r_6, .int x_8]) (rest := []) ⟨hx, hb, hml, hown, hts⟩ (t_X7_sendPart l E z0 G hGz h0 r_6 x_8 hG grr_6 (by first | omega | decide)) (cwV 2 hts (gdV ml_X7_121 im_X7_sendPart se_X7_X7_sendPart in_X7 co_X7_sendPart rfl) rfl rfl rfl (by decide +kernel) ⟨Nat.le_of_ble_eq_true rfl, Nat.le_of_ble_eq_true rfl⟩) hT (fun U hU hW => hK.go hW hS hAz hU) (va_recv hK.1 (va_one ha_1) (ci := 7) (q0 := 0) rfl rfl) rfl rfl hl.1 rfl (lv_room (Nat.le_of_ble_eq_true rfl)) dX7_sendNext_88 ⟨Nat.le_of_ble_eq_true rfl, Nat.le_of_ble_eq_true rfl⟩) hS (fun q _ h => mL (L' := [4, 31, 32]) (L := [9, 4, 31, 32]) (by decide) h) (fun q h => mL (L' := [4, 31, 32]) (L := [9, 4, 31, 32]) (by decide) h) (fun _ t H locs ht hvm hwr_24 hB hz hk hS => ?_)
          have hT : TH E (T1 E) G [] H := by rw [ht] at hB; exact hB
          have ha_1 := ha_1.kept (hk _ ha_1.lt (nL hG (by decide)))
          have ha_5 := ha_5.kept (hk _ ha_5.lt (nL hg6_1 (by decide)))
          have ha_7 := ha_7.kept (hk _ ha_7.lt (nL grr_6 (by decide)))
          refine lv_aload_n hx hb dX7_sendNext_91 rfl (lv_at hl 4 rfl) ?_
          refine va_get (D := DG E) (ci := 7) (v := .int v9_1) (C := RX7) (T := TX7) (N := 14) hx hb hts iw_X7 hown hK.1 (va_one ha_1) 0 rfl rfl 9 (by decide) (hts _ fl_X7_71) (fun _ h9 => h9) rfl dX7_sendNext_92 ?_
          refine lv_aload_n hx hb dX7_sendNext_95 rfl (lv_at hl 4 rfl) ?_
          refine va_get (D := DG E) (ci := 7) (v := .int v8_1) (C := RX7) (T := TX7) (N := 14) hx hb hts iw_X7 hown hK.1 (va_one ha_1) 0 rfl rfl 8 (by decide) (hts _ fl_X7_68) (fun _ h9 => h9) rfl dX7_sendNext_96 ?_
          refine lv_icmp_ne (tgt := 107) hx hb dX7_sendNext_99 (by decide) (fun c_25 => ?_) (fun c_25 => ?_)
          · simp only [lt_I, le_I, eq_I, i_0, i_1, i_2, i_3, i_4, i_5, i_6, i_7, i_8, i_10, i_12, i_16, i_20, i_23, i_24, i_31, i_32, i_63, i_64, i_m1] at c_25
            refine lv_aload_n hx hb dX7_sendNext_107 rfl (lv_at hl 4 rfl) ?_
            refine va_get (D := DG E) (ci := 7) (v := .int v9_1) (C := RX7) (T := TX7) (N := 14) hx hb hts iw_X7 hown hK.1 (va_one ha_1) 0 rfl rfl 9 (by decide) (hts _ fl_X7_71) (fun _ h9 => h9) rfl dX7_sendNext_108 ?_
            refine lv_istore (lv' := [(5, .int v9_1), (4, .int x_20), (3, .int x_8), (2, .ref r_6), (1, .int r_2), (0, .ref h0)]) hx hb dX7_sendNext_111 hl (by decide) rfl (fun ls hl => ?_)
            refine lv_aload_n hx hb dX7_sendNext_113 rfl (lv_at hl 5 rfl) ?_
            refine lv_aload_n hx hb dX7_sendNext_114 rfl (lv_at hl 5 rfl) ?_
            refine va_get (D := DG E) (ci := 7) (v := .int v9_1) (C := RX7) (T := TX7) (N := 14) hx hb hts iw_X7 hown hK.1 (va_one ha_1) 0 rfl rfl 9 (by decide) (hts _ fl_X7_71) (fun _ h9 => h9) rfl dX7_sendNext_115 ?_
            refine lv_iload hx hb dX7_sendNext_118 (lv_at hl 1 rfl) ?_
            refine rnSN (As := [.int v9_1, .int x_20]) (rest := [.ref h0]) ⟨hx, hb, hml, hown, hts⟩ (c_X9_after l v9_1 x_20) ⟨va_cnB (host := RX9) 2 hts (gd1 co_X9_after rfl) rfl rfl rfl (hK.2.1 _ mn_X7_98 #[]) (hts _ in_X9) (by decide +kernel) ⟨Nat.le_of_ble_eq_true rfl, Nat.le_of_ble_eq_true rfl⟩, hts _ st_X9_after, trivial⟩ rfl rfl hl.1 rfl (lv_room (Nat.le_of_ble_eq_true rfl)) dX7_sendNext_120 ⟨Nat.le_of_ble_eq_true rfl, Nat.le_of_ble_eq_true rfl⟩ ?_
            refine W.eq (g2 := F0 m 123 ls [.int ((v9_1 + x_20) &&& 63), .ref h0]) (by rfl) ?_
            refine lv_topi (fun x_26 ex_26 => ?_)
            have fx_26 := s_and63 (v9_1 + x_20); rw [← ex_26] at fx_26
            refine rr_put (D := DG E) (ci := 7) (v := .int x_26) (ty := .int) (C := RX7) (T := TX7) (N := 14) hx hb hts iw_X7 tyX7 tyX7_ok nmX7 hown hK.1 ha_1 hS (by show G h0 ∈ ([9, 4, 31, 32] : List Nat); rw [hG]; decide) rfl 9 (by decide) (hts _ fl_X7_71) (fun _ h9 => h9) rfl (by decide +kernel) rfl rfl (Nat.le_of_ble_eq_true rfl) dX7_sendNext_123 (fun H locs hn ho hz hS => ?_)
            have hr_27 : va_at (DG E) vwCl (h0, .inr (7, [.int v0_1, .ref v1_1, .ref v2_1, .int v3_1, .int v4_1, .int v5_1, .ref v6_1, .int v7_1, .int v8_1, .int x_26, .int v10_1, .int v11_1, .int v12_1, .int v13_1])) H := hn
            have hT : TH E (T1 E) G [] H := hT.set hG (show T1 E G 9 _ from ⟨v0_1, v1_1, v2_1, v3_1, v4_1, v5_1, v6_1, v7_1, v8_1, x_26, v10_1, v11_1, v12_1, v13_1, rfl, (by omega), hg1_1, hg2_1, hg6_1⟩) hr_27 ho
            have ha_5 := ha_5.kept (ho _ (ne_G hg6_1 hG (by decide)))
            have ha_7 := ha_7.kept (ho _ (ne_G grr_6 hG (by decide)))
            refine lv_iload hx hb dX7_sendNext_126 (lv_at hl 0 rfl) ?_
            exact W.iret (v := v9_1) hx hb hr (fun t ht hW => ⟨⟨v9_1, (), rfl, trivial, (by show TH E (T1 E) G [] t.heap; rw [ht]; exact hT)⟩, hS.F ht⟩) hS.2.2 dX7_sendNext_128
          · simp only [lt_I, le_I, eq_I, i_0, i_1, i_2, i_3, i_4, i_5, i_6, i_7, i_8, i_10, i_12, i_16, i_20, i_23, i_24, i_31, i_32, i_63, i_64, i_m1] at c_25
            refine lv_aload_n hx hb dX7_sendNext_102 rfl (lv_at hl 4 rfl) ?_
            refine lv_iconst (v := 0) hx hb dX7_sendNext_103 (by decide) ?_
            refine rr_put (D := DG E) (ci := 7) (v := .int 0) (ty := .int) (C := RX7) (T := TX7) (N := 14) hx hb hts iw_X7 tyX7 tyX7_ok nmX7 hown hK.1 ha_1 hS (by show G h0 ∈ ([9, 4, 31, 32] : List Nat); rw [hG]; decide) rfl 10 (by decide) (hts _ fl_X7_52) (fun _ h9 => h9) rfl (by decide +kernel) rfl rfl (Nat.le_of_ble_eq_true rfl) dX7_sendNext_104 (fun H locs hn ho hz hS => ?_)
            have hr_28 : va_at (DG E) vwCl (h0, .inr (7, [.int v0_1, .ref v1_1, .ref v2_1, .int v3_1, .int v4_1, .int v5_1, .ref v6_1, .int v7_1, .int v8_1, .int v9_1, .int 0, .int v11_1, .int v12_1, .int v13_1])) H := hn
            have hT : TH E (T1 E) G [] H := hT.set hG (show T1 E G 9 _ from ⟨v0_1, v1_1, v2_1, v3_1, v4_1, v5_1, v6_1, v7_1, v8_1, v9_1, 0, v11_1, v12_1, v13_1, rfl, (by omega), hg1_1, hg2_1, hg6_1⟩) hr_28 ho
            have ha_5 := ha_5.kept (ho _ (ne_G hg6_1 hG (by decide)))
            have ha_7 := ha_7.kept (ho _ (ne_G grr_6 hG (by decide)))
            refine lv_aload_n hx hb dX7_sendNext_107 rfl (lv_at hl 4 rfl) ?_
            refine va_get (D := DG E) (ci := 7) (v := .int v9_1) (C := RX7) (T := TX7) (N := 14) hx hb hts iw_X7 hown hK.1 (va_one hr_28) 0 rfl rfl 9 (by decide) (hts _ fl_X7_71) (fun _ h9 => h9) rfl dX7_sendNext_108 ?_
            refine lv_istore (lv' := [(5, .int v9_1), (4, .int x_20), (3, .int x_8), (2, .ref r_6), (1, .int r_2), (0, .ref h0)]) hx hb dX7_sendNext_111 hl (by decide) rfl (fun ls hl => ?_)
            refine lv_aload_n hx hb dX7_sendNext_113 rfl (lv_at hl 5 rfl) ?_
            refine lv_aload_n hx hb dX7_sendNext_114 rfl (lv_at hl 5 rfl) ?_
            refine va_get (D := DG E) (ci := 7) (v := .int v9_1) (C := RX7) (T := TX7) (N := 14) hx hb hts iw_X7 hown hK.1 (va_one hr_28) 0 rfl rfl 9 (by decide) (hts _ fl_X7_71) (fun _ h9 => h9) rfl dX7_sendNext_115 ?_
            refine lv_iload hx hb dX7_sendNext_118 (lv_at hl 1 rfl) ?_
            refine rnSN (As := [.int v9_1, .int x_20]) (rest := [.ref h0]) ⟨hx, hb, hml, hown, hts⟩ (c_X9_after l v9_1 x_20) ⟨va_cnB (host := RX9) 2 hts (gd1 co_X9_after rfl) rfl rfl rfl (hK.2.1 _ mn_X7_98 #[]) (hts _ in_X9) (by decide +kernel) ⟨Nat.le_of_ble_eq_true rfl, Nat.le_of_ble_eq_true rfl⟩, hts _ st_X9_after, trivial⟩ rfl rfl hl.1 rfl (lv_room (Nat.le_of_ble_eq_true rfl)) dX7_sendNext_120 ⟨Nat.le_of_ble_eq_true rfl, Nat.le_of_ble_eq_true rfl⟩ ?_
            refine W.eq (g2 := F0 m 123 ls [.int ((v9_1 + x_20) &&& 63), .ref h0]) (by rfl) ?_
            refine lv_topi (fun x_29 ex_29 => ?_)
            have fx_29 := s_and63 (v9_1 + x_20); rw [← ex_29] at fx_29
            refine rr_put (D := DG E) (ci := 7) (v := .int x_29) (ty := .int) (C := RX7) (T := TX7) (N := 14) hx hb hts iw_X7 tyX7 tyX7_ok nmX7 hown hK.1 hr_28 hS (by show G h0 ∈ ([9, 4, 31, 32] : List Nat); rw [hG]; decide) rfl 9 (by decide) (hts _ fl_X7_71) (fun _ h9 => h9) rfl (by decide +kernel) rfl rfl (Nat.le_of_ble_eq_true rfl) dX7_sendNext_123 (fun H locs hn ho hz hS => ?_)
            have hr_30 : va_at (DG E) vwCl (h0, .inr (7, [.int v0_1, .ref v1_1, .ref v2_1, .int v3_1, .int v4_1, .int v5_1, .ref v6_1, .int v7_1, .int v8_1, .int x_29, .int 0, .int v11_1, .int v12_1, .int v13_1])) H := hn
            have hT : TH E (T1 E) G [] H := hT.set hG (show T1 E G 9 _ from ⟨v0_1, v1_1, v2_1, v3_1, v4_1, v5_1, v6_1, v7_1, v8_1, x_29, 0, v11_1, v12_1, v13_1, rfl, (by omega), hg1_1, hg2_1, hg6_1⟩) hr_30 ho
            have ha_5 := ha_5.kept (ho _ (ne_G hg6_1 hG (by decide)))
            have ha_7 := ha_7.kept (ho _ (ne_G grr_6 hG (by decide)))
            refine lv_iload hx hb dX7_sendNext_126 (lv_at hl 0 rfl) ?_
            exact W.iret (v := v9_1) hx hb hr (fun t ht hW => ⟨⟨v9_1, (), rfl, trivial, (by show TH E (T1 E) G [] t.heap; rw [ht]; exact hT)⟩, hS.F ht⟩) hS.2.2 dX7_sendNext_128
        · simp only [lt_I, le_I, eq_I, i_0, i_1, i_2, i_3, i_4, i_5, i_6, i_7, i_8, i_10, i_12, i_16, i_20, i_23, i_24, i_31, i_32, i_63, i_64, i_m1] at c_23
          refine lv_iconst (v := (-1)) hx hb dX7_sendNext_83 (by decide) ?_
          exact W.iret (v := (-1)) hx hb hr (fun t ht hW => ⟨⟨(-1), (), rfl, trivial, (by show TH E (T1 E) G [] t.heap; rw [ht]; exact hT)⟩, hS.F ht⟩) hS.2.2 dX7_sendNext_84
    · simp only [lt_I, le_I, eq_I, i_0, i_1, i_2, i_3, i_4, i_5, i_6, i_7, i_8, i_10, i_12, i_16, i_20, i_23, i_24, i_31, i_32, i_63, i_64, i_m1] at c_4
      refine lv_iconst (v := (-1)) hx hb dX7_sendNext_21 (by decide) ?_
      exact W.iret (v := (-1)) hx hb hr (fun t ht hW => ⟨⟨(-1), (), rfl, trivial, (by show TH E (T1 E) G [] t.heap; rw [ht]; exact hT)⟩, hS.F ht⟩) hS.2.2 dX7_sendNext_22
theorem dX7_takeReply_0 : decode cX7_takeReply 0 = .ok (.aload_n 1, 1) := by decide +kernel
theorem dX7_takeReply_1 : decode cX7_takeReply 1 = .ok (.getfield 168, 3) := by decide +kernel
theorem dX7_takeReply_4 : decode cX7_takeReply 4 = .ok (.aload_n 0, 1) := by decide +kernel
theorem dX7_takeReply_5 : decode cX7_takeReply 5 = .ok (.getfield 68, 3) := by decide +kernel
theorem dX7_takeReply_8 : decode cX7_takeReply 8 = .ok (.if_icmp .ne 25, 3) := by decide +kernel
theorem dX7_takeReply_11 : decode cX7_takeReply 11 = .ok (.aload_n 0, 1) := by decide +kernel
theorem dX7_takeReply_12 : decode cX7_takeReply 12 = .ok (.getfield 71, 3) := by decide +kernel
theorem dX7_takeReply_15 : decode cX7_takeReply 15 = .ok (.aload_n 0, 1) := by decide +kernel
theorem dX7_takeReply_16 : decode cX7_takeReply 16 = .ok (.getfield 68, 3) := by decide +kernel
theorem dX7_takeReply_19 : decode cX7_takeReply 19 = .ok (.if_icmp .eq 14, 3) := by decide +kernel
theorem dX7_takeReply_22 : decode cX7_takeReply 22 = .ok (.aload_n 0, 1) := by decide +kernel
theorem dX7_takeReply_23 : decode cX7_takeReply 23 = .ok (.aload_n 0, 1) := by decide +kernel
theorem dX7_takeReply_24 : decode cX7_takeReply 24 = .ok (.getfield 68, 3) := by decide +kernel
theorem dX7_takeReply_27 : decode cX7_takeReply 27 = .ok (.invokevirtual 159, 3) := by decide +kernel
theorem dX7_takeReply_30 : decode cX7_takeReply 30 = .ok (.ifCond .ne 4, 3) := by decide +kernel
theorem dX7_takeReply_33 : decode cX7_takeReply 33 = .ok (.return_, 1) := by decide +kernel
theorem dX7_takeReply_34 : decode cX7_takeReply 34 = .ok (.aload_n 0, 1) := by decide +kernel
theorem dX7_takeReply_35 : decode cX7_takeReply 35 = .ok (.getfield 41, 3) := by decide +kernel
theorem dX7_takeReply_38 : decode cX7_takeReply 38 = .ok (.iconst 0, 1) := by decide +kernel
theorem dX7_takeReply_39 : decode cX7_takeReply 39 = .ok (.invokevirtual 108, 3) := by decide +kernel
theorem dX7_takeReply_42 : decode cX7_takeReply 42 = .ok (.astore_n 2, 1) := by decide +kernel
theorem dX7_takeReply_43 : decode cX7_takeReply 43 = .ok (.aload_n 2, 1) := by decide +kernel
theorem dX7_takeReply_44 : decode cX7_takeReply 44 = .ok (.getfield 78, 3) := by decide +kernel
theorem dX7_takeReply_47 : decode cX7_takeReply 47 = .ok (.aload_n 0, 1) := by decide +kernel
theorem dX7_takeReply_48 : decode cX7_takeReply 48 = .ok (.getfield 68, 3) := by decide +kernel
theorem dX7_takeReply_51 : decode cX7_takeReply 51 = .ok (.invokestatic 112, 3) := by decide +kernel
theorem dX7_takeReply_54 : decode cX7_takeReply 54 = .ok (.istore_n 3, 1) := by decide +kernel
theorem dX7_takeReply_55 : decode cX7_takeReply 55 = .ok (.aload_n 1, 1) := by decide +kernel
theorem dX7_takeReply_56 : decode cX7_takeReply 56 = .ok (.aload_n 0, 1) := by decide +kernel
theorem dX7_takeReply_57 : decode cX7_takeReply 57 = .ok (.getfield 19, 3) := by decide +kernel
theorem dX7_takeReply_60 : decode cX7_takeReply 60 = .ok (.aload_n 2, 1) := by decide +kernel
theorem dX7_takeReply_61 : decode cX7_takeReply 61 = .ok (.getfield 146, 3) := by decide +kernel
theorem dX7_takeReply_64 : decode cX7_takeReply 64 = .ok (.iconst 4, 1) := by decide +kernel
theorem dX7_takeReply_65 : decode cX7_takeReply 65 = .ok (.iload_n 3, 1) := by decide +kernel
theorem dX7_takeReply_66 : decode cX7_takeReply 66 = .ok (.imul, 1) := by decide +kernel
theorem dX7_takeReply_67 : decode cX7_takeReply 67 = .ok (.iadd, 1) := by decide +kernel
theorem dX7_takeReply_68 : decode cX7_takeReply 68 = .ok (.aload_n 2, 1) := by decide +kernel
theorem dX7_takeReply_69 : decode cX7_takeReply 69 = .ok (.iload_n 3, 1) := by decide +kernel
theorem dX7_takeReply_70 : decode cX7_takeReply 70 = .ok (.invokevirtual 149, 3) := by decide +kernel
theorem dX7_takeReply_73 : decode cX7_takeReply 73 = .ok (.invokevirtual 171, 3) := by decide +kernel
theorem dX7_takeReply_76 : decode cX7_takeReply 76 = .ok (.aload_n 0, 1) := by decide +kernel
theorem dX7_takeReply_77 : decode cX7_takeReply 77 = .ok (.iconst 1, 1) := by decide +kernel
theorem dX7_takeReply_78 : decode cX7_takeReply 78 = .ok (.invokevirtual 162, 3) := by decide +kernel
theorem dX7_takeReply_81 : decode cX7_takeReply 81 = .ok (.return_, 1) := by decide +kernel
set_option maxHeartbeats 8000000 in
set_option maxRecDepth 100000 in
theorem t_X7_takeReply (l : Launch) (E : EE) (z0 : Nat) (G : Nat → Nat) (hGz : ∀ q, G q ≠ 0 → z0 ≤ q) (h0 : Nat) (p0 : Nat) (hG : G h0 = 9) (hG0 : G p0 = 31) : Met l yX7_takeReply [Cond.code yX7_takeReply cX7_takeReply 4 none] ({ frames := 3, cells := 0, slots := 0, locals := 67 } : Room) (va_Pc [.ref h0, .ref p0] (fun U => (TH E (T1 E) G [] U.heap) ∧ KS E z0 U)) (va_Qv (fun (_ : Unit) => True) (fun _ t => TH E (T1 E) G [] t.heap) (fun q : Nat => G q ∈ ([14, 9, 11, 5, 15] : List Nat))) 0 0 (fun q : Nat => G q ∈ ([14, 9, 11, 5, 15] : List Nat)) := by
  refine Met.ofW (cc := cX7_takeReply) (maxL := 4) (ret := none) (by decide) rfl ?_
  intro p e s m args below meth c s₁ B hml hv
  obtain ⟨rfl, hT, hK⟩ := hv
  have hx := B.exec
  have hb := B.bytes
  have hr := B.returns
  have hts : ∀ w ∈ TS, w.before ([.ref h0, .ref p0] : List Value).toArray s = true := fun w hw => hK.2.1 w hw _
  have hown : s.vm.findClass RX7 = some m.cls := findClass_of_methodNamed B.named
  have hlocks := B.notSynchronized
  have hS : va_S (fun q : Nat => G q ∈ ([14, 9, 11, 5, 15] : List Nat)) s.heap s.heap [] := va_S.rf
  have hAz : ∀ q, (fun q : Nat => G q ∈ ([14, 9, 11, 5, 15] : List Nat)) q → z0 ≤ q := zL hGz (by decide)
  have hl := lv_entry ([.ref h0, .ref p0]) (n := 4) (Nat.le_of_ble_eq_true rfl)
  rw [lg_entry_eq]
  generalize (lg_sl ([.ref h0, .ref p0]) ++ List.replicate (4 - (lg_sl ([.ref h0, .ref p0])).length) Slot.unset).toArray = ls at hl ⊢
  have hl : lv_has ls 4 [(0, .ref h0), (1, .ref p0)] := hl
  refine lv_aload_n hx hb dX7_takeReply_0 rfl (lv_at hl 1 rfl) ?_
  obtain ⟨v0_1, v1_1, v2_1, v3_1, v4_1, v5_1, v6_1, v7_1, ha_1, hb0_1, hb3_1, hg7_1⟩ := tr_31 hT hG0
  refine va_get (D := DG E) (ci := 2) (v := .int v2_1) (C := RX2) (T := TX2) (N := 8) hx hb hts iw_X2 hown hK.1 (va_one ha_1) 0 rfl rfl 2 (by decide) (hts _ fl_X7_168) (fun _ h9 => h9) rfl dX7_takeReply_1 ?_
  refine lv_aload_n hx hb dX7_takeReply_4 rfl (lv_at hl 0 rfl) ?_
  obtain ⟨v0_2, v1_2, v2_2, v3_2, v4_2, v5_2, v6_2, v7_2, v8_2, v9_2, v10_2, v11_2, v12_2, v13_2, ha_2, hb0_2, hg1_2, hg2_2, hg6_2⟩ := tr_9 hT hG
  refine va_get (D := DG E) (ci := 7) (v := .int v8_2) (C := RX7) (T := TX7) (N := 14) hx hb hts iw_X7 hown hK.1 (va_one ha_2) 0 rfl rfl 8 (by decide) (hts _ fl_X7_68) (fun _ h9 => h9) rfl dX7_takeReply_5 ?_
  refine lv_icmp_ne (tgt := 33) hx hb dX7_takeReply_8 (by decide) (fun c_3 => ?_) (fun c_3 => ?_)
  · simp only [lt_I, le_I, eq_I, i_0, i_1, i_2, i_3, i_4, i_5, i_6, i_7, i_8, i_10, i_12, i_16, i_20, i_23, i_24, i_31, i_32, i_63, i_64, i_m1] at c_3
    exact W.vret hx hb hr (fun t ht hW => ⟨⟨(), rfl, trivial, (by show TH E (T1 E) G [] t.heap; rw [ht]; exact hT)⟩, hS.F ht⟩) hS.2.2 dX7_takeReply_33
  · simp only [lt_I, le_I, eq_I, i_0, i_1, i_2, i_3, i_4, i_5, i_6, i_7, i_8, i_10, i_12, i_16, i_20, i_23, i_24, i_31, i_32, i_63, i_64, i_m1] at c_3
    refine lv_aload_n hx hb dX7_takeReply_11 rfl (lv_at hl 0 rfl) ?_
    refine va_get (D := DG E) (ci := 7) (v := .int v9_2) (C := RX7) (T := TX7) (N := 14) hx hb hts iw_X7 hown hK.1 (va_one ha_2) 0 rfl rfl 9 (by decide) (hts _ fl_X7_71) (fun _ h9 => h9) rfl dX7_takeReply_12 ?_
    refine lv_aload_n hx hb dX7_takeReply_15 rfl (lv_at hl 0 rfl) ?_
    refine va_get (D := DG E) (ci := 7) (v := .int v8_2) (C := RX7) (T := TX7) (N := 14) hx hb hts iw_X7 hown hK.1 (va_one ha_2) 0 rfl rfl 8 (by decide) (hts _ fl_X7_68) (fun _ h9 => h9) rfl dX7_takeReply_16 ?_
    refine lv_icmp_eq (tgt := 33) hx hb dX7_takeReply_19 (by decide) (fun c_4 => ?_) (fun c_4 => ?_)
    · simp only [lt_I, le_I, eq_I, i_0, i_1, i_2, i_3, i_4, i_5, i_6, i_7, i_8, i_10, i_12, i_16, i_20, i_23, i_24, i_31, i_32, i_63, i_64, i_m1] at c_4
      exact W.vret hx hb hr (fun t ht hW => ⟨⟨(), rfl, trivial, (by show TH E (T1 E) G [] t.heap; rw [ht]; exact hT)⟩, hS.F ht⟩) hS.2.2 dX7_takeReply_33
    · simp only [lt_I, le_I, eq_I, i_0, i_1, i_2, i_3, i_4, i_5, i_6, i_7, i_8, i_10, i_12, i_16, i_20, i_23, i_24, i_31, i_32, i_63, i_64, i_m1] at c_4
      refine lv_aload_n hx hb dX7_takeReply_22 rfl (lv_at hl 0 rfl) ?_
      refine lv_aload_n hx hb dX7_takeReply_23 rfl (lv_at hl 0 rfl) ?_
      refine va_get (D := DG E) (ci := 7) (v := .int v8_2) (C := RX7) (T := TX7) (N := 14) hx hb hts iw_X7 hown hK.1 (va_one ha_2) 0 rfl rfl 8 (by decide) (hts _ fl_X7_68) (fun _ h9 => h9) rfl dX7_takeReply_24 ?_
      refine va_calli (rnV (fun H => TH E (T1 E) G [] H) (As := [.int v8_2]) (rest := []) ⟨hx, hb, hml, hown, hts⟩ (t_X7_awaitsReply l E z0 G hGz h0 v8_2 hG) (cwV 1 hts (gdV ml_X7_159 im_X7_awaitsReply se_X7_X7_awaitsReply in_X7 co_X7_awaitsReply rfl) rfl rfl rfl (by decide +kernel) ⟨Nat.le_of_ble_eq_true rfl, Nat.le_of_ble_eq_true rfl⟩) hT (fun U hU hW => hK.go hW hS hAz hU) (va_recv hK.1 (va_one ha_2) (ci := 7) (q0 := 0) rfl rfl) rfl rfl hl.1 rfl (lv_room (Nat.le_of_ble_eq_true rfl)) dX7_takeReply_27 ⟨Nat.le_of_ble_eq_true rfl, Nat.le_of_ble_eq_true rfl⟩) hS (fun q _ h => h.elim) (fun q h => h.elim) (fun r_5 _ t H locs ht hvm hwr_5 hB hz hk hS => ?_)
      have hT : TH E (T1 E) G [] H := hT.kept (fun q hq => hk q hq (fun h => h))
      have ha_1 := ha_1.kept (hk _ ha_1.lt (fun h => h))
      have ha_2 := ha_2.kept (hk _ ha_2.lt (fun h => h))
      have hzr_5 := s_rng hwr_5
      refine lv_if_ne (tgt := 34) hx hb dX7_takeReply_30 (by decide) (fun c_6 => ?_) (fun c_6 => ?_)
      · simp only [lt_I, le_I, eq_I, i_0, i_1, i_2, i_3, i_4, i_5, i_6, i_7, i_8, i_10, i_12, i_16, i_20, i_23, i_24, i_31, i_32, i_63, i_64, i_m1] at c_6
        refine lv_aload_n hx hb dX7_takeReply_34 rfl (lv_at hl 0 rfl) ?_
        refine va_get (D := DG E) (ci := 7) (v := .ref v6_2) (C := RX7) (T := TX7) (N := 14) hx hb hts iw_X7 hown hK.1 (va_one ha_2) 0 rfl rfl 6 (by decide) (hts _ fl_X7_41) (fun _ h9 => h9) rfl dX7_takeReply_35 ?_
        refine lv_iconst (v := 0) hx hb dX7_takeReply_38 (by decide) ?_
        obtain ⟨v0_7, v1_7, v2_7, v3_7, v4_7, v5_7, ha_7, hg1_7, hg2_7, hb3_7, hb4_7⟩ := tr_11 hT hg6_2
        refine va_callr (rnV (fun H => TH E (T1 E) G [] H) (As := [.int 0]) (rest := []) ⟨hx, hb, hml, hown, hts⟩ (t_X5_at l E z0 G hGz v6_2 0 hg6_2 (by have := i_0; first | omega | decide)) (cwV 1 hts (gdV ml_X7_108 im_X5_at se_X5_X5_at in_X5 co_X5_at rfl) rfl rfl rfl (by decide +kernel) ⟨Nat.le_of_ble_eq_true rfl, Nat.le_of_ble_eq_true rfl⟩) hT (fun U hU hW => hK.go hW hS hAz hU) (va_recv hK.1 (va_one ha_7) (ci := 5) (q0 := 0) rfl rfl) rfl rfl hl.1 rfl (lv_room (Nat.le_of_ble_eq_true rfl)) dX7_takeReply_39 ⟨Nat.le_of_ble_eq_true rfl, Nat.le_of_ble_eq_true rfl⟩) hS (fun q _ h => h.elim) (fun q h => h.elim) (fun _ r_8 t H locs ht hvm hwr_8 hB hz hk hS => ?_)
        have grr_8 : G r_8 = 13 := hB
        have hT : TH E (T1 E) G [] H := hT.kept (fun q hq => hk q hq (fun h => h))
        have ha_1 := ha_1.kept (hk _ ha_1.lt (fun h => h))
        have ha_2 := ha_2.kept (hk _ ha_2.lt (fun h => h))
        have ha_7 := ha_7.kept (hk _ ha_7.lt (fun h => h))
        refine lv_astore_n (lv' := [(2, .ref r_8), (0, .ref h0), (1, .ref p0)]) hx hb dX7_takeReply_42 rfl hl (by decide) rfl (fun ls hl => ?_)
        refine lv_aload_n hx hb dX7_takeReply_43 rfl (lv_at hl 0 rfl) ?_
        obtain ⟨v0_9, v1_9, v2_9, v3_9, v4_9, v5_9, v6_9, v7_9, v8_9, v9_9, ha_9, hb3_9⟩ := tr_13 hT grr_8
        refine va_get (D := DG E) (ci := 4) (v := .int v4_9) (C := RX4) (T := TX4) (N := 10) hx hb hts iw_X4 hown hK.1 (va_one ha_9) 0 rfl rfl 4 (by decide) (hts _ fl_X7_78) (fun _ h9 => h9) rfl dX7_takeReply_44 ?_
        refine lv_aload_n hx hb dX7_takeReply_47 rfl (lv_at hl 1 rfl) ?_
        refine va_get (D := DG E) (ci := 7) (v := .int v8_2) (C := RX7) (T := TX7) (N := 14) hx hb hts iw_X7 hown hK.1 (va_one ha_2) 0 rfl rfl 8 (by decide) (hts _ fl_X7_68) (fun _ h9 => h9) rfl dX7_takeReply_48 ?_
        refine rnSN (As := [.int v4_9, .int v8_2]) (rest := []) ⟨hx, hb, hml, hown, hts⟩ (c_X9_distance l v4_9 v8_2) ⟨va_cnB (host := RX9) 2 hts (gd1 co_X9_distance rfl) rfl rfl rfl (hK.2.1 _ mn_X7_112 #[]) (hts _ in_X9) (by decide +kernel) ⟨Nat.le_of_ble_eq_true rfl, Nat.le_of_ble_eq_true rfl⟩, hts _ st_X9_distance, trivial⟩ rfl rfl hl.1 rfl (lv_room (Nat.le_of_ble_eq_true rfl)) dX7_takeReply_51 ⟨Nat.le_of_ble_eq_true rfl, Nat.le_of_ble_eq_true rfl⟩ ?_
        refine W.eq (g2 := F0 m 54 ls [.int ((v8_2 - v4_9) &&& 63)]) (by rfl) ?_
        refine lv_topi (fun x_10 ex_10 => ?_)
        have fx_10 := s_and63 (v8_2 - v4_9); rw [← ex_10] at fx_10
        refine lv_istore_n (lv' := [(3, .int x_10), (2, .ref r_8), (0, .ref h0), (1, .ref p0)]) hx hb dX7_takeReply_54 rfl hl (by decide) rfl (fun ls hl => ?_)
        refine lv_aload_n hx hb dX7_takeReply_55 rfl (lv_at hl 3 rfl) ?_
        refine lv_aload_n hx hb dX7_takeReply_56 rfl (lv_at hl 2 rfl) ?_
        refine va_get (D := DG E) (ci := 7) (v := .ref v1_2) (C := RX7) (T := TX7) (N := 14) hx hb hts iw_X7 hown hK.1 (va_one ha_2) 0 rfl rfl 1 (by decide) (hts _ fl_X7_19) (fun _ h9 => h9) rfl dX7_takeReply_57 ?_
        refine lv_aload_n hx hb dX7_takeReply_60 rfl (lv_at hl 1 rfl) ?_
        refine va_get (D := DG E) (ci := 4) (v := .int v2_9) (C := RX4) (T := TX4) (N := 10) hx hb hts iw_X4 hown hK.1 (va_one ha_9) 0 rfl rfl 2 (by decide) (hts _ fl_X7_146) (fun _ h9 => h9) rfl dX7_takeReply_61 ?_
        refine lv_iconst (v := 4) hx hb dX7_takeReply_64 (by decide) ?_
        refine lv_iload_n hx hb dX7_takeReply_65 rfl (lv_at hl 0 rfl) ?_
        refine lv_imul hx hb dX7_takeReply_66 ?_
        refine lv_topi (fun x_11 ex_11 => ?_)
        have fx_11 : x_11.toInt = 4 * x_10.toInt := by rw [ex_11]; exact s_mulK i_4 (by omega) (by omega)
        refine lv_iadd hx hb dX7_takeReply_67 ?_
        refine lv_topi (fun x_12 ex_12 => ?_)
        refine lv_aload_n hx hb dX7_takeReply_68 rfl (lv_at hl 1 rfl) ?_
        refine lv_iload_n hx hb dX7_takeReply_69 rfl (lv_at hl 0 rfl) ?_
        refine va_calli (rnV (fun H => TH E (T1 E) G [] H) (As := [.int x_10]) (rest := [.int x_12, .ref v1_2, .ref p0]) ⟨hx, hb, hml, hown, hts⟩ (t_X4_cellsOf l E z0 G hGz r_8 x_10 grr_8) (cwV 1 hts (gdV ml_X7_149 im_X4_cellsOf se_X4_X4_cellsOf in_X4 co_X4_cellsOf rfl) rfl rfl rfl (by decide +kernel) ⟨Nat.le_of_ble_eq_true rfl, Nat.le_of_ble_eq_true rfl⟩) hT (fun U hU hW => hK.go hW hS hAz hU) (va_recv hK.1 (va_one ha_9) (ci := 4) (q0 := 0) rfl rfl) rfl rfl hl.1 rfl (lv_room (Nat.le_of_ble_eq_true rfl)) dX7_takeReply_70 ⟨Nat.le_of_ble_eq_true rfl, Nat.le_of_ble_eq_true rfl⟩) hS (fun q _ h => h.elim) (fun q h => h.elim) (fun r_13 _ t H locs ht hvm hwr_13 hB hz hk hS => ?_)
        have hT : TH E (T1 E) G [] H := hT.kept (fun q hq => hk q hq (fun h => h))
        have ha_1 := ha_1.kept (hk _ ha_1.lt (fun h => h))
        have ha_2 := ha_2.kept (hk _ ha_2.lt (fun h => h))
        have ha_7 := ha_7.kept (hk _ ha_7.lt (fun h => h))
        have ha_9 := ha_9.kept (hk _ ha_9.lt (fun h => h))
        refine va_callv (rnV (fun H => TH E (T1 E) G [] H) (As := [.ref v1_2, .int x_12, .int r_13]) (rest := []) ⟨hx, hb, hml, hown, hts⟩ (t_X2_unload l E z0 G hGz p0 v1_2 x_12 r_13 hG0 hg1_2) (cwV 3 hts (gdV ml_X7_171 im_X2_unload se_X2_X2_unload in_X2 co_X2_unload rfl) rfl rfl rfl (by decide +kernel) ⟨Nat.le_of_ble_eq_true rfl, Nat.le_of_ble_eq_true rfl⟩) hT (fun U hU hW => hK.go hW hS hAz hU) (va_recv hK.1 (va_one ha_1) (ci := 2) (q0 := 0) rfl rfl) rfl rfl hl.1 rfl (lv_room (Nat.le_of_ble_eq_true rfl)) dX7_takeReply_73 ⟨Nat.le_of_ble_eq_true rfl, Nat.le_of_ble_eq_true rfl⟩) hS (fun q _ h => mL (L' := [14]) (L := [14, 9, 11, 5, 15]) (by decide) h) (fun q h => mL (L' := [14]) (L := [14, 9, 11, 5, 15]) (by decide) h) (fun _ t H locs ht hvm hwr_14 hB hz hk hS => ?_)
        have hT : TH E (T1 E) G [] H := by rw [ht] at hB; exact hB
        have ha_1 := ha_1.kept (hk _ ha_1.lt (nL hG0 (by decide)))
        have ha_2 := ha_2.kept (hk _ ha_2.lt (nL hG (by decide)))
        have ha_7 := ha_7.kept (hk _ ha_7.lt (nL hg6_2 (by decide)))
        have ha_9 := ha_9.kept (hk _ ha_9.lt (nL grr_8 (by decide)))
        refine lv_aload_n hx hb dX7_takeReply_76 rfl (lv_at hl 2 rfl) ?_
        refine lv_iconst (v := 1) hx hb dX7_takeReply_77 (by decide) ?_
        refine va_callv (rnV (fun H => TH E (T1 E) G [] H) (As := [.int 1]) (rest := []) ⟨hx, hb, hml, hown, hts⟩ (t_X7_answer l E z0 G hGz h0 1 hG) (cwV 1 hts (gdV ml_X7_162 im_X7_answer se_X7_X7_answer in_X7 co_X7_answer rfl) rfl rfl rfl (by decide +kernel) ⟨Nat.le_of_ble_eq_true rfl, Nat.le_of_ble_eq_true rfl⟩) hT (fun U hU hW => hK.go hW hS hAz hU) (va_recv hK.1 (va_one ha_2) (ci := 7) (q0 := 0) rfl rfl) rfl rfl hl.1 rfl (lv_room (Nat.le_of_ble_eq_true rfl)) dX7_takeReply_78 ⟨Nat.le_of_ble_eq_true rfl, Nat.le_of_ble_eq_true rfl⟩) hS (fun q _ h => mL (L' := [9, 11, 5, 15]) (L := [14, 9, 11, 5, 15]) (by decide) h) (fun q h => mL (L' := [9, 11, 5, 15]) (L := [14, 9, 11, 5, 15]) (by decide) h) (fun _ t H locs ht hvm hwr_15 hB hz hk hS => ?_)
        have hT : TH E (T1 E) G [] H := by rw [ht] at hB; exact hB
        have ha_1 := ha_1.kept (hk _ ha_1.lt (nL hG0 (by decide)))
        have ha_9 := ha_9.kept (hk _ ha_9.lt (nL grr_8 (by decide)))
        exact W.vret hx hb hr (fun t ht hW => ⟨⟨(), rfl, trivial, (by show TH E (T1 E) G [] t.heap; rw [ht]; exact hT)⟩, hS.F ht⟩) hS.2.2 dX7_takeReply_81
      · simp only [lt_I, le_I, eq_I, i_0, i_1, i_2, i_3, i_4, i_5, i_6, i_7, i_8, i_10, i_12, i_16, i_20, i_23, i_24, i_31, i_32, i_63, i_64, i_m1] at c_6
        exact W.vret hx hb hr (fun t ht hW => ⟨⟨(), rfl, trivial, (by show TH E (T1 E) G [] t.heap; rw [ht]; exact hT)⟩, hS.F ht⟩) hS.2.2 dX7_takeReply_33
theorem dX7_waitsTooLong_0 : decode cX7_waitsTooLong 0 = .ok (.aload_n 0, 1) := by decide +kernel
theorem dX7_waitsTooLong_1 : decode cX7_waitsTooLong 1 = .ok (.getfield 71, 3) := by decide +kernel
theorem dX7_waitsTooLong_4 : decode cX7_waitsTooLong 4 = .ok (.aload_n 0, 1) := by decide +kernel
theorem dX7_waitsTooLong_5 : decode cX7_waitsTooLong 5 = .ok (.getfield 68, 3) := by decide +kernel
theorem dX7_waitsTooLong_8 : decode cX7_waitsTooLong 8 = .ok (.if_icmp .ne 12, 3) := by decide +kernel
theorem dX7_waitsTooLong_11 : decode cX7_waitsTooLong 11 = .ok (.aload_n 0, 1) := by decide +kernel
theorem dX7_waitsTooLong_12 : decode cX7_waitsTooLong 12 = .ok (.getfield 61, 3) := by decide +kernel
theorem dX7_waitsTooLong_15 : decode cX7_waitsTooLong 15 = .ok (.ifCond .ne 5, 3) := by decide +kernel
theorem dX7_waitsTooLong_18 : decode cX7_waitsTooLong 18 = .ok (.iconst 0, 1) := by decide +kernel
theorem dX7_waitsTooLong_19 : decode cX7_waitsTooLong 19 = .ok (.ireturn, 1) := by decide +kernel
theorem dX7_waitsTooLong_20 : decode cX7_waitsTooLong 20 = .ok (.aload_n 0, 1) := by decide +kernel
theorem dX7_waitsTooLong_21 : decode cX7_waitsTooLong 21 = .ok (.dup, 1) := by decide +kernel
theorem dX7_waitsTooLong_22 : decode cX7_waitsTooLong 22 = .ok (.getfield 52, 3) := by decide +kernel
theorem dX7_waitsTooLong_25 : decode cX7_waitsTooLong 25 = .ok (.iconst 1, 1) := by decide +kernel
theorem dX7_waitsTooLong_26 : decode cX7_waitsTooLong 26 = .ok (.iadd, 1) := by decide +kernel
theorem dX7_waitsTooLong_27 : decode cX7_waitsTooLong 27 = .ok (.putfield 52, 3) := by decide +kernel
theorem dX7_waitsTooLong_30 : decode cX7_waitsTooLong 30 = .ok (.aload_n 0, 1) := by decide +kernel
theorem dX7_waitsTooLong_31 : decode cX7_waitsTooLong 31 = .ok (.getfield 52, 3) := by decide +kernel
theorem dX7_waitsTooLong_34 : decode cX7_waitsTooLong 34 = .ok (.aload_n 0, 1) := by decide +kernel
theorem dX7_waitsTooLong_35 : decode cX7_waitsTooLong 35 = .ok (.getfield 61, 3) := by decide +kernel
theorem dX7_waitsTooLong_38 : decode cX7_waitsTooLong 38 = .ok (.ifCond .eq 7, 3) := by decide +kernel
theorem dX7_waitsTooLong_41 : decode cX7_waitsTooLong 41 = .ok (.iconst 3, 1) := by decide +kernel
theorem dX7_waitsTooLong_42 : decode cX7_waitsTooLong 42 = .ok (.goto 7, 3) := by decide +kernel
theorem dX7_waitsTooLong_45 : decode cX7_waitsTooLong 45 = .ok (.aload_n 0, 1) := by decide +kernel
theorem dX7_waitsTooLong_46 : decode cX7_waitsTooLong 46 = .ok (.getfield 27, 3) := by decide +kernel
theorem dX7_waitsTooLong_49 : decode cX7_waitsTooLong 49 = .ok (.if_icmp .ge 5, 3) := by decide +kernel
theorem dX7_waitsTooLong_52 : decode cX7_waitsTooLong 52 = .ok (.iconst 0, 1) := by decide +kernel
theorem dX7_waitsTooLong_53 : decode cX7_waitsTooLong 53 = .ok (.ireturn, 1) := by decide +kernel
theorem dX7_waitsTooLong_54 : decode cX7_waitsTooLong 54 = .ok (.aload_n 0, 1) := by decide +kernel
theorem dX7_waitsTooLong_55 : decode cX7_waitsTooLong 55 = .ok (.iconst 0, 1) := by decide +kernel
theorem dX7_waitsTooLong_56 : decode cX7_waitsTooLong 56 = .ok (.putfield 52, 3) := by decide +kernel
theorem dX7_waitsTooLong_59 : decode cX7_waitsTooLong 59 = .ok (.aload_n 0, 1) := by decide +kernel
theorem dX7_waitsTooLong_60 : decode cX7_waitsTooLong 60 = .ok (.getfield 61, 3) := by decide +kernel
theorem dX7_waitsTooLong_63 : decode cX7_waitsTooLong 63 = .ok (.ifCond .eq 10, 3) := by decide +kernel
theorem dX7_waitsTooLong_66 : decode cX7_waitsTooLong 66 = .ok (.aload_n 0, 1) := by decide +kernel
theorem dX7_waitsTooLong_67 : decode cX7_waitsTooLong 67 = .ok (.iconst 0, 1) := by decide +kernel
theorem dX7_waitsTooLong_68 : decode cX7_waitsTooLong 68 = .ok (.putfield 61, 3) := by decide +kernel
theorem dX7_waitsTooLong_71 : decode cX7_waitsTooLong 71 = .ok (.iconst 0, 1) := by decide +kernel
theorem dX7_waitsTooLong_72 : decode cX7_waitsTooLong 72 = .ok (.ireturn, 1) := by decide +kernel
theorem dX7_waitsTooLong_73 : decode cX7_waitsTooLong 73 = .ok (.aload_n 0, 1) := by decide +kernel
theorem dX7_waitsTooLong_74 : decode cX7_waitsTooLong 74 = .ok (.dup, 1) := by decide +kernel
theorem dX7_waitsTooLong_75 : decode cX7_waitsTooLong 75 = .ok (.getfield 55, 3) := by decide +kernel
theorem dX7_waitsTooLong_78 : decode cX7_waitsTooLong 78 = .ok (.iconst 1, 1) := by decide +kernel
theorem dX7_waitsTooLong_79 : decode cX7_waitsTooLong 79 = .ok (.iadd, 1) := by decide +kernel
theorem dX7_waitsTooLong_80 : decode cX7_waitsTooLong 80 = .ok (.putfield 55, 3) := by decide +kernel
theorem dX7_waitsTooLong_83 : decode cX7_waitsTooLong 83 = .ok (.aload_n 0, 1) := by decide +kernel
theorem dX7_waitsTooLong_84 : decode cX7_waitsTooLong 84 = .ok (.getfield 55, 3) := by decide +kernel
theorem dX7_waitsTooLong_87 : decode cX7_waitsTooLong 87 = .ok (.aload_n 0, 1) := by decide +kernel
theorem dX7_waitsTooLong_88 : decode cX7_waitsTooLong 88 = .ok (.getfield 30, 3) := by decide +kernel
theorem dX7_waitsTooLong_91 : decode cX7_waitsTooLong 91 = .ok (.if_icmp .le 5, 3) := by decide +kernel
theorem dX7_waitsTooLong_94 : decode cX7_waitsTooLong 94 = .ok (.iconst 1, 1) := by decide +kernel
theorem dX7_waitsTooLong_95 : decode cX7_waitsTooLong 95 = .ok (.ireturn, 1) := by decide +kernel
theorem dX7_waitsTooLong_96 : decode cX7_waitsTooLong 96 = .ok (.aload_n 0, 1) := by decide +kernel
theorem dX7_waitsTooLong_97 : decode cX7_waitsTooLong 97 = .ok (.aload_n 0, 1) := by decide +kernel
theorem dX7_waitsTooLong_98 : decode cX7_waitsTooLong 98 = .ok (.getfield 68, 3) := by decide +kernel
theorem dX7_waitsTooLong_101 : decode cX7_waitsTooLong 101 = .ok (.putfield 71, 3) := by decide +kernel
theorem dX7_waitsTooLong_104 : decode cX7_waitsTooLong 104 = .ok (.iconst 0, 1) := by decide +kernel
theorem dX7_waitsTooLong_105 : decode cX7_waitsTooLong 105 = .ok (.ireturn, 1) := by decide +kernel
set_option maxHeartbeats 8000000 in
set_option maxRecDepth 100000 in
theorem t_X7_waitsTooLong (l : Launch) (E : EE) (z0 : Nat) (G : Nat → Nat) (hGz : ∀ q, G q ≠ 0 → z0 ≤ q) (h0 : Nat) (hG : G h0 = 9) : Met l yX7_waitsTooLong [Cond.code yX7_waitsTooLong cX7_waitsTooLong 1 (some .boolean)] ({ frames := 0, cells := 0, slots := 0, locals := 0 } : Room) (va_Pc [.ref h0] (fun U => (TH E (T1 E) G [] U.heap) ∧ KS E z0 U)) (va_Qi (fun (r : Int32) (_ : Unit) => r = 0 ∨ r = 1) (fun _ t => TH E (T1 E) G [] t.heap) (fun q : Nat => G q ∈ ([9] : List Nat))) 0 0 (fun q : Nat => G q ∈ ([9] : List Nat)) := by
  refine Met.ofW (cc := cX7_waitsTooLong) (maxL := 1) (ret := (some .boolean)) (by decide) rfl ?_
  intro p e s m args below meth c s₁ B hml hv
  obtain ⟨rfl, hT, hK⟩ := hv
  have hx := B.exec
  have hb := B.bytes
  have hr := B.returns
  have hts : ∀ w ∈ TS, w.before ([.ref h0] : List Value).toArray s = true := fun w hw => hK.2.1 w hw _
  have hown : s.vm.findClass RX7 = some m.cls := findClass_of_methodNamed B.named
  have hlocks := B.notSynchronized
  have hS : va_S (fun q : Nat => G q ∈ ([9] : List Nat)) s.heap s.heap [] := va_S.rf
  have hAz : ∀ q, (fun q : Nat => G q ∈ ([9] : List Nat)) q → z0 ≤ q := zL hGz (by decide)
  have hl := lv_entry ([.ref h0]) (n := 1) (Nat.le_of_ble_eq_true rfl)
  rw [lg_entry_eq]
  generalize (lg_sl ([.ref h0]) ++ List.replicate (1 - (lg_sl ([.ref h0])).length) Slot.unset).toArray = ls at hl ⊢
  have hl : lv_has ls 1 [(0, .ref h0)] := hl
  refine lv_aload_n hx hb dX7_waitsTooLong_0 rfl (lv_at hl 0 rfl) ?_
  obtain ⟨v0_1, v1_1, v2_1, v3_1, v4_1, v5_1, v6_1, v7_1, v8_1, v9_1, v10_1, v11_1, v12_1, v13_1, ha_1, hb0_1, hg1_1, hg2_1, hg6_1⟩ := tr_9 hT hG
  refine va_get (D := DG E) (ci := 7) (v := .int v9_1) (C := RX7) (T := TX7) (N := 14) hx hb hts iw_X7 hown hK.1 (va_one ha_1) 0 rfl rfl 9 (by decide) (hts _ fl_X7_71) (fun _ h9 => h9) rfl dX7_waitsTooLong_1 ?_
  refine lv_aload_n hx hb dX7_waitsTooLong_4 rfl (lv_at hl 0 rfl) ?_
  refine va_get (D := DG E) (ci := 7) (v := .int v8_1) (C := RX7) (T := TX7) (N := 14) hx hb hts iw_X7 hown hK.1 (va_one ha_1) 0 rfl rfl 8 (by decide) (hts _ fl_X7_68) (fun _ h9 => h9) rfl dX7_waitsTooLong_5 ?_
  refine lv_icmp_ne (tgt := 20) hx hb dX7_waitsTooLong_8 (by decide) (fun c_2 => ?_) (fun c_2 => ?_)
  · simp only [lt_I, le_I, eq_I, i_0, i_1, i_2, i_3, i_4, i_5, i_6, i_7, i_8, i_10, i_12, i_16, i_20, i_23, i_24, i_31, i_32, i_63, i_64, i_m1] at c_2
    refine lv_aload_n hx hb dX7_waitsTooLong_20 rfl (lv_at hl 0 rfl) ?_
    refine lv_dup hx hb dX7_waitsTooLong_21 rfl ?_
    refine va_get (D := DG E) (ci := 7) (v := .int v10_1) (C := RX7) (T := TX7) (N := 14) hx hb hts iw_X7 hown hK.1 (va_one ha_1) 0 rfl rfl 10 (by decide) (hts _ fl_X7_52) (fun _ h9 => h9) rfl dX7_waitsTooLong_22 ?_
    refine lv_iconst (v := 1) hx hb dX7_waitsTooLong_25 (by decide) ?_
    refine lv_iadd hx hb dX7_waitsTooLong_26 ?_
    refine lv_topi (fun x_3 ex_3 => ?_)
    refine rr_put (D := DG E) (ci := 7) (v := .int x_3) (ty := .int) (C := RX7) (T := TX7) (N := 14) hx hb hts iw_X7 tyX7 tyX7_ok nmX7 hown hK.1 ha_1 hS (by show G h0 ∈ ([9] : List Nat); rw [hG]; decide) rfl 10 (by decide) (hts _ fl_X7_52) (fun _ h9 => h9) rfl (by decide +kernel) rfl rfl (Nat.le_of_ble_eq_true rfl) dX7_waitsTooLong_27 (fun H locs hn ho hz hS => ?_)
    have hr_4 : va_at (DG E) vwCl (h0, .inr (7, [.int v0_1, .ref v1_1, .ref v2_1, .int v3_1, .int v4_1, .int v5_1, .ref v6_1, .int v7_1, .int v8_1, .int v9_1, .int x_3, .int v11_1, .int v12_1, .int v13_1])) H := hn
    have hT : TH E (T1 E) G [] H := hT.set hG (show T1 E G 9 _ from ⟨v0_1, v1_1, v2_1, v3_1, v4_1, v5_1, v6_1, v7_1, v8_1, v9_1, x_3, v11_1, v12_1, v13_1, rfl, (by omega), hg1_1, hg2_1, hg6_1⟩) hr_4 ho
    refine lv_aload_n hx hb dX7_waitsTooLong_30 rfl (lv_at hl 0 rfl) ?_
    refine va_get (D := DG E) (ci := 7) (v := .int x_3) (C := RX7) (T := TX7) (N := 14) hx hb hts iw_X7 hown hK.1 (va_one hr_4) 0 rfl rfl 10 (by decide) (hts _ fl_X7_52) (fun _ h9 => h9) rfl dX7_waitsTooLong_31 ?_
    refine lv_aload_n hx hb dX7_waitsTooLong_34 rfl (lv_at hl 0 rfl) ?_
    refine va_get (D := DG E) (ci := 7) (v := .int v13_1) (C := RX7) (T := TX7) (N := 14) hx hb hts iw_X7 hown hK.1 (va_one hr_4) 0 rfl rfl 13 (by decide) (hts _ fl_X7_61) (fun _ h9 => h9) rfl dX7_waitsTooLong_35 ?_
    refine lv_if_eq (tgt := 45) hx hb dX7_waitsTooLong_38 (by decide) (fun c_5 => ?_) (fun c_5 => ?_)
    · simp only [lt_I, le_I, eq_I, i_0, i_1, i_2, i_3, i_4, i_5, i_6, i_7, i_8, i_10, i_12, i_16, i_20, i_23, i_24, i_31, i_32, i_63, i_64, i_m1] at c_5
      refine lv_aload_n hx hb dX7_waitsTooLong_45 rfl (lv_at hl 0 rfl) ?_
      refine va_get (D := DG E) (ci := 7) (v := .int v3_1) (C := RX7) (T := TX7) (N := 14) hx hb hts iw_X7 hown hK.1 (va_one hr_4) 0 rfl rfl 3 (by decide) (hts _ fl_X7_27) (fun _ h9 => h9) rfl dX7_waitsTooLong_46 ?_
      refine lv_icmp_ge (tgt := 54) hx hb dX7_waitsTooLong_49 (by decide) (fun c_6 => ?_) (fun c_6 => ?_)
      · simp only [lt_I, le_I, eq_I, i_0, i_1, i_2, i_3, i_4, i_5, i_6, i_7, i_8, i_10, i_12, i_16, i_20, i_23, i_24, i_31, i_32, i_63, i_64, i_m1] at c_6
        refine lv_aload_n hx hb dX7_waitsTooLong_54 rfl (lv_at hl 0 rfl) ?_
        refine lv_iconst (v := 0) hx hb dX7_waitsTooLong_55 (by decide) ?_
        refine rr_put (D := DG E) (ci := 7) (v := .int 0) (ty := .int) (C := RX7) (T := TX7) (N := 14) hx hb hts iw_X7 tyX7 tyX7_ok nmX7 hown hK.1 hr_4 hS (by show G h0 ∈ ([9] : List Nat); rw [hG]; decide) rfl 10 (by decide) (hts _ fl_X7_52) (fun _ h9 => h9) rfl (by decide +kernel) rfl rfl (Nat.le_of_ble_eq_true rfl) dX7_waitsTooLong_56 (fun H locs hn ho hz hS => ?_)
        have hr_7 : va_at (DG E) vwCl (h0, .inr (7, [.int v0_1, .ref v1_1, .ref v2_1, .int v3_1, .int v4_1, .int v5_1, .ref v6_1, .int v7_1, .int v8_1, .int v9_1, .int 0, .int v11_1, .int v12_1, .int v13_1])) H := hn
        have hT : TH E (T1 E) G [] H := hT.set hG (show T1 E G 9 _ from ⟨v0_1, v1_1, v2_1, v3_1, v4_1, v5_1, v6_1, v7_1, v8_1, v9_1, 0, v11_1, v12_1, v13_1, rfl, (by omega), hg1_1, hg2_1, hg6_1⟩) hr_7 ho
        refine lv_aload_n hx hb dX7_waitsTooLong_59 rfl (lv_at hl 0 rfl) ?_
        refine va_get (D := DG E) (ci := 7) (v := .int v13_1) (C := RX7) (T := TX7) (N := 14) hx hb hts iw_X7 hown hK.1 (va_one hr_7) 0 rfl rfl 13 (by decide) (hts _ fl_X7_61) (fun _ h9 => h9) rfl dX7_waitsTooLong_60 ?_
        refine lv_if_eq (tgt := 73) hx hb dX7_waitsTooLong_63 (by decide) (fun c_8 => ?_) (fun c_8 => ?_)
        · simp only [lt_I, le_I, eq_I, i_0, i_1, i_2, i_3, i_4, i_5, i_6, i_7, i_8, i_10, i_12, i_16, i_20, i_23, i_24, i_31, i_32, i_63, i_64, i_m1] at c_8
          refine lv_aload_n hx hb dX7_waitsTooLong_73 rfl (lv_at hl 0 rfl) ?_
          refine lv_dup hx hb dX7_waitsTooLong_74 rfl ?_
          refine va_get (D := DG E) (ci := 7) (v := .int v11_1) (C := RX7) (T := TX7) (N := 14) hx hb hts iw_X7 hown hK.1 (va_one hr_7) 0 rfl rfl 11 (by decide) (hts _ fl_X7_55) (fun _ h9 => h9) rfl dX7_waitsTooLong_75 ?_
          refine lv_iconst (v := 1) hx hb dX7_waitsTooLong_78 (by decide) ?_
          refine lv_iadd hx hb dX7_waitsTooLong_79 ?_
          refine lv_topi (fun x_9 ex_9 => ?_)
          refine rr_put (D := DG E) (ci := 7) (v := .int x_9) (ty := .int) (C := RX7) (T := TX7) (N := 14) hx hb hts iw_X7 tyX7 tyX7_ok nmX7 hown hK.1 hr_7 hS (by show G h0 ∈ ([9] : List Nat); rw [hG]; decide) rfl 11 (by decide) (hts _ fl_X7_55) (fun _ h9 => h9) rfl (by decide +kernel) rfl rfl (Nat.le_of_ble_eq_true rfl) dX7_waitsTooLong_80 (fun H locs hn ho hz hS => ?_)
          have hr_10 : va_at (DG E) vwCl (h0, .inr (7, [.int v0_1, .ref v1_1, .ref v2_1, .int v3_1, .int v4_1, .int v5_1, .ref v6_1, .int v7_1, .int v8_1, .int v9_1, .int 0, .int x_9, .int v12_1, .int v13_1])) H := hn
          have hT : TH E (T1 E) G [] H := hT.set hG (show T1 E G 9 _ from ⟨v0_1, v1_1, v2_1, v3_1, v4_1, v5_1, v6_1, v7_1, v8_1, v9_1, 0, x_9, v12_1, v13_1, rfl, (by omega), hg1_1, hg2_1, hg6_1⟩) hr_10 ho
          refine lv_aload_n hx hb dX7_waitsTooLong_83 rfl (lv_at hl 0 rfl) ?_
          refine va_get (D := DG E) (ci := 7) (v := .int x_9) (C := RX7) (T := TX7) (N := 14) hx hb hts iw_X7 hown hK.1 (va_one hr_10) 0 rfl rfl 11 (by decide) (hts _ fl_X7_55) (fun _ h9 => h9) rfl dX7_waitsTooLong_84 ?_
          refine lv_aload_n hx hb dX7_waitsTooLong_87 rfl (lv_at hl 0 rfl) ?_
          refine va_get (D := DG E) (ci := 7) (v := .int v4_1) (C := RX7) (T := TX7) (N := 14) hx hb hts iw_X7 hown hK.1 (va_one hr_10) 0 rfl rfl 4 (by decide) (hts _ fl_X7_30) (fun _ h9 => h9) rfl dX7_waitsTooLong_88 ?_
          refine lv_icmp_le (tgt := 96) hx hb dX7_waitsTooLong_91 (by decide) (fun c_11 => ?_) (fun c_11 => ?_)
          · simp only [lt_I, le_I, eq_I, i_0, i_1, i_2, i_3, i_4, i_5, i_6, i_7, i_8, i_10, i_12, i_16, i_20, i_23, i_24, i_31, i_32, i_63, i_64, i_m1] at c_11
            refine lv_aload_n hx hb dX7_waitsTooLong_96 rfl (lv_at hl 0 rfl) ?_
            refine lv_aload_n hx hb dX7_waitsTooLong_97 rfl (lv_at hl 0 rfl) ?_
            refine va_get (D := DG E) (ci := 7) (v := .int v8_1) (C := RX7) (T := TX7) (N := 14) hx hb hts iw_X7 hown hK.1 (va_one hr_10) 0 rfl rfl 8 (by decide) (hts _ fl_X7_68) (fun _ h9 => h9) rfl dX7_waitsTooLong_98 ?_
            refine rr_put (D := DG E) (ci := 7) (v := .int v8_1) (ty := .int) (C := RX7) (T := TX7) (N := 14) hx hb hts iw_X7 tyX7 tyX7_ok nmX7 hown hK.1 hr_10 hS (by show G h0 ∈ ([9] : List Nat); rw [hG]; decide) rfl 9 (by decide) (hts _ fl_X7_71) (fun _ h9 => h9) rfl (by decide +kernel) rfl rfl (Nat.le_of_ble_eq_true rfl) dX7_waitsTooLong_101 (fun H locs hn ho hz hS => ?_)
            have hr_12 : va_at (DG E) vwCl (h0, .inr (7, [.int v0_1, .ref v1_1, .ref v2_1, .int v3_1, .int v4_1, .int v5_1, .ref v6_1, .int v7_1, .int v8_1, .int v8_1, .int 0, .int x_9, .int v12_1, .int v13_1])) H := hn
            have hT : TH E (T1 E) G [] H := hT.set hG (show T1 E G 9 _ from ⟨v0_1, v1_1, v2_1, v3_1, v4_1, v5_1, v6_1, v7_1, v8_1, v8_1, 0, x_9, v12_1, v13_1, rfl, (by omega), hg1_1, hg2_1, hg6_1⟩) hr_12 ho
            refine lv_iconst (v := 0) hx hb dX7_waitsTooLong_104 (by decide) ?_
            exact W.zret (v := 0) (ty := .boolean) hx hb hr rfl (fun t ht hW => ⟨⟨0, (), rfl, (by decide), (by show TH E (T1 E) G [] t.heap; rw [ht]; exact hT)⟩, hS.F ht⟩) hS.2.2 dX7_waitsTooLong_105
          · simp only [lt_I, le_I, eq_I, i_0, i_1, i_2, i_3, i_4, i_5, i_6, i_7, i_8, i_10, i_12, i_16, i_20, i_23, i_24, i_31, i_32, i_63, i_64, i_m1] at c_11
            refine lv_iconst (v := 1) hx hb dX7_waitsTooLong_94 (by decide) ?_
            exact W.zret (v := 1) (ty := .boolean) hx hb hr rfl (fun t ht hW => ⟨⟨1, (), rfl, (by decide), (by show TH E (T1 E) G [] t.heap; rw [ht]; exact hT)⟩, hS.F ht⟩) hS.2.2 dX7_waitsTooLong_95
        · simp only [lt_I, le_I, eq_I, i_0, i_1, i_2, i_3, i_4, i_5, i_6, i_7, i_8, i_10, i_12, i_16, i_20, i_23, i_24, i_31, i_32, i_63, i_64, i_m1] at c_8
          refine lv_aload_n hx hb dX7_waitsTooLong_66 rfl (lv_at hl 0 rfl) ?_
          refine lv_iconst (v := 0) hx hb dX7_waitsTooLong_67 (by decide) ?_
          refine rr_put (D := DG E) (ci := 7) (v := .int 0) (ty := .boolean) (C := RX7) (T := TX7) (N := 14) hx hb hts iw_X7 tyX7 tyX7_ok nmX7 hown hK.1 hr_7 hS (by show G h0 ∈ ([9] : List Nat); rw [hG]; decide) rfl 13 (by decide) (hts _ fl_X7_61) (fun _ h9 => h9) rfl (by decide +kernel) rfl rfl (Nat.le_of_ble_eq_true rfl) dX7_waitsTooLong_68 (fun H locs hn ho hz hS => ?_)
          have hr_13 : va_at (DG E) vwCl (h0, .inr (7, [.int v0_1, .ref v1_1, .ref v2_1, .int v3_1, .int v4_1, .int v5_1, .ref v6_1, .int v7_1, .int v8_1, .int v9_1, .int 0, .int v11_1, .int v12_1, .int 0])) H := hn
          have hT : TH E (T1 E) G [] H := hT.set hG (show T1 E G 9 _ from ⟨v0_1, v1_1, v2_1, v3_1, v4_1, v5_1, v6_1, v7_1, v8_1, v9_1, 0, v11_1, v12_1, 0, rfl, (by omega), hg1_1, hg2_1, hg6_1⟩) hr_13 ho
          refine lv_iconst (v := 0) hx hb dX7_waitsTooLong_71 (by decide) ?_
          exact W.zret (v := 0) (ty := .boolean) hx hb hr rfl (fun t ht hW => ⟨⟨0, (), rfl, (by decide), (by show TH E (T1 E) G [] t.heap; rw [ht]; exact hT)⟩, hS.F ht⟩) hS.2.2 dX7_waitsTooLong_72
      · simp only [lt_I, le_I, eq_I, i_0, i_1, i_2, i_3, i_4, i_5, i_6, i_7, i_8, i_10, i_12, i_16, i_20, i_23, i_24, i_31, i_32, i_63, i_64, i_m1] at c_6
        refine lv_iconst (v := 0) hx hb dX7_waitsTooLong_52 (by decide) ?_
        exact W.zret (v := 0) (ty := .boolean) hx hb hr rfl (fun t ht hW => ⟨⟨0, (), rfl, (by decide), (by show TH E (T1 E) G [] t.heap; rw [ht]; exact hT)⟩, hS.F ht⟩) hS.2.2 dX7_waitsTooLong_53
    · simp only [lt_I, le_I, eq_I, i_0, i_1, i_2, i_3, i_4, i_5, i_6, i_7, i_8, i_10, i_12, i_16, i_20, i_23, i_24, i_31, i_32, i_63, i_64, i_m1] at c_5
      refine lv_iconst (v := 3) hx hb dX7_waitsTooLong_41 (by decide) ?_
      refine lv_goto (tgt := 49) hx hb dX7_waitsTooLong_42 (by decide) ?_
      refine lv_icmp_ge (tgt := 54) hx hb dX7_waitsTooLong_49 (by decide) (fun c_14 => ?_) (fun c_14 => ?_)
      · simp only [lt_I, le_I, eq_I, i_0, i_1, i_2, i_3, i_4, i_5, i_6, i_7, i_8, i_10, i_12, i_16, i_20, i_23, i_24, i_31, i_32, i_63, i_64, i_m1] at c_14
        refine lv_aload_n hx hb dX7_waitsTooLong_54 rfl (lv_at hl 0 rfl) ?_
        refine lv_iconst (v := 0) hx hb dX7_waitsTooLong_55 (by decide) ?_
        refine rr_put (D := DG E) (ci := 7) (v := .int 0) (ty := .int) (C := RX7) (T := TX7) (N := 14) hx hb hts iw_X7 tyX7 tyX7_ok nmX7 hown hK.1 hr_4 hS (by show G h0 ∈ ([9] : List Nat); rw [hG]; decide) rfl 10 (by decide) (hts _ fl_X7_52) (fun _ h9 => h9) rfl (by decide +kernel) rfl rfl (Nat.le_of_ble_eq_true rfl) dX7_waitsTooLong_56 (fun H locs hn ho hz hS => ?_)
        have hr_15 : va_at (DG E) vwCl (h0, .inr (7, [.int v0_1, .ref v1_1, .ref v2_1, .int v3_1, .int v4_1, .int v5_1, .ref v6_1, .int v7_1, .int v8_1, .int v9_1, .int 0, .int v11_1, .int v12_1, .int v13_1])) H := hn
        have hT : TH E (T1 E) G [] H := hT.set hG (show T1 E G 9 _ from ⟨v0_1, v1_1, v2_1, v3_1, v4_1, v5_1, v6_1, v7_1, v8_1, v9_1, 0, v11_1, v12_1, v13_1, rfl, (by omega), hg1_1, hg2_1, hg6_1⟩) hr_15 ho
        refine lv_aload_n hx hb dX7_waitsTooLong_59 rfl (lv_at hl 0 rfl) ?_
        refine va_get (D := DG E) (ci := 7) (v := .int v13_1) (C := RX7) (T := TX7) (N := 14) hx hb hts iw_X7 hown hK.1 (va_one hr_15) 0 rfl rfl 13 (by decide) (hts _ fl_X7_61) (fun _ h9 => h9) rfl dX7_waitsTooLong_60 ?_
        refine lv_if_eq (tgt := 73) hx hb dX7_waitsTooLong_63 (by decide) (fun c_16 => ?_) (fun c_16 => ?_)
        · simp only [lt_I, le_I, eq_I, i_0, i_1, i_2, i_3, i_4, i_5, i_6, i_7, i_8, i_10, i_12, i_16, i_20, i_23, i_24, i_31, i_32, i_63, i_64, i_m1] at c_16
          refine lv_aload_n hx hb dX7_waitsTooLong_73 rfl (lv_at hl 0 rfl) ?_
          refine lv_dup hx hb dX7_waitsTooLong_74 rfl ?_
          refine va_get (D := DG E) (ci := 7) (v := .int v11_1) (C := RX7) (T := TX7) (N := 14) hx hb hts iw_X7 hown hK.1 (va_one hr_15) 0 rfl rfl 11 (by decide) (hts _ fl_X7_55) (fun _ h9 => h9) rfl dX7_waitsTooLong_75 ?_
          refine lv_iconst (v := 1) hx hb dX7_waitsTooLong_78 (by decide) ?_
          refine lv_iadd hx hb dX7_waitsTooLong_79 ?_
          refine lv_topi (fun x_17 ex_17 => ?_)
          refine rr_put (D := DG E) (ci := 7) (v := .int x_17) (ty := .int) (C := RX7) (T := TX7) (N := 14) hx hb hts iw_X7 tyX7 tyX7_ok nmX7 hown hK.1 hr_15 hS (by show G h0 ∈ ([9] : List Nat); rw [hG]; decide) rfl 11 (by decide) (hts _ fl_X7_55) (fun _ h9 => h9) rfl (by decide +kernel) rfl rfl (Nat.le_of_ble_eq_true rfl) dX7_waitsTooLong_80 (fun H locs hn ho hz hS => ?_)
          have hr_18 : va_at (DG E) vwCl (h0, .inr (7, [.int v0_1, .ref v1_1, .ref v2_1, .int v3_1, .int v4_1, .int v5_1, .ref v6_1, .int v7_1, .int v8_1, .int v9_1, .int 0, .int x_17, .int v12_1, .int v13_1])) H := hn
          have hT : TH E (T1 E) G [] H := hT.set hG (show T1 E G 9 _ from ⟨v0_1, v1_1, v2_1, v3_1, v4_1, v5_1, v6_1, v7_1, v8_1, v9_1, 0, x_17, v12_1, v13_1, rfl, (by omega), hg1_1, hg2_1, hg6_1⟩) hr_18 ho
          refine lv_aload_n hx hb dX7_waitsTooLong_83 rfl (lv_at hl 0 rfl) ?_
          refine va_get (D := DG E) (ci := 7) (v := .int x_17) (C := RX7) (T := TX7) (N := 14) hx hb hts iw_X7 hown hK.1 (va_one hr_18) 0 rfl rfl 11 (by decide) (hts _ fl_X7_55) (fun _ h9 => h9) rfl dX7_waitsTooLong_84 ?_
          refine lv_aload_n hx hb dX7_waitsTooLong_87 rfl (lv_at hl 0 rfl) ?_
          refine va_get (D := DG E) (ci := 7) (v := .int v4_1) (C := RX7) (T := TX7) (N := 14) hx hb hts iw_X7 hown hK.1 (va_one hr_18) 0 rfl rfl 4 (by decide) (hts _ fl_X7_30) (fun _ h9 => h9) rfl dX7_waitsTooLong_88 ?_
          refine lv_icmp_le (tgt := 96) hx hb dX7_waitsTooLong_91 (by decide) (fun c_19 => ?_) (fun c_19 => ?_)
          · simp only [lt_I, le_I, eq_I, i_0, i_1, i_2, i_3, i_4, i_5, i_6, i_7, i_8, i_10, i_12, i_16, i_20, i_23, i_24, i_31, i_32, i_63, i_64, i_m1] at c_19
            refine lv_aload_n hx hb dX7_waitsTooLong_96 rfl (lv_at hl 0 rfl) ?_
            refine lv_aload_n hx hb dX7_waitsTooLong_97 rfl (lv_at hl 0 rfl) ?_
            refine va_get (D := DG E) (ci := 7) (v := .int v8_1) (C := RX7) (T := TX7) (N := 14) hx hb hts iw_X7 hown hK.1 (va_one hr_18) 0 rfl rfl 8 (by decide) (hts _ fl_X7_68) (fun _ h9 => h9) rfl dX7_waitsTooLong_98 ?_
            refine rr_put (D := DG E) (ci := 7) (v := .int v8_1) (ty := .int) (C := RX7) (T := TX7) (N := 14) hx hb hts iw_X7 tyX7 tyX7_ok nmX7 hown hK.1 hr_18 hS (by show G h0 ∈ ([9] : List Nat); rw [hG]; decide) rfl 9 (by decide) (hts _ fl_X7_71) (fun _ h9 => h9) rfl (by decide +kernel) rfl rfl (Nat.le_of_ble_eq_true rfl) dX7_waitsTooLong_101 (fun H locs hn ho hz hS => ?_)
            have hr_20 : va_at (DG E) vwCl (h0, .inr (7, [.int v0_1, .ref v1_1, .ref v2_1, .int v3_1, .int v4_1, .int v5_1, .ref v6_1, .int v7_1, .int v8_1, .int v8_1, .int 0, .int x_17, .int v12_1, .int v13_1])) H := hn
            have hT : TH E (T1 E) G [] H := hT.set hG (show T1 E G 9 _ from ⟨v0_1, v1_1, v2_1, v3_1, v4_1, v5_1, v6_1, v7_1, v8_1, v8_1, 0, x_17, v12_1, v13_1, rfl, (by omega), hg1_1, hg2_1, hg6_1⟩) hr_20 ho
            refine lv_iconst (v := 0) hx hb dX7_waitsTooLong_104 (by decide) ?_
            exact W.zret (v := 0) (ty := .boolean) hx hb hr rfl (fun t ht hW => ⟨⟨0, (), rfl, (by decide), (by show TH E (T1 E) G [] t.heap; rw [ht]; exact hT)⟩, hS.F ht⟩) hS.2.2 dX7_waitsTooLong_105
          · simp only [lt_I, le_I, eq_I, i_0, i_1, i_2, i_3, i_4, i_5, i_6, i_7, i_8, i_10, i_12, i_16, i_20, i_23, i_24, i_31, i_32, i_63, i_64, i_m1] at c_19
            refine lv_iconst (v := 1) hx hb dX7_waitsTooLong_94 (by decide) ?_
            exact W.zret (v := 1) (ty := .boolean) hx hb hr rfl (fun t ht hW => ⟨⟨1, (), rfl, (by decide), (by show TH E (T1 E) G [] t.heap; rw [ht]; exact hT)⟩, hS.F ht⟩) hS.2.2 dX7_waitsTooLong_95
        · simp only [lt_I, le_I, eq_I, i_0, i_1, i_2, i_3, i_4, i_5, i_6, i_7, i_8, i_10, i_12, i_16, i_20, i_23, i_24, i_31, i_32, i_63, i_64, i_m1] at c_16
          refine lv_aload_n hx hb dX7_waitsTooLong_66 rfl (lv_at hl 0 rfl) ?_
          refine lv_iconst (v := 0) hx hb dX7_waitsTooLong_67 (by decide) ?_
          refine rr_put (D := DG E) (ci := 7) (v := .int 0) (ty := .boolean) (C := RX7) (T := TX7) (N := 14) hx hb hts iw_X7 tyX7 tyX7_ok nmX7 hown hK.1 hr_15 hS (by show G h0 ∈ ([9] : List Nat); rw [hG]; decide) rfl 13 (by decide) (hts _ fl_X7_61) (fun _ h9 => h9) rfl (by decide +kernel) rfl rfl (Nat.le_of_ble_eq_true rfl) dX7_waitsTooLong_68 (fun H locs hn ho hz hS => ?_)
          have hr_21 : va_at (DG E) vwCl (h0, .inr (7, [.int v0_1, .ref v1_1, .ref v2_1, .int v3_1, .int v4_1, .int v5_1, .ref v6_1, .int v7_1, .int v8_1, .int v9_1, .int 0, .int v11_1, .int v12_1, .int 0])) H := hn
          have hT : TH E (T1 E) G [] H := hT.set hG (show T1 E G 9 _ from ⟨v0_1, v1_1, v2_1, v3_1, v4_1, v5_1, v6_1, v7_1, v8_1, v9_1, 0, v11_1, v12_1, 0, rfl, (by omega), hg1_1, hg2_1, hg6_1⟩) hr_21 ho
          refine lv_iconst (v := 0) hx hb dX7_waitsTooLong_71 (by decide) ?_
          exact W.zret (v := 0) (ty := .boolean) hx hb hr rfl (fun t ht hW => ⟨⟨0, (), rfl, (by decide), (by show TH E (T1 E) G [] t.heap; rw [ht]; exact hT)⟩, hS.F ht⟩) hS.2.2 dX7_waitsTooLong_72
      · simp only [lt_I, le_I, eq_I, i_0, i_1, i_2, i_3, i_4, i_5, i_6, i_7, i_8, i_10, i_12, i_16, i_20, i_23, i_24, i_31, i_32, i_63, i_64, i_m1] at c_14
        refine lv_iconst (v := 0) hx hb dX7_waitsTooLong_52 (by decide) ?_
        exact W.zret (v := 0) (ty := .boolean) hx hb hr rfl (fun t ht hW => ⟨⟨0, (), rfl, (by decide), (by show TH E (T1 E) G [] t.heap; rw [ht]; exact hT)⟩, hS.F ht⟩) hS.2.2 dX7_waitsTooLong_53
  · simp only [lt_I, le_I, eq_I, i_0, i_1, i_2, i_3, i_4, i_5, i_6, i_7, i_8, i_10, i_12, i_16, i_20, i_23, i_24, i_31, i_32, i_63, i_64, i_m1] at c_2
    refine lv_aload_n hx hb dX7_waitsTooLong_11 rfl (lv_at hl 0 rfl) ?_
    refine va_get (D := DG E) (ci := 7) (v := .int v13_1) (C := RX7) (T := TX7) (N := 14) hx hb hts iw_X7 hown hK.1 (va_one ha_1) 0 rfl rfl 13 (by decide) (hts _ fl_X7_61) (fun _ h9 => h9) rfl dX7_waitsTooLong_12 ?_
    refine lv_if_ne (tgt := 20) hx hb dX7_waitsTooLong_15 (by decide) (fun c_22 => ?_) (fun c_22 => ?_)
    · simp only [lt_I, le_I, eq_I, i_0, i_1, i_2, i_3, i_4, i_5, i_6, i_7, i_8, i_10, i_12, i_16, i_20, i_23, i_24, i_31, i_32, i_63, i_64, i_m1] at c_22
      refine lv_aload_n hx hb dX7_waitsTooLong_20 rfl (lv_at hl 0 rfl) ?_
      refine lv_dup hx hb dX7_waitsTooLong_21 rfl ?_
      refine va_get (D := DG E) (ci := 7) (v := .int v10_1) (C := RX7) (T := TX7) (N := 14) hx hb hts iw_X7 hown hK.1 (va_one ha_1) 0 rfl rfl 10 (by decide) (hts _ fl_X7_52) (fun _ h9 => h9) rfl dX7_waitsTooLong_22 ?_
      refine lv_iconst (v := 1) hx hb dX7_waitsTooLong_25 (by decide) ?_
      refine lv_iadd hx hb dX7_waitsTooLong_26 ?_
      refine lv_topi (fun x_23 ex_23 => ?_)
      refine rr_put (D := DG E) (ci := 7) (v := .int x_23) (ty := .int) (C := RX7) (T := TX7) (N := 14) hx hb hts iw_X7 tyX7 tyX7_ok nmX7 hown hK.1 ha_1 hS (by show G h0 ∈ ([9] : List Nat); rw [hG]; decide) rfl 10 (by decide) (hts _ fl_X7_52) (fun _ h9 => h9) rfl (by decide +kernel) rfl rfl (Nat.le_of_ble_eq_true rfl) dX7_waitsTooLong_27 (fun H locs hn ho hz hS => ?_)
      have hr_24 : va_at (DG E) vwCl (h0, .inr (7, [.int v0_1, .ref v1_1, .ref v2_1, .int v3_1, .int v4_1, .int v5_1, .ref v6_1, .int v7_1, .int v8_1, .int v9_1, .int x_23, .int v11_1, .int v12_1, .int v13_1])) H := hn
      have hT : TH E (T1 E) G [] H := hT.set hG (show T1 E G 9 _ from ⟨v0_1, v1_1, v2_1, v3_1, v4_1, v5_1, v6_1, v7_1, v8_1, v9_1, x_23, v11_1, v12_1, v13_1, rfl, (by omega), hg1_1, hg2_1, hg6_1⟩) hr_24 ho
      refine lv_aload_n hx hb dX7_waitsTooLong_30 rfl (lv_at hl 0 rfl) ?_
      refine va_get (D := DG E) (ci := 7) (v := .int x_23) (C := RX7) (T := TX7) (N := 14) hx hb hts iw_X7 hown hK.1 (va_one hr_24) 0 rfl rfl 10 (by decide) (hts _ fl_X7_52) (fun _ h9 => h9) rfl dX7_waitsTooLong_31 ?_
      refine lv_aload_n hx hb dX7_waitsTooLong_34 rfl (lv_at hl 0 rfl) ?_
      refine va_get (D := DG E) (ci := 7) (v := .int v13_1) (C := RX7) (T := TX7) (N := 14) hx hb hts iw_X7 hown hK.1 (va_one hr_24) 0 rfl rfl 13 (by decide) (hts _ fl_X7_61) (fun _ h9 => h9) rfl dX7_waitsTooLong_35 ?_
      refine lv_if_eq (tgt := 45) hx hb dX7_waitsTooLong_38 (by decide) (fun c_25 => ?_) (fun c_25 => ?_)
      · simp only [lt_I, le_I, eq_I, i_0, i_1, i_2, i_3, i_4, i_5, i_6, i_7, i_8, i_10, i_12, i_16, i_20, i_23, i_24, i_31, i_32, i_63, i_64, i_m1] at c_25
        refine lv_aload_n hx hb dX7_waitsTooLong_45 rfl (lv_at hl 0 rfl) ?_
        refine va_get (D := DG E) (ci := 7) (v := .int v3_1) (C := RX7) (T := TX7) (N := 14) hx hb hts iw_X7 hown hK.1 (va_one hr_24) 0 rfl rfl 3 (by decide) (hts _ fl_X7_27) (fun _ h9 => h9) rfl dX7_waitsTooLong_46 ?_
        refine lv_icmp_ge (tgt := 54) hx hb dX7_waitsTooLong_49 (by decide) (fun c_26 => ?_) (fun c_26 => ?_)
        · simp only [lt_I, le_I, eq_I, i_0, i_1, i_2, i_3, i_4, i_5, i_6, i_7, i_8, i_10, i_12, i_16, i_20, i_23, i_24, i_31, i_32, i_63, i_64, i_m1] at c_26
          refine lv_aload_n hx hb dX7_waitsTooLong_54 rfl (lv_at hl 0 rfl) ?_
          refine lv_iconst (v := 0) hx hb dX7_waitsTooLong_55 (by decide) ?_
          refine rr_put (D := DG E) (ci := 7) (v := .int 0) (ty := .int) (C := RX7) (T := TX7) (N := 14) hx hb hts iw_X7 tyX7 tyX7_ok nmX7 hown hK.1 hr_24 hS (by show G h0 ∈ ([9] : List Nat); rw [hG]; decide) rfl 10 (by decide) (hts _ fl_X7_52) (fun _ h9 => h9) rfl (by decide +kernel) rfl rfl (Nat.le_of_ble_eq_true rfl) dX7_waitsTooLong_56 (fun H locs hn ho hz hS => ?_)
          have hr_27 : va_at (DG E) vwCl (h0, .inr (7, [.int v0_1, .ref v1_1, .ref v2_1, .int v3_1, .int v4_1, .int v5_1, .ref v6_1, .int v7_1, .int v8_1, .int v9_1, .int 0, .int v11_1, .int v12_1, .int v13_1])) H := hn
          have hT : TH E (T1 E) G [] H := hT.set hG (show T1 E G 9 _ from ⟨v0_1, v1_1, v2_1, v3_1, v4_1, v5_1, v6_1, v7_1, v8_1, v9_1, 0, v11_1, v12_1, v13_1, rfl, (by omega), hg1_1, hg2_1, hg6_1⟩) hr_27 ho
          refine lv_aload_n hx hb dX7_waitsTooLong_59 rfl (lv_at hl 0 rfl) ?_
          refine va_get (D := DG E) (ci := 7) (v := .int v13_1) (C := RX7) (T := TX7) (N := 14) hx hb hts iw_X7 hown hK.1 (va_one hr_27) 0 rfl rfl 13 (by decide) (hts _ fl_X7_61) (fun _ h9 => h9) rfl dX7_waitsTooLong_60 ?_
          refine lv_if_eq (tgt := 73) hx hb dX7_waitsTooLong_63 (by decide) (fun c_28 => ?_) (fun c_28 => ?_)
          · simp only [lt_I, le_I, eq_I, i_0, i_1, i_2, i_3, i_4, i_5, i_6, i_7, i_8, i_10, i_12, i_16, i_20, i_23, i_24, i_31, i_32, i_63, i_64, i_m1] at c_28
            refine lv_aload_n hx hb dX7_waitsTooLong_73 rfl (lv_at hl 0 rfl) ?_
            refine lv_dup hx hb dX7_waitsTooLong_74 rfl ?_
            refine va_get (D := DG E) (ci := 7) (v := .int v11_1) (C := RX7) (T := TX7) (N := 14) hx hb hts iw_X7 hown hK.1 (va_one hr_27) 0 rfl rfl 11 (by decide) (hts _ fl_X7_55) (fun _ h9 => h9) rfl dX7_waitsTooLong_75 ?_
            refine lv_iconst (v := 1) hx hb dX7_waitsTooLong_78 (by decide) ?_
            refine lv_iadd hx hb dX7_waitsTooLong_79 ?_
            refine lv_topi (fun x_29 ex_29 => ?_)
            refine rr_put (D := DG E) (ci := 7) (v := .int x_29) (ty := .int) (C := RX7) (T := TX7) (N := 14) hx hb hts iw_X7 tyX7 tyX7_ok nmX7 hown hK.1 hr_27 hS (by show G h0 ∈ ([9] : List Nat); rw [hG]; decide) rfl 11 (by decide) (hts _ fl_X7_55) (fun _ h9 => h9) rfl (by decide +kernel) rfl rfl (Nat.le_of_ble_eq_true rfl) dX7_waitsTooLong_80 (fun H locs hn ho hz hS => ?_)
            have hr_30 : va_at (DG E) vwCl (h0, .inr (7, [.int v0_1, .ref v1_1, .ref v2_1, .int v3_1, .int v4_1, .int v5_1, .ref v6_1, .int v7_1, .int v8_1, .int v9_1, .int 0, .int x_29, .int v12_1, .int v13_1])) H := hn
            have hT : TH E (T1 E) G [] H := hT.set hG (show T1 E G 9 _ from ⟨v0_1, v1_1, v2_1, v3_1, v4_1, v5_1, v6_1, v7_1, v8_1, v9_1, 0, x_29, v12_1, v13_1, rfl, (by omega), hg1_1, hg2_1, hg6_1⟩) hr_30 ho
            refine lv_aload_n hx hb dX7_waitsTooLong_83 rfl (lv_at hl 0 rfl) ?_
            refine va_get (D := DG E) (ci := 7) (v := .int x_29) (C := RX7) (T := TX7) (N := 14) hx hb hts iw_X7 hown hK.1 (va_one hr_30) 0 rfl rfl 11 (by decide) (hts _ fl_X7_55) (fun _ h9 => h9) rfl dX7_waitsTooLong_84 ?_
            refine lv_aload_n hx hb dX7_waitsTooLong_87 rfl (lv_at hl 0 rfl) ?_
            refine va_get (D := DG E) (ci := 7) (v := .int v4_1) (C := RX7) (T := TX7) (N := 14) hx hb hts iw_X7 hown hK.1 (va_one hr_30) 0 rfl rfl 4 (by decide) (hts _ fl_X7_30) (fun _ h9 => h9) rfl dX7_waitsTooLong_88 ?_
            refine lv_icmp_le (tgt := 96) hx hb dX7_waitsTooLong_91 (by decide) (fun c_31 => ?_) (fun c_31 => ?_)
            · simp only [lt_I, le_I, eq_I, i_0, i_1, i_2, i_3, i_4, i_5, i_6, i_7, i_8, i_10, i_12, i_16, i_20, i_23, i_24, i_31, i_32, i_63, i_64, i_m1] at c_31
              refine lv_aload_n hx hb dX7_waitsTooLong_96 rfl (lv_at hl 0 rfl) ?_
              refine lv_aload_n hx hb dX7_waitsTooLong_97 rfl (lv_at hl 0 rfl) ?_
              refine va_get (D := DG E) (ci := 7) (v := .int v8_1) (C := RX7) (T := TX7) (N := 14) hx hb hts iw_X7 hown hK.1 (va_one hr_30) 0 rfl rfl 8 (by decide) (hts _ fl_X7_68) (fun _ h9 => h9) rfl dX7_waitsTooLong_98 ?_
              refine rr_put (D := DG E) (ci := 7) (v := .int v8_1) (ty := .int) (C := RX7) (T := TX7) (N := 14) hx hb hts iw_X7 tyX7 tyX7_ok nmX7 hown hK.1 hr_30 hS (by show G h0 ∈ ([9] : List Nat); rw [hG]; decide) rfl 9 (by decide) (hts _ fl_X7_71) (fun _ h9 => h9) rfl (by decide +kernel) rfl rfl (Nat.le_of_ble_eq_true rfl) dX7_waitsTooLong_101 (fun H locs hn ho hz hS => ?_)
              have hr_32 : va_at (DG E) vwCl (h0, .inr (7, [.int v0_1, .ref v1_1, .ref v2_1, .int v3_1, .int v4_1, .int v5_1, .ref v6_1, .int v7_1, .int v8_1, .int v8_1, .int 0, .int x_29, .int v12_1, .int v13_1])) H := hn
              have hT : TH E (T1 E) G [] H := hT.set hG (show T1 E G 9 _ from ⟨v0_1, v1_1, v2_1, v3_1, v4_1, v5_1, v6_1, v7_1, v8_1, v8_1, 0, x_29, v12_1, v13_1, rfl, (by omega), hg1_1, hg2_1, hg6_1⟩) hr_32 ho
              refine lv_iconst (v := 0) hx hb dX7_waitsTooLong_104 (by decide) ?_
              exact W.zret (v := 0) (ty := .boolean) hx hb hr rfl (fun t ht hW => ⟨⟨0, (), rfl, (by decide), (by show TH E (T1 E) G [] t.heap; rw [ht]; exact hT)⟩, hS.F ht⟩) hS.2.2 dX7_waitsTooLong_105
            · simp only [lt_I, le_I, eq_I, i_0, i_1, i_2, i_3, i_4, i_5, i_6, i_7, i_8, i_10, i_12, i_16, i_20, i_23, i_24, i_31, i_32, i_63, i_64, i_m1] at c_31
              refine lv_iconst (v := 1) hx hb dX7_waitsTooLong_94 (by decide) ?_
              exact W.zret (v := 1) (ty := .boolean) hx hb hr rfl (fun t ht hW => ⟨⟨1, (), rfl, (by decide), (by show TH E (T1 E) G [] t.heap; rw [ht]; exact hT)⟩, hS.F ht⟩) hS.2.2 dX7_waitsTooLong_95
          · simp only [lt_I, le_I, eq_I, i_0, i_1, i_2, i_3, i_4, i_5, i_6, i_7, i_8, i_10, i_12, i_16, i_20, i_23, i_24, i_31, i_32, i_63, i_64, i_m1] at c_28
            refine lv_aload_n hx hb dX7_waitsTooLong_66 rfl (lv_at hl 0 rfl) ?_
            refine lv_iconst (v := 0) hx hb dX7_waitsTooLong_67 (by decide) ?_
            refine rr_put (D := DG E) (ci := 7) (v := .int 0) (ty := .boolean) (C := RX7) (T := TX7) (N := 14) hx hb hts iw_X7 tyX7 tyX7_ok nmX7 hown hK.1 hr_27 hS (by show G h0 ∈ ([9] : List Nat); rw [hG]; decide) rfl 13 (by decide) (hts _ fl_X7_61) (fun _ h9 => h9) rfl (by decide +kernel) rfl rfl (Nat.le_of_ble_eq_true rfl) dX7_waitsTooLong_68 (fun H locs hn ho hz hS => ?_)
            have hr_33 : va_at (DG E) vwCl (h0, .inr (7, [.int v0_1, .ref v1_1, .ref v2_1, .int v3_1, .int v4_1, .int v5_1, .ref v6_1, .int v7_1, .int v8_1, .int v9_1, .int 0, .int v11_1, .int v12_1, .int 0])) H := hn
            have hT : TH E (T1 E) G [] H := hT.set hG (show T1 E G 9 _ from ⟨v0_1, v1_1, v2_1, v3_1, v4_1, v5_1, v6_1, v7_1, v8_1, v9_1, 0, v11_1, v12_1, 0, rfl, (by omega), hg1_1, hg2_1, hg6_1⟩) hr_33 ho
            refine lv_iconst (v := 0) hx hb dX7_waitsTooLong_71 (by decide) ?_
            exact W.zret (v := 0) (ty := .boolean) hx hb hr rfl (fun t ht hW => ⟨⟨0, (), rfl, (by decide), (by show TH E (T1 E) G [] t.heap; rw [ht]; exact hT)⟩, hS.F ht⟩) hS.2.2 dX7_waitsTooLong_72
        · simp only [lt_I, le_I, eq_I, i_0, i_1, i_2, i_3, i_4, i_5, i_6, i_7, i_8, i_10, i_12, i_16, i_20, i_23, i_24, i_31, i_32, i_63, i_64, i_m1] at c_26
          refine lv_iconst (v := 0) hx hb dX7_waitsTooLong_52 (by decide) ?_
          exact W.zret (v := 0) (ty := .boolean) hx hb hr rfl (fun t ht hW => ⟨⟨0, (), rfl, (by decide), (by show TH E (T1 E) G [] t.heap; rw [ht]; exact hT)⟩, hS.F ht⟩) hS.2.2 dX7_waitsTooLong_53
      · simp only [lt_I, le_I, eq_I, i_0, i_1, i_2, i_3, i_4, i_5, i_6, i_7, i_8, i_10, i_12, i_16, i_20, i_23, i_24, i_31, i_32, i_63, i_64, i_m1] at c_25
        refine lv_iconst (v := 3) hx hb dX7_waitsTooLong_41 (by decide) ?_
        refine lv_goto (tgt := 49) hx hb dX7_waitsTooLong_42 (by decide) ?_
        refine lv_icmp_ge (tgt := 54) hx hb dX7_waitsTooLong_49 (by decide) (fun c_34 => ?_) (fun c_34 => ?_)
        · simp only [lt_I, le_I, eq_I, i_0, i_1, i_2, i_3, i_4, i_5, i_6, i_7, i_8, i_10, i_12, i_16, i_20, i_23, i_24, i_31, i_32, i_63, i_64, i_m1] at c_34
          refine lv_aload_n hx hb dX7_waitsTooLong_54 rfl (lv_at hl 0 rfl) ?_
          refine lv_iconst (v := 0) hx hb dX7_waitsTooLong_55 (by decide) ?_
          refine rr_put (D := DG E) (ci := 7) (v := .int 0) (ty := .int) (C := RX7) (T := TX7) (N := 14) hx hb hts iw_X7 tyX7 tyX7_ok nmX7 hown hK.1 hr_24 hS (by show G h0 ∈ ([9] : List Nat); rw [hG]; decide) rfl 10 (by decide) (hts _ fl_X7_52) (fun _ h9 => h9) rfl (by decide +kernel) rfl rfl (Nat.le_of_ble_eq_true rfl) dX7_waitsTooLong_56 (fun H locs hn ho hz hS => ?_)
          have hr_35 : va_at (DG E) vwCl (h0, .inr (7, [.int v0_1, .ref v1_1, .ref v2_1, .int v3_1, .int v4_1, .int v5_1, .ref v6_1, .int v7_1, .int v8_1, .int v9_1, .int 0, .int v11_1, .int v12_1, .int v13_1])) H := hn
          have hT : TH E (T1 E) G [] H := hT.set hG (show T1 E G 9 _ from ⟨v0_1, v1_1, v2_1, v3_1, v4_1, v5_1, v6_1, v7_1, v8_1, v9_1, 0, v11_1, v12_1, v13_1, rfl, (by omega), hg1_1, hg2_1, hg6_1⟩) hr_35 ho
          refine lv_aload_n hx hb dX7_waitsTooLong_59 rfl (lv_at hl 0 rfl) ?_
          refine va_get (D := DG E) (ci := 7) (v := .int v13_1) (C := RX7) (T := TX7) (N := 14) hx hb hts iw_X7 hown hK.1 (va_one hr_35) 0 rfl rfl 13 (by decide) (hts _ fl_X7_61) (fun _ h9 => h9) rfl dX7_waitsTooLong_60 ?_
          refine lv_if_eq (tgt := 73) hx hb dX7_waitsTooLong_63 (by decide) (fun c_36 => ?_) (fun c_36 => ?_)
          · simp only [lt_I, le_I, eq_I, i_0, i_1, i_2, i_3, i_4, i_5, i_6, i_7, i_8, i_10, i_12, i_16, i_20, i_23, i_24, i_31, i_32, i_63, i_64, i_m1] at c_36
            refine lv_aload_n hx hb dX7_waitsTooLong_73 rfl (lv_at hl 0 rfl) ?_
            refine lv_dup hx hb dX7_waitsTooLong_74 rfl ?_
            refine va_get (D := DG E) (ci := 7) (v := .int v11_1) (C := RX7) (T := TX7) (N := 14) hx hb hts iw_X7 hown hK.1 (va_one hr_35) 0 rfl rfl 11 (by decide) (hts _ fl_X7_55) (fun _ h9 => h9) rfl dX7_waitsTooLong_75 ?_
            refine lv_iconst (v := 1) hx hb dX7_waitsTooLong_78 (by decide) ?_
            refine lv_iadd hx hb dX7_waitsTooLong_79 ?_
            refine lv_topi (fun x_37 ex_37 => ?_)
            refine rr_put (D := DG E) (ci := 7) (v := .int x_37) (ty := .int) (C := RX7) (T := TX7) (N := 14) hx hb hts iw_X7 tyX7 tyX7_ok nmX7 hown hK.1 hr_35 hS (by show G h0 ∈ ([9] : List Nat); rw [hG]; decide) rfl 11 (by decide) (hts _ fl_X7_55) (fun _ h9 => h9) rfl (by decide +kernel) rfl rfl (Nat.le_of_ble_eq_true rfl) dX7_waitsTooLong_80 (fun H locs hn ho hz hS => ?_)
            have hr_38 : va_at (DG E) vwCl (h0, .inr (7, [.int v0_1, .ref v1_1, .ref v2_1, .int v3_1, .int v4_1, .int v5_1, .ref v6_1, .int v7_1, .int v8_1, .int v9_1, .int 0, .int x_37, .int v12_1, .int v13_1])) H := hn
            have hT : TH E (T1 E) G [] H := hT.set hG (show T1 E G 9 _ from ⟨v0_1, v1_1, v2_1, v3_1, v4_1, v5_1, v6_1, v7_1, v8_1, v9_1, 0, x_37, v12_1, v13_1, rfl, (by omega), hg1_1, hg2_1, hg6_1⟩) hr_38 ho
            refine lv_aload_n hx hb dX7_waitsTooLong_83 rfl (lv_at hl 0 rfl) ?_
            refine va_get (D := DG E) (ci := 7) (v := .int x_37) (C := RX7) (T := TX7) (N := 14) hx hb hts iw_X7 hown hK.1 (va_one hr_38) 0 rfl rfl 11 (by decide) (hts _ fl_X7_55) (fun _ h9 => h9) rfl dX7_waitsTooLong_84 ?_
            refine lv_aload_n hx hb dX7_waitsTooLong_87 rfl (lv_at hl 0 rfl) ?_
            refine va_get (D := DG E) (ci := 7) (v := .int v4_1) (C := RX7) (T := TX7) (N := 14) hx hb hts iw_X7 hown hK.1 (va_one hr_38) 0 rfl rfl 4 (by decide) (hts _ fl_X7_30) (fun _ h9 => h9) rfl dX7_waitsTooLong_88 ?_
            refine lv_icmp_le (tgt := 96) hx hb dX7_waitsTooLong_91 (by decide) (fun c_39 => ?_) (fun c_39 => ?_)
            · simp only [lt_I, le_I, eq_I, i_0, i_1, i_2, i_3, i_4, i_5, i_6, i_7, i_8, i_10, i_12, i_16, i_20, i_23, i_24, i_31, i_32, i_63, i_64, i_m1] at c_39
              refine lv_aload_n hx hb dX7_waitsTooLong_96 rfl (lv_at hl 0 rfl) ?_
              refine lv_aload_n hx hb dX7_waitsTooLong_97 rfl (lv_at hl 0 rfl) ?_
              refine va_get (D := DG E) (ci := 7) (v := .int v8_1) (C := RX7) (T := TX7) (N := 14) hx hb hts iw_X7 hown hK.1 (va_one hr_38) 0 rfl rfl 8 (by decide) (hts _ fl_X7_68) (fun _ h9 => h9) rfl dX7_waitsTooLong_98 ?_
              refine rr_put (D := DG E) (ci := 7) (v := .int v8_1) (ty := .int) (C := RX7) (T := TX7) (N := 14) hx hb hts iw_X7 tyX7 tyX7_ok nmX7 hown hK.1 hr_38 hS (by show G h0 ∈ ([9] : List Nat); rw [hG]; decide) rfl 9 (by decide) (hts _ fl_X7_71) (fun _ h9 => h9) rfl (by decide +kernel) rfl rfl (Nat.le_of_ble_eq_true rfl) dX7_waitsTooLong_101 (fun H locs hn ho hz hS => ?_)
              have hr_40 : va_at (DG E) vwCl (h0, .inr (7, [.int v0_1, .ref v1_1, .ref v2_1, .int v3_1, .int v4_1, .int v5_1, .ref v6_1, .int v7_1, .int v8_1, .int v8_1, .int 0, .int x_37, .int v12_1, .int v13_1])) H := hn
              have hT : TH E (T1 E) G [] H := hT.set hG (show T1 E G 9 _ from ⟨v0_1, v1_1, v2_1, v3_1, v4_1, v5_1, v6_1, v7_1, v8_1, v8_1, 0, x_37, v12_1, v13_1, rfl, (by omega), hg1_1, hg2_1, hg6_1⟩) hr_40 ho
              refine lv_iconst (v := 0) hx hb dX7_waitsTooLong_104 (by decide) ?_
              exact W.zret (v := 0) (ty := .boolean) hx hb hr rfl (fun t ht hW => ⟨⟨0, (), rfl, (by decide), (by show TH E (T1 E) G [] t.heap; rw [ht]; exact hT)⟩, hS.F ht⟩) hS.2.2 dX7_waitsTooLong_105
            · simp only [lt_I, le_I, eq_I, i_0, i_1, i_2, i_3, i_4, i_5, i_6, i_7, i_8, i_10, i_12, i_16, i_20, i_23, i_24, i_31, i_32, i_63, i_64, i_m1] at c_39
              refine lv_iconst (v := 1) hx hb dX7_waitsTooLong_94 (by decide) ?_
              exact W.zret (v := 1) (ty := .boolean) hx hb hr rfl (fun t ht hW => ⟨⟨1, (), rfl, (by decide), (by show TH E (T1 E) G [] t.heap; rw [ht]; exact hT)⟩, hS.F ht⟩) hS.2.2 dX7_waitsTooLong_95
          · simp only [lt_I, le_I, eq_I, i_0, i_1, i_2, i_3, i_4, i_5, i_6, i_7, i_8, i_10, i_12, i_16, i_20, i_23, i_24, i_31, i_32, i_63, i_64, i_m1] at c_36
            refine lv_aload_n hx hb dX7_waitsTooLong_66 rfl (lv_at hl 0 rfl) ?_
            refine lv_iconst (v := 0) hx hb dX7_waitsTooLong_67 (by decide) ?_
            refine rr_put (D := DG E) (ci := 7) (v := .int 0) (ty := .boolean) (C := RX7) (T := TX7) (N := 14) hx hb hts iw_X7 tyX7 tyX7_ok nmX7 hown hK.1 hr_35 hS (by show G h0 ∈ ([9] : List Nat); rw [hG]; decide) rfl 13 (by decide) (hts _ fl_X7_61) (fun _ h9 => h9) rfl (by decide +kernel) rfl rfl (Nat.le_of_ble_eq_true rfl) dX7_waitsTooLong_68 (fun H locs hn ho hz hS => ?_)
            have hr_41 : va_at (DG E) vwCl (h0, .inr (7, [.int v0_1, .ref v1_1, .ref v2_1, .int v3_1, .int v4_1, .int v5_1, .ref v6_1, .int v7_1, .int v8_1, .int v9_1, .int 0, .int v11_1, .int v12_1, .int 0])) H := hn
            have hT : TH E (T1 E) G [] H := hT.set hG (show T1 E G 9 _ from ⟨v0_1, v1_1, v2_1, v3_1, v4_1, v5_1, v6_1, v7_1, v8_1, v9_1, 0, v11_1, v12_1, 0, rfl, (by omega), hg1_1, hg2_1, hg6_1⟩) hr_41 ho
            refine lv_iconst (v := 0) hx hb dX7_waitsTooLong_71 (by decide) ?_
            exact W.zret (v := 0) (ty := .boolean) hx hb hr rfl (fun t ht hW => ⟨⟨0, (), rfl, (by decide), (by show TH E (T1 E) G [] t.heap; rw [ht]; exact hT)⟩, hS.F ht⟩) hS.2.2 dX7_waitsTooLong_72
        · simp only [lt_I, le_I, eq_I, i_0, i_1, i_2, i_3, i_4, i_5, i_6, i_7, i_8, i_10, i_12, i_16, i_20, i_23, i_24, i_31, i_32, i_63, i_64, i_m1] at c_34
          refine lv_iconst (v := 0) hx hb dX7_waitsTooLong_52 (by decide) ?_
          exact W.zret (v := 0) (ty := .boolean) hx hb hr rfl (fun t ht hW => ⟨⟨0, (), rfl, (by decide), (by show TH E (T1 E) G [] t.heap; rw [ht]; exact hT)⟩, hS.F ht⟩) hS.2.2 dX7_waitsTooLong_53
    · simp only [lt_I, le_I, eq_I, i_0, i_1, i_2, i_3, i_4, i_5, i_6, i_7, i_8, i_10, i_12, i_16, i_20, i_23, i_24, i_31, i_32, i_63, i_64, i_m1] at c_22
      refine lv_iconst (v := 0) hx hb dX7_waitsTooLong_18 (by decide) ?_
      exact W.zret (v := 0) (ty := .boolean) hx hb hr rfl (fun t ht hW => ⟨⟨0, (), rfl, (by decide), (by show TH E (T1 E) G [] t.heap; rw [ht]; exact hT)⟩, hS.F ht⟩) hS.2.2 dX7_waitsTooLong_19
