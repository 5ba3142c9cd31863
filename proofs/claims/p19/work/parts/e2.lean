section
theorem dX10_refuse_0 : decode cX10_refuse 0 = .ok (.aload_n 0, 1) := by decide +kernel
theorem dX10_refuse_1 : decode cX10_refuse 1 = .ok (.iload_n 1, 1) := by decide +kernel
theorem dX10_refuse_2 : decode cX10_refuse 2 = .ok (.bipush 6, 2) := by decide +kernel
theorem dX10_refuse_4 : decode cX10_refuse 4 = .ok (.aload_n 0, 1) := by decide +kernel
theorem dX10_refuse_5 : decode cX10_refuse 5 = .ok (.getfield 125, 3) := by decide +kernel
theorem dX10_refuse_8 : decode cX10_refuse 8 = .ok (.bipush 24, 2) := by decide +kernel
theorem dX10_refuse_10 : decode cX10_refuse 10 = .ok (.iaload, 1) := by decide +kernel
theorem dX10_refuse_11 : decode cX10_refuse 11 = .ok (.iload_n 2, 1) := by decide +kernel
theorem dX10_refuse_12 : decode cX10_refuse 12 = .ok (.iconst (-1), 1) := by decide +kernel
theorem dX10_refuse_13 : decode cX10_refuse 13 = .ok (.iconst 0, 1) := by decide +kernel
theorem dX10_refuse_14 : decode cX10_refuse 14 = .ok (.invokevirtual 199, 3) := by decide +kernel
theorem dX10_refuse_17 : decode cX10_refuse 17 = .ok (.istore_n 3, 1) := by decide +kernel
theorem dX10_refuse_18 : decode cX10_refuse 18 = .ok (.aload_n 0, 1) := by decide +kernel
theorem dX10_refuse_19 : decode cX10_refuse 19 = .ok (.iload_n 1, 1) := by decide +kernel
theorem dX10_refuse_20 : decode cX10_refuse 20 = .ok (.iconst 0, 1) := by decide +kernel
theorem dX10_refuse_21 : decode cX10_refuse 21 = .ok (.iload_n 3, 1) := by decide +kernel
theorem dX10_refuse_22 : decode cX10_refuse 22 = .ok (.iconst (-1), 1) := by decide +kernel
theorem dX10_refuse_23 : decode cX10_refuse 23 = .ok (.if_icmp .lt 12, 3) := by decide +kernel
theorem dX10_refuse_26 : decode cX10_refuse 26 = .ok (.iload_n 2, 1) := by decide +kernel
theorem dX10_refuse_27 : decode cX10_refuse 27 = .ok (.iconst 4, 1) := by decide +kernel
theorem dX10_refuse_28 : decode cX10_refuse 28 = .ok (.if_icmp .ne 7, 3) := by decide +kernel
theorem dX10_refuse_31 : decode cX10_refuse 31 = .ok (.iconst 4, 1) := by decide +kernel
theorem dX10_refuse_32 : decode cX10_refuse 32 = .ok (.goto 4, 3) := by decide +kernel
theorem dX10_refuse_35 : decode cX10_refuse 35 = .ok (.iconst 0, 1) := by decide +kernel
theorem dX10_refuse_36 : decode cX10_refuse 36 = .ok (.invokevirtual 221, 3) := by decide +kernel
theorem dX10_refuse_39 : decode cX10_refuse 39 = .ok (.return_, 1) := by decide +kernel
set_option maxHeartbeats 8000000 in
set_option maxRecDepth 100000 in
theorem u_X10_refuse (l : Launch) (E : EE) (z0 : Nat) (G : Nat → Nat) (hGz : ∀ q, G q ≠ 0 → z0 ≤ q) (h0 : Nat) (rf : Nat → Nat) (hR : MG G h0 rf) (t0 t1 t2 : Int32) (A : AA) (cd pk : Int32) (p0 : Int32) (p1 : Int32) (hI3 : I3 (A 8)) (hI4 : I4 (A 10) (A 20) (A 29) (A 24) (A 11) (A 12) (A 13)) (hI7 : I7 (A 41) (A 42) (A 44) (A 45) (A 46)) (hI8 : I8 (A 20) (A 30) (A 37) (A 36)) (hy0 : 0 ≤ p0.toInt ∧ p0.toInt ≤ 3) (hy1 : 0 ≤ pk.toInt ∧ pk.toInt ≤ 24) : Met l yX10_refuse [Cond.code yX10_refuse cX10_refuse 4 none] ({ frames := 3, cells := 0, slots := 0, locals := 72 } : Room) (va_Pc [.ref h0, .int p0, .int p1] (fun U => MH E h0 rf t0 t1 t2 A cd pk U.heap ∧ KS E z0 U)) (va_Qv (fun (u : (Nat → Int32) × (Nat → Int32) × (Nat → Int32) × (Nat → Int32) × (Nat → Int32) × (Nat → Int32) × (Nat → Int32) × (Nat → Int32) × (Nat → Int32) × (Nat → Int32) × (Nat → Int32) × (Nat → Int32) × (Nat → Int32) × (Nat → Int32) × Int32) => (I3 (u.2.2.2.2.2.2.2.1)) ∧ (I4 (u.2.2.2.2.2.2.2.2.2.1) (u.2.2.2.2.2.2.2.2.2.2.2.1) (A 29) (A 24) (A 11) (A 12) (A 13)) ∧ (I7 (u.1) (u.2.1) (u.2.2.2.1) (u.2.2.2.2.1) (u.2.2.2.2.2.1)) ∧ (I8 (u.2.2.2.2.2.2.2.2.2.2.2.1) (u.2.2.2.2.2.2.2.2.2.2.2.2.1) (A 37) (u.2.2.2.2.2.2.2.2.2.2.2.2.2.1)) ∧ (0 ≤ (u.2.2.2.2.2.2.2.2.2.2.2.2.2.2).toInt ∧ (u.2.2.2.2.2.2.2.2.2.2.2.2.2.2).toInt ≤ 24) ∧ (D_X10_refuse A cd pk p0 p1 (uA (uA (uA (uA (uA (uA (uA (uA (uA (uA (uA (uA (uA (uA A 41 (u.1)) 42 (u.2.1)) 43 (u.2.2.1)) 44 (u.2.2.2.1)) 45 (u.2.2.2.2.1)) 46 (u.2.2.2.2.2.1)) 47 (u.2.2.2.2.2.2.1)) 8 (u.2.2.2.2.2.2.2.1)) 9 (u.2.2.2.2.2.2.2.2.1)) 10 (u.2.2.2.2.2.2.2.2.2.1)) 18 (u.2.2.2.2.2.2.2.2.2.2.1)) 20 (u.2.2.2.2.2.2.2.2.2.2.2.1)) 30 (u.2.2.2.2.2.2.2.2.2.2.2.2.1)) 36 (u.2.2.2.2.2.2.2.2.2.2.2.2.2.1)) cd (u.2.2.2.2.2.2.2.2.2.2.2.2.2.2))) (fun u t => MH E h0 rf t0 t1 t2 (uA (uA (uA (uA (uA (uA (uA (uA (uA (uA (uA (uA (uA (uA A 41 (u.1)) 42 (u.2.1)) 43 (u.2.2.1)) 44 (u.2.2.2.1)) 45 (u.2.2.2.2.1)) 46 (u.2.2.2.2.2.1)) 47 (u.2.2.2.2.2.2.1)) 8 (u.2.2.2.2.2.2.2.1)) 9 (u.2.2.2.2.2.2.2.2.1)) 10 (u.2.2.2.2.2.2.2.2.2.1)) 18 (u.2.2.2.2.2.2.2.2.2.2.1)) 20 (u.2.2.2.2.2.2.2.2.2.2.2.1)) 30 (u.2.2.2.2.2.2.2.2.2.2.2.2.1)) 36 (u.2.2.2.2.2.2.2.2.2.2.2.2.2.1)) cd (u.2.2.2.2.2.2.2.2.2.2.2.2.2.2) t.heap) (fun q : Nat => G q ≠ 0)) 0 0 (fun q : Nat => G q ≠ 0) := by
  refine Met.ofW (cc := cX10_refuse) (maxL := 4) (ret := none) (by decide) rfl ?_
  intro p e s m args below meth c s₁ B hml hv
  obtain ⟨rfl, hM, hK⟩ := hv
  have hx := B.exec
  have hb := B.bytes
  have hr := B.returns
  have hts : ∀ w ∈ TS, w.before ([.ref h0, .int p0, .int p1] : List Value).toArray s = true := fun w hw => hK.2.1 w hw _
  have hown : s.vm.findClass RX10 = some m.cls := findClass_of_methodNamed B.named
  have hlocks := B.notSynchronized
  have hS : va_S (fun q : Nat => G q ≠ 0) s.heap s.heap [] := va_S.rf
  have hAz : ∀ q, (fun q : Nat => G q ≠ 0) q → z0 ≤ q := hGz
  have hl := lv_entry ([.ref h0, .int p0, .int p1]) (n := 4) (Nat.le_of_ble_eq_true rfl)
  rw [lg_entry_eq]
  generalize (lg_sl ([.ref h0, .int p0, .int p1]) ++ List.replicate (4 - (lg_sl ([.ref h0, .int p0, .int p1])).length) Slot.unset).toArray = ls at hl ⊢
  have hl : lv_has ls 4 [(0, .ref h0), (1, .int p0), (2, .int p1)] := hl
  refine lv_aload_n hx hb dX10_refuse_0 rfl (lv_at hl 0 rfl) ?_
  refine lv_iload_n hx hb dX10_refuse_1 rfl (lv_at hl 1 rfl) ?_
  refine lv_bipush (v := 6) hx hb dX10_refuse_2 (by decide) ?_
  refine lv_aload_n hx hb dX10_refuse_4 rfl (lv_at hl 0 rfl) ?_
  refine va_get (D := DG E) (ci := 10) (v := .ref (rf 43)) (C := RX10) (T := TX10) (N := 49) hx hb hts iw_X10 hown hK.1 (va_one hM.1) 0 rfl rfl 43 (by decide) (hts _ fl_X10_125) (fun _ h9 => h9) rfl dX10_refuse_5 ?_
  refine lv_bipush (v := 24) hx hb dX10_refuse_8 (by decide) ?_
  have ha_1 : va_at (DG E) vwCl (rf 43, .inl (E.2.2 0, 25, .inl (A 43))) _ := hM.2 43 (by decide) (by decide) (by decide)
  refine va_iald (D := DG E) hx hb hK.1 (va_one ha_1) 0 0 rfl rfl (show vp_in (24) 25 from vp_in_iff.mpr ⟨by decide, by decide⟩) dX10_refuse_10 ?_
  refine W.eq (g2 := F0 m 11 ls [.int ((A 43) 24), .int 6, .int p0, .ref h0]) (by rfl) ?_
  refine lv_iload_n hx hb dX10_refuse_11 rfl (lv_at hl 2 rfl) ?_
  refine lv_iconst (v := (-1)) hx hb dX10_refuse_12 (by decide) ?_
  refine lv_iconst (v := 0) hx hb dX10_refuse_13 (by decide) ?_
  refine va_calli (rnV (fun H => MH E h0 rf t0 t1 t2 A cd pk H) (As := [.int p0, .int 6, .int ((A 43) 24), .int p1, .int (-1), .int 0]) (rest := []) ⟨hx, hb, hml, hown, hts⟩ (u_X10_emit l E z0 G hGz h0 rf hR t0 t1 t2 A cd pk p0 6 ((A 43) 24) p1 (-1) 0 hI7 (show 0 ≤ p0.toInt ∧ p0.toInt ≤ 3 from by have := i_m1; have := i_0; have := i_6; first | decide | omega) (show 0 ≤ pk.toInt ∧ pk.toInt ≤ 24 from by have := i_m1; have := i_0; have := i_6; first | decide | omega) (show -1 ≤ (-1 : Int32).toInt ∧ (-1 : Int32).toInt ≤ 60 from by have := i_m1; have := i_0; have := i_6; first | decide | omega) (show 0 ≤ (6 : Int32).toInt from by have := i_m1; have := i_0; have := i_6; first | decide | omega) (show (6 : Int32).toInt < 1 ∨ 3 < (6 : Int32).toInt ∨ (0 ≤ p1.toInt ∧ p1.toInt ≤ 5) from by have := i_m1; have := i_0; have := i_6; first | decide | omega)) (cwV 6 hts (gdV ml_X10_199 im_X10_emit se_X10_X10_emit in_X10 co_X10_emit rfl) rfl rfl rfl (by decide +kernel) ⟨Nat.le_of_ble_eq_true rfl, Nat.le_of_ble_eq_true rfl⟩) hM (fun U hU hW => hK.go hW hS hAz hU) (va_recv hK.1 (va_one hM.1) (ci := 10) (q0 := 0) rfl rfl) rfl rfl hl.1 rfl (lv_room (Nat.le_of_ble_eq_true rfl)) dX10_refuse_14 ⟨Nat.le_of_ble_eq_true rfl, Nat.le_of_ble_eq_true rfl⟩) hS (fun q _ h => h) (fun q h => h) (fun r_2 ur_2 t H locs ht hvm hwr_2 hB hz hk hS => ?_)
  have hM : MH E h0 rf t0 t1 t2 (uA (uA (uA (uA (uA (uA (uA A 41 (ur_2.1)) 42 (ur_2.2.1)) 43 (ur_2.2.2.1)) 44 (ur_2.2.2.2.1)) 45 (ur_2.2.2.2.2.1)) 46 (ur_2.2.2.2.2.2.1)) 47 (ur_2.2.2.2.2.2.2.1)) cd ur_2.2.2.2.2.2.2.2 H := by rw [ht] at hB; exact hB
  have hDr_2 : D_X10_emit A cd pk p0 (6 : Int32) ((A 43) 24) p1 (-1 : Int32) (0 : Int32) (uA (uA (uA (uA (uA (uA (uA A 41 (ur_2.1)) 42 (ur_2.2.1)) 43 (ur_2.2.2.1)) 44 (ur_2.2.2.2.1)) 45 (ur_2.2.2.2.2.1)) 46 (ur_2.2.2.2.2.2.1)) 47 (ur_2.2.2.2.2.2.2.1)) cd (ur_2.2.2.2.2.2.2.2) r_2 := hwr_2.2.2.2.2.2
  have hpr_2_0 : I7 (ur_2.1) (ur_2.2.1) (ur_2.2.2.2.1) (ur_2.2.2.2.2.1) (ur_2.2.2.2.2.2.1) := hwr_2.1
  have hpr_2_1 : 0 ≤ ur_2.2.2.2.2.2.2.2.toInt ∧ ur_2.2.2.2.2.2.2.2.toInt ≤ 24 := hwr_2.2.1
  have hpr_2_2 : -1 ≤ r_2.toInt ∧ r_2.toInt ≤ 23 := hwr_2.2.2.1
  have hpr_2_3 : ∀ n : Nat, (n : Int) = r_2.toInt → (ur_2.2.1) n = (6 : Int32) := hwr_2.2.2.2.1
  have hpr_2_4 : ((ur_2.2.2.2.1) 24).toInt = ((A 44) 24).toInt ∧ ((ur_2.2.2.2.2.2.1) 24).toInt = ((A 46) 24).toInt := hwr_2.2.2.2.2.1
  have := i_m1
  have := i_0
  have := i_6
  refine lv_istore_n (lv' := [(3, .int r_2), (0, .ref h0), (1, .int p0), (2, .int p1)]) hx hb dX10_refuse_17 rfl hl (by decide) rfl (fun ls hl => ?_)
  refine lv_aload_n hx hb dX10_refuse_18 rfl (lv_at hl 1 rfl) ?_
  refine lv_iload_n hx hb dX10_refuse_19 rfl (lv_at hl 2 rfl) ?_
  refine lv_iconst (v := 0) hx hb dX10_refuse_20 (by decide) ?_
  refine W.jv (P := fun v_3 : Int32 => (True) ∧ HID (((¬ p1.toInt = 4) ∧ v_3 = 0) ∨ ((p1.toInt = 4) ∧ v_3 = 4))) (f := fun v_3 => F0 m 36 ls ([.int v_3, .int 0, .int p0, .ref h0])) (fun v_3 hv_3 => ?_) (fun key_3 => ?_)
  · refine va_callv (rnV (fun H => MH E h0 rf t0 t1 t2 (uA (uA (uA (uA (uA (uA (uA A 41 (ur_2.1)) 42 (ur_2.2.1)) 43 (ur_2.2.2.1)) 44 (ur_2.2.2.2.1)) 45 (ur_2.2.2.2.2.1)) 46 (ur_2.2.2.2.2.2.1)) 47 (ur_2.2.2.2.2.2.2.1)) cd ur_2.2.2.2.2.2.2.2 H) (As := [.int p0, .int 0, .int v_3]) (rest := []) ⟨hx, hb, hml, hown, hts⟩ (u_X10_failPair l E z0 G hGz h0 rf hR t0 t1 t2 (uA (uA (uA (uA (uA (uA (uA A 41 (ur_2.1)) 42 (ur_2.2.1)) 43 (ur_2.2.2.1)) 44 (ur_2.2.2.2.1)) 45 (ur_2.2.2.2.2.1)) 46 (ur_2.2.2.2.2.2.1)) 47 (ur_2.2.2.2.2.2.2.1)) cd ur_2.2.2.2.2.2.2.2 p0 0 v_3 hI3 hI4 hI8 (show 0 ≤ p0.toInt ∧ p0.toInt ≤ 3 from by have := i_0; first | decide | omega)) (cwV 3 hts (gdV ml_X10_221 im_X10_failPair se_X10_X10_failPair in_X10 co_X10_failPair rfl) rfl rfl rfl (by decide +kernel) ⟨Nat.le_of_ble_eq_true rfl, Nat.le_of_ble_eq_true rfl⟩) hM (fun U hU hW => hK.go hW hS hAz hU) (va_recv hK.1 (va_one hM.1) (ci := 10) (q0 := 0) rfl rfl) rfl rfl hl.1 rfl (lv_room (Nat.le_of_ble_eq_true rfl)) dX10_refuse_36 ⟨Nat.le_of_ble_eq_true rfl, Nat.le_of_ble_eq_true rfl⟩) hS (fun q _ h => h) (fun q h => h) (fun ur_6 t H locs ht hvm hwr_6 hB hz hk hS => ?_)
    have hM : MH E h0 rf t0 t1 t2 (uA (uA (uA (uA (uA (uA (uA (uA (uA (uA (uA (uA (uA (uA A 41 (ur_2.1)) 42 (ur_2.2.1)) 43 (ur_2.2.2.1)) 44 (ur_2.2.2.2.1)) 45 (ur_2.2.2.2.2.1)) 46 (ur_2.2.2.2.2.2.1)) 47 (ur_2.2.2.2.2.2.2.1)) 8 (ur_6.1)) 9 (ur_6.2.1)) 10 (ur_6.2.2.1)) 18 (ur_6.2.2.2.1)) 20 (ur_6.2.2.2.2.1)) 30 (ur_6.2.2.2.2.2.1)) 36 (ur_6.2.2.2.2.2.2)) cd ur_2.2.2.2.2.2.2.2 H := by rw [ht] at hB; exact hB
    have hDr_6 : D_X10_failPair (uA (uA (uA (uA (uA (uA (uA A 41 (ur_2.1)) 42 (ur_2.2.1)) 43 (ur_2.2.2.1)) 44 (ur_2.2.2.2.1)) 45 (ur_2.2.2.2.2.1)) 46 (ur_2.2.2.2.2.2.1)) 47 (ur_2.2.2.2.2.2.2.1)) cd (ur_2.2.2.2.2.2.2.2) p0 (0 : Int32) v_3 (uA (uA (uA (uA (uA (uA (uA (uA (uA (uA (uA (uA (uA (uA A 41 (ur_2.1)) 42 (ur_2.2.1)) 43 (ur_2.2.2.1)) 44 (ur_2.2.2.2.1)) 45 (ur_2.2.2.2.2.1)) 46 (ur_2.2.2.2.2.2.1)) 47 (ur_2.2.2.2.2.2.2.1)) 8 (ur_6.1)) 9 (ur_6.2.1)) 10 (ur_6.2.2.1)) 18 (ur_6.2.2.2.1)) 20 (ur_6.2.2.2.2.1)) 30 (ur_6.2.2.2.2.2.1)) 36 (ur_6.2.2.2.2.2.2)) cd (ur_2.2.2.2.2.2.2.2) := hwr_6.2.2.2
    have hpr_6_0 : I3 (ur_6.1) := hwr_6.1
    have hpr_6_1 : I4 (ur_6.2.2.1) (ur_6.2.2.2.2.1) (A 29) (A 24) (A 11) (A 12) (A 13) := hwr_6.2.1
    have hpr_6_2 : I8 (ur_6.2.2.2.2.1) (ur_6.2.2.2.2.2.1) (A 37) (ur_6.2.2.2.2.2.2) := hwr_6.2.2.1
    exact W.vret hx hb hr (fun t ht hW => ⟨⟨((ur_2.1), (ur_2.2.1), (ur_2.2.2.1), (ur_2.2.2.2.1), (ur_2.2.2.2.2.1), (ur_2.2.2.2.2.2.1), (ur_2.2.2.2.2.2.2.1), (ur_6.1), (ur_6.2.1), (ur_6.2.2.1), (ur_6.2.2.2.1), (ur_6.2.2.2.2.1), (ur_6.2.2.2.2.2.1), (ur_6.2.2.2.2.2.2), ur_2.2.2.2.2.2.2.2), rfl, ⟨hpr_6_0, hpr_6_1, hpr_2_0, hpr_6_2, (by show 0 ≤ ur_2.2.2.2.2.2.2.2.toInt ∧ ur_2.2.2.2.2.2.2.2.toInt ≤ 24; omega), ⟨ur_2, r_2, hDr_2, hpr_2_0, hpr_2_1, hpr_2_2, hpr_2_3, hpr_2_4, v_3, hv_3.2, ur_6, hDr_6, hpr_6_0, hpr_6_1, hpr_6_2, rfl, rfl, rfl⟩⟩, (by show MH E h0 rf t0 t1 t2 (uA (uA (uA (uA (uA (uA (uA (uA (uA (uA (uA (uA (uA (uA A 41 (ur_2.1)) 42 (ur_2.2.1)) 43 (ur_2.2.2.1)) 44 (ur_2.2.2.2.1)) 45 (ur_2.2.2.2.2.1)) 46 (ur_2.2.2.2.2.2.1)) 47 (ur_2.2.2.2.2.2.2.1)) 8 (ur_6.1)) 9 (ur_6.2.1)) 10 (ur_6.2.2.1)) 18 (ur_6.2.2.2.1)) 20 (ur_6.2.2.2.2.1)) 30 (ur_6.2.2.2.2.2.1)) 36 (ur_6.2.2.2.2.2.2)) cd ur_2.2.2.2.2.2.2.2 t.heap; rw [ht]; exact hM)⟩, hS.F ht⟩) hS.2.2 dX10_refuse_39
  · refine lv_iload_n hx hb dX10_refuse_21 rfl (lv_at hl 0 rfl) ?_
    refine lv_iconst (v := (-1)) hx hb dX10_refuse_22 (by decide) ?_
    refine lv_icmp_lt (tgt := 35) hx hb dX10_refuse_23 (by decide) (fun c_4 => by exfalso; simp only [lt_I, le_I, eq_I, i_0, i_1, i_2, i_3, i_4, i_5, i_6, i_7, i_8, i_10, i_12, i_16, i_20, i_23, i_24, i_31, i_32, i_63, i_64, i_m1, i_9, i_11, i_13, i_25, i_60, i_75, i_79, i_80, i_96, i_100] at c_4; omega) (fun c_4 => ?_)
    simp only [lt_I, le_I, eq_I, i_0, i_1, i_2, i_3, i_4, i_5, i_6, i_7, i_8, i_10, i_12, i_16, i_20, i_23, i_24, i_31, i_32, i_63, i_64, i_m1, i_9, i_11, i_13, i_25, i_60, i_75, i_79, i_80, i_96, i_100] at c_4
    refine lv_iload_n hx hb dX10_refuse_26 rfl (lv_at hl 3 rfl) ?_
    refine lv_iconst (v := 4) hx hb dX10_refuse_27 (by decide) ?_
    refine lv_icmp_ne (tgt := 35) hx hb dX10_refuse_28 (by decide) (fun c_5 => ?_) (fun c_5 => ?_)
    · simp only [lt_I, le_I, eq_I, i_0, i_1, i_2, i_3, i_4, i_5, i_6, i_7, i_8, i_10, i_12, i_16, i_20, i_23, i_24, i_31, i_32, i_63, i_64, i_m1, i_9, i_11, i_13, i_25, i_60, i_75, i_79, i_80, i_96, i_100] at c_5
      refine lv_iconst (v := 0) hx hb dX10_refuse_35 (by decide) ?_
      exact key_3 0 ⟨trivial, (Or.inl ⟨c_5, rfl⟩)⟩
    · simp only [lt_I, le_I, eq_I, i_0, i_1, i_2, i_3, i_4, i_5, i_6, i_7, i_8, i_10, i_12, i_16, i_20, i_23, i_24, i_31, i_32, i_63, i_64, i_m1, i_9, i_11, i_13, i_25, i_60, i_75, i_79, i_80, i_96, i_100] at c_5
      refine lv_iconst (v := 4) hx hb dX10_refuse_31 (by decide) ?_
      refine lv_goto (tgt := 36) hx hb dX10_refuse_32 (by decide) ?_
      exact key_3 4 ⟨trivial, (Or.inr ⟨c_5, rfl⟩)⟩
theorem dX10_accept_0 : decode cX10_accept 0 = .ok (.aload_n 0, 1) := by decide +kernel
theorem dX10_accept_1 : decode cX10_accept 1 = .ok (.getfield 40, 3) := by decide +kernel
theorem dX10_accept_4 : decode cX10_accept 4 = .ok (.iload_n 1, 1) := by decide +kernel
theorem dX10_accept_5 : decode cX10_accept 5 = .ok (.aload_n 0, 1) := by decide +kernel
theorem dX10_accept_6 : decode cX10_accept 6 = .ok (.getfield 40, 3) := by decide +kernel
theorem dX10_accept_9 : decode cX10_accept 9 = .ok (.iload_n 1, 1) := by decide +kernel
theorem dX10_accept_10 : decode cX10_accept 10 = .ok (.iaload, 1) := by decide +kernel
theorem dX10_accept_11 : decode cX10_accept 11 = .ok (.iload_n 2, 1) := by decide +kernel
theorem dX10_accept_12 : decode cX10_accept 12 = .ok (.iadd, 1) := by decide +kernel
theorem dX10_accept_13 : decode cX10_accept 13 = .ok (.bipush 64, 2) := by decide +kernel
theorem dX10_accept_15 : decode cX10_accept 15 = .ok (.irem, 1) := by decide +kernel
theorem dX10_accept_16 : decode cX10_accept 16 = .ok (.iastore, 1) := by decide +kernel
theorem dX10_accept_17 : decode cX10_accept 17 = .ok (.aload_n 0, 1) := by decide +kernel
theorem dX10_accept_18 : decode cX10_accept 18 = .ok (.getfield 56, 3) := by decide +kernel
theorem dX10_accept_21 : decode cX10_accept 21 = .ok (.iload_n 1, 1) := by decide +kernel
theorem dX10_accept_22 : decode cX10_accept 22 = .ok (.iconst 0, 1) := by decide +kernel
theorem dX10_accept_23 : decode cX10_accept 23 = .ok (.bastore, 1) := by decide +kernel
theorem dX10_accept_24 : decode cX10_accept 24 = .ok (.return_, 1) := by decide +kernel
set_option maxHeartbeats 8000000 in
set_option maxRecDepth 100000 in
theorem u_X10_accept (l : Launch) (E : EE) (z0 : Nat) (G : Nat → Nat) (hGz : ∀ q, G q ≠ 0 → z0 ≤ q) (h0 : Nat) (rf : Nat → Nat) (hR : MG G h0 rf) (t0 t1 t2 : Int32) (A : AA) (cd pk : Int32) (p0 : Int32) (p1 : Int32) (hy0 : 0 ≤ p0.toInt ∧ p0.toInt ≤ 3) : Met l yX10_accept [Cond.code yX10_accept cX10_accept 3 none] ({ frames := 0, cells := 0, slots := 0, locals := 0 } : Room) (va_Pc [.ref h0, .int p0, .int p1] (fun U => MH E h0 rf t0 t1 t2 A cd pk U.heap ∧ KS E z0 U)) (va_Qv (fun (u : (Nat → Int32) × (Nat → Int32)) => D_X10_accept A cd pk p0 p1 (uA (uA A 14 (u.1)) 19 (u.2)) cd pk) (fun u t => MH E h0 rf t0 t1 t2 (uA (uA A 14 (u.1)) 19 (u.2)) cd pk t.heap) (fun q : Nat => G q ≠ 0)) 0 0 (fun q : Nat => G q ≠ 0) := by
  refine Met.ofW (cc := cX10_accept) (maxL := 3) (ret := none) (by decide) rfl ?_
  intro p e s m args below meth c s₁ B hml hv
  obtain ⟨rfl, hM, hK⟩ := hv
  have hx := B.exec
  have hb := B.bytes
  have hr := B.returns
  have hts : ∀ w ∈ TS, w.before ([.ref h0, .int p0, .int p1] : List Value).toArray s = true := fun w hw => hK.2.1 w hw _
  have hown : s.vm.findClass RX10 = some m.cls := findClass_of_methodNamed B.named
  have hlocks := B.notSynchronized
  have hS : va_S (fun q : Nat => G q ≠ 0) s.heap s.heap [] := va_S.rf
  have hAz : ∀ q, (fun q : Nat => G q ≠ 0) q → z0 ≤ q := hGz
  have hl := lv_entry ([.ref h0, .int p0, .int p1]) (n := 3) (Nat.le_of_ble_eq_true rfl)
  rw [lg_entry_eq]
  generalize (lg_sl ([.ref h0, .int p0, .int p1]) ++ List.replicate (3 - (lg_sl ([.ref h0, .int p0, .int p1])).length) Slot.unset).toArray = ls at hl ⊢
  have hl : lv_has ls 3 [(0, .ref h0), (1, .int p0), (2, .int p1)] := hl
  refine lv_aload_n hx hb dX10_accept_0 rfl (lv_at hl 0 rfl) ?_
  refine va_get (D := DG E) (ci := 10) (v := .ref (rf 14)) (C := RX10) (T := TX10) (N := 49) hx hb hts iw_X10 hown hK.1 (va_one hM.1) 0 rfl rfl 14 (by decide) (hts _ fl_X10_40) (fun _ h9 => h9) rfl dX10_accept_1 ?_
  refine lv_iload_n hx hb dX10_accept_4 rfl (lv_at hl 1 rfl) ?_
  refine lv_aload_n hx hb dX10_accept_5 rfl (lv_at hl 0 rfl) ?_
  refine va_get (D := DG E) (ci := 10) (v := .ref (rf 14)) (C := RX10) (T := TX10) (N := 49) hx hb hts iw_X10 hown hK.1 (va_one hM.1) 0 rfl rfl 14 (by decide) (hts _ fl_X10_40) (fun _ h9 => h9) rfl dX10_accept_6 ?_
  refine lv_iload_n hx hb dX10_accept_9 rfl (lv_at hl 1 rfl) ?_
  have hi_1 : vp_in p0 4 := vp_in_iff.mpr (by omega)
  have ha_2 : va_at (DG E) vwCl (rf 14, .inl (E.2.2 0, 4, .inl (A 14))) _ := hM.2 14 (by decide) (by decide) (by decide)
  obtain ⟨n_3, hn_3, en_3⟩ := s_nat (x := p0) (by omega)
  refine va_iald (D := DG E) hx hb hK.1 (va_one ha_2) 0 0 rfl rfl hi_1 dX10_accept_10 ?_
  refine W.eq (g2 := F0 m 11 ls [.int ((A 14) n_3), .int p0, .ref (rf 14)]) (by rw [en_3]) ?_
  refine lv_iload_n hx hb dX10_accept_11 rfl (lv_at hl 2 rfl) ?_
  refine lv_iadd hx hb dX10_accept_12 ?_
  refine lv_topi (fun x_4 ex_4 => ?_)
  refine lv_bipush (v := 64) hx hb dX10_accept_13 (by decide) ?_
  refine lv_irem hx hb dX10_accept_15 (by decide) ?_
  refine lv_topi (fun x_5 ex_5 => ?_)
  have ha_6 : va_at (DG E) vwCl (rf 14, .inl (E.2.2 0, 4, .inl (A 14))) _ := hM.2 14 (by decide) (by decide) (by decide)
  refine rr_iast (D := DG E) hx hb hK.1 0 ha_6 hS (by show G (rf 14) ≠ 0; rw [hR.2 14 (by decide) (by decide) (by decide)]; decide) rfl hi_1 dX10_accept_16 (fun H locs hn ho hz hS => ?_)
  rw [en_3] at hn
  obtain ⟨g_6, eg_6⟩ : ∃ z : Nat → Int32, z = upd (A 14) n_3 x_5 := ⟨_, rfl⟩
  have sg_6 : g_6 n_3 = x_5 := by rw [eg_6]; exact upd_s
  have ng_6 : ∀ k, k ≠ n_3 → g_6 k = (A 14) k := fun k hk => by rw [eg_6]; exact upd_n hk
  have hn : va_at (DG E) vwCl (rf 14, .inl (E.2.2 0, 4, .inl g_6)) H := by rw [eg_6]; exact hn
  have hM : MH E h0 rf t0 t1 t2 (uA A 14 g_6) cd pk H := hM.w hR 14 (by decide) (by decide) (by decide) hn ho
  refine lv_aload_n hx hb dX10_accept_17 rfl (lv_at hl 0 rfl) ?_
  refine va_get (D := DG E) (ci := 10) (v := .ref (rf 19)) (C := RX10) (T := TX10) (N := 49) hx hb hts iw_X10 hown hK.1 (va_one hM.1) 0 rfl rfl 19 (by decide) (hts _ fl_X10_56) (fun _ h9 => h9) rfl dX10_accept_18 ?_
  refine lv_iload_n hx hb dX10_accept_21 rfl (lv_at hl 1 rfl) ?_
  refine lv_iconst (v := 0) hx hb dX10_accept_22 (by decide) ?_
  have ha_7 : va_at (DG E) vwCl (rf 19, .inl (E.2.2 1, 4, .inl (A 19))) _ := hM.2 19 (by decide) (by decide) (by decide)
  refine rr_zast (D := DG E) hx hb hK.1 1 ha_7 hS (by show G (rf 19) ≠ 0; rw [hR.2 19 (by decide) (by decide) (by decide)]; decide) rfl hi_1 dX10_accept_23 (fun H locs hn ho hz hS => ?_)
  rw [en_3] at hn
  obtain ⟨g_7, eg_7⟩ : ∃ z : Nat → Int32, z = upd (A 19) n_3 0 := ⟨_, rfl⟩
  have sg_7 : g_7 n_3 = 0 := by rw [eg_7]; exact upd_s
  have ng_7 : ∀ k, k ≠ n_3 → g_7 k = (A 19) k := fun k hk => by rw [eg_7]; exact upd_n hk
  have hn : va_at (DG E) vwCl (rf 19, .inl (E.2.2 1, 4, .inl g_7)) H := by rw [eg_7]; exact hn
  have hM : MH E h0 rf t0 t1 t2 (uA (uA A 14 g_6) 19 g_7) cd pk H := hM.w hR 19 (by decide) (by decide) (by decide) hn ho
  exact W.vret hx hb hr (fun t ht hW => ⟨⟨(g_6, g_7), rfl, ⟨n_3, hn_3, x_4, ex_4, x_5, ex_5, g_6, eg_6, g_7, eg_7, rfl, rfl, rfl⟩, (by show MH E h0 rf t0 t1 t2 (uA (uA A 14 g_6) 19 g_7) cd pk t.heap; rw [ht]; exact hM)⟩, hS.F ht⟩) hS.2.2 dX10_accept_24
theorem gdX10_freshSend_0 : (decode cX10_freshSend 0 = .ok (.aload_n 0, 1)) ∧ (decode cX10_freshSend 1 = .ok (.getfield 131, 3)) ∧ (decode cX10_freshSend 4 = .ok (.bipush 24, 2)) ∧ (decode cX10_freshSend 6 = .ok (.iaload, 1)) ∧ (decode cX10_freshSend 7 = .ok (.iconst 2, 1)) ∧ (decode cX10_freshSend 8 = .ok (.irem, 1)) ∧ (decode cX10_freshSend 9 = .ok (.iconst 1, 1)) ∧ (decode cX10_freshSend 10 = .ok (.if_icmp .ne 7, 3)) ∧ (decode cX10_freshSend 13 = .ok (.iconst 1, 1)) ∧ (decode cX10_freshSend 14 = .ok (.goto 4, 3)) ∧ (decode cX10_freshSend 17 = .ok (.iconst 0, 1)) ∧ (decode cX10_freshSend 18 = .ok (.istore_n 2, 1)) ∧ (decode cX10_freshSend 19 = .ok (.iload_n 2, 1)) ∧ (decode cX10_freshSend 20 = .ok (.aload_n 0, 1)) ∧ (decode cX10_freshSend 21 = .ok (.getfield 107, 3)) ∧ (decode cX10_freshSend 24 = .ok (.iload_n 1, 1)) := by decide +kernel
theorem dX10_freshSend_0 : decode cX10_freshSend 0 = .ok (.aload_n 0, 1) := gdX10_freshSend_0.1
theorem dX10_freshSend_1 : decode cX10_freshSend 1 = .ok (.getfield 131, 3) := gdX10_freshSend_0.2.1
theorem dX10_freshSend_4 : decode cX10_freshSend 4 = .ok (.bipush 24, 2) := gdX10_freshSend_0.2.2.1
theorem dX10_freshSend_6 : decode cX10_freshSend 6 = .ok (.iaload, 1) := gdX10_freshSend_0.2.2.2.1
theorem dX10_freshSend_7 : decode cX10_freshSend 7 = .ok (.iconst 2, 1) := gdX10_freshSend_0.2.2.2.2.1
theorem dX10_freshSend_8 : decode cX10_freshSend 8 = .ok (.irem, 1) := gdX10_freshSend_0.2.2.2.2.2.1
theorem dX10_freshSend_9 : decode cX10_freshSend 9 = .ok (.iconst 1, 1) := gdX10_freshSend_0.2.2.2.2.2.2.1
theorem dX10_freshSend_10 : decode cX10_freshSend 10 = .ok (.if_icmp .ne 7, 3) := gdX10_freshSend_0.2.2.2.2.2.2.2.1
theorem dX10_freshSend_13 : decode cX10_freshSend 13 = .ok (.iconst 1, 1) := gdX10_freshSend_0.2.2.2.2.2.2.2.2.1
theorem dX10_freshSend_14 : decode cX10_freshSend 14 = .ok (.goto 4, 3) := gdX10_freshSend_0.2.2.2.2.2.2.2.2.2.1
theorem dX10_freshSend_17 : decode cX10_freshSend 17 = .ok (.iconst 0, 1) := gdX10_freshSend_0.2.2.2.2.2.2.2.2.2.2.1
theorem dX10_freshSend_18 : decode cX10_freshSend 18 = .ok (.istore_n 2, 1) := gdX10_freshSend_0.2.2.2.2.2.2.2.2.2.2.2.1
theorem dX10_freshSend_19 : decode cX10_freshSend 19 = .ok (.iload_n 2, 1) := gdX10_freshSend_0.2.2.2.2.2.2.2.2.2.2.2.2.1
theorem dX10_freshSend_20 : decode cX10_freshSend 20 = .ok (.aload_n 0, 1) := gdX10_freshSend_0.2.2.2.2.2.2.2.2.2.2.2.2.2.1
theorem dX10_freshSend_21 : decode cX10_freshSend 21 = .ok (.getfield 107, 3) := gdX10_freshSend_0.2.2.2.2.2.2.2.2.2.2.2.2.2.2.1
theorem dX10_freshSend_24 : decode cX10_freshSend 24 = .ok (.iload_n 1, 1) := gdX10_freshSend_0.2.2.2.2.2.2.2.2.2.2.2.2.2.2.2
theorem gdX10_freshSend_25 : (decode cX10_freshSend 25 = .ok (.baload, 1)) ∧ (decode cX10_freshSend 26 = .ok (.if_icmp .ne 4, 3)) ∧ (decode cX10_freshSend 29 = .ok (.return_, 1)) ∧ (decode cX10_freshSend 30 = .ok (.iload_n 2, 1)) ∧ (decode cX10_freshSend 31 = .ok (.ifCond .eq 42, 3)) ∧ (decode cX10_freshSend 34 = .ok (.aload_n 0, 1)) ∧ (decode cX10_freshSend 35 = .ok (.getfield 89, 3)) ∧ (decode cX10_freshSend 38 = .ok (.iload_n 1, 1)) ∧ (decode cX10_freshSend 39 = .ok (.iaload, 1)) ∧ (decode cX10_freshSend 40 = .ok (.ifCond .ne 33, 3)) ∧ (decode cX10_freshSend 43 = .ok (.aload_n 0, 1)) ∧ (decode cX10_freshSend 44 = .ok (.iload_n 1, 1)) ∧ (decode cX10_freshSend 45 = .ok (.bipush 6, 2)) ∧ (decode cX10_freshSend 47 = .ok (.aload_n 0, 1)) ∧ (decode cX10_freshSend 48 = .ok (.getfield 125, 3)) ∧ (decode cX10_freshSend 51 = .ok (.bipush 24, 2)) := by decide +kernel
theorem dX10_freshSend_25 : decode cX10_freshSend 25 = .ok (.baload, 1) := gdX10_freshSend_25.1
theorem dX10_freshSend_26 : decode cX10_freshSend 26 = .ok (.if_icmp .ne 4, 3) := gdX10_freshSend_25.2.1
theorem dX10_freshSend_29 : decode cX10_freshSend 29 = .ok (.return_, 1) := gdX10_freshSend_25.2.2.1
theorem dX10_freshSend_30 : decode cX10_freshSend 30 = .ok (.iload_n 2, 1) := gdX10_freshSend_25.2.2.2.1
theorem dX10_freshSend_31 : decode cX10_freshSend 31 = .ok (.ifCond .eq 42, 3) := gdX10_freshSend_25.2.2.2.2.1
theorem dX10_freshSend_34 : decode cX10_freshSend 34 = .ok (.aload_n 0, 1) := gdX10_freshSend_25.2.2.2.2.2.1
theorem dX10_freshSend_35 : decode cX10_freshSend 35 = .ok (.getfield 89, 3) := gdX10_freshSend_25.2.2.2.2.2.2.1
theorem dX10_freshSend_38 : decode cX10_freshSend 38 = .ok (.iload_n 1, 1) := gdX10_freshSend_25.2.2.2.2.2.2.2.1
theorem dX10_freshSend_39 : decode cX10_freshSend 39 = .ok (.iaload, 1) := gdX10_freshSend_25.2.2.2.2.2.2.2.2.1
theorem dX10_freshSend_40 : decode cX10_freshSend 40 = .ok (.ifCond .ne 33, 3) := gdX10_freshSend_25.2.2.2.2.2.2.2.2.2.1
theorem dX10_freshSend_43 : decode cX10_freshSend 43 = .ok (.aload_n 0, 1) := gdX10_freshSend_25.2.2.2.2.2.2.2.2.2.2.1
theorem dX10_freshSend_44 : decode cX10_freshSend 44 = .ok (.iload_n 1, 1) := gdX10_freshSend_25.2.2.2.2.2.2.2.2.2.2.2.1
theorem dX10_freshSend_45 : decode cX10_freshSend 45 = .ok (.bipush 6, 2) := gdX10_freshSend_25.2.2.2.2.2.2.2.2.2.2.2.2.1
theorem dX10_freshSend_47 : decode cX10_freshSend 47 = .ok (.aload_n 0, 1) := gdX10_freshSend_25.2.2.2.2.2.2.2.2.2.2.2.2.2.1
theorem dX10_freshSend_48 : decode cX10_freshSend 48 = .ok (.getfield 125, 3) := gdX10_freshSend_25.2.2.2.2.2.2.2.2.2.2.2.2.2.2.1
theorem dX10_freshSend_51 : decode cX10_freshSend 51 = .ok (.bipush 24, 2) := gdX10_freshSend_25.2.2.2.2.2.2.2.2.2.2.2.2.2.2.2
theorem gdX10_freshSend_53 : (decode cX10_freshSend 53 = .ok (.iaload, 1)) ∧ (decode cX10_freshSend 54 = .ok (.iconst 2, 1)) ∧ (decode cX10_freshSend 55 = .ok (.iconst (-1), 1)) ∧ (decode cX10_freshSend 56 = .ok (.iconst 0, 1)) ∧ (decode cX10_freshSend 57 = .ok (.invokevirtual 199, 3)) ∧ (decode cX10_freshSend 60 = .ok (.istore_n 3, 1)) ∧ (decode cX10_freshSend 61 = .ok (.iload_n 3, 1)) ∧ (decode cX10_freshSend 62 = .ok (.ifCond .lt 10, 3)) ∧ (decode cX10_freshSend 65 = .ok (.aload_n 0, 1)) ∧ (decode cX10_freshSend 66 = .ok (.getfield 128, 3)) ∧ (decode cX10_freshSend 69 = .ok (.iload_n 3, 1)) ∧ (decode cX10_freshSend 70 = .ok (.iconst 0, 1)) ∧ (decode cX10_freshSend 71 = .ok (.iastore, 1)) ∧ (decode cX10_freshSend 72 = .ok (.return_, 1)) ∧ (decode cX10_freshSend 73 = .ok (.iconst 4, 1)) ∧ (decode cX10_freshSend 74 = .ok (.iload_n 1, 1)) := by decide +kernel
theorem dX10_freshSend_53 : decode cX10_freshSend 53 = .ok (.iaload, 1) := gdX10_freshSend_53.1
theorem dX10_freshSend_54 : decode cX10_freshSend 54 = .ok (.iconst 2, 1) := gdX10_freshSend_53.2.1
theorem dX10_freshSend_55 : decode cX10_freshSend 55 = .ok (.iconst (-1), 1) := gdX10_freshSend_53.2.2.1
theorem dX10_freshSend_56 : decode cX10_freshSend 56 = .ok (.iconst 0, 1) := gdX10_freshSend_53.2.2.2.1
theorem dX10_freshSend_57 : decode cX10_freshSend 57 = .ok (.invokevirtual 199, 3) := gdX10_freshSend_53.2.2.2.2.1
theorem dX10_freshSend_60 : decode cX10_freshSend 60 = .ok (.istore_n 3, 1) := gdX10_freshSend_53.2.2.2.2.2.1
theorem dX10_freshSend_61 : decode cX10_freshSend 61 = .ok (.iload_n 3, 1) := gdX10_freshSend_53.2.2.2.2.2.2.1
theorem dX10_freshSend_62 : decode cX10_freshSend 62 = .ok (.ifCond .lt 10, 3) := gdX10_freshSend_53.2.2.2.2.2.2.2.1
theorem dX10_freshSend_65 : decode cX10_freshSend 65 = .ok (.aload_n 0, 1) := gdX10_freshSend_53.2.2.2.2.2.2.2.2.1
theorem dX10_freshSend_66 : decode cX10_freshSend 66 = .ok (.getfield 128, 3) := gdX10_freshSend_53.2.2.2.2.2.2.2.2.2.1
theorem dX10_freshSend_69 : decode cX10_freshSend 69 = .ok (.iload_n 3, 1) := gdX10_freshSend_53.2.2.2.2.2.2.2.2.2.2.1
theorem dX10_freshSend_70 : decode cX10_freshSend 70 = .ok (.iconst 0, 1) := gdX10_freshSend_53.2.2.2.2.2.2.2.2.2.2.2.1
theorem dX10_freshSend_71 : decode cX10_freshSend 71 = .ok (.iastore, 1) := gdX10_freshSend_53.2.2.2.2.2.2.2.2.2.2.2.2.1
theorem dX10_freshSend_72 : decode cX10_freshSend 72 = .ok (.return_, 1) := gdX10_freshSend_53.2.2.2.2.2.2.2.2.2.2.2.2.2.1
theorem dX10_freshSend_73 : decode cX10_freshSend 73 = .ok (.iconst 4, 1) := gdX10_freshSend_53.2.2.2.2.2.2.2.2.2.2.2.2.2.2.1
theorem dX10_freshSend_74 : decode cX10_freshSend 74 = .ok (.iload_n 1, 1) := gdX10_freshSend_53.2.2.2.2.2.2.2.2.2.2.2.2.2.2.2
theorem gdX10_freshSend_75 : (decode cX10_freshSend 75 = .ok (.imul, 1)) ∧ (decode cX10_freshSend 76 = .ok (.istore_n 3, 1)) ∧ (decode cX10_freshSend 77 = .ok (.aload_n 0, 1)) ∧ (decode cX10_freshSend 78 = .ok (.getfield 107, 3)) ∧ (decode cX10_freshSend 81 = .ok (.iload_n 1, 1)) ∧ (decode cX10_freshSend 82 = .ok (.iconst 1, 1)) ∧ (decode cX10_freshSend 83 = .ok (.bastore, 1)) ∧ (decode cX10_freshSend 84 = .ok (.aload_n 0, 1)) ∧ (decode cX10_freshSend 85 = .ok (.getfield 98, 3)) ∧ (decode cX10_freshSend 88 = .ok (.iload_n 3, 1)) ∧ (decode cX10_freshSend 89 = .ok (.iaload, 1)) ∧ (decode cX10_freshSend 90 = .ok (.aload_n 0, 1)) ∧ (decode cX10_freshSend 91 = .ok (.getfield 104, 3)) ∧ (decode cX10_freshSend 94 = .ok (.iload_n 3, 1)) ∧ (decode cX10_freshSend 95 = .ok (.iaload, 1)) ∧ (decode cX10_freshSend 96 = .ok (.isub, 1)) := by decide +kernel
theorem dX10_freshSend_75 : decode cX10_freshSend 75 = .ok (.imul, 1) := gdX10_freshSend_75.1
theorem dX10_freshSend_76 : decode cX10_freshSend 76 = .ok (.istore_n 3, 1) := gdX10_freshSend_75.2.1
theorem dX10_freshSend_77 : decode cX10_freshSend 77 = .ok (.aload_n 0, 1) := gdX10_freshSend_75.2.2.1
theorem dX10_freshSend_78 : decode cX10_freshSend 78 = .ok (.getfield 107, 3) := gdX10_freshSend_75.2.2.2.1
theorem dX10_freshSend_81 : decode cX10_freshSend 81 = .ok (.iload_n 1, 1) := gdX10_freshSend_75.2.2.2.2.1
theorem dX10_freshSend_82 : decode cX10_freshSend 82 = .ok (.iconst 1, 1) := gdX10_freshSend_75.2.2.2.2.2.1
theorem dX10_freshSend_83 : decode cX10_freshSend 83 = .ok (.bastore, 1) := gdX10_freshSend_75.2.2.2.2.2.2.1
theorem dX10_freshSend_84 : decode cX10_freshSend 84 = .ok (.aload_n 0, 1) := gdX10_freshSend_75.2.2.2.2.2.2.2.1
theorem dX10_freshSend_85 : decode cX10_freshSend 85 = .ok (.getfield 98, 3) := gdX10_freshSend_75.2.2.2.2.2.2.2.2.1
theorem dX10_freshSend_88 : decode cX10_freshSend 88 = .ok (.iload_n 3, 1) := gdX10_freshSend_75.2.2.2.2.2.2.2.2.2.1
theorem dX10_freshSend_89 : decode cX10_freshSend 89 = .ok (.iaload, 1) := gdX10_freshSend_75.2.2.2.2.2.2.2.2.2.2.1
theorem dX10_freshSend_90 : decode cX10_freshSend 90 = .ok (.aload_n 0, 1) := gdX10_freshSend_75.2.2.2.2.2.2.2.2.2.2.2.1
theorem dX10_freshSend_91 : decode cX10_freshSend 91 = .ok (.getfield 104, 3) := gdX10_freshSend_75.2.2.2.2.2.2.2.2.2.2.2.2.1
theorem dX10_freshSend_94 : decode cX10_freshSend 94 = .ok (.iload_n 3, 1) := gdX10_freshSend_75.2.2.2.2.2.2.2.2.2.2.2.2.2.1
theorem dX10_freshSend_95 : decode cX10_freshSend 95 = .ok (.iaload, 1) := gdX10_freshSend_75.2.2.2.2.2.2.2.2.2.2.2.2.2.2.1
theorem dX10_freshSend_96 : decode cX10_freshSend 96 = .ok (.isub, 1) := gdX10_freshSend_75.2.2.2.2.2.2.2.2.2.2.2.2.2.2.2
theorem gdX10_freshSend_97 : (decode cX10_freshSend 97 = .ok (.aload_n 0, 1)) ∧ (decode cX10_freshSend 98 = .ok (.getfield 128, 3)) ∧ (decode cX10_freshSend 101 = .ok (.bipush 24, 2)) ∧ (decode cX10_freshSend 103 = .ok (.iaload, 1)) ∧ (decode cX10_freshSend 104 = .ok (.if_icmp .ge 10, 3)) ∧ (decode cX10_freshSend 107 = .ok (.aload_n 0, 1)) ∧ (decode cX10_freshSend 108 = .ok (.iload_n 1, 1)) ∧ (decode cX10_freshSend 109 = .ok (.iconst 4, 1)) ∧ (decode cX10_freshSend 110 = .ok (.invokevirtual 225, 3)) ∧ (decode cX10_freshSend 113 = .ok (.return_, 1)) ∧ (decode cX10_freshSend 114 = .ok (.aload_n 0, 1)) ∧ (decode cX10_freshSend 115 = .ok (.bipush 32, 2)) ∧ (decode cX10_freshSend 117 = .ok (.iload_n 1, 1)) ∧ (decode cX10_freshSend 118 = .ok (.invokestatic 160, 3)) ∧ (decode cX10_freshSend 121 = .ok (.imul, 1)) ∧ (decode cX10_freshSend 122 = .ok (.aload_n 0, 1)) := by decide +kernel
theorem dX10_freshSend_97 : decode cX10_freshSend 97 = .ok (.aload_n 0, 1) := gdX10_freshSend_97.1
theorem dX10_freshSend_98 : decode cX10_freshSend 98 = .ok (.getfield 128, 3) := gdX10_freshSend_97.2.1
theorem dX10_freshSend_101 : decode cX10_freshSend 101 = .ok (.bipush 24, 2) := gdX10_freshSend_97.2.2.1
theorem dX10_freshSend_103 : decode cX10_freshSend 103 = .ok (.iaload, 1) := gdX10_freshSend_97.2.2.2.1
theorem dX10_freshSend_104 : decode cX10_freshSend 104 = .ok (.if_icmp .ge 10, 3) := gdX10_freshSend_97.2.2.2.2.1
theorem dX10_freshSend_107 : decode cX10_freshSend 107 = .ok (.aload_n 0, 1) := gdX10_freshSend_97.2.2.2.2.2.1
theorem dX10_freshSend_108 : decode cX10_freshSend 108 = .ok (.iload_n 1, 1) := gdX10_freshSend_97.2.2.2.2.2.2.1
theorem dX10_freshSend_109 : decode cX10_freshSend 109 = .ok (.iconst 4, 1) := gdX10_freshSend_97.2.2.2.2.2.2.2.1
theorem dX10_freshSend_110 : decode cX10_freshSend 110 = .ok (.invokevirtual 225, 3) := gdX10_freshSend_97.2.2.2.2.2.2.2.2.1
theorem dX10_freshSend_113 : decode cX10_freshSend 113 = .ok (.return_, 1) := gdX10_freshSend_97.2.2.2.2.2.2.2.2.2.1
theorem dX10_freshSend_114 : decode cX10_freshSend 114 = .ok (.aload_n 0, 1) := gdX10_freshSend_97.2.2.2.2.2.2.2.2.2.2.1
theorem dX10_freshSend_115 : decode cX10_freshSend 115 = .ok (.bipush 32, 2) := gdX10_freshSend_97.2.2.2.2.2.2.2.2.2.2.2.1
theorem dX10_freshSend_117 : decode cX10_freshSend 117 = .ok (.iload_n 1, 1) := gdX10_freshSend_97.2.2.2.2.2.2.2.2.2.2.2.2.1
theorem dX10_freshSend_118 : decode cX10_freshSend 118 = .ok (.invokestatic 160, 3) := gdX10_freshSend_97.2.2.2.2.2.2.2.2.2.2.2.2.2.1
theorem dX10_freshSend_121 : decode cX10_freshSend 121 = .ok (.imul, 1) := gdX10_freshSend_97.2.2.2.2.2.2.2.2.2.2.2.2.2.2.1
theorem dX10_freshSend_122 : decode cX10_freshSend 122 = .ok (.aload_n 0, 1) := gdX10_freshSend_97.2.2.2.2.2.2.2.2.2.2.2.2.2.2.2
theorem gdX10_freshSend_123 : (decode cX10_freshSend 123 = .ok (.getfield 95, 3)) ∧ (decode cX10_freshSend 126 = .ok (.iload_n 3, 1)) ∧ (decode cX10_freshSend 127 = .ok (.iaload, 1)) ∧ (decode cX10_freshSend 128 = .ok (.iadd, 1)) ∧ (decode cX10_freshSend 129 = .ok (.aload_n 0, 1)) ∧ (decode cX10_freshSend 130 = .ok (.getfield 104, 3)) ∧ (decode cX10_freshSend 133 = .ok (.iload_n 3, 1)) ∧ (decode cX10_freshSend 134 = .ok (.iaload, 1)) ∧ (decode cX10_freshSend 135 = .ok (.iadd, 1)) ∧ (decode cX10_freshSend 136 = .ok (.aload_n 0, 1)) ∧ (decode cX10_freshSend 137 = .ok (.getfield 128, 3)) ∧ (decode cX10_freshSend 140 = .ok (.bipush 24, 2)) ∧ (decode cX10_freshSend 142 = .ok (.iaload, 1)) ∧ (decode cX10_freshSend 143 = .ok (.invokevirtual 228, 3)) ∧ (decode cX10_freshSend 146 = .ok (.aload_n 0, 1)) ∧ (decode cX10_freshSend 147 = .ok (.getfield 104, 3)) := by decide +kernel
theorem dX10_freshSend_123 : decode cX10_freshSend 123 = .ok (.getfield 95, 3) := gdX10_freshSend_123.1
theorem dX10_freshSend_126 : decode cX10_freshSend 126 = .ok (.iload_n 3, 1) := gdX10_freshSend_123.2.1
theorem dX10_freshSend_127 : decode cX10_freshSend 127 = .ok (.iaload, 1) := gdX10_freshSend_123.2.2.1
theorem dX10_freshSend_128 : decode cX10_freshSend 128 = .ok (.iadd, 1) := gdX10_freshSend_123.2.2.2.1
theorem dX10_freshSend_129 : decode cX10_freshSend 129 = .ok (.aload_n 0, 1) := gdX10_freshSend_123.2.2.2.2.1
theorem dX10_freshSend_130 : decode cX10_freshSend 130 = .ok (.getfield 104, 3) := gdX10_freshSend_123.2.2.2.2.2.1
theorem dX10_freshSend_133 : decode cX10_freshSend 133 = .ok (.iload_n 3, 1) := gdX10_freshSend_123.2.2.2.2.2.2.1
theorem dX10_freshSend_134 : decode cX10_freshSend 134 = .ok (.iaload, 1) := gdX10_freshSend_123.2.2.2.2.2.2.2.1
theorem dX10_freshSend_135 : decode cX10_freshSend 135 = .ok (.iadd, 1) := gdX10_freshSend_123.2.2.2.2.2.2.2.2.1
theorem dX10_freshSend_136 : decode cX10_freshSend 136 = .ok (.aload_n 0, 1) := gdX10_freshSend_123.2.2.2.2.2.2.2.2.2.1
theorem dX10_freshSend_137 : decode cX10_freshSend 137 = .ok (.getfield 128, 3) := gdX10_freshSend_123.2.2.2.2.2.2.2.2.2.2.1
theorem dX10_freshSend_140 : decode cX10_freshSend 140 = .ok (.bipush 24, 2) := gdX10_freshSend_123.2.2.2.2.2.2.2.2.2.2.2.1
theorem dX10_freshSend_142 : decode cX10_freshSend 142 = .ok (.iaload, 1) := gdX10_freshSend_123.2.2.2.2.2.2.2.2.2.2.2.2.1
theorem dX10_freshSend_143 : decode cX10_freshSend 143 = .ok (.invokevirtual 228, 3) := gdX10_freshSend_123.2.2.2.2.2.2.2.2.2.2.2.2.2.1
theorem dX10_freshSend_146 : decode cX10_freshSend 146 = .ok (.aload_n 0, 1) := gdX10_freshSend_123.2.2.2.2.2.2.2.2.2.2.2.2.2.2.1
theorem dX10_freshSend_147 : decode cX10_freshSend 147 = .ok (.getfield 104, 3) := gdX10_freshSend_123.2.2.2.2.2.2.2.2.2.2.2.2.2.2.2
theorem gdX10_freshSend_150 : (decode cX10_freshSend 150 = .ok (.iload_n 3, 1)) ∧ (decode cX10_freshSend 151 = .ok (.aload_n 0, 1)) ∧ (decode cX10_freshSend 152 = .ok (.getfield 104, 3)) ∧ (decode cX10_freshSend 155 = .ok (.iload_n 3, 1)) ∧ (decode cX10_freshSend 156 = .ok (.iaload, 1)) ∧ (decode cX10_freshSend 157 = .ok (.aload_n 0, 1)) ∧ (decode cX10_freshSend 158 = .ok (.getfield 128, 3)) ∧ (decode cX10_freshSend 161 = .ok (.bipush 24, 2)) ∧ (decode cX10_freshSend 163 = .ok (.iaload, 1)) ∧ (decode cX10_freshSend 164 = .ok (.iadd, 1)) ∧ (decode cX10_freshSend 165 = .ok (.iastore, 1)) ∧ (decode cX10_freshSend 166 = .ok (.aload_n 0, 1)) ∧ (decode cX10_freshSend 167 = .ok (.iload_n 1, 1)) ∧ (decode cX10_freshSend 168 = .ok (.iconst 1, 1)) ∧ (decode cX10_freshSend 169 = .ok (.invokevirtual 231, 3)) ∧ (decode cX10_freshSend 172 = .ok (.aload_n 0, 1)) := by decide +kernel
theorem dX10_freshSend_150 : decode cX10_freshSend 150 = .ok (.iload_n 3, 1) := gdX10_freshSend_150.1
theorem dX10_freshSend_151 : decode cX10_freshSend 151 = .ok (.aload_n 0, 1) := gdX10_freshSend_150.2.1
theorem dX10_freshSend_152 : decode cX10_freshSend 152 = .ok (.getfield 104, 3) := gdX10_freshSend_150.2.2.1
theorem dX10_freshSend_155 : decode cX10_freshSend 155 = .ok (.iload_n 3, 1) := gdX10_freshSend_150.2.2.2.1
theorem dX10_freshSend_156 : decode cX10_freshSend 156 = .ok (.iaload, 1) := gdX10_freshSend_150.2.2.2.2.1
theorem dX10_freshSend_157 : decode cX10_freshSend 157 = .ok (.aload_n 0, 1) := gdX10_freshSend_150.2.2.2.2.2.1
theorem dX10_freshSend_158 : decode cX10_freshSend 158 = .ok (.getfield 128, 3) := gdX10_freshSend_150.2.2.2.2.2.2.1
theorem dX10_freshSend_161 : decode cX10_freshSend 161 = .ok (.bipush 24, 2) := gdX10_freshSend_150.2.2.2.2.2.2.2.1
theorem dX10_freshSend_163 : decode cX10_freshSend 163 = .ok (.iaload, 1) := gdX10_freshSend_150.2.2.2.2.2.2.2.2.1
theorem dX10_freshSend_164 : decode cX10_freshSend 164 = .ok (.iadd, 1) := gdX10_freshSend_150.2.2.2.2.2.2.2.2.2.1
theorem dX10_freshSend_165 : decode cX10_freshSend 165 = .ok (.iastore, 1) := gdX10_freshSend_150.2.2.2.2.2.2.2.2.2.2.1
theorem dX10_freshSend_166 : decode cX10_freshSend 166 = .ok (.aload_n 0, 1) := gdX10_freshSend_150.2.2.2.2.2.2.2.2.2.2.2.1
theorem dX10_freshSend_167 : decode cX10_freshSend 167 = .ok (.iload_n 1, 1) := gdX10_freshSend_150.2.2.2.2.2.2.2.2.2.2.2.2.1
theorem dX10_freshSend_168 : decode cX10_freshSend 168 = .ok (.iconst 1, 1) := gdX10_freshSend_150.2.2.2.2.2.2.2.2.2.2.2.2.2.1
theorem dX10_freshSend_169 : decode cX10_freshSend 169 = .ok (.invokevirtual 231, 3) := gdX10_freshSend_150.2.2.2.2.2.2.2.2.2.2.2.2.2.2.1
theorem dX10_freshSend_172 : decode cX10_freshSend 172 = .ok (.aload_n 0, 1) := gdX10_freshSend_150.2.2.2.2.2.2.2.2.2.2.2.2.2.2.2
theorem gdX10_freshSend_173 : (decode cX10_freshSend 173 = .ok (.iload_n 1, 1)) ∧ (decode cX10_freshSend 174 = .ok (.aload_n 0, 1)) ∧ (decode cX10_freshSend 175 = .ok (.getfield 125, 3)) ∧ (decode cX10_freshSend 178 = .ok (.bipush 24, 2)) ∧ (decode cX10_freshSend 180 = .ok (.iaload, 1)) ∧ (decode cX10_freshSend 181 = .ok (.invokevirtual 234, 3)) ∧ (decode cX10_freshSend 184 = .ok (.aload_n 0, 1)) ∧ (decode cX10_freshSend 185 = .ok (.getfield 131, 3)) ∧ (decode cX10_freshSend 188 = .ok (.bipush 24, 2)) ∧ (decode cX10_freshSend 190 = .ok (.iaload, 1)) ∧ (decode cX10_freshSend 191 = .ok (.iconst 2, 1)) ∧ (decode cX10_freshSend 192 = .ok (.if_icmp .ge 4, 3)) ∧ (decode cX10_freshSend 195 = .ok (.return_, 1)) ∧ (decode cX10_freshSend 196 = .ok (.aload_n 0, 1)) ∧ (decode cX10_freshSend 197 = .ok (.iload_n 1, 1)) ∧ (decode cX10_freshSend 198 = .ok (.iconst 4, 1)) := by decide +kernel
theorem dX10_freshSend_173 : decode cX10_freshSend 173 = .ok (.iload_n 1, 1) := gdX10_freshSend_173.1
theorem dX10_freshSend_174 : decode cX10_freshSend 174 = .ok (.aload_n 0, 1) := gdX10_freshSend_173.2.1
theorem dX10_freshSend_175 : decode cX10_freshSend 175 = .ok (.getfield 125, 3) := gdX10_freshSend_173.2.2.1
theorem dX10_freshSend_178 : decode cX10_freshSend 178 = .ok (.bipush 24, 2) := gdX10_freshSend_173.2.2.2.1
theorem dX10_freshSend_180 : decode cX10_freshSend 180 = .ok (.iaload, 1) := gdX10_freshSend_173.2.2.2.2.1
theorem dX10_freshSend_181 : decode cX10_freshSend 181 = .ok (.invokevirtual 234, 3) := gdX10_freshSend_173.2.2.2.2.2.1
theorem dX10_freshSend_184 : decode cX10_freshSend 184 = .ok (.aload_n 0, 1) := gdX10_freshSend_173.2.2.2.2.2.2.1
theorem dX10_freshSend_185 : decode cX10_freshSend 185 = .ok (.getfield 131, 3) := gdX10_freshSend_173.2.2.2.2.2.2.2.1
theorem dX10_freshSend_188 : decode cX10_freshSend 188 = .ok (.bipush 24, 2) := gdX10_freshSend_173.2.2.2.2.2.2.2.2.1
theorem dX10_freshSend_190 : decode cX10_freshSend 190 = .ok (.iaload, 1) := gdX10_freshSend_173.2.2.2.2.2.2.2.2.2.1
theorem dX10_freshSend_191 : decode cX10_freshSend 191 = .ok (.iconst 2, 1) := gdX10_freshSend_173.2.2.2.2.2.2.2.2.2.2.1
theorem dX10_freshSend_192 : decode cX10_freshSend 192 = .ok (.if_icmp .ge 4, 3) := gdX10_freshSend_173.2.2.2.2.2.2.2.2.2.2.2.1
theorem dX10_freshSend_195 : decode cX10_freshSend 195 = .ok (.return_, 1) := gdX10_freshSend_173.2.2.2.2.2.2.2.2.2.2.2.2.1
theorem dX10_freshSend_196 : decode cX10_freshSend 196 = .ok (.aload_n 0, 1) := gdX10_freshSend_173.2.2.2.2.2.2.2.2.2.2.2.2.2.1
theorem dX10_freshSend_197 : decode cX10_freshSend 197 = .ok (.iload_n 1, 1) := gdX10_freshSend_173.2.2.2.2.2.2.2.2.2.2.2.2.2.2.1
theorem dX10_freshSend_198 : decode cX10_freshSend 198 = .ok (.iconst 4, 1) := gdX10_freshSend_173.2.2.2.2.2.2.2.2.2.2.2.2.2.2.2
theorem gdX10_freshSend_199 : (decode cX10_freshSend 199 = .ok (.aload_n 0, 1)) ∧ (decode cX10_freshSend 200 = .ok (.getfield 101, 3)) ∧ (decode cX10_freshSend 203 = .ok (.iload_n 3, 1)) ∧ (decode cX10_freshSend 204 = .ok (.iaload, 1)) ∧ (decode cX10_freshSend 205 = .ok (.iconst 0, 1)) ∧ (decode cX10_freshSend 206 = .ok (.aload_n 0, 1)) ∧ (decode cX10_freshSend 207 = .ok (.getfield 104, 3)) ∧ (decode cX10_freshSend 210 = .ok (.iload_n 3, 1)) ∧ (decode cX10_freshSend 211 = .ok (.iaload, 1)) ∧ (decode cX10_freshSend 212 = .ok (.invokevirtual 207, 3)) ∧ (decode cX10_freshSend 215 = .ok (.aload_n 0, 1)) ∧ (decode cX10_freshSend 216 = .ok (.getfield 107, 3)) ∧ (decode cX10_freshSend 219 = .ok (.iload_n 1, 1)) ∧ (decode cX10_freshSend 220 = .ok (.iconst 0, 1)) ∧ (decode cX10_freshSend 221 = .ok (.bastore, 1)) ∧ (decode cX10_freshSend 222 = .ok (.aload_n 0, 1)) := by decide +kernel
theorem dX10_freshSend_199 : decode cX10_freshSend 199 = .ok (.aload_n 0, 1) := gdX10_freshSend_199.1
theorem dX10_freshSend_200 : decode cX10_freshSend 200 = .ok (.getfield 101, 3) := gdX10_freshSend_199.2.1
theorem dX10_freshSend_203 : decode cX10_freshSend 203 = .ok (.iload_n 3, 1) := gdX10_freshSend_199.2.2.1
theorem dX10_freshSend_204 : decode cX10_freshSend 204 = .ok (.iaload, 1) := gdX10_freshSend_199.2.2.2.1
theorem dX10_freshSend_205 : decode cX10_freshSend 205 = .ok (.iconst 0, 1) := gdX10_freshSend_199.2.2.2.2.1
theorem dX10_freshSend_206 : decode cX10_freshSend 206 = .ok (.aload_n 0, 1) := gdX10_freshSend_199.2.2.2.2.2.1
theorem dX10_freshSend_207 : decode cX10_freshSend 207 = .ok (.getfield 104, 3) := gdX10_freshSend_199.2.2.2.2.2.2.1
theorem dX10_freshSend_210 : decode cX10_freshSend 210 = .ok (.iload_n 3, 1) := gdX10_freshSend_199.2.2.2.2.2.2.2.1
theorem dX10_freshSend_211 : decode cX10_freshSend 211 = .ok (.iaload, 1) := gdX10_freshSend_199.2.2.2.2.2.2.2.2.1
theorem dX10_freshSend_212 : decode cX10_freshSend 212 = .ok (.invokevirtual 207, 3) := gdX10_freshSend_199.2.2.2.2.2.2.2.2.2.1
theorem dX10_freshSend_215 : decode cX10_freshSend 215 = .ok (.aload_n 0, 1) := gdX10_freshSend_199.2.2.2.2.2.2.2.2.2.2.1
theorem dX10_freshSend_216 : decode cX10_freshSend 216 = .ok (.getfield 107, 3) := gdX10_freshSend_199.2.2.2.2.2.2.2.2.2.2.2.1
theorem dX10_freshSend_219 : decode cX10_freshSend 219 = .ok (.iload_n 1, 1) := gdX10_freshSend_199.2.2.2.2.2.2.2.2.2.2.2.2.1
theorem dX10_freshSend_220 : decode cX10_freshSend 220 = .ok (.iconst 0, 1) := gdX10_freshSend_199.2.2.2.2.2.2.2.2.2.2.2.2.2.1
theorem dX10_freshSend_221 : decode cX10_freshSend 221 = .ok (.bastore, 1) := gdX10_freshSend_199.2.2.2.2.2.2.2.2.2.2.2.2.2.2.1
theorem dX10_freshSend_222 : decode cX10_freshSend 222 = .ok (.aload_n 0, 1) := gdX10_freshSend_199.2.2.2.2.2.2.2.2.2.2.2.2.2.2.2
theorem gdX10_freshSend_223 : (decode cX10_freshSend 223 = .ok (.iload_n 1, 1)) ∧ (decode cX10_freshSend 224 = .ok (.invokevirtual 237, 3)) ∧ (decode cX10_freshSend 227 = .ok (.return_, 1)) := by decide +kernel
theorem dX10_freshSend_223 : decode cX10_freshSend 223 = .ok (.iload_n 1, 1) := gdX10_freshSend_223.1
theorem dX10_freshSend_224 : decode cX10_freshSend 224 = .ok (.invokevirtual 237, 3) := gdX10_freshSend_223.2.1
theorem dX10_freshSend_227 : decode cX10_freshSend 227 = .ok (.return_, 1) := gdX10_freshSend_223.2.2
set_option maxHeartbeats 8000000 in
set_option maxRecDepth 100000 in
theorem u_X10_freshSend (l : Launch) (E : EE) (z0 : Nat) (G : Nat → Nat) (hGz : ∀ q, G q ≠ 0 → z0 ≤ q) (h0 : Nat) (rf : Nat → Nat) (hR : MG G h0 rf) (t0 t1 t2 : Int32) (A : AA) (cd pk : Int32) (p0 : Int32) (hI2 : I2 (A 5) (A 6)) (hI3 : I3 (A 8)) (hI4 : I4 (A 10) (A 20) (A 29) (A 24) (A 11) (A 12) (A 13)) (hI5 : I5 (A 32) (A 33) (A 35)) (hI6 : I6 (A 22) (A 23) (A 24) (A 25) (A 26)) (hI7 : I7 (A 41) (A 42) (A 44) (A 45) (A 46)) (hI8 : I8 (A 20) (A 30) (A 37) (A 36)) (hy0 : 0 ≤ p0.toInt ∧ p0.toInt ≤ 3) (hy1 : ((A 42) 24).toInt = 0) (hy2 : 0 ≤ pk.toInt ∧ pk.toInt ≤ 24) : Met l yX10_freshSend [Cond.code yX10_freshSend cX10_freshSend 4 none] ({ frames := 4, cells := 0, slots := 0, locals := 95 } : Room) (va_Pc [.ref h0, .int p0] (fun U => MH E h0 rf t0 t1 t2 A cd pk U.heap ∧ KS E z0 U)) (va_Qv (fun (u : AA × Int32 × Int32) => (I2 (u.1 5) (u.1 6)) ∧ (I3 (u.1 8)) ∧ (I4 (u.1 10) (u.1 20) (u.1 29) (u.1 24) (u.1 11) (u.1 12) (u.1 13)) ∧ (I5 (u.1 32) (u.1 33) (u.1 35)) ∧ (I6 (u.1 22) (u.1 23) (u.1 24) (u.1 25) (u.1 26)) ∧ (I7 (u.1 41) (u.1 42) (u.1 44) (u.1 45) (u.1 46)) ∧ (I8 (u.1 20) (u.1 30) (u.1 37) (u.1 36)) ∧ (0 ≤ u.2.2.toInt ∧ u.2.2.toInt ≤ 24) ∧ (D_X10_freshSend A cd pk p0 u.1 u.2.1 u.2.2)) (fun u t => MH E h0 rf t0 t1 t2 u.1 u.2.1 u.2.2 t.heap) (fun q : Nat => G q ≠ 0)) 0 0 (fun q : Nat => G q ≠ 0) := by
  refine Met.ofW (cc := cX10_freshSend) (maxL := 4) (ret := none) (by decide) rfl ?_
  intro p e s m args below meth c s₁ B hml hv
  obtain ⟨rfl, hM, hK⟩ := hv
  have hx := B.exec
  have hb := B.bytes
  have hr := B.returns
  have hts : ∀ w ∈ TS, w.before ([.ref h0, .int p0] : List Value).toArray s = true := fun w hw => hK.2.1 w hw _
  have hown : s.vm.findClass RX10 = some m.cls := findClass_of_methodNamed B.named
  have hlocks := B.notSynchronized
  have hS : va_S (fun q : Nat => G q ≠ 0) s.heap s.heap [] := va_S.rf
  have hAz : ∀ q, (fun q : Nat => G q ≠ 0) q → z0 ≤ q := hGz
  have hl := lv_entry ([.ref h0, .int p0]) (n := 4) (Nat.le_of_ble_eq_true rfl)
  rw [lg_entry_eq]
  generalize (lg_sl ([.ref h0, .int p0]) ++ List.replicate (4 - (lg_sl ([.ref h0, .int p0])).length) Slot.unset).toArray = ls at hl ⊢
  have hl : lv_has ls 4 [(0, .ref h0), (1, .int p0)] := hl
  obtain ⟨n_1, hn_1, en_1⟩ := s_nat (x := p0) (by omega)
  refine lv_aload_n hx hb dX10_freshSend_0 rfl (lv_at hl 0 rfl) ?_
  refine va_get (D := DG E) (ci := 10) (v := .ref (rf 45)) (C := RX10) (T := TX10) (N := 49) hx hb hts iw_X10 hown hK.1 (va_one hM.1) 0 rfl rfl 45 (by decide) (hts _ fl_X10_131) (fun _ h9 => h9) rfl dX10_freshSend_1 ?_
  refine lv_bipush (v := 24) hx hb dX10_freshSend_4 (by decide) ?_
  have ha_2 : va_at (DG E) vwCl (rf 45, .inl (E.2.2 0, 25, .inl (A 45))) _ := hM.2 45 (by decide) (by decide) (by decide)
  refine va_iald (D := DG E) hx hb hK.1 (va_one ha_2) 0 0 rfl rfl (show vp_in (24) 25 from vp_in_iff.mpr ⟨by decide, by decide⟩) dX10_freshSend_6 ?_
  refine W.eq (g2 := F0 m 7 ls [.int ((A 45) 24)]) (by rfl) ?_
  have q_3 : (((A 42) 24).toInt < 1 ∨ 3 < ((A 42) 24).toInt ∨ (0 ≤ ((A 45) 24).toInt ∧ ((A 45) 24).toInt ≤ 5)) := (hI7 24 (by decide)).2.2.2.2.2.1
  refine lv_iconst (v := 2) hx hb dX10_freshSend_7 (by decide) ?_
  refine lv_irem hx hb dX10_freshSend_8 (by decide) ?_
  refine lv_topi (fun x_4 ex_4 => ?_)
  refine W.jv (P := fun v_5 : Int32 => (0 ≤ v_5.toInt ∧ v_5.toInt ≤ 1) ∧ HID (((¬ x_4.toInt = 1) ∧ v_5 = 0) ∨ ((x_4.toInt = 1) ∧ v_5 = 1))) (f := fun v_5 => F0 m 18 ls ([.int v_5])) (fun v_5 hv_5 => ?_) (fun key_5 => ?_)
  · have hv_5_0 : 0 ≤ v_5.toInt ∧ v_5.toInt ≤ 1 := hv_5.1
    refine lv_istore_n (lv' := [(2, .int v_5), (0, .ref h0), (1, .int p0)]) hx hb dX10_freshSend_18 rfl hl (by decide) rfl (fun ls hl => ?_)
    refine lv_iload_n hx hb dX10_freshSend_19 rfl (lv_at hl 0 rfl) ?_
    refine lv_aload_n hx hb dX10_freshSend_20 rfl (lv_at hl 1 rfl) ?_
    refine va_get (D := DG E) (ci := 10) (v := .ref (rf 36)) (C := RX10) (T := TX10) (N := 49) hx hb hts iw_X10 hown hK.1 (va_one hM.1) 0 rfl rfl 36 (by decide) (hts _ fl_X10_107) (fun _ h9 => h9) rfl dX10_freshSend_21 ?_
    refine lv_iload_n hx hb dX10_freshSend_24 rfl (lv_at hl 2 rfl) ?_
    have hi_7 : vp_in p0 4 := vp_in_iff.mpr (by omega)
    have ha_8 : va_at (DG E) vwCl (rf 36, .inl (E.2.2 1, 4, .inl (A 36))) _ := hM.2 36 (by decide) (by decide) (by decide)
    refine va_zald (D := DG E) hx hb hK.1 (va_one ha_8) 0 1 rfl rfl hi_7 dX10_freshSend_25 ?_
    refine W.eq (g2 := F0 m 26 ls [.int ((A 36) n_1), .int v_5]) (by rw [en_1]) ?_
    refine lv_icmp_ne (tgt := 30) hx hb dX10_freshSend_26 (by decide) (fun c_9 => ?_) (fun c_9 => ?_)
    · simp only [lt_I, le_I, eq_I, i_0, i_1, i_2, i_3, i_4, i_5, i_6, i_7, i_8, i_10, i_12, i_16, i_20, i_23, i_24, i_31, i_32, i_63, i_64, i_m1, i_9, i_11, i_13, i_25, i_60, i_75, i_79, i_80, i_96, i_100] at c_9
      have hb8 := (hI8 n_1 (by omega)).2.2.2.2.2.2
      refine W.jh (σ := Unit) (P := fun u_10 H locs => MH E h0 rf t0 t1 t2 A cd pk H ∧ va_S (fun q : Nat => G q ≠ 0) s.heap H locs ∧ (1 ≤ ((A 30) n_1).toInt) ∧ HID (((v_5.toInt = 0) ∧ True) ∨ ((¬ v_5.toInt = 0) ∧ (¬ ((A 30) n_1).toInt = 0) ∧ True))) (f := F0 m 73 ls []) (fun u_10 H locs hI => ?_) (fun key_10 => ?_)
      · obtain ⟨hM, hS, hF_10, hJ_10⟩ := hI
        refine lv_iconst (v := 4) hx hb dX10_freshSend_73 (by decide) ?_
        refine lv_iload_n hx hb dX10_freshSend_74 rfl (lv_at hl 2 rfl) ?_
        refine lv_imul hx hb dX10_freshSend_75 ?_
        refine lv_topi (fun x_24 ex_24 => ?_)
        have fx_24 : x_24.toInt = 4 * p0.toInt := by rw [ex_24]; exact s_mulK i_4 (by omega) (by omega)
        refine lv_istore_n (lv' := [(3, .int x_24), (2, .int v_5), (0, .ref h0), (1, .int p0)]) hx hb dX10_freshSend_76 rfl hl (by decide) rfl (fun ls hl => ?_)
        refine lv_aload_n hx hb dX10_freshSend_77 rfl (lv_at hl 2 rfl) ?_
        refine va_get (D := DG E) (ci := 10) (v := .ref (rf 36)) (C := RX10) (T := TX10) (N := 49) hx hb hts iw_X10 hown hK.1 (va_one hM.1) 0 rfl rfl 36 (by decide) (hts _ fl_X10_107) (fun _ h9 => h9) rfl dX10_freshSend_78 ?_
        refine lv_iload_n hx hb dX10_freshSend_81 rfl (lv_at hl 3 rfl) ?_
        refine lv_iconst (v := 1) hx hb dX10_freshSend_82 (by decide) ?_
        have ha_25 : va_at (DG E) vwCl (rf 36, .inl (E.2.2 1, 4, .inl (A 36))) _ := hM.2 36 (by decide) (by decide) (by decide)
        refine rr_zast (D := DG E) hx hb hK.1 1 ha_25 hS (by show G (rf 36) ≠ 0; rw [hR.2 36 (by decide) (by decide) (by decide)]; decide) rfl hi_7 dX10_freshSend_83 (fun H locs hn ho hz hS => ?_)
        rw [en_1] at hn
        obtain ⟨g_25, eg_25⟩ : ∃ z : Nat → Int32, z = upd (A 36) n_1 1 := ⟨_, rfl⟩
        have sg_25 : g_25 n_1 = 1 := by rw [eg_25]; exact upd_s
        have ng_25 : ∀ k, k ≠ n_1 → g_25 k = (A 36) k := fun k hk => by rw [eg_25]; exact upd_n hk
        have hn : va_at (DG E) vwCl (rf 36, .inl (E.2.2 1, 4, .inl g_25)) H := by rw [eg_25]; exact hn
        have hM : MH E h0 rf t0 t1 t2 (uA A 36 g_25) cd pk H := hM.w hR 36 (by decide) (by decide) (by decide) hn ho
        refine lv_aload_n hx hb dX10_freshSend_84 rfl (lv_at hl 2 rfl) ?_
        refine va_get (D := DG E) (ci := 10) (v := .ref (rf 33)) (C := RX10) (T := TX10) (N := 49) hx hb hts iw_X10 hown hK.1 (va_one hM.1) 0 rfl rfl 33 (by decide) (hts _ fl_X10_98) (fun _ h9 => h9) rfl dX10_freshSend_85 ?_
        refine lv_iload_n hx hb dX10_freshSend_88 rfl (lv_at hl 0 rfl) ?_
        have hi_26 : vp_in x_24 16 := vp_in_iff.mpr (by omega)
        have ha_27 : va_at (DG E) vwCl (rf 33, .inl (E.2.2 0, 16, .inl (A 33))) _ := hM.2 33 (by decide) (by decide) (by decide)
        obtain ⟨n_28, hn_28, en_28⟩ := s_nat (x := x_24) (by omega)
        refine va_iald (D := DG E) hx hb hK.1 (va_one ha_27) 0 0 rfl rfl hi_26 dX10_freshSend_89 ?_
        refine W.eq (g2 := F0 m 90 ls [.int ((A 33) n_28)]) (by rw [en_28]) ?_
        have hk_29 : n_28 < 16 := by omega
        have q_30 : 0 ≤ ((A 32) n_28).toInt := (hI5 n_28 hk_29).1
        have q_31 : 0 ≤ ((A 35) n_28).toInt := (hI5 n_28 hk_29).2.1
        have q_32 : ((A 35) n_28).toInt ≤ ((A 33) n_28).toInt := (hI5 n_28 hk_29).2.2.1
        have q_33 : ((A 32) n_28).toInt + ((A 33) n_28).toInt ≤ 32 := (hI5 n_28 hk_29).2.2.2
        refine lv_aload_n hx hb dX10_freshSend_90 rfl (lv_at hl 2 rfl) ?_
        refine va_get (D := DG E) (ci := 10) (v := .ref (rf 35)) (C := RX10) (T := TX10) (N := 49) hx hb hts iw_X10 hown hK.1 (va_one hM.1) 0 rfl rfl 35 (by decide) (hts _ fl_X10_104) (fun _ h9 => h9) rfl dX10_freshSend_91 ?_
        refine lv_iload_n hx hb dX10_freshSend_94 rfl (lv_at hl 0 rfl) ?_
        have ha_34 : va_at (DG E) vwCl (rf 35, .inl (E.2.2 0, 16, .inl (A 35))) _ := hM.2 35 (by decide) (by decide) (by decide)
        refine va_iald (D := DG E) hx hb hK.1 (va_one ha_34) 0 0 rfl rfl hi_26 dX10_freshSend_95 ?_
        refine W.eq (g2 := F0 m 96 ls [.int ((A 35) n_28), .int ((A 33) n_28)]) (by rw [en_28]) ?_
        refine lv_isub hx hb dX10_freshSend_96 ?_
        refine lv_topi (fun x_35 ex_35 => ?_)
        have fx_35 : x_35.toInt = ((A 33) n_28).toInt - ((A 35) n_28).toInt := by have h9 := s_sub (x := ((A 33) n_28)) (y := ((A 35) n_28)) (by omega) (by omega); rw [ex_35]; exact h9
        refine lv_aload_n hx hb dX10_freshSend_97 rfl (lv_at hl 2 rfl) ?_
        refine va_get (D := DG E) (ci := 10) (v := .ref (rf 44)) (C := RX10) (T := TX10) (N := 49) hx hb hts iw_X10 hown hK.1 (va_one hM.1) 0 rfl rfl 44 (by decide) (hts _ fl_X10_128) (fun _ h9 => h9) rfl dX10_freshSend_98 ?_
        refine lv_bipush (v := 24) hx hb dX10_freshSend_101 (by decide) ?_
        have ha_36 : va_at (DG E) vwCl (rf 44, .inl (E.2.2 0, 25, .inl (A 44))) _ := hM.2 44 (by decide) (by decide) (by decide)
        refine va_iald (D := DG E) hx hb hK.1 (va_one ha_36) 0 0 rfl rfl (show vp_in (24) 25 from vp_in_iff.mpr ⟨by decide, by decide⟩) dX10_freshSend_103 ?_
        refine W.eq (g2 := F0 m 104 ls [.int ((A 44) 24), .int x_35]) (by rfl) ?_
        have q_37 : 0 ≤ ((A 44) 24).toInt := (hI7 24 (by decide)).2.2.1
        have q_38 : ((A 44) 24).toInt ≤ 12 := (hI7 24 (by decide)).2.2.2.1
        have q_39 : (((A 42) 24).toInt ≠ 0 ∧ ((A 42) 24).toInt ≠ 1 ∧ ((A 42) 24).toInt ≠ 4 ∨ ((A 44) 24).toInt ≤ 4) := (hI7 24 (by decide)).2.2.2.2.1
        refine lv_icmp_ge (tgt := 114) hx hb dX10_freshSend_104 (by decide) (fun c_40 => ?_) (fun c_40 => ?_)
        · simp only [lt_I, le_I, eq_I, i_0, i_1, i_2, i_3, i_4, i_5, i_6, i_7, i_8, i_10, i_12, i_16, i_20, i_23, i_24, i_31, i_32, i_63, i_64, i_m1, i_9, i_11, i_13, i_25, i_60, i_75, i_79, i_80, i_96, i_100] at c_40
          refine lv_aload_n hx hb dX10_freshSend_114 rfl (lv_at hl 2 rfl) ?_
          refine lv_bipush (v := 32) hx hb dX10_freshSend_115 (by decide) ?_
          refine lv_iload_n hx hb dX10_freshSend_117 rfl (lv_at hl 3 rfl) ?_
          refine W.callR (W.runS (As := [.int p0]) (rest := [.int 32, .ref h0]) ⟨hx, hb, hml, hown, hts⟩ (c_X10_nodeOf l p0) (cwS 1 hts (gdS ml_X10_160 st_X10_nodeOf in_X10 co_X10_nodeOf rfl) rfl rfl rfl (by decide +kernel) ⟨Nat.le_of_ble_eq_true rfl, Nat.le_of_ble_eq_true rfl⟩) preEq rfl rfl hl.1 rfl (lv_room (Nat.le_of_ble_eq_true rfl)) dX10_freshSend_118 ⟨Nat.le_of_ble_eq_true rfl, Nat.le_of_ble_eq_true rfl⟩) ?_
          refine W.eq (g2 := F0 m 121 ls [.int (p0 - p0 / 2 * 2), .int 32, .ref h0]) (by rfl) ?_
          refine lv_topi (fun x_41 ex_41 => ?_)
          have fx_41 : x_41.toInt = p0.toInt % 2 := by rw [ex_41]; exact s_rem (x := p0) 2 (by decide) (by decide) (by omega)
          refine lv_imul hx hb dX10_freshSend_121 ?_
          refine lv_topi (fun x_42 ex_42 => ?_)
          have fx_42 : x_42.toInt = 32 * x_41.toInt := by rw [ex_42]; exact s_mulK i_32 (by omega) (by omega)
          refine lv_aload_n hx hb dX10_freshSend_122 rfl (lv_at hl 2 rfl) ?_
          refine va_get (D := DG E) (ci := 10) (v := .ref (rf 32)) (C := RX10) (T := TX10) (N := 49) hx hb hts iw_X10 hown hK.1 (va_one hM.1) 0 rfl rfl 32 (by decide) (hts _ fl_X10_95) (fun _ h9 => h9) rfl dX10_freshSend_123 ?_
          refine lv_iload_n hx hb dX10_freshSend_126 rfl (lv_at hl 0 rfl) ?_
          have ha_43 : va_at (DG E) vwCl (rf 32, .inl (E.2.2 0, 16, .inl (A 32))) _ := hM.2 32 (by decide) (by decide) (by decide)
          refine va_iald (D := DG E) hx hb hK.1 (va_one ha_43) 0 0 rfl rfl hi_26 dX10_freshSend_127 ?_
          refine W.eq (g2 := F0 m 128 ls [.int ((A 32) n_28), .int x_42, .ref h0]) (by rw [en_28]) ?_
          refine lv_iadd hx hb dX10_freshSend_128 ?_
          refine lv_topi (fun x_44 ex_44 => ?_)
          have fx_44 : x_44.toInt = x_42.toInt + ((A 32) n_28).toInt := by have h9 := s_add (x := x_42) (y := ((A 32) n_28)) (by omega) (by omega); rw [ex_44]; exact h9
          refine lv_aload_n hx hb dX10_freshSend_129 rfl (lv_at hl 2 rfl) ?_
          refine va_get (D := DG E) (ci := 10) (v := .ref (rf 35)) (C := RX10) (T := TX10) (N := 49) hx hb hts iw_X10 hown hK.1 (va_one hM.1) 0 rfl rfl 35 (by decide) (hts _ fl_X10_104) (fun _ h9 => h9) rfl dX10_freshSend_130 ?_
          refine lv_iload_n hx hb dX10_freshSend_133 rfl (lv_at hl 0 rfl) ?_
          have ha_45 : va_at (DG E) vwCl (rf 35, .inl (E.2.2 0, 16, .inl (A 35))) _ := hM.2 35 (by decide) (by decide) (by decide)
          refine va_iald (D := DG E) hx hb hK.1 (va_one ha_45) 0 0 rfl rfl hi_26 dX10_freshSend_134 ?_
          refine W.eq (g2 := F0 m 135 ls [.int ((A 35) n_28), .int x_44, .ref h0]) (by rw [en_28]) ?_
          refine lv_iadd hx hb dX10_freshSend_135 ?_
          refine lv_topi (fun x_46 ex_46 => ?_)
          have fx_46 : x_46.toInt = x_44.toInt + ((A 35) n_28).toInt := by have h9 := s_add (x := x_44) (y := ((A 35) n_28)) (by omega) (by omega); rw [ex_46]; exact h9
          refine lv_aload_n hx hb dX10_freshSend_136 rfl (lv_at hl 2 rfl) ?_
          refine va_get (D := DG E) (ci := 10) (v := .ref (rf 44)) (C := RX10) (T := TX10) (N := 49) hx hb hts iw_X10 hown hK.1 (va_one hM.1) 0 rfl rfl 44 (by decide) (hts _ fl_X10_128) (fun _ h9 => h9) rfl dX10_freshSend_137 ?_
          refine lv_bipush (v := 24) hx hb dX10_freshSend_140 (by decide) ?_
          have ha_47 : va_at (DG E) vwCl (rf 44, .inl (E.2.2 0, 25, .inl (A 44))) _ := hM.2 44 (by decide) (by decide) (by decide)
          refine va_iald (D := DG E) hx hb hK.1 (va_one ha_47) 0 0 rfl rfl (show vp_in (24) 25 from vp_in_iff.mpr ⟨by decide, by decide⟩) dX10_freshSend_142 ?_
          refine W.eq (g2 := F0 m 143 ls [.int ((A 44) 24), .int x_46, .ref h0]) (by rfl) ?_
          refine va_callv (rnV (fun H => MH E h0 rf t0 t1 t2 (uA A 36 g_25) cd pk H) (As := [.int x_46, .int ((A 44) 24)]) (rest := []) ⟨hx, hb, hml, hown, hts⟩ (u_X10_takeCells l E z0 G hGz h0 rf hR t0 t1 t2 (uA A 36 g_25) cd pk x_46 ((A 44) 24) (show 0 ≤ x_46.toInt ∧ x_46.toInt ≤ 64 from by first | decide | omega) (show 0 ≤ ((A 44) 24).toInt ∧ ((A 44) 24).toInt ≤ 4 from by first | decide | omega) (show x_46.toInt + ((A 44) 24).toInt ≤ 64 from by first | decide | omega)) (cwV 2 hts (gdV ml_X10_228 im_X10_takeCells se_X10_X10_takeCells in_X10 co_X10_takeCells rfl) rfl rfl rfl (by decide +kernel) ⟨Nat.le_of_ble_eq_true rfl, Nat.le_of_ble_eq_true rfl⟩) hM (fun U hU hW => hK.go hW hS hAz hU) (va_recv hK.1 (va_one hM.1) (ci := 10) (q0 := 0) rfl rfl) rfl rfl hl.1 rfl (lv_room (Nat.le_of_ble_eq_true rfl)) dX10_freshSend_143 ⟨Nat.le_of_ble_eq_true rfl, Nat.le_of_ble_eq_true rfl⟩) hS (fun q _ h => h) (fun q h => h) (fun ur_48 t H locs ht hvm hwr_48 hB hz hk hS => ?_)
          have hM : MH E h0 rf t0 t1 t2 (uA (uA A 36 g_25) 4 ur_48) cd pk H := by rw [ht] at hB; exact hB
          have hDr_48 : D_X10_takeCells (uA A 36 g_25) cd pk x_46 ((A 44) 24) (uA (uA A 36 g_25) 4 ur_48) cd pk := hwr_48
          refine lv_aload_n hx hb dX10_freshSend_146 rfl (lv_at hl 2 rfl) ?_
          refine va_get (D := DG E) (ci := 10) (v := .ref (rf 35)) (C := RX10) (T := TX10) (N := 49) hx hb hts iw_X10 hown hK.1 (va_one hM.1) 0 rfl rfl 35 (by decide) (hts _ fl_X10_104) (fun _ h9 => h9) rfl dX10_freshSend_147 ?_
          refine lv_iload_n hx hb dX10_freshSend_150 rfl (lv_at hl 0 rfl) ?_
          refine lv_aload_n hx hb dX10_freshSend_151 rfl (lv_at hl 2 rfl) ?_
          refine va_get (D := DG E) (ci := 10) (v := .ref (rf 35)) (C := RX10) (T := TX10) (N := 49) hx hb hts iw_X10 hown hK.1 (va_one hM.1) 0 rfl rfl 35 (by decide) (hts _ fl_X10_104) (fun _ h9 => h9) rfl dX10_freshSend_152 ?_
          refine lv_iload_n hx hb dX10_freshSend_155 rfl (lv_at hl 0 rfl) ?_
          have ha_49 : va_at (DG E) vwCl (rf 35, .inl (E.2.2 0, 16, .inl (A 35))) _ := hM.2 35 (by decide) (by decide) (by decide)
          refine va_iald (D := DG E) hx hb hK.1 (va_one ha_49) 0 0 rfl rfl hi_26 dX10_freshSend_156 ?_
          refine W.eq (g2 := F0 m 157 ls [.int ((A 35) n_28), .int x_24, .ref (rf 35)]) (by rw [en_28]) ?_
          refine lv_aload_n hx hb dX10_freshSend_157 rfl (lv_at hl 2 rfl) ?_
          refine va_get (D := DG E) (ci := 10) (v := .ref (rf 44)) (C := RX10) (T := TX10) (N := 49) hx hb hts iw_X10 hown hK.1 (va_one hM.1) 0 rfl rfl 44 (by decide) (hts _ fl_X10_128) (fun _ h9 => h9) rfl dX10_freshSend_158 ?_
          refine lv_bipush (v := 24) hx hb dX10_freshSend_161 (by decide) ?_
          have ha_50 : va_at (DG E) vwCl (rf 44, .inl (E.2.2 0, 25, .inl (A 44))) _ := hM.2 44 (by decide) (by decide) (by decide)
          refine va_iald (D := DG E) hx hb hK.1 (va_one ha_50) 0 0 rfl rfl (show vp_in (24) 25 from vp_in_iff.mpr ⟨by decide, by decide⟩) dX10_freshSend_163 ?_
          refine W.eq (g2 := F0 m 164 ls [.int ((A 44) 24), .int ((A 35) n_28), .int x_24, .ref (rf 35)]) (by rfl) ?_
          refine lv_iadd hx hb dX10_freshSend_164 ?_
          refine lv_topi (fun x_51 ex_51 => ?_)
          have fx_51 : x_51.toInt = ((A 35) n_28).toInt + ((A 44) 24).toInt := by have h9 := s_add (x := ((A 35) n_28)) (y := ((A 44) 24)) (by omega) (by omega); rw [ex_51]; exact h9
          have ha_52 : va_at (DG E) vwCl (rf 35, .inl (E.2.2 0, 16, .inl (A 35))) _ := hM.2 35 (by decide) (by decide) (by decide)
          refine rr_iast (D := DG E) hx hb hK.1 0 ha_52 hS (by show G (rf 35) ≠ 0; rw [hR.2 35 (by decide) (by decide) (by decide)]; decide) rfl hi_26 dX10_freshSend_165 (fun H locs hn ho hz hS => ?_)
          rw [en_28] at hn
          obtain ⟨g_52, eg_52⟩ : ∃ z : Nat → Int32, z = upd (A 35) n_28 x_51 := ⟨_, rfl⟩
          have sg_52 : g_52 n_28 = x_51 := by rw [eg_52]; exact upd_s
          have ng_52 : ∀ k, k ≠ n_28 → g_52 k = (A 35) k := fun k hk => by rw [eg_52]; exact upd_n hk
          have hn : va_at (DG E) vwCl (rf 35, .inl (E.2.2 0, 16, .inl g_52)) H := by rw [eg_52]; exact hn
          have hM : MH E h0 rf t0 t1 t2 (uA (uA (uA A 36 g_25) 4 ur_48) 35 g_52) cd pk H := hM.w hR 35 (by decide) (by decide) (by decide) hn ho
          refine lv_aload_n hx hb dX10_freshSend_166 rfl (lv_at hl 2 rfl) ?_
          refine lv_iload_n hx hb dX10_freshSend_167 rfl (lv_at hl 3 rfl) ?_
          refine lv_iconst (v := 1) hx hb dX10_freshSend_168 (by decide) ?_
          refine va_callv (rnV (fun H => MH E h0 rf t0 t1 t2 (uA (uA (uA A 36 g_25) 4 ur_48) 35 g_52) cd pk H) (As := [.int p0, .int 1]) (rest := []) ⟨hx, hb, hml, hown, hts⟩ (u_X10_accept l E z0 G hGz h0 rf hR t0 t1 t2 (uA (uA (uA A 36 g_25) 4 ur_48) 35 g_52) cd pk p0 1 (show 0 ≤ p0.toInt ∧ p0.toInt ≤ 3 from by have := i_1; first | decide | omega)) (cwV 2 hts (gdV ml_X10_231 im_X10_accept se_X10_X10_accept in_X10 co_X10_accept rfl) rfl rfl rfl (by decide +kernel) ⟨Nat.le_of_ble_eq_true rfl, Nat.le_of_ble_eq_true rfl⟩) hM (fun U hU hW => hK.go hW hS hAz hU) (va_recv hK.1 (va_one hM.1) (ci := 10) (q0 := 0) rfl rfl) rfl rfl hl.1 rfl (lv_room (Nat.le_of_ble_eq_true rfl)) dX10_freshSend_169 ⟨Nat.le_of_ble_eq_true rfl, Nat.le_of_ble_eq_true rfl⟩) hS (fun q _ h => h) (fun q h => h) (fun ur_53 t H locs ht hvm hwr_53 hB hz hk hS => ?_)
          have hM : MH E h0 rf t0 t1 t2 (uA (uA (uA (uA (uA A 36 g_25) 4 ur_48) 35 g_52) 14 (ur_53.1)) 19 (ur_53.2)) cd pk H := by rw [ht] at hB; exact hB
          have hDr_53 : D_X10_accept (uA (uA (uA A 36 g_25) 4 ur_48) 35 g_52) cd pk p0 (1 : Int32) (uA (uA (uA (uA (uA A 36 g_25) 4 ur_48) 35 g_52) 14 (ur_53.1)) 19 (ur_53.2)) cd pk := hwr_53
          have := i_1
          refine lv_aload_n hx hb dX10_freshSend_172 rfl (lv_at hl 2 rfl) ?_
          refine lv_iload_n hx hb dX10_freshSend_173 rfl (lv_at hl 3 rfl) ?_
          refine lv_aload_n hx hb dX10_freshSend_174 rfl (lv_at hl 2 rfl) ?_
          refine va_get (D := DG E) (ci := 10) (v := .ref (rf 43)) (C := RX10) (T := TX10) (N := 49) hx hb hts iw_X10 hown hK.1 (va_one hM.1) 0 rfl rfl 43 (by decide) (hts _ fl_X10_125) (fun _ h9 => h9) rfl dX10_freshSend_175 ?_
          refine lv_bipush (v := 24) hx hb dX10_freshSend_178 (by decide) ?_
          have ha_54 : va_at (DG E) vwCl (rf 43, .inl (E.2.2 0, 25, .inl (A 43))) _ := hM.2 43 (by decide) (by decide) (by decide)
          refine va_iald (D := DG E) hx hb hK.1 (va_one ha_54) 0 0 rfl rfl (show vp_in (24) 25 from vp_in_iff.mpr ⟨by decide, by decide⟩) dX10_freshSend_180 ?_
          refine W.eq (g2 := F0 m 181 ls [.int ((A 43) 24), .int p0, .ref h0]) (by rfl) ?_
          refine va_callv (rnV (fun H => MH E h0 rf t0 t1 t2 (uA (uA (uA (uA (uA A 36 g_25) 4 ur_48) 35 g_52) 14 (ur_53.1)) 19 (ur_53.2)) cd pk H) (As := [.int p0, .int ((A 43) 24)]) (rest := []) ⟨hx, hb, hml, hown, hts⟩ (u_X10_ack l E z0 G hGz h0 rf hR t0 t1 t2 (uA (uA (uA (uA (uA A 36 g_25) 4 ur_48) 35 g_52) 14 (ur_53.1)) 19 (ur_53.2)) cd pk p0 ((A 43) 24) hI7 (show 0 ≤ p0.toInt ∧ p0.toInt ≤ 3 from by first | decide | omega) (show 0 ≤ pk.toInt ∧ pk.toInt ≤ 24 from by first | decide | omega)) (cwV 2 hts (gdV ml_X10_234 im_X10_ack se_X10_X10_ack in_X10 co_X10_ack rfl) rfl rfl rfl (by decide +kernel) ⟨Nat.le_of_ble_eq_true rfl, Nat.le_of_ble_eq_true rfl⟩) hM (fun U hU hW => hK.go hW hS hAz hU) (va_recv hK.1 (va_one hM.1) (ci := 10) (q0 := 0) rfl rfl) rfl rfl hl.1 rfl (lv_room (Nat.le_of_ble_eq_true rfl)) dX10_freshSend_181 ⟨Nat.le_of_ble_eq_true rfl, Nat.le_of_ble_eq_true rfl⟩) hS (fun q _ h => h) (fun q h => h) (fun ur_55 t H locs ht hvm hwr_55 hB hz hk hS => ?_)
          have hM : MH E h0 rf t0 t1 t2 (uA (uA (uA (uA (uA (uA (uA (uA (uA (uA (uA (uA A 36 g_25) 4 ur_48) 35 g_52) 14 (ur_53.1)) 19 (ur_53.2)) 41 (ur_55.1)) 42 (ur_55.2.1)) 43 (ur_55.2.2.1)) 44 (ur_55.2.2.2.1)) 45 (ur_55.2.2.2.2.1)) 46 (ur_55.2.2.2.2.2.1)) 47 (ur_55.2.2.2.2.2.2.1)) cd ur_55.2.2.2.2.2.2.2 H := by rw [ht] at hB; exact hB
          have hDr_55 : D_X10_ack (uA (uA (uA (uA (uA A 36 g_25) 4 ur_48) 35 g_52) 14 (ur_53.1)) 19 (ur_53.2)) cd pk p0 ((A 43) 24) (uA (uA (uA (uA (uA (uA (uA (uA (uA (uA (uA (uA A 36 g_25) 4 ur_48) 35 g_52) 14 (ur_53.1)) 19 (ur_53.2)) 41 (ur_55.1)) 42 (ur_55.2.1)) 43 (ur_55.2.2.1)) 44 (ur_55.2.2.2.1)) 45 (ur_55.2.2.2.2.1)) 46 (ur_55.2.2.2.2.2.1)) 47 (ur_55.2.2.2.2.2.2.1)) cd (ur_55.2.2.2.2.2.2.2) := hwr_55.2.2.2
          have hpr_55_0 : I7 (ur_55.1) (ur_55.2.1) (ur_55.2.2.2.1) (ur_55.2.2.2.2.1) (ur_55.2.2.2.2.2.1) := hwr_55.1
          have hpr_55_1 : 0 ≤ ur_55.2.2.2.2.2.2.2.toInt ∧ ur_55.2.2.2.2.2.2.2.toInt ≤ 24 := hwr_55.2.1
          have hpr_55_2 : ((ur_55.2.2.2.1) 24).toInt = ((A 44) 24).toInt ∧ ((ur_55.2.2.2.2.2.1) 24).toInt = ((A 46) 24).toInt := hwr_55.2.2.1
          refine lv_aload_n hx hb dX10_freshSend_184 rfl (lv_at hl 2 rfl) ?_
          refine va_get (D := DG E) (ci := 10) (v := .ref (rf 45)) (C := RX10) (T := TX10) (N := 49) hx hb hts iw_X10 hown hK.1 (va_one hM.1) 0 rfl rfl 45 (by decide) (hts _ fl_X10_131) (fun _ h9 => h9) rfl dX10_freshSend_185 ?_
          refine lv_bipush (v := 24) hx hb dX10_freshSend_188 (by decide) ?_
          have ha_56 : va_at (DG E) vwCl (rf 45, .inl (E.2.2 0, 25, .inl (ur_55.2.2.2.2.1))) _ := hM.2 45 (by decide) (by decide) (by decide)
          refine va_iald (D := DG E) hx hb hK.1 (va_one ha_56) 0 0 rfl rfl (show vp_in (24) 25 from vp_in_iff.mpr ⟨by decide, by decide⟩) dX10_freshSend_190 ?_
          refine W.eq (g2 := F0 m 191 ls [.int ((ur_55.2.2.2.2.1) 24)]) (by rfl) ?_
          have q_57 : (((ur_55.2.1) 24).toInt < 1 ∨ 3 < ((ur_55.2.1) 24).toInt ∨ (0 ≤ ((ur_55.2.2.2.2.1) 24).toInt ∧ ((ur_55.2.2.2.2.1) 24).toInt ≤ 5)) := (hpr_55_0 24 (by decide)).2.2.2.2.2.1
          refine lv_iconst (v := 2) hx hb dX10_freshSend_191 (by decide) ?_
          refine lv_icmp_ge (tgt := 196) hx hb dX10_freshSend_192 (by decide) (fun c_58 => ?_) (fun c_58 => ?_)
          · simp only [lt_I, le_I, eq_I, i_0, i_1, i_2, i_3, i_4, i_5, i_6, i_7, i_8, i_10, i_12, i_16, i_20, i_23, i_24, i_31, i_32, i_63, i_64, i_m1, i_9, i_11, i_13, i_25, i_60, i_75, i_79, i_80, i_96, i_100] at c_58
            refine lv_aload_n hx hb dX10_freshSend_196 rfl (lv_at hl 2 rfl) ?_
            refine lv_iload_n hx hb dX10_freshSend_197 rfl (lv_at hl 3 rfl) ?_
            refine lv_iconst (v := 4) hx hb dX10_freshSend_198 (by decide) ?_
            refine lv_aload_n hx hb dX10_freshSend_199 rfl (lv_at hl 2 rfl) ?_
            refine va_get (D := DG E) (ci := 10) (v := .ref (rf 34)) (C := RX10) (T := TX10) (N := 49) hx hb hts iw_X10 hown hK.1 (va_one hM.1) 0 rfl rfl 34 (by decide) (hts _ fl_X10_101) (fun _ h9 => h9) rfl dX10_freshSend_200 ?_
            refine lv_iload_n hx hb dX10_freshSend_203 rfl (lv_at hl 0 rfl) ?_
            have ha_59 : va_at (DG E) vwCl (rf 34, .inl (E.2.2 0, 16, .inl (A 34))) _ := hM.2 34 (by decide) (by decide) (by decide)
            refine va_iald (D := DG E) hx hb hK.1 (va_one ha_59) 0 0 rfl rfl hi_26 dX10_freshSend_204 ?_
            refine W.eq (g2 := F0 m 205 ls [.int ((A 34) n_28), .int 4, .int p0, .ref h0]) (by rw [en_28]) ?_
            refine lv_iconst (v := 0) hx hb dX10_freshSend_205 (by decide) ?_
            refine lv_aload_n hx hb dX10_freshSend_206 rfl (lv_at hl 2 rfl) ?_
            refine va_get (D := DG E) (ci := 10) (v := .ref (rf 35)) (C := RX10) (T := TX10) (N := 49) hx hb hts iw_X10 hown hK.1 (va_one hM.1) 0 rfl rfl 35 (by decide) (hts _ fl_X10_104) (fun _ h9 => h9) rfl dX10_freshSend_207 ?_
            refine lv_iload_n hx hb dX10_freshSend_210 rfl (lv_at hl 0 rfl) ?_
            have ha_60 : va_at (DG E) vwCl (rf 35, .inl (E.2.2 0, 16, .inl g_52)) _ := hM.2 35 (by decide) (by decide) (by decide)
            refine va_iald (D := DG E) hx hb hK.1 (va_one ha_60) 0 0 rfl rfl hi_26 dX10_freshSend_211 ?_
            refine W.eq (g2 := F0 m 212 ls [.int x_51, .int 0, .int ((A 34) n_28), .int 4, .int p0, .ref h0]) (by rw [en_28, sg_52]) ?_
            refine va_callv (rnV (fun H => MH E h0 rf t0 t1 t2 (uA (uA (uA (uA (uA (uA (uA (uA (uA (uA (uA (uA A 36 g_25) 4 ur_48) 35 g_52) 14 (ur_53.1)) 19 (ur_53.2)) 41 (ur_55.1)) 42 (ur_55.2.1)) 43 (ur_55.2.2.1)) 44 (ur_55.2.2.2.1)) 45 (ur_55.2.2.2.2.1)) 46 (ur_55.2.2.2.2.2.1)) 47 (ur_55.2.2.2.2.2.2.1)) cd ur_55.2.2.2.2.2.2.2 H) (As := [.int p0, .int 4, .int ((A 34) n_28), .int 0, .int x_51]) (rest := []) ⟨hx, hb, hml, hown, hts⟩ (u_X10_complete l E z0 G hGz h0 rf hR t0 t1 t2 (uA (uA (uA (uA (uA (uA (uA (uA (uA (uA (uA (uA A 36 g_25) 4 ur_48) 35 g_52) 14 (ur_53.1)) 19 (ur_53.2)) 41 (ur_55.1)) 42 (ur_55.2.1)) 43 (ur_55.2.2.1)) 44 (ur_55.2.2.2.1)) 45 (ur_55.2.2.2.2.1)) 46 (ur_55.2.2.2.2.2.1)) 47 (ur_55.2.2.2.2.2.2.1)) cd ur_55.2.2.2.2.2.2.2 p0 4 ((A 34) n_28) 0 x_51 hI3 (show 0 ≤ p0.toInt ∧ p0.toInt ≤ 3 from by have := i_0; have := i_4; first | decide | omega)) (cwV 5 hts (gdV ml_X10_207 im_X10_complete se_X10_X10_complete in_X10 co_X10_complete rfl) rfl rfl rfl (by decide +kernel) ⟨Nat.le_of_ble_eq_true rfl, Nat.le_of_ble_eq_true rfl⟩) hM (fun U hU hW => hK.go hW hS hAz hU) (va_recv hK.1 (va_one hM.1) (ci := 10) (q0 := 0) rfl rfl) rfl rfl hl.1 rfl (lv_room (Nat.le_of_ble_eq_true rfl)) dX10_freshSend_212 ⟨Nat.le_of_ble_eq_true rfl, Nat.le_of_ble_eq_true rfl⟩) hS (fun q _ h => h) (fun q h => h) (fun ur_61 t H locs ht hvm hwr_61 hB hz hk hS => ?_)
            have hM : MH E h0 rf t0 t1 t2 (uA (uA (uA (uA (uA (uA (uA (uA (uA (uA (uA (uA (uA (uA A 36 g_25) 4 ur_48) 35 g_52) 14 (ur_53.1)) 19 (ur_53.2)) 41 (ur_55.1)) 42 (ur_55.2.1)) 43 (ur_55.2.2.1)) 44 (ur_55.2.2.2.1)) 45 (ur_55.2.2.2.2.1)) 46 (ur_55.2.2.2.2.2.1)) 47 (ur_55.2.2.2.2.2.2.1)) 8 (ur_61.1)) 9 (ur_61.2)) cd ur_55.2.2.2.2.2.2.2 H := by rw [ht] at hB; exact hB
            have hDr_61 : D_X10_complete (uA (uA (uA (uA (uA (uA (uA (uA (uA (uA (uA (uA A 36 g_25) 4 ur_48) 35 g_52) 14 (ur_53.1)) 19 (ur_53.2)) 41 (ur_55.1)) 42 (ur_55.2.1)) 43 (ur_55.2.2.1)) 44 (ur_55.2.2.2.1)) 45 (ur_55.2.2.2.2.1)) 46 (ur_55.2.2.2.2.2.1)) 47 (ur_55.2.2.2.2.2.2.1)) cd (ur_55.2.2.2.2.2.2.2) p0 (4 : Int32) ((A 34) n_28) (0 : Int32) x_51 (uA (uA (uA (uA (uA (uA (uA (uA (uA (uA (uA (uA (uA (uA A 36 g_25) 4 ur_48) 35 g_52) 14 (ur_53.1)) 19 (ur_53.2)) 41 (ur_55.1)) 42 (ur_55.2.1)) 43 (ur_55.2.2.1)) 44 (ur_55.2.2.2.1)) 45 (ur_55.2.2.2.2.1)) 46 (ur_55.2.2.2.2.2.1)) 47 (ur_55.2.2.2.2.2.2.1)) 8 (ur_61.1)) 9 (ur_61.2)) cd (ur_55.2.2.2.2.2.2.2) := hwr_61.2
            have hpr_61_0 : I3 (ur_61.1) := hwr_61.1
            have := i_0
            have := i_4
            refine lv_aload_n hx hb dX10_freshSend_215 rfl (lv_at hl 2 rfl) ?_
            refine va_get (D := DG E) (ci := 10) (v := .ref (rf 36)) (C := RX10) (T := TX10) (N := 49) hx hb hts iw_X10 hown hK.1 (va_one hM.1) 0 rfl rfl 36 (by decide) (hts _ fl_X10_107) (fun _ h9 => h9) rfl dX10_freshSend_216 ?_
            refine lv_iload_n hx hb dX10_freshSend_219 rfl (lv_at hl 3 rfl) ?_
            refine lv_iconst (v := 0) hx hb dX10_freshSend_220 (by decide) ?_
            have ha_62 : va_at (DG E) vwCl (rf 36, .inl (E.2.2 1, 4, .inl g_25)) _ := hM.2 36 (by decide) (by decide) (by decide)
            refine rr_zast (D := DG E) hx hb hK.1 1 ha_62 hS (by show G (rf 36) ≠ 0; rw [hR.2 36 (by decide) (by decide) (by decide)]; decide) rfl hi_7 dX10_freshSend_221 (fun H locs hn ho hz hS => ?_)
            rw [en_1] at hn
            obtain ⟨g_62, eg_62⟩ : ∃ z : Nat → Int32, z = upd g_25 n_1 0 := ⟨_, rfl⟩
            have sg_62 : g_62 n_1 = 0 := by rw [eg_62]; exact upd_s
            have ng_62 : ∀ k, k ≠ n_1 → g_62 k = g_25 k := fun k hk => by rw [eg_62]; exact upd_n hk
            have hn : va_at (DG E) vwCl (rf 36, .inl (E.2.2 1, 4, .inl g_62)) H := by rw [eg_62]; exact hn
            have hM : MH E h0 rf t0 t1 t2 (uA (uA (uA (uA (uA (uA (uA (uA (uA (uA (uA (uA (uA (uA (uA A 36 g_25) 4 ur_48) 35 g_52) 14 (ur_53.1)) 19 (ur_53.2)) 41 (ur_55.1)) 42 (ur_55.2.1)) 43 (ur_55.2.2.1)) 44 (ur_55.2.2.2.1)) 45 (ur_55.2.2.2.2.1)) 46 (ur_55.2.2.2.2.2.1)) 47 (ur_55.2.2.2.2.2.2.1)) 8 (ur_61.1)) 9 (ur_61.2)) 36 g_62) cd ur_55.2.2.2.2.2.2.2 H := hM.w hR 36 (by decide) (by decide) (by decide) hn ho
            refine lv_aload_n hx hb dX10_freshSend_222 rfl (lv_at hl 2 rfl) ?_
            refine lv_iload_n hx hb dX10_freshSend_223 rfl (lv_at hl 3 rfl) ?_
            have hI5_63 : I5 (A 32) (A 33) g_52 := by
              intro n9 hn9
              have h9 : 0 ≤ ((A 32) n9).toInt ∧ 0 ≤ ((A 35) n9).toInt ∧ ((A 35) n9).toInt ≤ ((A 33) n9).toInt ∧ ((A 32) n9).toInt + ((A 33) n9).toInt ≤ 32 := hI5 n9 hn9
              show 0 ≤ ((A 32) n9).toInt ∧ 0 ≤ (g_52 n9).toInt ∧ (g_52 n9).toInt ≤ ((A 33) n9).toInt ∧ ((A 32) n9).toInt + ((A 33) n9).toInt ≤ 32
              by_cases ezn_28 : n9 = n_28
              · rw [ezn_28] at h9 ⊢
                rw [sg_52]
                exact ⟨by first | exact h9.1 | omega, by first | exact h9.2.1 | omega, by first | exact h9.2.2.1 | omega, by first | exact h9.2.2.2 | omega⟩
              · rw [ng_52 n9 ezn_28]
                exact h9
            have hI8_64 : I8 (A 20) (A 30) (A 37) g_62 := by
              intro n9 hn9
              have h9 : 0 ≤ ((A 20) n9).toInt ∧ ((A 20) n9).toInt ≤ 4 ∧ 0 ≤ ((A 30) n9).toInt ∧ ((A 30) n9).toInt ≤ 4 ∧ 0 ≤ ((A 37) n9).toInt ∧ ((A 37) n9).toInt ≤ 2 ∧ (((A 36) n9).toInt = 0 ∨ 1 ≤ ((A 30) n9).toInt) := hI8 n9 hn9
              show 0 ≤ ((A 20) n9).toInt ∧ ((A 20) n9).toInt ≤ 4 ∧ 0 ≤ ((A 30) n9).toInt ∧ ((A 30) n9).toInt ≤ 4 ∧ 0 ≤ ((A 37) n9).toInt ∧ ((A 37) n9).toInt ≤ 2 ∧ ((g_62 n9).toInt = 0 ∨ 1 ≤ ((A 30) n9).toInt)
              by_cases ezn_1 : n9 = n_1
              · rw [ezn_1] at h9 ⊢
                rw [sg_62]
                have := i_0
                exact ⟨by first | exact h9.1 | omega, by first | exact h9.2.1 | omega, by first | exact h9.2.2.1 | omega, by first | exact h9.2.2.2.1 | omega, by first | exact h9.2.2.2.2.1 | omega, by first | exact h9.2.2.2.2.2.1 | omega, by first | exact h9.2.2.2.2.2.2 | omega⟩
              · rw [ng_62 n9 ezn_1]
                rw [ng_25 n9 ezn_1]
                exact h9
            refine va_callv (rnV (fun H => MH E h0 rf t0 t1 t2 (uA (uA (uA (uA (uA (uA (uA (uA (uA (uA (uA (uA (uA (uA (uA A 36 g_25) 4 ur_48) 35 g_52) 14 (ur_53.1)) 19 (ur_53.2)) 41 (ur_55.1)) 42 (ur_55.2.1)) 43 (ur_55.2.2.1)) 44 (ur_55.2.2.2.1)) 45 (ur_55.2.2.2.2.1)) 46 (ur_55.2.2.2.2.2.1)) 47 (ur_55.2.2.2.2.2.2.1)) 8 (ur_61.1)) 9 (ur_61.2)) 36 g_62) cd ur_55.2.2.2.2.2.2.2 H) (As := [.int p0]) (rest := []) ⟨hx, hb, hml, hown, hts⟩ (u_X10_dropReceive l E z0 G hGz h0 rf hR t0 t1 t2 (uA (uA (uA (uA (uA (uA (uA (uA (uA (uA (uA (uA (uA (uA (uA A 36 g_25) 4 ur_48) 35 g_52) 14 (ur_53.1)) 19 (ur_53.2)) 41 (ur_55.1)) 42 (ur_55.2.1)) 43 (ur_55.2.2.1)) 44 (ur_55.2.2.2.1)) 45 (ur_55.2.2.2.2.1)) 46 (ur_55.2.2.2.2.2.1)) 47 (ur_55.2.2.2.2.2.2.1)) 8 (ur_61.1)) 9 (ur_61.2)) 36 g_62) cd ur_55.2.2.2.2.2.2.2 p0 hI5_63 hI8_64 (show 0 ≤ p0.toInt ∧ p0.toInt ≤ 3 from by first | decide | omega) (show ∀ n : Nat, (n : Int) = p0.toInt → 1 ≤ ((A 30) n).toInt ∧ (g_62 n).toInt = 0 from (fun n hn => by
        obtain rfl : n_1 = n := by omega
        exact ⟨by omega, by rw [sg_62]; decide⟩))) (cwV 1 hts (gdV ml_X10_237 im_X10_dropReceive se_X10_X10_dropReceive in_X10 co_X10_dropReceive rfl) rfl rfl rfl (by decide +kernel) ⟨Nat.le_of_ble_eq_true rfl, Nat.le_of_ble_eq_true rfl⟩) hM (fun U hU hW => hK.go hW hS hAz hU) (va_recv hK.1 (va_one hM.1) (ci := 10) (q0 := 0) rfl rfl) rfl rfl hl.1 rfl (lv_room (Nat.le_of_ble_eq_true rfl)) dX10_freshSend_224 ⟨Nat.le_of_ble_eq_true rfl, Nat.le_of_ble_eq_true rfl⟩) hS (fun q _ h => h) (fun q h => h) (fun ur_65 t H locs ht hvm hwr_65 hB hz hk hS => ?_)
            have hM : MH E h0 rf t0 t1 t2 (uA (uA (uA (uA (uA (uA (uA (uA (uA (uA (uA (uA (uA (uA (uA (uA (uA (uA (uA (uA A 36 g_25) 4 ur_48) 35 g_52) 14 (ur_53.1)) 19 (ur_53.2)) 41 (ur_55.1)) 42 (ur_55.2.1)) 43 (ur_55.2.2.1)) 44 (ur_55.2.2.2.1)) 45 (ur_55.2.2.2.2.1)) 46 (ur_55.2.2.2.2.2.1)) 47 (ur_55.2.2.2.2.2.2.1)) 8 (ur_61.1)) 9 (ur_61.2)) 36 g_62) 30 (ur_65.1)) 32 (ur_65.2.1)) 33 (ur_65.2.2.1)) 34 (ur_65.2.2.2.1)) 35 (ur_65.2.2.2.2)) cd ur_55.2.2.2.2.2.2.2 H := by rw [ht] at hB; exact hB
            have hDr_65 : D_X10_dropReceive (uA (uA (uA (uA (uA (uA (uA (uA (uA (uA (uA (uA (uA (uA (uA A 36 g_25) 4 ur_48) 35 g_52) 14 (ur_53.1)) 19 (ur_53.2)) 41 (ur_55.1)) 42 (ur_55.2.1)) 43 (ur_55.2.2.1)) 44 (ur_55.2.2.2.1)) 45 (ur_55.2.2.2.2.1)) 46 (ur_55.2.2.2.2.2.1)) 47 (ur_55.2.2.2.2.2.2.1)) 8 (ur_61.1)) 9 (ur_61.2)) 36 g_62) cd (ur_55.2.2.2.2.2.2.2) p0 (uA (uA (uA (uA (uA (uA (uA (uA (uA (uA (uA (uA (uA (uA (uA (uA (uA (uA (uA (uA A 36 g_25) 4 ur_48) 35 g_52) 14 (ur_53.1)) 19 (ur_53.2)) 41 (ur_55.1)) 42 (ur_55.2.1)) 43 (ur_55.2.2.1)) 44 (ur_55.2.2.2.1)) 45 (ur_55.2.2.2.2.1)) 46 (ur_55.2.2.2.2.2.1)) 47 (ur_55.2.2.2.2.2.2.1)) 8 (ur_61.1)) 9 (ur_61.2)) 36 g_62) 30 (ur_65.1)) 32 (ur_65.2.1)) 33 (ur_65.2.2.1)) 34 (ur_65.2.2.2.1)) 35 (ur_65.2.2.2.2)) cd (ur_55.2.2.2.2.2.2.2) := hwr_65.2.2
            have hpr_65_0 : I5 (ur_65.2.1) (ur_65.2.2.1) (ur_65.2.2.2.2) := hwr_65.1
            have hpr_65_1 : I8 (A 20) (ur_65.1) (A 37) g_62 := hwr_65.2.1
            exact W.vret hx hb hr (fun t ht hW => ⟨⟨((uA (uA (uA (uA (uA (uA (uA (uA (uA (uA (uA (uA (uA (uA (uA (uA (uA (uA (uA (uA A 36 g_25) 4 ur_48) 35 g_52) 14 (ur_53.1)) 19 (ur_53.2)) 41 (ur_55.1)) 42 (ur_55.2.1)) 43 (ur_55.2.2.1)) 44 (ur_55.2.2.2.1)) 45 (ur_55.2.2.2.2.1)) 46 (ur_55.2.2.2.2.2.1)) 47 (ur_55.2.2.2.2.2.2.1)) 8 (ur_61.1)) 9 (ur_61.2)) 36 g_62) 30 (ur_65.1)) 32 (ur_65.2.1)) 33 (ur_65.2.2.1)) 34 (ur_65.2.2.2.1)) 35 (ur_65.2.2.2.2)), cd, ur_55.2.2.2.2.2.2.2), rfl, ⟨hI2, hpr_61_0, hI4, hpr_65_0, hI6, hpr_55_0, hpr_65_1, (by show 0 ≤ ur_55.2.2.2.2.2.2.2.toInt ∧ ur_55.2.2.2.2.2.2.2.toInt ≤ 24; omega), (Or.inr (Or.inr (Or.inl ⟨n_1, hn_1, x_4, ex_4, v_5, hv_5.2, c_9, u_10, hF_10, hJ_10, x_24, ex_24, fx_24, g_25, eg_25, n_28, hn_28, x_35, ex_35, fx_35, c_40, x_41, ex_41, fx_41, x_42, ex_42, fx_42, x_44, ex_44, fx_44, x_46, ex_46, fx_46, ur_48, hDr_48, x_51, ex_51, fx_51, g_52, eg_52, ur_53, hDr_53, ur_55, hDr_55, hpr_55_0, hpr_55_1, hpr_55_2, c_58, ur_61, hDr_61, hpr_61_0, g_62, eg_62, ur_65, hDr_65, hpr_65_0, hpr_65_1, rfl, rfl, rfl⟩)))⟩, (by show MH E h0 rf t0 t1 t2 (uA (uA (uA (uA (uA (uA (uA (uA (uA (uA (uA (uA (uA (uA (uA (uA (uA (uA (uA (uA A 36 g_25) 4 ur_48) 35 g_52) 14 (ur_53.1)) 19 (ur_53.2)) 41 (ur_55.1)) 42 (ur_55.2.1)) 43 (ur_55.2.2.1)) 44 (ur_55.2.2.2.1)) 45 (ur_55.2.2.2.2.1)) 46 (ur_55.2.2.2.2.2.1)) 47 (ur_55.2.2.2.2.2.2.1)) 8 (ur_61.1)) 9 (ur_61.2)) 36 g_62) 30 (ur_65.1)) 32 (ur_65.2.1)) 33 (ur_65.2.2.1)) 34 (ur_65.2.2.2.1)) 35 (ur_65.2.2.2.2)) cd ur_55.2.2.2.2.2.2.2 t.heap; rw [ht]; exact hM)⟩, hS.F ht⟩) hS.2.2 dX10_freshSend_227
          · simp only [lt_I, le_I, eq_I, i_0, i_1, i_2, i_3, i_4, i_5, i_6, i_7, i_8, i_10, i_12, i_16, i_20, i_23, i_24, i_31, i_32, i_63, i_64, i_m1, i_9, i_11, i_13, i_25, i_60, i_75, i_79, i_80, i_96, i_100] at c_58
            have hI5_66 : I5 (A 32) (A 33) g_52 := by
              intro n9 hn9
              have h9 : 0 ≤ ((A 32) n9).toInt ∧ 0 ≤ ((A 35) n9).toInt ∧ ((A 35) n9).toInt ≤ ((A 33) n9).toInt ∧ ((A 32) n9).toInt + ((A 33) n9).toInt ≤ 32 := hI5 n9 hn9
              show 0 ≤ ((A 32) n9).toInt ∧ 0 ≤ (g_52 n9).toInt ∧ (g_52 n9).toInt ≤ ((A 33) n9).toInt ∧ ((A 32) n9).toInt + ((A 33) n9).toInt ≤ 32
              by_cases ezn_28 : n9 = n_28
              · rw [ezn_28] at h9 ⊢
                rw [sg_52]
                exact ⟨by first | exact h9.1 | omega, by first | exact h9.2.1 | omega, by first | exact h9.2.2.1 | omega, by first | exact h9.2.2.2 | omega⟩
              · rw [ng_52 n9 ezn_28]
                exact h9
            have hI8_67 : I8 (A 20) (A 30) (A 37) g_25 := by
              intro n9 hn9
              have h9 : 0 ≤ ((A 20) n9).toInt ∧ ((A 20) n9).toInt ≤ 4 ∧ 0 ≤ ((A 30) n9).toInt ∧ ((A 30) n9).toInt ≤ 4 ∧ 0 ≤ ((A 37) n9).toInt ∧ ((A 37) n9).toInt ≤ 2 ∧ (((A 36) n9).toInt = 0 ∨ 1 ≤ ((A 30) n9).toInt) := hI8 n9 hn9
              show 0 ≤ ((A 20) n9).toInt ∧ ((A 20) n9).toInt ≤ 4 ∧ 0 ≤ ((A 30) n9).toInt ∧ ((A 30) n9).toInt ≤ 4 ∧ 0 ≤ ((A 37) n9).toInt ∧ ((A 37) n9).toInt ≤ 2 ∧ ((g_25 n9).toInt = 0 ∨ 1 ≤ ((A 30) n9).toInt)
              by_cases ezn_1 : n9 = n_1
              · rw [ezn_1] at h9 ⊢
                rw [sg_25]
                have := i_1
                exact ⟨by first | exact h9.1 | omega, by first | exact h9.2.1 | omega, by first | exact h9.2.2.1 | omega, by first | exact h9.2.2.2.1 | omega, by first | exact h9.2.2.2.2.1 | omega, by first | exact h9.2.2.2.2.2.1 | omega, by first | exact h9.2.2.2.2.2.2 | omega⟩
              · rw [ng_25 n9 ezn_1]
                exact h9
            exact W.vret hx hb hr (fun t ht hW => ⟨⟨((uA (uA (uA (uA (uA (uA (uA (uA (uA (uA (uA (uA A 36 g_25) 4 ur_48) 35 g_52) 14 (ur_53.1)) 19 (ur_53.2)) 41 (ur_55.1)) 42 (ur_55.2.1)) 43 (ur_55.2.2.1)) 44 (ur_55.2.2.2.1)) 45 (ur_55.2.2.2.2.1)) 46 (ur_55.2.2.2.2.2.1)) 47 (ur_55.2.2.2.2.2.2.1)), cd, ur_55.2.2.2.2.2.2.2), rfl, ⟨hI2, hI3, hI4, hI5_66, hI6, hpr_55_0, hI8_67, (by show 0 ≤ ur_55.2.2.2.2.2.2.2.toInt ∧ ur_55.2.2.2.2.2.2.2.toInt ≤ 24; omega), (Or.inr (Or.inr (Or.inr (Or.inl ⟨n_1, hn_1, x_4, ex_4, v_5, hv_5.2, c_9, u_10, hF_10, hJ_10, x_24, ex_24, fx_24, g_25, eg_25, n_28, hn_28, x_35, ex_35, fx_35, c_40, x_41, ex_41, fx_41, x_42, ex_42, fx_42, x_44, ex_44, fx_44, x_46, ex_46, fx_46, ur_48, hDr_48, x_51, ex_51, fx_51, g_52, eg_52, ur_53, hDr_53, ur_55, hDr_55, hpr_55_0, hpr_55_1, hpr_55_2, c_58, rfl, rfl, rfl⟩))))⟩, (by show MH E h0 rf t0 t1 t2 (uA (uA (uA (uA (uA (uA (uA (uA (uA (uA (uA (uA A 36 g_25) 4 ur_48) 35 g_52) 14 (ur_53.1)) 19 (ur_53.2)) 41 (ur_55.1)) 42 (ur_55.2.1)) 43 (ur_55.2.2.1)) 44 (ur_55.2.2.2.1)) 45 (ur_55.2.2.2.2.1)) 46 (ur_55.2.2.2.2.2.1)) 47 (ur_55.2.2.2.2.2.2.1)) cd ur_55.2.2.2.2.2.2.2 t.heap; rw [ht]; exact hM)⟩, hS.F ht⟩) hS.2.2 dX10_freshSend_195
        · simp only [lt_I, le_I, eq_I, i_0, i_1, i_2, i_3, i_4, i_5, i_6, i_7, i_8, i_10, i_12, i_16, i_20, i_23, i_24, i_31, i_32, i_63, i_64, i_m1, i_9, i_11, i_13, i_25, i_60, i_75, i_79, i_80, i_96, i_100] at c_40
          refine lv_aload_n hx hb dX10_freshSend_107 rfl (lv_at hl 2 rfl) ?_
          refine lv_iload_n hx hb dX10_freshSend_108 rfl (lv_at hl 3 rfl) ?_
          refine lv_iconst (v := 4) hx hb dX10_freshSend_109 (by decide) ?_
          have hI8_68 : I8 (A 20) (A 30) (A 37) g_25 := by
            intro n9 hn9
            have h9 : 0 ≤ ((A 20) n9).toInt ∧ ((A 20) n9).toInt ≤ 4 ∧ 0 ≤ ((A 30) n9).toInt ∧ ((A 30) n9).toInt ≤ 4 ∧ 0 ≤ ((A 37) n9).toInt ∧ ((A 37) n9).toInt ≤ 2 ∧ (((A 36) n9).toInt = 0 ∨ 1 ≤ ((A 30) n9).toInt) := hI8 n9 hn9
            show 0 ≤ ((A 20) n9).toInt ∧ ((A 20) n9).toInt ≤ 4 ∧ 0 ≤ ((A 30) n9).toInt ∧ ((A 30) n9).toInt ≤ 4 ∧ 0 ≤ ((A 37) n9).toInt ∧ ((A 37) n9).toInt ≤ 2 ∧ ((g_25 n9).toInt = 0 ∨ 1 ≤ ((A 30) n9).toInt)
            by_cases ezn_1 : n9 = n_1
            · rw [ezn_1] at h9 ⊢
              rw [sg_25]
              have := i_1
              exact ⟨by first | exact h9.1 | omega, by first | exact h9.2.1 | omega, by first | exact h9.2.2.1 | omega, by first | exact h9.2.2.2.1 | omega, by first | exact h9.2.2.2.2.1 | omega, by first | exact h9.2.2.2.2.2.1 | omega, by first | exact h9.2.2.2.2.2.2 | omega⟩
            · rw [ng_25 n9 ezn_1]
              exact h9
          refine va_callv (rnV (fun H => MH E h0 rf t0 t1 t2 (uA A 36 g_25) cd pk H) (As := [.int p0, .int 4]) (rest := []) ⟨hx, hb, hml, hown, hts⟩ (u_X10_refuse l E z0 G hGz h0 rf hR t0 t1 t2 (uA A 36 g_25) cd pk p0 4 hI3 hI4 hI7 hI8_68 (show 0 ≤ p0.toInt ∧ p0.toInt ≤ 3 from by have := i_4; first | decide | omega) (show 0 ≤ pk.toInt ∧ pk.toInt ≤ 24 from by have := i_4; first | decide | omega)) (cwV 2 hts (gdV ml_X10_225 im_X10_refuse se_X10_X10_refuse in_X10 co_X10_refuse rfl) rfl rfl rfl (by decide +kernel) ⟨Nat.le_of_ble_eq_true rfl, Nat.le_of_ble_eq_true rfl⟩) hM (fun U hU hW => hK.go hW hS hAz hU) (va_recv hK.1 (va_one hM.1) (ci := 10) (q0 := 0) rfl rfl) rfl rfl hl.1 rfl (lv_room (Nat.le_of_ble_eq_true rfl)) dX10_freshSend_110 ⟨Nat.le_of_ble_eq_true rfl, Nat.le_of_ble_eq_true rfl⟩) hS (fun q _ h => h) (fun q h => h) (fun ur_69 t H locs ht hvm hwr_69 hB hz hk hS => ?_)
          have hM : MH E h0 rf t0 t1 t2 (uA (uA (uA (uA (uA (uA (uA (uA (uA (uA (uA (uA (uA (uA (uA A 36 g_25) 41 (ur_69.1)) 42 (ur_69.2.1)) 43 (ur_69.2.2.1)) 44 (ur_69.2.2.2.1)) 45 (ur_69.2.2.2.2.1)) 46 (ur_69.2.2.2.2.2.1)) 47 (ur_69.2.2.2.2.2.2.1)) 8 (ur_69.2.2.2.2.2.2.2.1)) 9 (ur_69.2.2.2.2.2.2.2.2.1)) 10 (ur_69.2.2.2.2.2.2.2.2.2.1)) 18 (ur_69.2.2.2.2.2.2.2.2.2.2.1)) 20 (ur_69.2.2.2.2.2.2.2.2.2.2.2.1)) 30 (ur_69.2.2.2.2.2.2.2.2.2.2.2.2.1)) 36 (ur_69.2.2.2.2.2.2.2.2.2.2.2.2.2.1)) cd ur_69.2.2.2.2.2.2.2.2.2.2.2.2.2.2 H := by rw [ht] at hB; exact hB
          have hDr_69 : D_X10_refuse (uA A 36 g_25) cd pk p0 (4 : Int32) (uA (uA (uA (uA (uA (uA (uA (uA (uA (uA (uA (uA (uA (uA (uA A 36 g_25) 41 (ur_69.1)) 42 (ur_69.2.1)) 43 (ur_69.2.2.1)) 44 (ur_69.2.2.2.1)) 45 (ur_69.2.2.2.2.1)) 46 (ur_69.2.2.2.2.2.1)) 47 (ur_69.2.2.2.2.2.2.1)) 8 (ur_69.2.2.2.2.2.2.2.1)) 9 (ur_69.2.2.2.2.2.2.2.2.1)) 10 (ur_69.2.2.2.2.2.2.2.2.2.1)) 18 (ur_69.2.2.2.2.2.2.2.2.2.2.1)) 20 (ur_69.2.2.2.2.2.2.2.2.2.2.2.1)) 30 (ur_69.2.2.2.2.2.2.2.2.2.2.2.2.1)) 36 (ur_69.2.2.2.2.2.2.2.2.2.2.2.2.2.1)) cd (ur_69.2.2.2.2.2.2.2.2.2.2.2.2.2.2) := hwr_69.2.2.2.2.2
          have hpr_69_0 : I3 (ur_69.2.2.2.2.2.2.2.1) := hwr_69.1
          have hpr_69_1 : I4 (ur_69.2.2.2.2.2.2.2.2.2.1) (ur_69.2.2.2.2.2.2.2.2.2.2.2.1) (A 29) (A 24) (A 11) (A 12) (A 13) := hwr_69.2.1
          have hpr_69_2 : I7 (ur_69.1) (ur_69.2.1) (ur_69.2.2.2.1) (ur_69.2.2.2.2.1) (ur_69.2.2.2.2.2.1) := hwr_69.2.2.1
          have hpr_69_3 : I8 (ur_69.2.2.2.2.2.2.2.2.2.2.2.1) (ur_69.2.2.2.2.2.2.2.2.2.2.2.2.1) (A 37) (ur_69.2.2.2.2.2.2.2.2.2.2.2.2.2.1) := hwr_69.2.2.2.1
          have hpr_69_4 : 0 ≤ ur_69.2.2.2.2.2.2.2.2.2.2.2.2.2.2.toInt ∧ ur_69.2.2.2.2.2.2.2.2.2.2.2.2.2.2.toInt ≤ 24 := hwr_69.2.2.2.2.1
          have := i_4
          exact W.vret hx hb hr (fun t ht hW => ⟨⟨((uA (uA (uA (uA (uA (uA (uA (uA (uA (uA (uA (uA (uA (uA (uA A 36 g_25) 41 (ur_69.1)) 42 (ur_69.2.1)) 43 (ur_69.2.2.1)) 44 (ur_69.2.2.2.1)) 45 (ur_69.2.2.2.2.1)) 46 (ur_69.2.2.2.2.2.1)) 47 (ur_69.2.2.2.2.2.2.1)) 8 (ur_69.2.2.2.2.2.2.2.1)) 9 (ur_69.2.2.2.2.2.2.2.2.1)) 10 (ur_69.2.2.2.2.2.2.2.2.2.1)) 18 (ur_69.2.2.2.2.2.2.2.2.2.2.1)) 20 (ur_69.2.2.2.2.2.2.2.2.2.2.2.1)) 30 (ur_69.2.2.2.2.2.2.2.2.2.2.2.2.1)) 36 (ur_69.2.2.2.2.2.2.2.2.2.2.2.2.2.1)), cd, ur_69.2.2.2.2.2.2.2.2.2.2.2.2.2.2), rfl, ⟨hI2, hpr_69_0, hpr_69_1, hI5, hI6, hpr_69_2, hpr_69_3, (by show 0 ≤ ur_69.2.2.2.2.2.2.2.2.2.2.2.2.2.2.toInt ∧ ur_69.2.2.2.2.2.2.2.2.2.2.2.2.2.2.toInt ≤ 24; omega), (Or.inr (Or.inr (Or.inr (Or.inr (Or.inl ⟨n_1, hn_1, x_4, ex_4, v_5, hv_5.2, c_9, u_10, hF_10, hJ_10, x_24, ex_24, fx_24, g_25, eg_25, n_28, hn_28, x_35, ex_35, fx_35, c_40, ur_69, hDr_69, hpr_69_0, hpr_69_1, hpr_69_2, hpr_69_3, hpr_69_4, rfl, rfl, rfl⟩)))))⟩, (by show MH E h0 rf t0 t1 t2 (uA (uA (uA (uA (uA (uA (uA (uA (uA (uA (uA (uA (uA (uA (uA A 36 g_25) 41 (ur_69.1)) 42 (ur_69.2.1)) 43 (ur_69.2.2.1)) 44 (ur_69.2.2.2.1)) 45 (ur_69.2.2.2.2.1)) 46 (ur_69.2.2.2.2.2.1)) 47 (ur_69.2.2.2.2.2.2.1)) 8 (ur_69.2.2.2.2.2.2.2.1)) 9 (ur_69.2.2.2.2.2.2.2.2.1)) 10 (ur_69.2.2.2.2.2.2.2.2.2.1)) 18 (ur_69.2.2.2.2.2.2.2.2.2.2.1)) 20 (ur_69.2.2.2.2.2.2.2.2.2.2.2.1)) 30 (ur_69.2.2.2.2.2.2.2.2.2.2.2.2.1)) 36 (ur_69.2.2.2.2.2.2.2.2.2.2.2.2.2.1)) cd ur_69.2.2.2.2.2.2.2.2.2.2.2.2.2.2 t.heap; rw [ht]; exact hM)⟩, hS.F ht⟩) hS.2.2 dX10_freshSend_113
      · refine lv_iload_n hx hb dX10_freshSend_30 rfl (lv_at hl 0 rfl) ?_
        refine lv_if_eq (tgt := 73) hx hb dX10_freshSend_31 (by decide) (fun c_11 => ?_) (fun c_11 => ?_)
        · simp only [lt_I, le_I, eq_I, i_0, i_1, i_2, i_3, i_4, i_5, i_6, i_7, i_8, i_10, i_12, i_16, i_20, i_23, i_24, i_31, i_32, i_63, i_64, i_m1, i_9, i_11, i_13, i_25, i_60, i_75, i_79, i_80, i_96, i_100] at c_11
          exact key_10 () _ _ ⟨hM, hS, (by omega), (Or.inl ⟨c_11, trivial⟩)⟩
        · simp only [lt_I, le_I, eq_I, i_0, i_1, i_2, i_3, i_4, i_5, i_6, i_7, i_8, i_10, i_12, i_16, i_20, i_23, i_24, i_31, i_32, i_63, i_64, i_m1, i_9, i_11, i_13, i_25, i_60, i_75, i_79, i_80, i_96, i_100] at c_11
          refine lv_aload_n hx hb dX10_freshSend_34 rfl (lv_at hl 1 rfl) ?_
          refine va_get (D := DG E) (ci := 10) (v := .ref (rf 30)) (C := RX10) (T := TX10) (N := 49) hx hb hts iw_X10 hown hK.1 (va_one hM.1) 0 rfl rfl 30 (by decide) (hts _ fl_X10_89) (fun _ h9 => h9) rfl dX10_freshSend_35 ?_
          refine lv_iload_n hx hb dX10_freshSend_38 rfl (lv_at hl 2 rfl) ?_
          have ha_12 : va_at (DG E) vwCl (rf 30, .inl (E.2.2 0, 4, .inl (A 30))) _ := hM.2 30 (by decide) (by decide) (by decide)
          refine va_iald (D := DG E) hx hb hK.1 (va_one ha_12) 0 0 rfl rfl hi_7 dX10_freshSend_39 ?_
          refine W.eq (g2 := F0 m 40 ls [.int ((A 30) n_1)]) (by rw [en_1]) ?_
          have hk_13 : n_1 < 4 := by omega
          have q_14 : 0 ≤ ((A 30) n_1).toInt := (hI8 n_1 hk_13).2.2.1
          have q_15 : ((A 30) n_1).toInt ≤ 4 := (hI8 n_1 hk_13).2.2.2.1
          refine lv_if_ne (tgt := 73) hx hb dX10_freshSend_40 (by decide) (fun c_16 => ?_) (fun c_16 => ?_)
          · simp only [lt_I, le_I, eq_I, i_0, i_1, i_2, i_3, i_4, i_5, i_6, i_7, i_8, i_10, i_12, i_16, i_20, i_23, i_24, i_31, i_32, i_63, i_64, i_m1, i_9, i_11, i_13, i_25, i_60, i_75, i_79, i_80, i_96, i_100] at c_16
            exact key_10 () _ _ ⟨hM, hS, (by omega), (Or.inr ⟨c_11, c_16, trivial⟩)⟩
          · simp only [lt_I, le_I, eq_I, i_0, i_1, i_2, i_3, i_4, i_5, i_6, i_7, i_8, i_10, i_12, i_16, i_20, i_23, i_24, i_31, i_32, i_63, i_64, i_m1, i_9, i_11, i_13, i_25, i_60, i_75, i_79, i_80, i_96, i_100] at c_16
            refine lv_aload_n hx hb dX10_freshSend_43 rfl (lv_at hl 1 rfl) ?_
            refine lv_iload_n hx hb dX10_freshSend_44 rfl (lv_at hl 2 rfl) ?_
            refine lv_bipush (v := 6) hx hb dX10_freshSend_45 (by decide) ?_
            refine lv_aload_n hx hb dX10_freshSend_47 rfl (lv_at hl 1 rfl) ?_
            refine va_get (D := DG E) (ci := 10) (v := .ref (rf 43)) (C := RX10) (T := TX10) (N := 49) hx hb hts iw_X10 hown hK.1 (va_one hM.1) 0 rfl rfl 43 (by decide) (hts _ fl_X10_125) (fun _ h9 => h9) rfl dX10_freshSend_48 ?_
            refine lv_bipush (v := 24) hx hb dX10_freshSend_51 (by decide) ?_
            have ha_17 : va_at (DG E) vwCl (rf 43, .inl (E.2.2 0, 25, .inl (A 43))) _ := hM.2 43 (by decide) (by decide) (by decide)
            refine va_iald (D := DG E) hx hb hK.1 (va_one ha_17) 0 0 rfl rfl (show vp_in (24) 25 from vp_in_iff.mpr ⟨by decide, by decide⟩) dX10_freshSend_53 ?_
            refine W.eq (g2 := F0 m 54 ls [.int ((A 43) 24), .int 6, .int p0, .ref h0]) (by rfl) ?_
            refine lv_iconst (v := 2) hx hb dX10_freshSend_54 (by decide) ?_
            refine lv_iconst (v := (-1)) hx hb dX10_freshSend_55 (by decide) ?_
            refine lv_iconst (v := 0) hx hb dX10_freshSend_56 (by decide) ?_
            refine va_calli (rnV (fun H => MH E h0 rf t0 t1 t2 A cd pk H) (As := [.int p0, .int 6, .int ((A 43) 24), .int 2, .int (-1), .int 0]) (rest := []) ⟨hx, hb, hml, hown, hts⟩ (u_X10_emit l E z0 G hGz h0 rf hR t0 t1 t2 A cd pk p0 6 ((A 43) 24) 2 (-1) 0 hI7 (show 0 ≤ p0.toInt ∧ p0.toInt ≤ 3 from by have := i_m1; have := i_0; have := i_2; have := i_6; first | decide | omega) (show 0 ≤ pk.toInt ∧ pk.toInt ≤ 24 from by have := i_m1; have := i_0; have := i_2; have := i_6; first | decide | omega) (show -1 ≤ (-1 : Int32).toInt ∧ (-1 : Int32).toInt ≤ 60 from by have := i_m1; have := i_0; have := i_2; have := i_6; first | decide | omega) (show 0 ≤ (6 : Int32).toInt from by have := i_m1; have := i_0; have := i_2; have := i_6; first | decide | omega) (show (6 : Int32).toInt < 1 ∨ 3 < (6 : Int32).toInt ∨ (0 ≤ (2 : Int32).toInt ∧ (2 : Int32).toInt ≤ 5) from by have := i_m1; have := i_0; have := i_2; have := i_6; first | decide | omega)) (cwV 6 hts (gdV ml_X10_199 im_X10_emit se_X10_X10_emit in_X10 co_X10_emit rfl) rfl rfl rfl (by decide +kernel) ⟨Nat.le_of_ble_eq_true rfl, Nat.le_of_ble_eq_true rfl⟩) hM (fun U hU hW => hK.go hW hS hAz hU) (va_recv hK.1 (va_one hM.1) (ci := 10) (q0 := 0) rfl rfl) rfl rfl hl.1 rfl (lv_room (Nat.le_of_ble_eq_true rfl)) dX10_freshSend_57 ⟨Nat.le_of_ble_eq_true rfl, Nat.le_of_ble_eq_true rfl⟩) hS (fun q _ h => h) (fun q h => h) (fun r_18 ur_18 t H locs ht hvm hwr_18 hB hz hk hS => ?_)
            have hM : MH E h0 rf t0 t1 t2 (uA (uA (uA (uA (uA (uA (uA A 41 (ur_18.1)) 42 (ur_18.2.1)) 43 (ur_18.2.2.1)) 44 (ur_18.2.2.2.1)) 45 (ur_18.2.2.2.2.1)) 46 (ur_18.2.2.2.2.2.1)) 47 (ur_18.2.2.2.2.2.2.1)) cd ur_18.2.2.2.2.2.2.2 H := by rw [ht] at hB; exact hB
            have hDr_18 : D_X10_emit A cd pk p0 (6 : Int32) ((A 43) 24) (2 : Int32) (-1 : Int32) (0 : Int32) (uA (uA (uA (uA (uA (uA (uA A 41 (ur_18.1)) 42 (ur_18.2.1)) 43 (ur_18.2.2.1)) 44 (ur_18.2.2.2.1)) 45 (ur_18.2.2.2.2.1)) 46 (ur_18.2.2.2.2.2.1)) 47 (ur_18.2.2.2.2.2.2.1)) cd (ur_18.2.2.2.2.2.2.2) r_18 := hwr_18.2.2.2.2.2
            have hpr_18_0 : I7 (ur_18.1) (ur_18.2.1) (ur_18.2.2.2.1) (ur_18.2.2.2.2.1) (ur_18.2.2.2.2.2.1) := hwr_18.1
            have hpr_18_1 : 0 ≤ ur_18.2.2.2.2.2.2.2.toInt ∧ ur_18.2.2.2.2.2.2.2.toInt ≤ 24 := hwr_18.2.1
            have hpr_18_2 : -1 ≤ r_18.toInt ∧ r_18.toInt ≤ 23 := hwr_18.2.2.1
            have hpr_18_3 : ∀ n : Nat, (n : Int) = r_18.toInt → (ur_18.2.1) n = (6 : Int32) := hwr_18.2.2.2.1
            have hpr_18_4 : ((ur_18.2.2.2.1) 24).toInt = ((A 44) 24).toInt ∧ ((ur_18.2.2.2.2.2.1) 24).toInt = ((A 46) 24).toInt := hwr_18.2.2.2.2.1
            have := i_m1
            have := i_0
            have := i_2
            have := i_6
            refine lv_istore_n (lv' := [(3, .int r_18), (2, .int v_5), (0, .ref h0), (1, .int p0)]) hx hb dX10_freshSend_60 rfl hl (by decide) rfl (fun ls hl => ?_)
            refine lv_iload_n hx hb dX10_freshSend_61 rfl (lv_at hl 0 rfl) ?_
            refine lv_if_lt (tgt := 72) hx hb dX10_freshSend_62 (by decide) (fun c_19 => ?_) (fun c_19 => ?_)
            · simp only [lt_I, le_I, eq_I, i_0, i_1, i_2, i_3, i_4, i_5, i_6, i_7, i_8, i_10, i_12, i_16, i_20, i_23, i_24, i_31, i_32, i_63, i_64, i_m1, i_9, i_11, i_13, i_25, i_60, i_75, i_79, i_80, i_96, i_100] at c_19
              exact W.vret hx hb hr (fun t ht hW => ⟨⟨((uA (uA (uA (uA (uA (uA (uA A 41 (ur_18.1)) 42 (ur_18.2.1)) 43 (ur_18.2.2.1)) 44 (ur_18.2.2.2.1)) 45 (ur_18.2.2.2.2.1)) 46 (ur_18.2.2.2.2.2.1)) 47 (ur_18.2.2.2.2.2.2.1)), cd, ur_18.2.2.2.2.2.2.2), rfl, ⟨hI2, hI3, hI4, hI5, hI6, hpr_18_0, hI8, (by show 0 ≤ ur_18.2.2.2.2.2.2.2.toInt ∧ ur_18.2.2.2.2.2.2.2.toInt ≤ 24; omega), (Or.inl ⟨n_1, hn_1, x_4, ex_4, v_5, hv_5.2, c_9, c_11, c_16, ur_18, r_18, hDr_18, hpr_18_0, hpr_18_1, hpr_18_2, hpr_18_3, hpr_18_4, c_19, rfl, rfl, rfl⟩)⟩, (by show MH E h0 rf t0 t1 t2 (uA (uA (uA (uA (uA (uA (uA A 41 (ur_18.1)) 42 (ur_18.2.1)) 43 (ur_18.2.2.1)) 44 (ur_18.2.2.2.1)) 45 (ur_18.2.2.2.2.1)) 46 (ur_18.2.2.2.2.2.1)) 47 (ur_18.2.2.2.2.2.2.1)) cd ur_18.2.2.2.2.2.2.2 t.heap; rw [ht]; exact hM)⟩, hS.F ht⟩) hS.2.2 dX10_freshSend_72
            · simp only [lt_I, le_I, eq_I, i_0, i_1, i_2, i_3, i_4, i_5, i_6, i_7, i_8, i_10, i_12, i_16, i_20, i_23, i_24, i_31, i_32, i_63, i_64, i_m1, i_9, i_11, i_13, i_25, i_60, i_75, i_79, i_80, i_96, i_100] at c_19
              refine lv_aload_n hx hb dX10_freshSend_65 rfl (lv_at hl 2 rfl) ?_
              refine va_get (D := DG E) (ci := 10) (v := .ref (rf 44)) (C := RX10) (T := TX10) (N := 49) hx hb hts iw_X10 hown hK.1 (va_one hM.1) 0 rfl rfl 44 (by decide) (hts _ fl_X10_128) (fun _ h9 => h9) rfl dX10_freshSend_66 ?_
              refine lv_iload_n hx hb dX10_freshSend_69 rfl (lv_at hl 0 rfl) ?_
              refine lv_iconst (v := 0) hx hb dX10_freshSend_70 (by decide) ?_
              have hi_20 : vp_in r_18 25 := vp_in_iff.mpr (by omega)
              have ha_21 : va_at (DG E) vwCl (rf 44, .inl (E.2.2 0, 25, .inl (ur_18.2.2.2.1))) _ := hM.2 44 (by decide) (by decide) (by decide)
              obtain ⟨n_22, hn_22, en_22⟩ := s_nat (x := r_18) (by omega)
              refine rr_iast (D := DG E) hx hb hK.1 0 ha_21 hS (by show G (rf 44) ≠ 0; rw [hR.2 44 (by decide) (by decide) (by decide)]; decide) rfl hi_20 dX10_freshSend_71 (fun H locs hn ho hz hS => ?_)
              rw [en_22] at hn
              obtain ⟨g_21, eg_21⟩ : ∃ z : Nat → Int32, z = upd (ur_18.2.2.2.1) n_22 0 := ⟨_, rfl⟩
              have sg_21 : g_21 n_22 = 0 := by rw [eg_21]; exact upd_s
              have ng_21 : ∀ k, k ≠ n_22 → g_21 k = (ur_18.2.2.2.1) k := fun k hk => by rw [eg_21]; exact upd_n hk
              have hn : va_at (DG E) vwCl (rf 44, .inl (E.2.2 0, 25, .inl g_21)) H := by rw [eg_21]; exact hn
              have hM : MH E h0 rf t0 t1 t2 (uA (uA (uA (uA (uA (uA (uA (uA A 41 (ur_18.1)) 42 (ur_18.2.1)) 43 (ur_18.2.2.1)) 44 (ur_18.2.2.2.1)) 45 (ur_18.2.2.2.2.1)) 46 (ur_18.2.2.2.2.2.1)) 47 (ur_18.2.2.2.2.2.2.1)) 44 g_21) cd ur_18.2.2.2.2.2.2.2 H := hM.w hR 44 (by decide) (by decide) (by decide) hn ho
              have hI7_23 : I7 (ur_18.1) (ur_18.2.1) g_21 (ur_18.2.2.2.2.1) (ur_18.2.2.2.2.2.1) := by
                intro n9 hn9
                have h9 : 0 ≤ ((ur_18.1) n9).toInt ∧ ((ur_18.1) n9).toInt ≤ 3 ∧ 0 ≤ ((ur_18.2.2.2.1) n9).toInt ∧ ((ur_18.2.2.2.1) n9).toInt ≤ 12 ∧ (((ur_18.2.1) n9).toInt ≠ 0 ∧ ((ur_18.2.1) n9).toInt ≠ 1 ∧ ((ur_18.2.1) n9).toInt ≠ 4 ∨ ((ur_18.2.2.2.1) n9).toInt ≤ 4) ∧ (((ur_18.2.1) n9).toInt < 1 ∨ 3 < ((ur_18.2.1) n9).toInt ∨ (0 ≤ ((ur_18.2.2.2.2.1) n9).toInt ∧ ((ur_18.2.2.2.2.1) n9).toInt ≤ 5)) ∧ -1 ≤ ((ur_18.2.2.2.2.2.1) n9).toInt ∧ ((ur_18.2.2.2.2.2.1) n9).toInt ≤ 60 ∧ 0 ≤ ((ur_18.2.1) n9).toInt := hpr_18_0 n9 hn9
                show 0 ≤ ((ur_18.1) n9).toInt ∧ ((ur_18.1) n9).toInt ≤ 3 ∧ 0 ≤ (g_21 n9).toInt ∧ (g_21 n9).toInt ≤ 12 ∧ (((ur_18.2.1) n9).toInt ≠ 0 ∧ ((ur_18.2.1) n9).toInt ≠ 1 ∧ ((ur_18.2.1) n9).toInt ≠ 4 ∨ (g_21 n9).toInt ≤ 4) ∧ (((ur_18.2.1) n9).toInt < 1 ∨ 3 < ((ur_18.2.1) n9).toInt ∨ (0 ≤ ((ur_18.2.2.2.2.1) n9).toInt ∧ ((ur_18.2.2.2.2.1) n9).toInt ≤ 5)) ∧ -1 ≤ ((ur_18.2.2.2.2.2.1) n9).toInt ∧ ((ur_18.2.2.2.2.2.1) n9).toInt ≤ 60 ∧ 0 ≤ ((ur_18.2.1) n9).toInt
                by_cases ezn_22 : n9 = n_22
                · rw [ezn_22] at h9 ⊢
                  rw [sg_21]
                  have := i_0
                  exact ⟨by first | exact h9.1 | omega, by first | exact h9.2.1 | omega, by first | exact h9.2.2.1 | omega, by first | exact h9.2.2.2.1 | omega, by first | exact h9.2.2.2.2.1 | omega, by first | exact h9.2.2.2.2.2.1 | omega, by first | exact h9.2.2.2.2.2.2.1 | omega, by first | exact h9.2.2.2.2.2.2.2.1 | omega, by first | exact h9.2.2.2.2.2.2.2.2 | omega⟩
                · rw [ng_21 n9 ezn_22]
                  exact h9
              exact W.vret hx hb hr (fun t ht hW => ⟨⟨((uA (uA (uA (uA (uA (uA (uA (uA A 41 (ur_18.1)) 42 (ur_18.2.1)) 43 (ur_18.2.2.1)) 44 (ur_18.2.2.2.1)) 45 (ur_18.2.2.2.2.1)) 46 (ur_18.2.2.2.2.2.1)) 47 (ur_18.2.2.2.2.2.2.1)) 44 g_21), cd, ur_18.2.2.2.2.2.2.2), rfl, ⟨hI2, hI3, hI4, hI5, hI6, hI7_23, hI8, (by show 0 ≤ ur_18.2.2.2.2.2.2.2.toInt ∧ ur_18.2.2.2.2.2.2.2.toInt ≤ 24; omega), (Or.inr (Or.inl ⟨n_1, hn_1, x_4, ex_4, v_5, hv_5.2, c_9, c_11, c_16, ur_18, r_18, hDr_18, hpr_18_0, hpr_18_1, hpr_18_2, hpr_18_3, hpr_18_4, c_19, n_22, hn_22, g_21, eg_21, rfl, rfl, rfl⟩))⟩, (by show MH E h0 rf t0 t1 t2 (uA (uA (uA (uA (uA (uA (uA (uA A 41 (ur_18.1)) 42 (ur_18.2.1)) 43 (ur_18.2.2.1)) 44 (ur_18.2.2.2.1)) 45 (ur_18.2.2.2.2.1)) 46 (ur_18.2.2.2.2.2.1)) 47 (ur_18.2.2.2.2.2.2.1)) 44 g_21) cd ur_18.2.2.2.2.2.2.2 t.heap; rw [ht]; exact hM)⟩, hS.F ht⟩) hS.2.2 dX10_freshSend_72
    · simp only [lt_I, le_I, eq_I, i_0, i_1, i_2, i_3, i_4, i_5, i_6, i_7, i_8, i_10, i_12, i_16, i_20, i_23, i_24, i_31, i_32, i_63, i_64, i_m1, i_9, i_11, i_13, i_25, i_60, i_75, i_79, i_80, i_96, i_100] at c_9
      exact W.vret hx hb hr (fun t ht hW => ⟨⟨(A, cd, pk), rfl, ⟨hI2, hI3, hI4, hI5, hI6, hI7, hI8, (by show 0 ≤ pk.toInt ∧ pk.toInt ≤ 24; omega), (Or.inr (Or.inr (Or.inr (Or.inr (Or.inr ⟨n_1, hn_1, x_4, ex_4, v_5, hv_5.2, c_9, rfl, rfl, rfl⟩)))))⟩, (by show MH E h0 rf t0 t1 t2 A cd pk t.heap; rw [ht]; exact hM)⟩, hS.F ht⟩) hS.2.2 dX10_freshSend_29
  · refine lv_iconst (v := 1) hx hb dX10_freshSend_9 (by decide) ?_
    refine lv_icmp_ne (tgt := 17) hx hb dX10_freshSend_10 (by decide) (fun c_6 => ?_) (fun c_6 => ?_)
    · simp only [lt_I, le_I, eq_I, i_0, i_1, i_2, i_3, i_4, i_5, i_6, i_7, i_8, i_10, i_12, i_16, i_20, i_23, i_24, i_31, i_32, i_63, i_64, i_m1, i_9, i_11, i_13, i_25, i_60, i_75, i_79, i_80, i_96, i_100] at c_6
      refine lv_iconst (v := 0) hx hb dX10_freshSend_17 (by decide) ?_
      exact key_5 0 ⟨(by first | decide | omega), (Or.inl ⟨c_6, rfl⟩)⟩
    · simp only [lt_I, le_I, eq_I, i_0, i_1, i_2, i_3, i_4, i_5, i_6, i_7, i_8, i_10, i_12, i_16, i_20, i_23, i_24, i_31, i_32, i_63, i_64, i_m1, i_9, i_11, i_13, i_25, i_60, i_75, i_79, i_80, i_96, i_100] at c_6
      refine lv_iconst (v := 1) hx hb dX10_freshSend_13 (by decide) ?_
      refine lv_goto (tgt := 18) hx hb dX10_freshSend_14 (by decide) ?_
      exact key_5 1 ⟨(by first | decide | omega), (Or.inr ⟨c_6, rfl⟩)⟩
theorem gdX10_freshAdd_0 : (decode cX10_freshAdd 0 = .ok (.bipush 32, 2)) ∧ (decode cX10_freshAdd 2 = .ok (.iload_n 1, 1)) ∧ (decode cX10_freshAdd 3 = .ok (.invokestatic 160, 3)) ∧ (decode cX10_freshAdd 6 = .ok (.imul, 1)) ∧ (decode cX10_freshAdd 7 = .ok (.aload_n 0, 1)) ∧ (decode cX10_freshAdd 8 = .ok (.getfield 134, 3)) ∧ (decode cX10_freshAdd 11 = .ok (.bipush 24, 2)) ∧ (decode cX10_freshAdd 13 = .ok (.iaload, 1)) ∧ (decode cX10_freshAdd 14 = .ok (.iadd, 1)) ∧ (decode cX10_freshAdd 15 = .ok (.istore_n 2, 1)) ∧ (decode cX10_freshAdd 16 = .ok (.aload_n 0, 1)) ∧ (decode cX10_freshAdd 17 = .ok (.getfield 7, 3)) ∧ (decode cX10_freshAdd 20 = .ok (.iload_n 2, 1)) ∧ (decode cX10_freshAdd 21 = .ok (.iaload, 1)) ∧ (decode cX10_freshAdd 22 = .ok (.istore_n 3, 1)) ∧ (decode cX10_freshAdd 23 = .ok (.aload_n 0, 1)) := by decide +kernel
theorem dX10_freshAdd_0 : decode cX10_freshAdd 0 = .ok (.bipush 32, 2) := gdX10_freshAdd_0.1
theorem dX10_freshAdd_2 : decode cX10_freshAdd 2 = .ok (.iload_n 1, 1) := gdX10_freshAdd_0.2.1
theorem dX10_freshAdd_3 : decode cX10_freshAdd 3 = .ok (.invokestatic 160, 3) := gdX10_freshAdd_0.2.2.1
theorem dX10_freshAdd_6 : decode cX10_freshAdd 6 = .ok (.imul, 1) := gdX10_freshAdd_0.2.2.2.1
theorem dX10_freshAdd_7 : decode cX10_freshAdd 7 = .ok (.aload_n 0, 1) := gdX10_freshAdd_0.2.2.2.2.1
theorem dX10_freshAdd_8 : decode cX10_freshAdd 8 = .ok (.getfield 134, 3) := gdX10_freshAdd_0.2.2.2.2.2.1
theorem dX10_freshAdd_11 : decode cX10_freshAdd 11 = .ok (.bipush 24, 2) := gdX10_freshAdd_0.2.2.2.2.2.2.1
theorem dX10_freshAdd_13 : decode cX10_freshAdd 13 = .ok (.iaload, 1) := gdX10_freshAdd_0.2.2.2.2.2.2.2.1
theorem dX10_freshAdd_14 : decode cX10_freshAdd 14 = .ok (.iadd, 1) := gdX10_freshAdd_0.2.2.2.2.2.2.2.2.1
theorem dX10_freshAdd_15 : decode cX10_freshAdd 15 = .ok (.istore_n 2, 1) := gdX10_freshAdd_0.2.2.2.2.2.2.2.2.2.1
theorem dX10_freshAdd_16 : decode cX10_freshAdd 16 = .ok (.aload_n 0, 1) := gdX10_freshAdd_0.2.2.2.2.2.2.2.2.2.2.1
theorem dX10_freshAdd_17 : decode cX10_freshAdd 17 = .ok (.getfield 7, 3) := gdX10_freshAdd_0.2.2.2.2.2.2.2.2.2.2.2.1
theorem dX10_freshAdd_20 : decode cX10_freshAdd 20 = .ok (.iload_n 2, 1) := gdX10_freshAdd_0.2.2.2.2.2.2.2.2.2.2.2.2.1
theorem dX10_freshAdd_21 : decode cX10_freshAdd 21 = .ok (.iaload, 1) := gdX10_freshAdd_0.2.2.2.2.2.2.2.2.2.2.2.2.2.1
theorem dX10_freshAdd_22 : decode cX10_freshAdd 22 = .ok (.istore_n 3, 1) := gdX10_freshAdd_0.2.2.2.2.2.2.2.2.2.2.2.2.2.2.1
theorem dX10_freshAdd_23 : decode cX10_freshAdd 23 = .ok (.aload_n 0, 1) := gdX10_freshAdd_0.2.2.2.2.2.2.2.2.2.2.2.2.2.2.2
theorem gdX10_freshAdd_24 : (decode cX10_freshAdd 24 = .ok (.getfield 113, 3)) ∧ (decode cX10_freshAdd 27 = .ok (.iconst 2, 1)) ∧ (decode cX10_freshAdd 28 = .ok (.iload_n 1, 1)) ∧ (decode cX10_freshAdd 29 = .ok (.imul, 1)) ∧ (decode cX10_freshAdd 30 = .ok (.iconst 1, 1)) ∧ (decode cX10_freshAdd 31 = .ok (.iadd, 1)) ∧ (decode cX10_freshAdd 32 = .ok (.aload_n 0, 1)) ∧ (decode cX10_freshAdd 33 = .ok (.getfield 113, 3)) ∧ (decode cX10_freshAdd 36 = .ok (.iconst 2, 1)) ∧ (decode cX10_freshAdd 37 = .ok (.iload_n 1, 1)) ∧ (decode cX10_freshAdd 38 = .ok (.imul, 1)) ∧ (decode cX10_freshAdd 39 = .ok (.iaload, 1)) ∧ (decode cX10_freshAdd 40 = .ok (.iastore, 1)) ∧ (decode cX10_freshAdd 41 = .ok (.aload_n 0, 1)) ∧ (decode cX10_freshAdd 42 = .ok (.getfield 116, 3)) ∧ (decode cX10_freshAdd 45 = .ok (.iconst 2, 1)) := by decide +kernel
theorem dX10_freshAdd_24 : decode cX10_freshAdd 24 = .ok (.getfield 113, 3) := gdX10_freshAdd_24.1
theorem dX10_freshAdd_27 : decode cX10_freshAdd 27 = .ok (.iconst 2, 1) := gdX10_freshAdd_24.2.1
theorem dX10_freshAdd_28 : decode cX10_freshAdd 28 = .ok (.iload_n 1, 1) := gdX10_freshAdd_24.2.2.1
theorem dX10_freshAdd_29 : decode cX10_freshAdd 29 = .ok (.imul, 1) := gdX10_freshAdd_24.2.2.2.1
theorem dX10_freshAdd_30 : decode cX10_freshAdd 30 = .ok (.iconst 1, 1) := gdX10_freshAdd_24.2.2.2.2.1
theorem dX10_freshAdd_31 : decode cX10_freshAdd 31 = .ok (.iadd, 1) := gdX10_freshAdd_24.2.2.2.2.2.1
theorem dX10_freshAdd_32 : decode cX10_freshAdd 32 = .ok (.aload_n 0, 1) := gdX10_freshAdd_24.2.2.2.2.2.2.1
theorem dX10_freshAdd_33 : decode cX10_freshAdd 33 = .ok (.getfield 113, 3) := gdX10_freshAdd_24.2.2.2.2.2.2.2.1
theorem dX10_freshAdd_36 : decode cX10_freshAdd 36 = .ok (.iconst 2, 1) := gdX10_freshAdd_24.2.2.2.2.2.2.2.2.1
theorem dX10_freshAdd_37 : decode cX10_freshAdd 37 = .ok (.iload_n 1, 1) := gdX10_freshAdd_24.2.2.2.2.2.2.2.2.2.1
theorem dX10_freshAdd_38 : decode cX10_freshAdd 38 = .ok (.imul, 1) := gdX10_freshAdd_24.2.2.2.2.2.2.2.2.2.2.1
theorem dX10_freshAdd_39 : decode cX10_freshAdd 39 = .ok (.iaload, 1) := gdX10_freshAdd_24.2.2.2.2.2.2.2.2.2.2.2.1
theorem dX10_freshAdd_40 : decode cX10_freshAdd 40 = .ok (.iastore, 1) := gdX10_freshAdd_24.2.2.2.2.2.2.2.2.2.2.2.2.1
theorem dX10_freshAdd_41 : decode cX10_freshAdd 41 = .ok (.aload_n 0, 1) := gdX10_freshAdd_24.2.2.2.2.2.2.2.2.2.2.2.2.2.1
theorem dX10_freshAdd_42 : decode cX10_freshAdd 42 = .ok (.getfield 116, 3) := gdX10_freshAdd_24.2.2.2.2.2.2.2.2.2.2.2.2.2.2.1
theorem dX10_freshAdd_45 : decode cX10_freshAdd 45 = .ok (.iconst 2, 1) := gdX10_freshAdd_24.2.2.2.2.2.2.2.2.2.2.2.2.2.2.2
theorem gdX10_freshAdd_46 : (decode cX10_freshAdd 46 = .ok (.iload_n 1, 1)) ∧ (decode cX10_freshAdd 47 = .ok (.imul, 1)) ∧ (decode cX10_freshAdd 48 = .ok (.iconst 1, 1)) ∧ (decode cX10_freshAdd 49 = .ok (.iadd, 1)) ∧ (decode cX10_freshAdd 50 = .ok (.aload_n 0, 1)) ∧ (decode cX10_freshAdd 51 = .ok (.getfield 116, 3)) ∧ (decode cX10_freshAdd 54 = .ok (.iconst 2, 1)) ∧ (decode cX10_freshAdd 55 = .ok (.iload_n 1, 1)) ∧ (decode cX10_freshAdd 56 = .ok (.imul, 1)) ∧ (decode cX10_freshAdd 57 = .ok (.iaload, 1)) ∧ (decode cX10_freshAdd 58 = .ok (.iastore, 1)) ∧ (decode cX10_freshAdd 59 = .ok (.aload_n 0, 1)) ∧ (decode cX10_freshAdd 60 = .ok (.getfield 113, 3)) ∧ (decode cX10_freshAdd 63 = .ok (.iconst 2, 1)) ∧ (decode cX10_freshAdd 64 = .ok (.iload_n 1, 1)) ∧ (decode cX10_freshAdd 65 = .ok (.imul, 1)) := by decide +kernel
theorem dX10_freshAdd_46 : decode cX10_freshAdd 46 = .ok (.iload_n 1, 1) := gdX10_freshAdd_46.1
theorem dX10_freshAdd_47 : decode cX10_freshAdd 47 = .ok (.imul, 1) := gdX10_freshAdd_46.2.1
theorem dX10_freshAdd_48 : decode cX10_freshAdd 48 = .ok (.iconst 1, 1) := gdX10_freshAdd_46.2.2.1
theorem dX10_freshAdd_49 : decode cX10_freshAdd 49 = .ok (.iadd, 1) := gdX10_freshAdd_46.2.2.2.1
theorem dX10_freshAdd_50 : decode cX10_freshAdd 50 = .ok (.aload_n 0, 1) := gdX10_freshAdd_46.2.2.2.2.1
theorem dX10_freshAdd_51 : decode cX10_freshAdd 51 = .ok (.getfield 116, 3) := gdX10_freshAdd_46.2.2.2.2.2.1
theorem dX10_freshAdd_54 : decode cX10_freshAdd 54 = .ok (.iconst 2, 1) := gdX10_freshAdd_46.2.2.2.2.2.2.1
theorem dX10_freshAdd_55 : decode cX10_freshAdd 55 = .ok (.iload_n 1, 1) := gdX10_freshAdd_46.2.2.2.2.2.2.2.1
theorem dX10_freshAdd_56 : decode cX10_freshAdd 56 = .ok (.imul, 1) := gdX10_freshAdd_46.2.2.2.2.2.2.2.2.1
theorem dX10_freshAdd_57 : decode cX10_freshAdd 57 = .ok (.iaload, 1) := gdX10_freshAdd_46.2.2.2.2.2.2.2.2.2.1
theorem dX10_freshAdd_58 : decode cX10_freshAdd 58 = .ok (.iastore, 1) := gdX10_freshAdd_46.2.2.2.2.2.2.2.2.2.2.1
theorem dX10_freshAdd_59 : decode cX10_freshAdd 59 = .ok (.aload_n 0, 1) := gdX10_freshAdd_46.2.2.2.2.2.2.2.2.2.2.2.1
theorem dX10_freshAdd_60 : decode cX10_freshAdd 60 = .ok (.getfield 113, 3) := gdX10_freshAdd_46.2.2.2.2.2.2.2.2.2.2.2.2.1
theorem dX10_freshAdd_63 : decode cX10_freshAdd 63 = .ok (.iconst 2, 1) := gdX10_freshAdd_46.2.2.2.2.2.2.2.2.2.2.2.2.2.1
theorem dX10_freshAdd_64 : decode cX10_freshAdd 64 = .ok (.iload_n 1, 1) := gdX10_freshAdd_46.2.2.2.2.2.2.2.2.2.2.2.2.2.2.1
theorem dX10_freshAdd_65 : decode cX10_freshAdd 65 = .ok (.imul, 1) := gdX10_freshAdd_46.2.2.2.2.2.2.2.2.2.2.2.2.2.2.2
theorem gdX10_freshAdd_66 : (decode cX10_freshAdd 66 = .ok (.aload_n 0, 1)) ∧ (decode cX10_freshAdd 67 = .ok (.getfield 125, 3)) ∧ (decode cX10_freshAdd 70 = .ok (.bipush 24, 2)) ∧ (decode cX10_freshAdd 72 = .ok (.iaload, 1)) ∧ (decode cX10_freshAdd 73 = .ok (.iastore, 1)) ∧ (decode cX10_freshAdd 74 = .ok (.aload_n 0, 1)) ∧ (decode cX10_freshAdd 75 = .ok (.getfield 116, 3)) ∧ (decode cX10_freshAdd 78 = .ok (.iconst 2, 1)) ∧ (decode cX10_freshAdd 79 = .ok (.iload_n 1, 1)) ∧ (decode cX10_freshAdd 80 = .ok (.imul, 1)) ∧ (decode cX10_freshAdd 81 = .ok (.iload_n 3, 1)) ∧ (decode cX10_freshAdd 82 = .ok (.iastore, 1)) ∧ (decode cX10_freshAdd 83 = .ok (.aload_n 0, 1)) ∧ (decode cX10_freshAdd 84 = .ok (.getfield 110, 3)) ∧ (decode cX10_freshAdd 87 = .ok (.iload_n 1, 1)) ∧ (decode cX10_freshAdd 88 = .ok (.aload_n 0, 1)) := by decide +kernel
theorem dX10_freshAdd_66 : decode cX10_freshAdd 66 = .ok (.aload_n 0, 1) := gdX10_freshAdd_66.1
theorem dX10_freshAdd_67 : decode cX10_freshAdd 67 = .ok (.getfield 125, 3) := gdX10_freshAdd_66.2.1
theorem dX10_freshAdd_70 : decode cX10_freshAdd 70 = .ok (.bipush 24, 2) := gdX10_freshAdd_66.2.2.1
theorem dX10_freshAdd_72 : decode cX10_freshAdd 72 = .ok (.iaload, 1) := gdX10_freshAdd_66.2.2.2.1
theorem dX10_freshAdd_73 : decode cX10_freshAdd 73 = .ok (.iastore, 1) := gdX10_freshAdd_66.2.2.2.2.1
theorem dX10_freshAdd_74 : decode cX10_freshAdd 74 = .ok (.aload_n 0, 1) := gdX10_freshAdd_66.2.2.2.2.2.1
theorem dX10_freshAdd_75 : decode cX10_freshAdd 75 = .ok (.getfield 116, 3) := gdX10_freshAdd_66.2.2.2.2.2.2.1
theorem dX10_freshAdd_78 : decode cX10_freshAdd 78 = .ok (.iconst 2, 1) := gdX10_freshAdd_66.2.2.2.2.2.2.2.1
theorem dX10_freshAdd_79 : decode cX10_freshAdd 79 = .ok (.iload_n 1, 1) := gdX10_freshAdd_66.2.2.2.2.2.2.2.2.1
theorem dX10_freshAdd_80 : decode cX10_freshAdd 80 = .ok (.imul, 1) := gdX10_freshAdd_66.2.2.2.2.2.2.2.2.2.1
theorem dX10_freshAdd_81 : decode cX10_freshAdd 81 = .ok (.iload_n 3, 1) := gdX10_freshAdd_66.2.2.2.2.2.2.2.2.2.2.1
theorem dX10_freshAdd_82 : decode cX10_freshAdd 82 = .ok (.iastore, 1) := gdX10_freshAdd_66.2.2.2.2.2.2.2.2.2.2.2.1
theorem dX10_freshAdd_83 : decode cX10_freshAdd 83 = .ok (.aload_n 0, 1) := gdX10_freshAdd_66.2.2.2.2.2.2.2.2.2.2.2.2.1
theorem dX10_freshAdd_84 : decode cX10_freshAdd 84 = .ok (.getfield 110, 3) := gdX10_freshAdd_66.2.2.2.2.2.2.2.2.2.2.2.2.2.1
theorem dX10_freshAdd_87 : decode cX10_freshAdd 87 = .ok (.iload_n 1, 1) := gdX10_freshAdd_66.2.2.2.2.2.2.2.2.2.2.2.2.2.2.1
theorem dX10_freshAdd_88 : decode cX10_freshAdd 88 = .ok (.aload_n 0, 1) := gdX10_freshAdd_66.2.2.2.2.2.2.2.2.2.2.2.2.2.2.2
theorem gdX10_freshAdd_89 : (decode cX10_freshAdd 89 = .ok (.getfield 110, 3)) ∧ (decode cX10_freshAdd 92 = .ok (.iload_n 1, 1)) ∧ (decode cX10_freshAdd 93 = .ok (.iaload, 1)) ∧ (decode cX10_freshAdd 94 = .ok (.iconst 2, 1)) ∧ (decode cX10_freshAdd 95 = .ok (.if_icmp .ge 14, 3)) ∧ (decode cX10_freshAdd 98 = .ok (.aload_n 0, 1)) ∧ (decode cX10_freshAdd 99 = .ok (.getfield 110, 3)) ∧ (decode cX10_freshAdd 102 = .ok (.iload_n 1, 1)) ∧ (decode cX10_freshAdd 103 = .ok (.iaload, 1)) ∧ (decode cX10_freshAdd 104 = .ok (.iconst 1, 1)) ∧ (decode cX10_freshAdd 105 = .ok (.iadd, 1)) ∧ (decode cX10_freshAdd 106 = .ok (.goto 4, 3)) ∧ (decode cX10_freshAdd 109 = .ok (.iconst 2, 1)) ∧ (decode cX10_freshAdd 110 = .ok (.iastore, 1)) ∧ (decode cX10_freshAdd 111 = .ok (.aload_n 0, 1)) ∧ (decode cX10_freshAdd 112 = .ok (.getfield 7, 3)) := by decide +kernel
theorem dX10_freshAdd_89 : decode cX10_freshAdd 89 = .ok (.getfield 110, 3) := gdX10_freshAdd_89.1
theorem dX10_freshAdd_92 : decode cX10_freshAdd 92 = .ok (.iload_n 1, 1) := gdX10_freshAdd_89.2.1
theorem dX10_freshAdd_93 : decode cX10_freshAdd 93 = .ok (.iaload, 1) := gdX10_freshAdd_89.2.2.1
theorem dX10_freshAdd_94 : decode cX10_freshAdd 94 = .ok (.iconst 2, 1) := gdX10_freshAdd_89.2.2.2.1
theorem dX10_freshAdd_95 : decode cX10_freshAdd 95 = .ok (.if_icmp .ge 14, 3) := gdX10_freshAdd_89.2.2.2.2.1
theorem dX10_freshAdd_98 : decode cX10_freshAdd 98 = .ok (.aload_n 0, 1) := gdX10_freshAdd_89.2.2.2.2.2.1
theorem dX10_freshAdd_99 : decode cX10_freshAdd 99 = .ok (.getfield 110, 3) := gdX10_freshAdd_89.2.2.2.2.2.2.1
theorem dX10_freshAdd_102 : decode cX10_freshAdd 102 = .ok (.iload_n 1, 1) := gdX10_freshAdd_89.2.2.2.2.2.2.2.1
theorem dX10_freshAdd_103 : decode cX10_freshAdd 103 = .ok (.iaload, 1) := gdX10_freshAdd_89.2.2.2.2.2.2.2.2.1
theorem dX10_freshAdd_104 : decode cX10_freshAdd 104 = .ok (.iconst 1, 1) := gdX10_freshAdd_89.2.2.2.2.2.2.2.2.2.1
theorem dX10_freshAdd_105 : decode cX10_freshAdd 105 = .ok (.iadd, 1) := gdX10_freshAdd_89.2.2.2.2.2.2.2.2.2.2.1
theorem dX10_freshAdd_106 : decode cX10_freshAdd 106 = .ok (.goto 4, 3) := gdX10_freshAdd_89.2.2.2.2.2.2.2.2.2.2.2.1
theorem dX10_freshAdd_109 : decode cX10_freshAdd 109 = .ok (.iconst 2, 1) := gdX10_freshAdd_89.2.2.2.2.2.2.2.2.2.2.2.2.1
theorem dX10_freshAdd_110 : decode cX10_freshAdd 110 = .ok (.iastore, 1) := gdX10_freshAdd_89.2.2.2.2.2.2.2.2.2.2.2.2.2.1
theorem dX10_freshAdd_111 : decode cX10_freshAdd 111 = .ok (.aload_n 0, 1) := gdX10_freshAdd_89.2.2.2.2.2.2.2.2.2.2.2.2.2.2.1
theorem dX10_freshAdd_112 : decode cX10_freshAdd 112 = .ok (.getfield 7, 3) := gdX10_freshAdd_89.2.2.2.2.2.2.2.2.2.2.2.2.2.2.2
theorem gdX10_freshAdd_115 : (decode cX10_freshAdd 115 = .ok (.iload_n 2, 1)) ∧ (decode cX10_freshAdd 116 = .ok (.iload_n 3, 1)) ∧ (decode cX10_freshAdd 117 = .ok (.aload_n 0, 1)) ∧ (decode cX10_freshAdd 118 = .ok (.getfield 137, 3)) ∧ (decode cX10_freshAdd 121 = .ok (.bipush 24, 2)) ∧ (decode cX10_freshAdd 123 = .ok (.iaload, 1)) ∧ (decode cX10_freshAdd 124 = .ok (.iadd, 1)) ∧ (decode cX10_freshAdd 125 = .ok (.iastore, 1)) ∧ (decode cX10_freshAdd 126 = .ok (.aload_n 0, 1)) ∧ (decode cX10_freshAdd 127 = .ok (.iload_n 1, 1)) ∧ (decode cX10_freshAdd 128 = .ok (.iload_n 3, 1)) ∧ (decode cX10_freshAdd 129 = .ok (.invokevirtual 240, 3)) ∧ (decode cX10_freshAdd 132 = .ok (.aload_n 0, 1)) ∧ (decode cX10_freshAdd 133 = .ok (.iload_n 1, 1)) ∧ (decode cX10_freshAdd 134 = .ok (.iconst 1, 1)) ∧ (decode cX10_freshAdd 135 = .ok (.invokevirtual 231, 3)) := by decide +kernel
theorem dX10_freshAdd_115 : decode cX10_freshAdd 115 = .ok (.iload_n 2, 1) := gdX10_freshAdd_115.1
theorem dX10_freshAdd_116 : decode cX10_freshAdd 116 = .ok (.iload_n 3, 1) := gdX10_freshAdd_115.2.1
theorem dX10_freshAdd_117 : decode cX10_freshAdd 117 = .ok (.aload_n 0, 1) := gdX10_freshAdd_115.2.2.1
theorem dX10_freshAdd_118 : decode cX10_freshAdd 118 = .ok (.getfield 137, 3) := gdX10_freshAdd_115.2.2.2.1
theorem dX10_freshAdd_121 : decode cX10_freshAdd 121 = .ok (.bipush 24, 2) := gdX10_freshAdd_115.2.2.2.2.1
theorem dX10_freshAdd_123 : decode cX10_freshAdd 123 = .ok (.iaload, 1) := gdX10_freshAdd_115.2.2.2.2.2.1
theorem dX10_freshAdd_124 : decode cX10_freshAdd 124 = .ok (.iadd, 1) := gdX10_freshAdd_115.2.2.2.2.2.2.1
theorem dX10_freshAdd_125 : decode cX10_freshAdd 125 = .ok (.iastore, 1) := gdX10_freshAdd_115.2.2.2.2.2.2.2.1
theorem dX10_freshAdd_126 : decode cX10_freshAdd 126 = .ok (.aload_n 0, 1) := gdX10_freshAdd_115.2.2.2.2.2.2.2.2.1
theorem dX10_freshAdd_127 : decode cX10_freshAdd 127 = .ok (.iload_n 1, 1) := gdX10_freshAdd_115.2.2.2.2.2.2.2.2.2.1
theorem dX10_freshAdd_128 : decode cX10_freshAdd 128 = .ok (.iload_n 3, 1) := gdX10_freshAdd_115.2.2.2.2.2.2.2.2.2.2.1
theorem dX10_freshAdd_129 : decode cX10_freshAdd 129 = .ok (.invokevirtual 240, 3) := gdX10_freshAdd_115.2.2.2.2.2.2.2.2.2.2.2.1
theorem dX10_freshAdd_132 : decode cX10_freshAdd 132 = .ok (.aload_n 0, 1) := gdX10_freshAdd_115.2.2.2.2.2.2.2.2.2.2.2.2.1
theorem dX10_freshAdd_133 : decode cX10_freshAdd 133 = .ok (.iload_n 1, 1) := gdX10_freshAdd_115.2.2.2.2.2.2.2.2.2.2.2.2.2.1
theorem dX10_freshAdd_134 : decode cX10_freshAdd 134 = .ok (.iconst 1, 1) := gdX10_freshAdd_115.2.2.2.2.2.2.2.2.2.2.2.2.2.2.1
theorem dX10_freshAdd_135 : decode cX10_freshAdd 135 = .ok (.invokevirtual 231, 3) := gdX10_freshAdd_115.2.2.2.2.2.2.2.2.2.2.2.2.2.2.2
theorem dX10_freshAdd_138 : decode cX10_freshAdd 138 = .ok (.return_, 1) := by decide +kernel
set_option maxHeartbeats 8000000 in
set_option maxRecDepth 100000 in
theorem u_X10_freshAdd (l : Launch) (E : EE) (z0 : Nat) (G : Nat → Nat) (hGz : ∀ q, G q ≠ 0 → z0 ≤ q) (h0 : Nat) (rf : Nat → Nat) (hR : MG G h0 rf) (t0 t1 t2 : Int32) (A : AA) (cd pk : Int32) (p0 : Int32) (hI7 : I7 (A 41) (A 42) (A 44) (A 45) (A 46)) (hI8 : I8 (A 20) (A 30) (A 37) (A 36)) (hy0 : 0 ≤ p0.toInt ∧ p0.toInt ≤ 3) (hy1 : 0 ≤ pk.toInt ∧ pk.toInt ≤ 24) (hy2 : 0 ≤ ((A 46) 24).toInt ∧ ((A 46) 24).toInt ≤ 31) : Met l yX10_freshAdd [Cond.code yX10_freshAdd cX10_freshAdd 4 none] ({ frames := 3, cells := 0, slots := 0, locals := 70 } : Room) (va_Pc [.ref h0, .int p0] (fun U => MH E h0 rf t0 t1 t2 A cd pk U.heap ∧ KS E z0 U)) (va_Qv (fun (u : (Nat → Int32) × (Nat → Int32) × (Nat → Int32) × (Nat → Int32) × (Nat → Int32) × (Nat → Int32) × (Nat → Int32) × (Nat → Int32) × (Nat → Int32) × (Nat → Int32) × (Nat → Int32) × (Nat → Int32) × (Nat → Int32) × (Nat → Int32) × Int32) => (I7 (u.2.2.2.2.2.2.1) (u.2.2.2.2.2.2.2.1) (u.2.2.2.2.2.2.2.2.2.1) (u.2.2.2.2.2.2.2.2.2.2.1) (u.2.2.2.2.2.2.2.2.2.2.2.1)) ∧ (I8 (A 20) (A 30) (u.2.2.2.1) (A 36)) ∧ (0 ≤ (u.2.2.2.2.2.2.2.2.2.2.2.2.2.2).toInt ∧ (u.2.2.2.2.2.2.2.2.2.2.2.2.2.2).toInt ≤ 24) ∧ (D_X10_freshAdd A cd pk p0 (uA (uA (uA (uA (uA (uA (uA (uA (uA (uA (uA (uA (uA (uA A 4 (u.1)) 14 (u.2.1)) 19 (u.2.2.1)) 37 (u.2.2.2.1)) 38 (u.2.2.2.2.1)) 39 (u.2.2.2.2.2.1)) 41 (u.2.2.2.2.2.2.1)) 42 (u.2.2.2.2.2.2.2.1)) 43 (u.2.2.2.2.2.2.2.2.1)) 44 (u.2.2.2.2.2.2.2.2.2.1)) 45 (u.2.2.2.2.2.2.2.2.2.2.1)) 46 (u.2.2.2.2.2.2.2.2.2.2.2.1)) 47 (u.2.2.2.2.2.2.2.2.2.2.2.2.1)) 48 (u.2.2.2.2.2.2.2.2.2.2.2.2.2.1)) cd (u.2.2.2.2.2.2.2.2.2.2.2.2.2.2))) (fun u t => MH E h0 rf t0 t1 t2 (uA (uA (uA (uA (uA (uA (uA (uA (uA (uA (uA (uA (uA (uA A 4 (u.1)) 14 (u.2.1)) 19 (u.2.2.1)) 37 (u.2.2.2.1)) 38 (u.2.2.2.2.1)) 39 (u.2.2.2.2.2.1)) 41 (u.2.2.2.2.2.2.1)) 42 (u.2.2.2.2.2.2.2.1)) 43 (u.2.2.2.2.2.2.2.2.1)) 44 (u.2.2.2.2.2.2.2.2.2.1)) 45 (u.2.2.2.2.2.2.2.2.2.2.1)) 46 (u.2.2.2.2.2.2.2.2.2.2.2.1)) 47 (u.2.2.2.2.2.2.2.2.2.2.2.2.1)) 48 (u.2.2.2.2.2.2.2.2.2.2.2.2.2.1)) cd (u.2.2.2.2.2.2.2.2.2.2.2.2.2.2) t.heap) (fun q : Nat => G q ≠ 0)) 0 0 (fun q : Nat => G q ≠ 0) := by
  refine Met.ofW (cc := cX10_freshAdd) (maxL := 4) (ret := none) (by decide) rfl ?_
  intro p e s m args below meth c s₁ B hml hv
  obtain ⟨rfl, hM, hK⟩ := hv
  have hx := B.exec
  have hb := B.bytes
  have hr := B.returns
  have hts : ∀ w ∈ TS, w.before ([.ref h0, .int p0] : List Value).toArray s = true := fun w hw => hK.2.1 w hw _
  have hown : s.vm.findClass RX10 = some m.cls := findClass_of_methodNamed B.named
  have hlocks := B.notSynchronized
  have hS : va_S (fun q : Nat => G q ≠ 0) s.heap s.heap [] := va_S.rf
  have hAz : ∀ q, (fun q : Nat => G q ≠ 0) q → z0 ≤ q := hGz
  have hl := lv_entry ([.ref h0, .int p0]) (n := 4) (Nat.le_of_ble_eq_true rfl)
  rw [lg_entry_eq]
  generalize (lg_sl ([.ref h0, .int p0]) ++ List.replicate (4 - (lg_sl ([.ref h0, .int p0])).length) Slot.unset).toArray = ls at hl ⊢
  have hl : lv_has ls 4 [(0, .ref h0), (1, .int p0)] := hl
  obtain ⟨n_1, hn_1, en_1⟩ := s_nat (x := p0) (by omega)
  refine lv_bipush (v := 32) hx hb dX10_freshAdd_0 (by decide) ?_
  refine lv_iload_n hx hb dX10_freshAdd_2 rfl (lv_at hl 1 rfl) ?_
  refine W.callR (W.runS (As := [.int p0]) (rest := [.int 32]) ⟨hx, hb, hml, hown, hts⟩ (c_X10_nodeOf l p0) (cwS 1 hts (gdS ml_X10_160 st_X10_nodeOf in_X10 co_X10_nodeOf rfl) rfl rfl rfl (by decide +kernel) ⟨Nat.le_of_ble_eq_true rfl, Nat.le_of_ble_eq_true rfl⟩) preEq rfl rfl hl.1 rfl (lv_room (Nat.le_of_ble_eq_true rfl)) dX10_freshAdd_3 ⟨Nat.le_of_ble_eq_true rfl, Nat.le_of_ble_eq_true rfl⟩) ?_
  refine W.eq (g2 := F0 m 6 ls [.int (p0 - p0 / 2 * 2), .int 32]) (by rfl) ?_
  refine lv_topi (fun x_2 ex_2 => ?_)
  have fx_2 : x_2.toInt = p0.toInt % 2 := by rw [ex_2]; exact s_rem (x := p0) 2 (by decide) (by decide) (by omega)
  refine lv_imul hx hb dX10_freshAdd_6 ?_
  refine lv_topi (fun x_3 ex_3 => ?_)
  have fx_3 : x_3.toInt = 32 * x_2.toInt := by rw [ex_3]; exact s_mulK i_32 (by omega) (by omega)
  refine lv_aload_n hx hb dX10_freshAdd_7 rfl (lv_at hl 0 rfl) ?_
  refine va_get (D := DG E) (ci := 10) (v := .ref (rf 46)) (C := RX10) (T := TX10) (N := 49) hx hb hts iw_X10 hown hK.1 (va_one hM.1) 0 rfl rfl 46 (by decide) (hts _ fl_X10_134) (fun _ h9 => h9) rfl dX10_freshAdd_8 ?_
  refine lv_bipush (v := 24) hx hb dX10_freshAdd_11 (by decide) ?_
  have ha_4 : va_at (DG E) vwCl (rf 46, .inl (E.2.2 0, 25, .inl (A 46))) _ := hM.2 46 (by decide) (by decide) (by decide)
  refine va_iald (D := DG E) hx hb hK.1 (va_one ha_4) 0 0 rfl rfl (show vp_in (24) 25 from vp_in_iff.mpr ⟨by decide, by decide⟩) dX10_freshAdd_13 ?_
  refine W.eq (g2 := F0 m 14 ls [.int ((A 46) 24), .int x_3]) (by rfl) ?_
  have q_5 : -1 ≤ ((A 46) 24).toInt := (hI7 24 (by decide)).2.2.2.2.2.2.1
  have q_6 : ((A 46) 24).toInt ≤ 60 := (hI7 24 (by decide)).2.2.2.2.2.2.2.1
  refine lv_iadd hx hb dX10_freshAdd_14 ?_
  refine lv_topi (fun x_7 ex_7 => ?_)
  have fx_7 : x_7.toInt = x_3.toInt + ((A 46) 24).toInt := by have h9 := s_add (x := x_3) (y := ((A 46) 24)) (by omega) (by omega); rw [ex_7]; exact h9
  refine lv_istore_n (lv' := [(2, .int x_7), (0, .ref h0), (1, .int p0)]) hx hb dX10_freshAdd_15 rfl hl (by decide) rfl (fun ls hl => ?_)
  refine lv_aload_n hx hb dX10_freshAdd_16 rfl (lv_at hl 1 rfl) ?_
  refine va_get (D := DG E) (ci := 10) (v := .ref (rf 4)) (C := RX10) (T := TX10) (N := 49) hx hb hts iw_X10 hown hK.1 (va_one hM.1) 0 rfl rfl 4 (by decide) (hts _ fl_X10_7) (fun _ h9 => h9) rfl dX10_freshAdd_17 ?_
  refine lv_iload_n hx hb dX10_freshAdd_20 rfl (lv_at hl 0 rfl) ?_
  have hi_8 : vp_in x_7 64 := vp_in_iff.mpr (by omega)
  have ha_9 : va_at (DG E) vwCl (rf 4, .inl (E.2.2 0, 64, .inl (A 4))) _ := hM.2 4 (by decide) (by decide) (by decide)
  obtain ⟨n_10, hn_10, en_10⟩ := s_nat (x := x_7) (by omega)
  refine va_iald (D := DG E) hx hb hK.1 (va_one ha_9) 0 0 rfl rfl hi_8 dX10_freshAdd_21 ?_
  refine W.eq (g2 := F0 m 22 ls [.int ((A 4) n_10)]) (by rw [en_10]) ?_
  refine lv_istore_n (lv' := [(3, .int ((A 4) n_10)), (2, .int x_7), (0, .ref h0), (1, .int p0)]) hx hb dX10_freshAdd_22 rfl hl (by decide) rfl (fun ls hl => ?_)
  refine lv_aload_n hx hb dX10_freshAdd_23 rfl (lv_at hl 2 rfl) ?_
  refine va_get (D := DG E) (ci := 10) (v := .ref (rf 38)) (C := RX10) (T := TX10) (N := 49) hx hb hts iw_X10 hown hK.1 (va_one hM.1) 0 rfl rfl 38 (by decide) (hts _ fl_X10_113) (fun _ h9 => h9) rfl dX10_freshAdd_24 ?_
  refine lv_iconst (v := 2) hx hb dX10_freshAdd_27 (by decide) ?_
  refine lv_iload_n hx hb dX10_freshAdd_28 rfl (lv_at hl 3 rfl) ?_
  refine lv_imul hx hb dX10_freshAdd_29 ?_
  refine lv_topi (fun x_11 ex_11 => ?_)
  have fx_11 : x_11.toInt = 2 * p0.toInt := by rw [ex_11]; exact s_mulK i_2 (by omega) (by omega)
  refine lv_iconst (v := 1) hx hb dX10_freshAdd_30 (by decide) ?_
  refine lv_iadd hx hb dX10_freshAdd_31 ?_
  refine lv_topi (fun x_12 ex_12 => ?_)
  have fx_12 : x_12.toInt = x_11.toInt + 1 := by have h9 := s_add (x := x_11) (y := 1) (by rw [i_1]; omega) (by rw [i_1]; omega); rw [i_1] at h9; rw [ex_12]; exact h9
  refine lv_aload_n hx hb dX10_freshAdd_32 rfl (lv_at hl 2 rfl) ?_
  refine va_get (D := DG E) (ci := 10) (v := .ref (rf 38)) (C := RX10) (T := TX10) (N := 49) hx hb hts iw_X10 hown hK.1 (va_one hM.1) 0 rfl rfl 38 (by decide) (hts _ fl_X10_113) (fun _ h9 => h9) rfl dX10_freshAdd_33 ?_
  refine lv_iconst (v := 2) hx hb dX10_freshAdd_36 (by decide) ?_
  refine lv_iload_n hx hb dX10_freshAdd_37 rfl (lv_at hl 3 rfl) ?_
  refine lv_imul hx hb dX10_freshAdd_38 ?_
  refine W.eq (g2 := F0 m 39 ls [.int x_11, .ref (rf 38), .int x_12, .ref (rf 38)]) (by rw [ex_11]) ?_
  have hi_13 : vp_in x_11 8 := vp_in_iff.mpr (by omega)
  have ha_14 : va_at (DG E) vwCl (rf 38, .inl (E.2.2 0, 8, .inl (A 38))) _ := hM.2 38 (by decide) (by decide) (by decide)
  obtain ⟨n_15, hn_15, en_15⟩ := s_nat (x := x_11) (by omega)
  refine va_iald (D := DG E) hx hb hK.1 (va_one ha_14) 0 0 rfl rfl hi_13 dX10_freshAdd_39 ?_
  refine W.eq (g2 := F0 m 40 ls [.int ((A 38) n_15), .int x_12, .ref (rf 38)]) (by rw [en_15]) ?_
  have hi_16 : vp_in x_12 8 := vp_in_iff.mpr (by omega)
  have ha_17 : va_at (DG E) vwCl (rf 38, .inl (E.2.2 0, 8, .inl (A 38))) _ := hM.2 38 (by decide) (by decide) (by decide)
  obtain ⟨n_18, hn_18, en_18⟩ := s_nat (x := x_12) (by omega)
  refine rr_iast (D := DG E) hx hb hK.1 0 ha_17 hS (by show G (rf 38) ≠ 0; rw [hR.2 38 (by decide) (by decide) (by decide)]; decide) rfl hi_16 dX10_freshAdd_40 (fun H locs hn ho hz hS => ?_)
  rw [en_18] at hn
  obtain ⟨g_17, eg_17⟩ : ∃ z : Nat → Int32, z = upd (A 38) n_18 ((A 38) n_15) := ⟨_, rfl⟩
  have sg_17 : g_17 n_18 = ((A 38) n_15) := by rw [eg_17]; exact upd_s
  have ng_17 : ∀ k, k ≠ n_18 → g_17 k = (A 38) k := fun k hk => by rw [eg_17]; exact upd_n hk
  have hn : va_at (DG E) vwCl (rf 38, .inl (E.2.2 0, 8, .inl g_17)) H := by rw [eg_17]; exact hn
  have hM : MH E h0 rf t0 t1 t2 (uA A 38 g_17) cd pk H := hM.w hR 38 (by decide) (by decide) (by decide) hn ho
  refine lv_aload_n hx hb dX10_freshAdd_41 rfl (lv_at hl 2 rfl) ?_
  refine va_get (D := DG E) (ci := 10) (v := .ref (rf 39)) (C := RX10) (T := TX10) (N := 49) hx hb hts iw_X10 hown hK.1 (va_one hM.1) 0 rfl rfl 39 (by decide) (hts _ fl_X10_116) (fun _ h9 => h9) rfl dX10_freshAdd_42 ?_
  refine lv_iconst (v := 2) hx hb dX10_freshAdd_45 (by decide) ?_
  refine lv_iload_n hx hb dX10_freshAdd_46 rfl (lv_at hl 3 rfl) ?_
  refine lv_imul hx hb dX10_freshAdd_47 ?_
  refine W.eq (g2 := F0 m 48 ls [.int x_11, .ref (rf 39)]) (by rw [ex_11]) ?_
  refine lv_iconst (v := 1) hx hb dX10_freshAdd_48 (by decide) ?_
  refine lv_iadd hx hb dX10_freshAdd_49 ?_
  refine W.eq (g2 := F0 m 50 ls [.int x_12, .ref (rf 39)]) (by rw [ex_12]) ?_
  refine lv_aload_n hx hb dX10_freshAdd_50 rfl (lv_at hl 2 rfl) ?_
  refine va_get (D := DG E) (ci := 10) (v := .ref (rf 39)) (C := RX10) (T := TX10) (N := 49) hx hb hts iw_X10 hown hK.1 (va_one hM.1) 0 rfl rfl 39 (by decide) (hts _ fl_X10_116) (fun _ h9 => h9) rfl dX10_freshAdd_51 ?_
  refine lv_iconst (v := 2) hx hb dX10_freshAdd_54 (by decide) ?_
  refine lv_iload_n hx hb dX10_freshAdd_55 rfl (lv_at hl 3 rfl) ?_
  refine lv_imul hx hb dX10_freshAdd_56 ?_
  refine W.eq (g2 := F0 m 57 ls [.int x_11, .ref (rf 39), .int x_12, .ref (rf 39)]) (by rw [ex_11]) ?_
  have ha_19 : va_at (DG E) vwCl (rf 39, .inl (E.2.2 0, 8, .inl (A 39))) _ := hM.2 39 (by decide) (by decide) (by decide)
  refine va_iald (D := DG E) hx hb hK.1 (va_one ha_19) 0 0 rfl rfl hi_13 dX10_freshAdd_57 ?_
  refine W.eq (g2 := F0 m 58 ls [.int ((A 39) n_15), .int x_12, .ref (rf 39)]) (by rw [en_15]) ?_
  have ha_20 : va_at (DG E) vwCl (rf 39, .inl (E.2.2 0, 8, .inl (A 39))) _ := hM.2 39 (by decide) (by decide) (by decide)
  refine rr_iast (D := DG E) hx hb hK.1 0 ha_20 hS (by show G (rf 39) ≠ 0; rw [hR.2 39 (by decide) (by decide) (by decide)]; decide) rfl hi_16 dX10_freshAdd_58 (fun H locs hn ho hz hS => ?_)
  rw [en_18] at hn
  obtain ⟨g_20, eg_20⟩ : ∃ z : Nat → Int32, z = upd (A 39) n_18 ((A 39) n_15) := ⟨_, rfl⟩
  have sg_20 : g_20 n_18 = ((A 39) n_15) := by rw [eg_20]; exact upd_s
  have ng_20 : ∀ k, k ≠ n_18 → g_20 k = (A 39) k := fun k hk => by rw [eg_20]; exact upd_n hk
  have hn : va_at (DG E) vwCl (rf 39, .inl (E.2.2 0, 8, .inl g_20)) H := by rw [eg_20]; exact hn
  have hM : MH E h0 rf t0 t1 t2 (uA (uA A 38 g_17) 39 g_20) cd pk H := hM.w hR 39 (by decide) (by decide) (by decide) hn ho
  refine lv_aload_n hx hb dX10_freshAdd_59 rfl (lv_at hl 2 rfl) ?_
  refine va_get (D := DG E) (ci := 10) (v := .ref (rf 38)) (C := RX10) (T := TX10) (N := 49) hx hb hts iw_X10 hown hK.1 (va_one hM.1) 0 rfl rfl 38 (by decide) (hts _ fl_X10_113) (fun _ h9 => h9) rfl dX10_freshAdd_60 ?_
  refine lv_iconst (v := 2) hx hb dX10_freshAdd_63 (by decide) ?_
  refine lv_iload_n hx hb dX10_freshAdd_64 rfl (lv_at hl 3 rfl) ?_
  refine lv_imul hx hb dX10_freshAdd_65 ?_
  refine W.eq (g2 := F0 m 66 ls [.int x_11, .ref (rf 38)]) (by rw [ex_11]) ?_
  refine lv_aload_n hx hb dX10_freshAdd_66 rfl (lv_at hl 2 rfl) ?_
  refine va_get (D := DG E) (ci := 10) (v := .ref (rf 43)) (C := RX10) (T := TX10) (N := 49) hx hb hts iw_X10 hown hK.1 (va_one hM.1) 0 rfl rfl 43 (by decide) (hts _ fl_X10_125) (fun _ h9 => h9) rfl dX10_freshAdd_67 ?_
  refine lv_bipush (v := 24) hx hb dX10_freshAdd_70 (by decide) ?_
  have ha_21 : va_at (DG E) vwCl (rf 43, .inl (E.2.2 0, 25, .inl (A 43))) _ := hM.2 43 (by decide) (by decide) (by decide)
  refine va_iald (D := DG E) hx hb hK.1 (va_one ha_21) 0 0 rfl rfl (show vp_in (24) 25 from vp_in_iff.mpr ⟨by decide, by decide⟩) dX10_freshAdd_72 ?_
  refine W.eq (g2 := F0 m 73 ls [.int ((A 43) 24), .int x_11, .ref (rf 38)]) (by rfl) ?_
  have ha_22 : va_at (DG E) vwCl (rf 38, .inl (E.2.2 0, 8, .inl g_17)) _ := hM.2 38 (by decide) (by decide) (by decide)
  refine rr_iast (D := DG E) hx hb hK.1 0 ha_22 hS (by show G (rf 38) ≠ 0; rw [hR.2 38 (by decide) (by decide) (by decide)]; decide) rfl hi_13 dX10_freshAdd_73 (fun H locs hn ho hz hS => ?_)
  rw [en_15] at hn
  obtain ⟨g_22, eg_22⟩ : ∃ z : Nat → Int32, z = upd g_17 n_15 ((A 43) 24) := ⟨_, rfl⟩
  have sg_22 : g_22 n_15 = ((A 43) 24) := by rw [eg_22]; exact upd_s
  have ng_22 : ∀ k, k ≠ n_15 → g_22 k = g_17 k := fun k hk => by rw [eg_22]; exact upd_n hk
  have hn : va_at (DG E) vwCl (rf 38, .inl (E.2.2 0, 8, .inl g_22)) H := by rw [eg_22]; exact hn
  have hM : MH E h0 rf t0 t1 t2 (uA (uA (uA A 38 g_17) 39 g_20) 38 g_22) cd pk H := hM.w hR 38 (by decide) (by decide) (by decide) hn ho
  refine lv_aload_n hx hb dX10_freshAdd_74 rfl (lv_at hl 2 rfl) ?_
  refine va_get (D := DG E) (ci := 10) (v := .ref (rf 39)) (C := RX10) (T := TX10) (N := 49) hx hb hts iw_X10 hown hK.1 (va_one hM.1) 0 rfl rfl 39 (by decide) (hts _ fl_X10_116) (fun _ h9 => h9) rfl dX10_freshAdd_75 ?_
  refine lv_iconst (v := 2) hx hb dX10_freshAdd_78 (by decide) ?_
  refine lv_iload_n hx hb dX10_freshAdd_79 rfl (lv_at hl 3 rfl) ?_
  refine lv_imul hx hb dX10_freshAdd_80 ?_
  refine W.eq (g2 := F0 m 81 ls [.int x_11, .ref (rf 39)]) (by rw [ex_11]) ?_
  refine lv_iload_n hx hb dX10_freshAdd_81 rfl (lv_at hl 0 rfl) ?_
  have ha_23 : va_at (DG E) vwCl (rf 39, .inl (E.2.2 0, 8, .inl g_20)) _ := hM.2 39 (by decide) (by decide) (by decide)
  refine rr_iast (D := DG E) hx hb hK.1 0 ha_23 hS (by show G (rf 39) ≠ 0; rw [hR.2 39 (by decide) (by decide) (by decide)]; decide) rfl hi_13 dX10_freshAdd_82 (fun H locs hn ho hz hS => ?_)
  rw [en_15] at hn
  obtain ⟨g_23, eg_23⟩ : ∃ z : Nat → Int32, z = upd g_20 n_15 ((A 4) n_10) := ⟨_, rfl⟩
  have sg_23 : g_23 n_15 = ((A 4) n_10) := by rw [eg_23]; exact upd_s
  have ng_23 : ∀ k, k ≠ n_15 → g_23 k = g_20 k := fun k hk => by rw [eg_23]; exact upd_n hk
  have hn : va_at (DG E) vwCl (rf 39, .inl (E.2.2 0, 8, .inl g_23)) H := by rw [eg_23]; exact hn
  have hM : MH E h0 rf t0 t1 t2 (uA (uA (uA (uA A 38 g_17) 39 g_20) 38 g_22) 39 g_23) cd pk H := hM.w hR 39 (by decide) (by decide) (by decide) hn ho
  refine lv_aload_n hx hb dX10_freshAdd_83 rfl (lv_at hl 2 rfl) ?_
  refine va_get (D := DG E) (ci := 10) (v := .ref (rf 37)) (C := RX10) (T := TX10) (N := 49) hx hb hts iw_X10 hown hK.1 (va_one hM.1) 0 rfl rfl 37 (by decide) (hts _ fl_X10_110) (fun _ h9 => h9) rfl dX10_freshAdd_84 ?_
  refine lv_iload_n hx hb dX10_freshAdd_87 rfl (lv_at hl 3 rfl) ?_
  refine W.jv (P := fun v_24 : Int32 => (0 ≤ v_24.toInt ∧ v_24.toInt ≤ 2) ∧ HID (((2 ≤ ((A 37) n_1).toInt) ∧ v_24 = 2) ∨ ((¬ 2 ≤ ((A 37) n_1).toInt) ∧ ∃ x_32 : Int32, (x_32 = ((A 37) n_1) + 1) ∧ (x_32.toInt = ((A 37) n_1).toInt + 1) ∧ v_24 = x_32))) (f := fun v_24 => F0 m 110 ls ([.int v_24, .int p0, .ref (rf 37)])) (fun v_24 hv_24 => ?_) (fun key_24 => ?_)
  · have hv_24_0 : 0 ≤ v_24.toInt ∧ v_24.toInt ≤ 2 := hv_24.1
    have hi_33 : vp_in p0 4 := vp_in_iff.mpr (by omega)
    have ha_34 : va_at (DG E) vwCl (rf 37, .inl (E.2.2 0, 4, .inl (A 37))) _ := hM.2 37 (by decide) (by decide) (by decide)
    refine rr_iast (D := DG E) hx hb hK.1 0 ha_34 hS (by show G (rf 37) ≠ 0; rw [hR.2 37 (by decide) (by decide) (by decide)]; decide) rfl hi_33 dX10_freshAdd_110 (fun H locs hn ho hz hS => ?_)
    rw [en_1] at hn
    obtain ⟨g_34, eg_34⟩ : ∃ z : Nat → Int32, z = upd (A 37) n_1 v_24 := ⟨_, rfl⟩
    have sg_34 : g_34 n_1 = v_24 := by rw [eg_34]; exact upd_s
    have ng_34 : ∀ k, k ≠ n_1 → g_34 k = (A 37) k := fun k hk => by rw [eg_34]; exact upd_n hk
    have hn : va_at (DG E) vwCl (rf 37, .inl (E.2.2 0, 4, .inl g_34)) H := by rw [eg_34]; exact hn
    have hM : MH E h0 rf t0 t1 t2 (uA (uA (uA (uA (uA A 38 g_17) 39 g_20) 38 g_22) 39 g_23) 37 g_34) cd pk H := hM.w hR 37 (by decide) (by decide) (by decide) hn ho
    refine lv_aload_n hx hb dX10_freshAdd_111 rfl (lv_at hl 2 rfl) ?_
    refine va_get (D := DG E) (ci := 10) (v := .ref (rf 4)) (C := RX10) (T := TX10) (N := 49) hx hb hts iw_X10 hown hK.1 (va_one hM.1) 0 rfl rfl 4 (by decide) (hts _ fl_X10_7) (fun _ h9 => h9) rfl dX10_freshAdd_112 ?_
    refine lv_iload_n hx hb dX10_freshAdd_115 rfl (lv_at hl 1 rfl) ?_
    refine lv_iload_n hx hb dX10_freshAdd_116 rfl (lv_at hl 0 rfl) ?_
    refine lv_aload_n hx hb dX10_freshAdd_117 rfl (lv_at hl 2 rfl) ?_
    refine va_get (D := DG E) (ci := 10) (v := .ref (rf 47)) (C := RX10) (T := TX10) (N := 49) hx hb hts iw_X10 hown hK.1 (va_one hM.1) 0 rfl rfl 47 (by decide) (hts _ fl_X10_137) (fun _ h9 => h9) rfl dX10_freshAdd_118 ?_
    refine lv_bipush (v := 24) hx hb dX10_freshAdd_121 (by decide) ?_
    have ha_35 : va_at (DG E) vwCl (rf 47, .inl (E.2.2 0, 25, .inl (A 47))) _ := hM.2 47 (by decide) (by decide) (by decide)
    refine va_iald (D := DG E) hx hb hK.1 (va_one ha_35) 0 0 rfl rfl (show vp_in (24) 25 from vp_in_iff.mpr ⟨by decide, by decide⟩) dX10_freshAdd_123 ?_
    refine W.eq (g2 := F0 m 124 ls [.int ((A 47) 24), .int ((A 4) n_10), .int x_7, .ref (rf 4)]) (by rfl) ?_
    refine lv_iadd hx hb dX10_freshAdd_124 ?_
    refine lv_topi (fun x_36 ex_36 => ?_)
    have ha_37 : va_at (DG E) vwCl (rf 4, .inl (E.2.2 0, 64, .inl (A 4))) _ := hM.2 4 (by decide) (by decide) (by decide)
    refine rr_iast (D := DG E) hx hb hK.1 0 ha_37 hS (by show G (rf 4) ≠ 0; rw [hR.2 4 (by decide) (by decide) (by decide)]; decide) rfl hi_8 dX10_freshAdd_125 (fun H locs hn ho hz hS => ?_)
    rw [en_10] at hn
    obtain ⟨g_37, eg_37⟩ : ∃ z : Nat → Int32, z = upd (A 4) n_10 x_36 := ⟨_, rfl⟩
    have sg_37 : g_37 n_10 = x_36 := by rw [eg_37]; exact upd_s
    have ng_37 : ∀ k, k ≠ n_10 → g_37 k = (A 4) k := fun k hk => by rw [eg_37]; exact upd_n hk
    have hn : va_at (DG E) vwCl (rf 4, .inl (E.2.2 0, 64, .inl g_37)) H := by rw [eg_37]; exact hn
    have hM : MH E h0 rf t0 t1 t2 (uA (uA (uA (uA (uA (uA A 38 g_17) 39 g_20) 38 g_22) 39 g_23) 37 g_34) 4 g_37) cd pk H := hM.w hR 4 (by decide) (by decide) (by decide) hn ho
    refine lv_aload_n hx hb dX10_freshAdd_126 rfl (lv_at hl 2 rfl) ?_
    refine lv_iload_n hx hb dX10_freshAdd_127 rfl (lv_at hl 3 rfl) ?_
    refine lv_iload_n hx hb dX10_freshAdd_128 rfl (lv_at hl 0 rfl) ?_
    refine va_callv (rnV (fun H => MH E h0 rf t0 t1 t2 (uA (uA (uA (uA (uA (uA A 38 g_17) 39 g_20) 38 g_22) 39 g_23) 37 g_34) 4 g_37) cd pk H) (As := [.int p0, .int ((A 4) n_10)]) (rest := []) ⟨hx, hb, hml, hown, hts⟩ (u_X10_replyOld l E z0 G hGz h0 rf hR t0 t1 t2 (uA (uA (uA (uA (uA (uA A 38 g_17) 39 g_20) 38 g_22) 39 g_23) 37 g_34) 4 g_37) cd pk p0 ((A 4) n_10) hI7 (show 0 ≤ p0.toInt ∧ p0.toInt ≤ 3 from by first | decide | omega) (show 0 ≤ pk.toInt ∧ pk.toInt ≤ 24 from by first | decide | omega)) (cwV 2 hts (gdV ml_X10_240 im_X10_replyOld se_X10_X10_replyOld in_X10 co_X10_replyOld rfl) rfl rfl rfl (by decide +kernel) ⟨Nat.le_of_ble_eq_true rfl, Nat.le_of_ble_eq_true rfl⟩) hM (fun U hU hW => hK.go hW hS hAz hU) (va_recv hK.1 (va_one hM.1) (ci := 10) (q0 := 0) rfl rfl) rfl rfl hl.1 rfl (lv_room (Nat.le_of_ble_eq_true rfl)) dX10_freshAdd_129 ⟨Nat.le_of_ble_eq_true rfl, Nat.le_of_ble_eq_true rfl⟩) hS (fun q _ h => h) (fun q h => h) (fun ur_38 t H locs ht hvm hwr_38 hB hz hk hS => ?_)
    have hM : MH E h0 rf t0 t1 t2 (uA (uA (uA (uA (uA (uA (uA (uA (uA (uA (uA (uA (uA (uA A 38 g_17) 39 g_20) 38 g_22) 39 g_23) 37 g_34) 4 g_37) 41 (ur_38.1)) 42 (ur_38.2.1)) 43 (ur_38.2.2.1)) 44 (ur_38.2.2.2.1)) 45 (ur_38.2.2.2.2.1)) 46 (ur_38.2.2.2.2.2.1)) 47 (ur_38.2.2.2.2.2.2.1)) 48 (ur_38.2.2.2.2.2.2.2.1)) cd ur_38.2.2.2.2.2.2.2.2 H := by rw [ht] at hB; exact hB
    have hDr_38 : D_X10_replyOld (uA (uA (uA (uA (uA (uA A 38 g_17) 39 g_20) 38 g_22) 39 g_23) 37 g_34) 4 g_37) cd pk p0 ((A 4) n_10) (uA (uA (uA (uA (uA (uA (uA (uA (uA (uA (uA (uA (uA (uA A 38 g_17) 39 g_20) 38 g_22) 39 g_23) 37 g_34) 4 g_37) 41 (ur_38.1)) 42 (ur_38.2.1)) 43 (ur_38.2.2.1)) 44 (ur_38.2.2.2.1)) 45 (ur_38.2.2.2.2.1)) 46 (ur_38.2.2.2.2.2.1)) 47 (ur_38.2.2.2.2.2.2.1)) 48 (ur_38.2.2.2.2.2.2.2.1)) cd (ur_38.2.2.2.2.2.2.2.2) := hwr_38.2.2.2
    have hpr_38_0 : I7 (ur_38.1) (ur_38.2.1) (ur_38.2.2.2.1) (ur_38.2.2.2.2.1) (ur_38.2.2.2.2.2.1) := hwr_38.1
    have hpr_38_1 : 0 ≤ ur_38.2.2.2.2.2.2.2.2.toInt ∧ ur_38.2.2.2.2.2.2.2.2.toInt ≤ 24 := hwr_38.2.1
    have hpr_38_2 : ((ur_38.2.2.2.1) 24).toInt = ((A 44) 24).toInt ∧ ((ur_38.2.2.2.2.2.1) 24).toInt = ((A 46) 24).toInt := hwr_38.2.2.1
    refine lv_aload_n hx hb dX10_freshAdd_132 rfl (lv_at hl 2 rfl) ?_
    refine lv_iload_n hx hb dX10_freshAdd_133 rfl (lv_at hl 3 rfl) ?_
    refine lv_iconst (v := 1) hx hb dX10_freshAdd_134 (by decide) ?_
    refine va_callv (rnV (fun H => MH E h0 rf t0 t1 t2 (uA (uA (uA (uA (uA (uA (uA (uA (uA (uA (uA (uA (uA (uA A 38 g_17) 39 g_20) 38 g_22) 39 g_23) 37 g_34) 4 g_37) 41 (ur_38.1)) 42 (ur_38.2.1)) 43 (ur_38.2.2.1)) 44 (ur_38.2.2.2.1)) 45 (ur_38.2.2.2.2.1)) 46 (ur_38.2.2.2.2.2.1)) 47 (ur_38.2.2.2.2.2.2.1)) 48 (ur_38.2.2.2.2.2.2.2.1)) cd ur_38.2.2.2.2.2.2.2.2 H) (As := [.int p0, .int 1]) (rest := []) ⟨hx, hb, hml, hown, hts⟩ (u_X10_accept l E z0 G hGz h0 rf hR t0 t1 t2 (uA (uA (uA (uA (uA (uA (uA (uA (uA (uA (uA (uA (uA (uA A 38 g_17) 39 g_20) 38 g_22) 39 g_23) 37 g_34) 4 g_37) 41 (ur_38.1)) 42 (ur_38.2.1)) 43 (ur_38.2.2.1)) 44 (ur_38.2.2.2.1)) 45 (ur_38.2.2.2.2.1)) 46 (ur_38.2.2.2.2.2.1)) 47 (ur_38.2.2.2.2.2.2.1)) 48 (ur_38.2.2.2.2.2.2.2.1)) cd ur_38.2.2.2.2.2.2.2.2 p0 1 (show 0 ≤ p0.toInt ∧ p0.toInt ≤ 3 from by have := i_1; first | decide | omega)) (cwV 2 hts (gdV ml_X10_231 im_X10_accept se_X10_X10_accept in_X10 co_X10_accept rfl) rfl rfl rfl (by decide +kernel) ⟨Nat.le_of_ble_eq_true rfl, Nat.le_of_ble_eq_true rfl⟩) hM (fun U hU hW => hK.go hW hS hAz hU) (va_recv hK.1 (va_one hM.1) (ci := 10) (q0 := 0) rfl rfl) rfl rfl hl.1 rfl (lv_room (Nat.le_of_ble_eq_true rfl)) dX10_freshAdd_135 ⟨Nat.le_of_ble_eq_true rfl, Nat.le_of_ble_eq_true rfl⟩) hS (fun q _ h => h) (fun q h => h) (fun ur_39 t H locs ht hvm hwr_39 hB hz hk hS => ?_)
    have hM : MH E h0 rf t0 t1 t2 (uA (uA (uA (uA (uA (uA (uA (uA (uA (uA (uA (uA (uA (uA (uA (uA A 38 g_17) 39 g_20) 38 g_22) 39 g_23) 37 g_34) 4 g_37) 41 (ur_38.1)) 42 (ur_38.2.1)) 43 (ur_38.2.2.1)) 44 (ur_38.2.2.2.1)) 45 (ur_38.2.2.2.2.1)) 46 (ur_38.2.2.2.2.2.1)) 47 (ur_38.2.2.2.2.2.2.1)) 48 (ur_38.2.2.2.2.2.2.2.1)) 14 (ur_39.1)) 19 (ur_39.2)) cd ur_38.2.2.2.2.2.2.2.2 H := by rw [ht] at hB; exact hB
    have hDr_39 : D_X10_accept (uA (uA (uA (uA (uA (uA (uA (uA (uA (uA (uA (uA (uA (uA A 38 g_17) 39 g_20) 38 g_22) 39 g_23) 37 g_34) 4 g_37) 41 (ur_38.1)) 42 (ur_38.2.1)) 43 (ur_38.2.2.1)) 44 (ur_38.2.2.2.1)) 45 (ur_38.2.2.2.2.1)) 46 (ur_38.2.2.2.2.2.1)) 47 (ur_38.2.2.2.2.2.2.1)) 48 (ur_38.2.2.2.2.2.2.2.1)) cd (ur_38.2.2.2.2.2.2.2.2) p0 (1 : Int32) (uA (uA (uA (uA (uA (uA (uA (uA (uA (uA (uA (uA (uA (uA (uA (uA A 38 g_17) 39 g_20) 38 g_22) 39 g_23) 37 g_34) 4 g_37) 41 (ur_38.1)) 42 (ur_38.2.1)) 43 (ur_38.2.2.1)) 44 (ur_38.2.2.2.1)) 45 (ur_38.2.2.2.2.1)) 46 (ur_38.2.2.2.2.2.1)) 47 (ur_38.2.2.2.2.2.2.1)) 48 (ur_38.2.2.2.2.2.2.2.1)) 14 (ur_39.1)) 19 (ur_39.2)) cd (ur_38.2.2.2.2.2.2.2.2) := hwr_39
    have := i_1
    have hI8_40 : I8 (A 20) (A 30) g_34 (A 36) := by
      intro n9 hn9
      have h9 : 0 ≤ ((A 20) n9).toInt ∧ ((A 20) n9).toInt ≤ 4 ∧ 0 ≤ ((A 30) n9).toInt ∧ ((A 30) n9).toInt ≤ 4 ∧ 0 ≤ ((A 37) n9).toInt ∧ ((A 37) n9).toInt ≤ 2 ∧ (((A 36) n9).toInt = 0 ∨ 1 ≤ ((A 30) n9).toInt) := hI8 n9 hn9
      show 0 ≤ ((A 20) n9).toInt ∧ ((A 20) n9).toInt ≤ 4 ∧ 0 ≤ ((A 30) n9).toInt ∧ ((A 30) n9).toInt ≤ 4 ∧ 0 ≤ (g_34 n9).toInt ∧ (g_34 n9).toInt ≤ 2 ∧ (((A 36) n9).toInt = 0 ∨ 1 ≤ ((A 30) n9).toInt)
      by_cases ezn_1 : n9 = n_1
      · rw [ezn_1] at h9 ⊢
        rw [sg_34]
        exact ⟨by first | exact h9.1 | omega, by first | exact h9.2.1 | omega, by first | exact h9.2.2.1 | omega, by first | exact h9.2.2.2.1 | omega, by first | exact h9.2.2.2.2.1 | omega, by first | exact h9.2.2.2.2.2.1 | omega, by first | exact h9.2.2.2.2.2.2 | omega⟩
      · rw [ng_34 n9 ezn_1]
        exact h9
    exact W.vret hx hb hr (fun t ht hW => ⟨⟨(g_37, (ur_39.1), (ur_39.2), g_34, g_22, g_23, (ur_38.1), (ur_38.2.1), (ur_38.2.2.1), (ur_38.2.2.2.1), (ur_38.2.2.2.2.1), (ur_38.2.2.2.2.2.1), (ur_38.2.2.2.2.2.2.1), (ur_38.2.2.2.2.2.2.2.1), ur_38.2.2.2.2.2.2.2.2), rfl, ⟨hpr_38_0, hI8_40, (by show 0 ≤ ur_38.2.2.2.2.2.2.2.2.toInt ∧ ur_38.2.2.2.2.2.2.2.2.toInt ≤ 24; omega), ⟨n_1, hn_1, x_2, ex_2, fx_2, x_3, ex_3, fx_3, x_7, ex_7, fx_7, n_10, hn_10, x_11, ex_11, fx_11, x_12, ex_12, fx_12, n_15, hn_15, n_18, hn_18, g_17, eg_17, g_20, eg_20, g_22, eg_22, g_23, eg_23, v_24, hv_24.2, g_34, eg_34, x_36, ex_36, g_37, eg_37, ur_38, hDr_38, hpr_38_0, hpr_38_1, hpr_38_2, ur_39, hDr_39, rfl, rfl, rfl⟩⟩, (by show MH E h0 rf t0 t1 t2 (uA (uA (uA (uA (uA (uA (uA (uA (uA (uA (uA (uA (uA (uA A 4 g_37) 14 (ur_39.1)) 19 (ur_39.2)) 37 g_34) 38 g_22) 39 g_23) 41 (ur_38.1)) 42 (ur_38.2.1)) 43 (ur_38.2.2.1)) 44 (ur_38.2.2.2.1)) 45 (ur_38.2.2.2.2.1)) 46 (ur_38.2.2.2.2.2.1)) 47 (ur_38.2.2.2.2.2.2.1)) 48 (ur_38.2.2.2.2.2.2.2.1)) cd ur_38.2.2.2.2.2.2.2.2 t.heap; rw [ht]; exact hM.cge (funext fun j => (cgj j 48 rfl (fun a0 => (cgj j 47 rfl (fun a1 => (cgj j 46 rfl (fun a2 => (cgj j 45 rfl (fun a3 => (cgj j 44 rfl (fun a4 => (cgj j 43 rfl (fun a5 => (cgj j 42 rfl (fun a6 => (cgj j 41 rfl (fun a7 => (cgj j 39 rfl (fun a8 => (cgj j 38 rfl (fun a9 => (cgj j 37 rfl (fun a10 => (cgj j 19 rfl (fun a11 => (cgj j 14 rfl (fun a12 => (cgj j 4 rfl (fun a13 => (by simp only [uA_n a0, uA_n a1, uA_n a2, uA_n a3, uA_n a4, uA_n a5, uA_n a6, uA_n a7, uA_n a8, uA_n a9, uA_n a10, uA_n a11, uA_n a12, uA_n a13])))))))))))))))))))))))))))))))⟩, hS.F ht⟩) hS.2.2 dX10_freshAdd_138
  · refine lv_aload_n hx hb dX10_freshAdd_88 rfl (lv_at hl 2 rfl) ?_
    refine va_get (D := DG E) (ci := 10) (v := .ref (rf 37)) (C := RX10) (T := TX10) (N := 49) hx hb hts iw_X10 hown hK.1 (va_one hM.1) 0 rfl rfl 37 (by decide) (hts _ fl_X10_110) (fun _ h9 => h9) rfl dX10_freshAdd_89 ?_
    refine lv_iload_n hx hb dX10_freshAdd_92 rfl (lv_at hl 3 rfl) ?_
    have hi_25 : vp_in p0 4 := vp_in_iff.mpr (by omega)
    have ha_26 : va_at (DG E) vwCl (rf 37, .inl (E.2.2 0, 4, .inl (A 37))) _ := hM.2 37 (by decide) (by decide) (by decide)
    refine va_iald (D := DG E) hx hb hK.1 (va_one ha_26) 0 0 rfl rfl hi_25 dX10_freshAdd_93 ?_
    refine W.eq (g2 := F0 m 94 ls [.int ((A 37) n_1), .int p0, .ref (rf 37)]) (by rw [en_1]) ?_
    have hk_27 : n_1 < 4 := by omega
    have q_28 : 0 ≤ ((A 37) n_1).toInt := (hI8 n_1 hk_27).2.2.2.2.1
    have q_29 : ((A 37) n_1).toInt ≤ 2 := (hI8 n_1 hk_27).2.2.2.2.2.1
    refine lv_iconst (v := 2) hx hb dX10_freshAdd_94 (by decide) ?_
    refine lv_icmp_ge (tgt := 109) hx hb dX10_freshAdd_95 (by decide) (fun c_30 => ?_) (fun c_30 => ?_)
    · simp only [lt_I, le_I, eq_I, i_0, i_1, i_2, i_3, i_4, i_5, i_6, i_7, i_8, i_10, i_12, i_16, i_20, i_23, i_24, i_31, i_32, i_63, i_64, i_m1, i_9, i_11, i_13, i_25, i_60, i_75, i_79, i_80, i_96, i_100] at c_30
      refine lv_iconst (v := 2) hx hb dX10_freshAdd_109 (by decide) ?_
      exact key_24 2 ⟨(by first | decide | omega), (Or.inl ⟨c_30, rfl⟩)⟩
    · simp only [lt_I, le_I, eq_I, i_0, i_1, i_2, i_3, i_4, i_5, i_6, i_7, i_8, i_10, i_12, i_16, i_20, i_23, i_24, i_31, i_32, i_63, i_64, i_m1, i_9, i_11, i_13, i_25, i_60, i_75, i_79, i_80, i_96, i_100] at c_30
      refine lv_aload_n hx hb dX10_freshAdd_98 rfl (lv_at hl 2 rfl) ?_
      refine va_get (D := DG E) (ci := 10) (v := .ref (rf 37)) (C := RX10) (T := TX10) (N := 49) hx hb hts iw_X10 hown hK.1 (va_one hM.1) 0 rfl rfl 37 (by decide) (hts _ fl_X10_110) (fun _ h9 => h9) rfl dX10_freshAdd_99 ?_
      refine lv_iload_n hx hb dX10_freshAdd_102 rfl (lv_at hl 3 rfl) ?_
      have ha_31 : va_at (DG E) vwCl (rf 37, .inl (E.2.2 0, 4, .inl (A 37))) _ := hM.2 37 (by decide) (by decide) (by decide)
      refine va_iald (D := DG E) hx hb hK.1 (va_one ha_31) 0 0 rfl rfl hi_25 dX10_freshAdd_103 ?_
      refine W.eq (g2 := F0 m 104 ls [.int ((A 37) n_1), .int p0, .ref (rf 37)]) (by rw [en_1]) ?_
      refine lv_iconst (v := 1) hx hb dX10_freshAdd_104 (by decide) ?_
      refine lv_iadd hx hb dX10_freshAdd_105 ?_
      refine lv_topi (fun x_32 ex_32 => ?_)
      have fx_32 : x_32.toInt = ((A 37) n_1).toInt + 1 := by have h9 := s_add (x := ((A 37) n_1)) (y := 1) (by rw [i_1]; omega) (by rw [i_1]; omega); rw [i_1] at h9; rw [ex_32]; exact h9
      refine lv_goto (tgt := 110) hx hb dX10_freshAdd_106 (by decide) ?_
      exact key_24 x_32 ⟨(by first | decide | omega), (Or.inr ⟨c_30, x_32, ex_32, fx_32, rfl⟩)⟩
theorem gdX10_fresh_0 : (decode cX10_fresh 0 = .ok (.aload_n 0, 1)) ∧ (decode cX10_fresh 1 = .ok (.getfield 122, 3)) ∧ (decode cX10_fresh 4 = .ok (.bipush 24, 2)) ∧ (decode cX10_fresh 6 = .ok (.iaload, 1)) ∧ (decode cX10_fresh 7 = .ok (.istore_n 2, 1)) ∧ (decode cX10_fresh 8 = .ok (.iload_n 2, 1)) ∧ (decode cX10_fresh 9 = .ok (.ifCond .ne 9, 3)) ∧ (decode cX10_fresh 12 = .ok (.aload_n 0, 1)) ∧ (decode cX10_fresh 13 = .ok (.iload_n 1, 1)) ∧ (decode cX10_fresh 14 = .ok (.invokevirtual 243, 3)) ∧ (decode cX10_fresh 17 = .ok (.return_, 1)) ∧ (decode cX10_fresh 18 = .ok (.iload_n 2, 1)) ∧ (decode cX10_fresh 19 = .ok (.iconst 3, 1)) ∧ (decode cX10_fresh 20 = .ok (.if_icmp .ne 7, 3)) ∧ (decode cX10_fresh 23 = .ok (.iconst 1, 1)) ∧ (decode cX10_fresh 24 = .ok (.goto 10, 3)) := by decide +kernel
theorem dX10_fresh_0 : decode cX10_fresh 0 = .ok (.aload_n 0, 1) := gdX10_fresh_0.1
theorem dX10_fresh_1 : decode cX10_fresh 1 = .ok (.getfield 122, 3) := gdX10_fresh_0.2.1
theorem dX10_fresh_4 : decode cX10_fresh 4 = .ok (.bipush 24, 2) := gdX10_fresh_0.2.2.1
theorem dX10_fresh_6 : decode cX10_fresh 6 = .ok (.iaload, 1) := gdX10_fresh_0.2.2.2.1
theorem dX10_fresh_7 : decode cX10_fresh 7 = .ok (.istore_n 2, 1) := gdX10_fresh_0.2.2.2.2.1
theorem dX10_fresh_8 : decode cX10_fresh 8 = .ok (.iload_n 2, 1) := gdX10_fresh_0.2.2.2.2.2.1
theorem dX10_fresh_9 : decode cX10_fresh 9 = .ok (.ifCond .ne 9, 3) := gdX10_fresh_0.2.2.2.2.2.2.1
theorem dX10_fresh_12 : decode cX10_fresh 12 = .ok (.aload_n 0, 1) := gdX10_fresh_0.2.2.2.2.2.2.2.1
theorem dX10_fresh_13 : decode cX10_fresh 13 = .ok (.iload_n 1, 1) := gdX10_fresh_0.2.2.2.2.2.2.2.2.1
theorem dX10_fresh_14 : decode cX10_fresh 14 = .ok (.invokevirtual 243, 3) := gdX10_fresh_0.2.2.2.2.2.2.2.2.2.1
theorem dX10_fresh_17 : decode cX10_fresh 17 = .ok (.return_, 1) := gdX10_fresh_0.2.2.2.2.2.2.2.2.2.2.1
theorem dX10_fresh_18 : decode cX10_fresh 18 = .ok (.iload_n 2, 1) := gdX10_fresh_0.2.2.2.2.2.2.2.2.2.2.2.1
theorem dX10_fresh_19 : decode cX10_fresh 19 = .ok (.iconst 3, 1) := gdX10_fresh_0.2.2.2.2.2.2.2.2.2.2.2.2.1
theorem dX10_fresh_20 : decode cX10_fresh 20 = .ok (.if_icmp .ne 7, 3) := gdX10_fresh_0.2.2.2.2.2.2.2.2.2.2.2.2.2.1
theorem dX10_fresh_23 : decode cX10_fresh 23 = .ok (.iconst 1, 1) := gdX10_fresh_0.2.2.2.2.2.2.2.2.2.2.2.2.2.2.1
theorem dX10_fresh_24 : decode cX10_fresh 24 = .ok (.goto 10, 3) := gdX10_fresh_0.2.2.2.2.2.2.2.2.2.2.2.2.2.2.2
theorem gdX10_fresh_27 : (decode cX10_fresh 27 = .ok (.aload_n 0, 1)) ∧ (decode cX10_fresh 28 = .ok (.getfield 128, 3)) ∧ (decode cX10_fresh 31 = .ok (.bipush 24, 2)) ∧ (decode cX10_fresh 33 = .ok (.iaload, 1)) ∧ (decode cX10_fresh 34 = .ok (.istore_n 3, 1)) ∧ (decode cX10_fresh 35 = .ok (.aload_n 0, 1)) ∧ (decode cX10_fresh 36 = .ok (.iload_n 1, 1)) ∧ (decode cX10_fresh 37 = .ok (.aload_n 0, 1)) ∧ (decode cX10_fresh 38 = .ok (.getfield 131, 3)) ∧ (decode cX10_fresh 41 = .ok (.bipush 24, 2)) ∧ (decode cX10_fresh 43 = .ok (.iaload, 1)) ∧ (decode cX10_fresh 44 = .ok (.aload_n 0, 1)) ∧ (decode cX10_fresh 45 = .ok (.getfield 134, 3)) ∧ (decode cX10_fresh 48 = .ok (.bipush 24, 2)) ∧ (decode cX10_fresh 50 = .ok (.iaload, 1)) ∧ (decode cX10_fresh 51 = .ok (.iload_n 3, 1)) := by decide +kernel
theorem dX10_fresh_27 : decode cX10_fresh 27 = .ok (.aload_n 0, 1) := gdX10_fresh_27.1
theorem dX10_fresh_28 : decode cX10_fresh 28 = .ok (.getfield 128, 3) := gdX10_fresh_27.2.1
theorem dX10_fresh_31 : decode cX10_fresh 31 = .ok (.bipush 24, 2) := gdX10_fresh_27.2.2.1
theorem dX10_fresh_33 : decode cX10_fresh 33 = .ok (.iaload, 1) := gdX10_fresh_27.2.2.2.1
theorem dX10_fresh_34 : decode cX10_fresh 34 = .ok (.istore_n 3, 1) := gdX10_fresh_27.2.2.2.2.1
theorem dX10_fresh_35 : decode cX10_fresh 35 = .ok (.aload_n 0, 1) := gdX10_fresh_27.2.2.2.2.2.1
theorem dX10_fresh_36 : decode cX10_fresh 36 = .ok (.iload_n 1, 1) := gdX10_fresh_27.2.2.2.2.2.2.1
theorem dX10_fresh_37 : decode cX10_fresh 37 = .ok (.aload_n 0, 1) := gdX10_fresh_27.2.2.2.2.2.2.2.1
theorem dX10_fresh_38 : decode cX10_fresh 38 = .ok (.getfield 131, 3) := gdX10_fresh_27.2.2.2.2.2.2.2.2.1
theorem dX10_fresh_41 : decode cX10_fresh 41 = .ok (.bipush 24, 2) := gdX10_fresh_27.2.2.2.2.2.2.2.2.2.1
theorem dX10_fresh_43 : decode cX10_fresh 43 = .ok (.iaload, 1) := gdX10_fresh_27.2.2.2.2.2.2.2.2.2.2.1
theorem dX10_fresh_44 : decode cX10_fresh 44 = .ok (.aload_n 0, 1) := gdX10_fresh_27.2.2.2.2.2.2.2.2.2.2.2.1
theorem dX10_fresh_45 : decode cX10_fresh 45 = .ok (.getfield 134, 3) := gdX10_fresh_27.2.2.2.2.2.2.2.2.2.2.2.2.1
theorem dX10_fresh_48 : decode cX10_fresh 48 = .ok (.bipush 24, 2) := gdX10_fresh_27.2.2.2.2.2.2.2.2.2.2.2.2.2.1
theorem dX10_fresh_50 : decode cX10_fresh 50 = .ok (.iaload, 1) := gdX10_fresh_27.2.2.2.2.2.2.2.2.2.2.2.2.2.2.1
theorem dX10_fresh_51 : decode cX10_fresh 51 = .ok (.iload_n 3, 1) := gdX10_fresh_27.2.2.2.2.2.2.2.2.2.2.2.2.2.2.2
theorem gdX10_fresh_52 : (decode cX10_fresh 52 = .ok (.iload_n 2, 1)) ∧ (decode cX10_fresh 53 = .ok (.iconst 1, 1)) ∧ (decode cX10_fresh 54 = .ok (.if_icmp .ne 7, 3)) ∧ (decode cX10_fresh 57 = .ok (.iconst 1, 1)) ∧ (decode cX10_fresh 58 = .ok (.goto 13, 3)) ∧ (decode cX10_fresh 61 = .ok (.iload_n 2, 1)) ∧ (decode cX10_fresh 62 = .ok (.iconst 2, 1)) ∧ (decode cX10_fresh 63 = .ok (.if_icmp .ne 7, 3)) ∧ (decode cX10_fresh 66 = .ok (.iconst 2, 1)) ∧ (decode cX10_fresh 67 = .ok (.goto 4, 3)) ∧ (decode cX10_fresh 70 = .ok (.iconst 4, 1)) ∧ (decode cX10_fresh 71 = .ok (.invokevirtual 246, 3)) ∧ (decode cX10_fresh 74 = .ok (.ifCond .ne 10, 3)) ∧ (decode cX10_fresh 77 = .ok (.aload_n 0, 1)) ∧ (decode cX10_fresh 78 = .ok (.iload_n 1, 1)) ∧ (decode cX10_fresh 79 = .ok (.iconst 3, 1)) := by decide +kernel
theorem dX10_fresh_52 : decode cX10_fresh 52 = .ok (.iload_n 2, 1) := gdX10_fresh_52.1
theorem dX10_fresh_53 : decode cX10_fresh 53 = .ok (.iconst 1, 1) := gdX10_fresh_52.2.1
theorem dX10_fresh_54 : decode cX10_fresh 54 = .ok (.if_icmp .ne 7, 3) := gdX10_fresh_52.2.2.1
theorem dX10_fresh_57 : decode cX10_fresh 57 = .ok (.iconst 1, 1) := gdX10_fresh_52.2.2.2.1
theorem dX10_fresh_58 : decode cX10_fresh 58 = .ok (.goto 13, 3) := gdX10_fresh_52.2.2.2.2.1
theorem dX10_fresh_61 : decode cX10_fresh 61 = .ok (.iload_n 2, 1) := gdX10_fresh_52.2.2.2.2.2.1
theorem dX10_fresh_62 : decode cX10_fresh 62 = .ok (.iconst 2, 1) := gdX10_fresh_52.2.2.2.2.2.2.1
theorem dX10_fresh_63 : decode cX10_fresh 63 = .ok (.if_icmp .ne 7, 3) := gdX10_fresh_52.2.2.2.2.2.2.2.1
theorem dX10_fresh_66 : decode cX10_fresh 66 = .ok (.iconst 2, 1) := gdX10_fresh_52.2.2.2.2.2.2.2.2.1
theorem dX10_fresh_67 : decode cX10_fresh 67 = .ok (.goto 4, 3) := gdX10_fresh_52.2.2.2.2.2.2.2.2.2.1
theorem dX10_fresh_70 : decode cX10_fresh 70 = .ok (.iconst 4, 1) := gdX10_fresh_52.2.2.2.2.2.2.2.2.2.2.1
theorem dX10_fresh_71 : decode cX10_fresh 71 = .ok (.invokevirtual 246, 3) := gdX10_fresh_52.2.2.2.2.2.2.2.2.2.2.2.1
theorem dX10_fresh_74 : decode cX10_fresh 74 = .ok (.ifCond .ne 10, 3) := gdX10_fresh_52.2.2.2.2.2.2.2.2.2.2.2.2.1
theorem dX10_fresh_77 : decode cX10_fresh 77 = .ok (.aload_n 0, 1) := gdX10_fresh_52.2.2.2.2.2.2.2.2.2.2.2.2.2.1
theorem dX10_fresh_78 : decode cX10_fresh 78 = .ok (.iload_n 1, 1) := gdX10_fresh_52.2.2.2.2.2.2.2.2.2.2.2.2.2.2.1
theorem dX10_fresh_79 : decode cX10_fresh 79 = .ok (.iconst 3, 1) := gdX10_fresh_52.2.2.2.2.2.2.2.2.2.2.2.2.2.2.2
theorem gdX10_fresh_80 : (decode cX10_fresh 80 = .ok (.invokevirtual 225, 3)) ∧ (decode cX10_fresh 83 = .ok (.return_, 1)) ∧ (decode cX10_fresh 84 = .ok (.iload_n 2, 1)) ∧ (decode cX10_fresh 85 = .ok (.iconst 1, 1)) ∧ (decode cX10_fresh 86 = .ok (.if_icmp .ne 44, 3)) ∧ (decode cX10_fresh 89 = .ok (.aload_n 0, 1)) ∧ (decode cX10_fresh 90 = .ok (.bipush 32, 2)) ∧ (decode cX10_fresh 92 = .ok (.iload_n 1, 1)) ∧ (decode cX10_fresh 93 = .ok (.invokestatic 160, 3)) ∧ (decode cX10_fresh 96 = .ok (.imul, 1)) ∧ (decode cX10_fresh 97 = .ok (.aload_n 0, 1)) ∧ (decode cX10_fresh 98 = .ok (.getfield 134, 3)) ∧ (decode cX10_fresh 101 = .ok (.bipush 24, 2)) ∧ (decode cX10_fresh 103 = .ok (.iaload, 1)) ∧ (decode cX10_fresh 104 = .ok (.iadd, 1)) ∧ (decode cX10_fresh 105 = .ok (.iload_n 3, 1)) := by decide +kernel
theorem dX10_fresh_80 : decode cX10_fresh 80 = .ok (.invokevirtual 225, 3) := gdX10_fresh_80.1
theorem dX10_fresh_83 : decode cX10_fresh 83 = .ok (.return_, 1) := gdX10_fresh_80.2.1
theorem dX10_fresh_84 : decode cX10_fresh 84 = .ok (.iload_n 2, 1) := gdX10_fresh_80.2.2.1
theorem dX10_fresh_85 : decode cX10_fresh 85 = .ok (.iconst 1, 1) := gdX10_fresh_80.2.2.2.1
theorem dX10_fresh_86 : decode cX10_fresh 86 = .ok (.if_icmp .ne 44, 3) := gdX10_fresh_80.2.2.2.2.1
theorem dX10_fresh_89 : decode cX10_fresh 89 = .ok (.aload_n 0, 1) := gdX10_fresh_80.2.2.2.2.2.1
theorem dX10_fresh_90 : decode cX10_fresh 90 = .ok (.bipush 32, 2) := gdX10_fresh_80.2.2.2.2.2.2.1
theorem dX10_fresh_92 : decode cX10_fresh 92 = .ok (.iload_n 1, 1) := gdX10_fresh_80.2.2.2.2.2.2.2.1
theorem dX10_fresh_93 : decode cX10_fresh 93 = .ok (.invokestatic 160, 3) := gdX10_fresh_80.2.2.2.2.2.2.2.2.1
theorem dX10_fresh_96 : decode cX10_fresh 96 = .ok (.imul, 1) := gdX10_fresh_80.2.2.2.2.2.2.2.2.2.1
theorem dX10_fresh_97 : decode cX10_fresh 97 = .ok (.aload_n 0, 1) := gdX10_fresh_80.2.2.2.2.2.2.2.2.2.2.1
theorem dX10_fresh_98 : decode cX10_fresh 98 = .ok (.getfield 134, 3) := gdX10_fresh_80.2.2.2.2.2.2.2.2.2.2.2.1
theorem dX10_fresh_101 : decode cX10_fresh 101 = .ok (.bipush 24, 2) := gdX10_fresh_80.2.2.2.2.2.2.2.2.2.2.2.2.1
theorem dX10_fresh_103 : decode cX10_fresh 103 = .ok (.iaload, 1) := gdX10_fresh_80.2.2.2.2.2.2.2.2.2.2.2.2.2.1
theorem dX10_fresh_104 : decode cX10_fresh 104 = .ok (.iadd, 1) := gdX10_fresh_80.2.2.2.2.2.2.2.2.2.2.2.2.2.2.1
theorem dX10_fresh_105 : decode cX10_fresh 105 = .ok (.iload_n 3, 1) := gdX10_fresh_80.2.2.2.2.2.2.2.2.2.2.2.2.2.2.2
theorem gdX10_fresh_106 : (decode cX10_fresh 106 = .ok (.invokevirtual 228, 3)) ∧ (decode cX10_fresh 109 = .ok (.aload_n 0, 1)) ∧ (decode cX10_fresh 110 = .ok (.iload_n 1, 1)) ∧ (decode cX10_fresh 111 = .ok (.iconst 1, 1)) ∧ (decode cX10_fresh 112 = .ok (.invokevirtual 231, 3)) ∧ (decode cX10_fresh 115 = .ok (.aload_n 0, 1)) ∧ (decode cX10_fresh 116 = .ok (.iload_n 1, 1)) ∧ (decode cX10_fresh 117 = .ok (.aload_n 0, 1)) ∧ (decode cX10_fresh 118 = .ok (.getfield 125, 3)) ∧ (decode cX10_fresh 121 = .ok (.bipush 24, 2)) ∧ (decode cX10_fresh 123 = .ok (.iaload, 1)) ∧ (decode cX10_fresh 124 = .ok (.invokevirtual 234, 3)) ∧ (decode cX10_fresh 127 = .ok (.goto 31, 3)) ∧ (decode cX10_fresh 130 = .ok (.iload_n 2, 1)) ∧ (decode cX10_fresh 131 = .ok (.iconst 2, 1)) ∧ (decode cX10_fresh 132 = .ok (.if_icmp .ne 21, 3)) := by decide +kernel
theorem dX10_fresh_106 : decode cX10_fresh 106 = .ok (.invokevirtual 228, 3) := gdX10_fresh_106.1
theorem dX10_fresh_109 : decode cX10_fresh 109 = .ok (.aload_n 0, 1) := gdX10_fresh_106.2.1
theorem dX10_fresh_110 : decode cX10_fresh 110 = .ok (.iload_n 1, 1) := gdX10_fresh_106.2.2.1
theorem dX10_fresh_111 : decode cX10_fresh 111 = .ok (.iconst 1, 1) := gdX10_fresh_106.2.2.2.1
theorem dX10_fresh_112 : decode cX10_fresh 112 = .ok (.invokevirtual 231, 3) := gdX10_fresh_106.2.2.2.2.1
theorem dX10_fresh_115 : decode cX10_fresh 115 = .ok (.aload_n 0, 1) := gdX10_fresh_106.2.2.2.2.2.1
theorem dX10_fresh_116 : decode cX10_fresh 116 = .ok (.iload_n 1, 1) := gdX10_fresh_106.2.2.2.2.2.2.1
theorem dX10_fresh_117 : decode cX10_fresh 117 = .ok (.aload_n 0, 1) := gdX10_fresh_106.2.2.2.2.2.2.2.1
theorem dX10_fresh_118 : decode cX10_fresh 118 = .ok (.getfield 125, 3) := gdX10_fresh_106.2.2.2.2.2.2.2.2.1
theorem dX10_fresh_121 : decode cX10_fresh 121 = .ok (.bipush 24, 2) := gdX10_fresh_106.2.2.2.2.2.2.2.2.2.1
theorem dX10_fresh_123 : decode cX10_fresh 123 = .ok (.iaload, 1) := gdX10_fresh_106.2.2.2.2.2.2.2.2.2.2.1
theorem dX10_fresh_124 : decode cX10_fresh 124 = .ok (.invokevirtual 234, 3) := gdX10_fresh_106.2.2.2.2.2.2.2.2.2.2.2.1
theorem dX10_fresh_127 : decode cX10_fresh 127 = .ok (.goto 31, 3) := gdX10_fresh_106.2.2.2.2.2.2.2.2.2.2.2.2.1
theorem dX10_fresh_130 : decode cX10_fresh 130 = .ok (.iload_n 2, 1) := gdX10_fresh_106.2.2.2.2.2.2.2.2.2.2.2.2.2.1
theorem dX10_fresh_131 : decode cX10_fresh 131 = .ok (.iconst 2, 1) := gdX10_fresh_106.2.2.2.2.2.2.2.2.2.2.2.2.2.2.1
theorem dX10_fresh_132 : decode cX10_fresh 132 = .ok (.if_icmp .ne 21, 3) := gdX10_fresh_106.2.2.2.2.2.2.2.2.2.2.2.2.2.2.2
theorem gdX10_fresh_135 : (decode cX10_fresh 135 = .ok (.aload_n 0, 1)) ∧ (decode cX10_fresh 136 = .ok (.iload_n 1, 1)) ∧ (decode cX10_fresh 137 = .ok (.invokevirtual 250, 3)) ∧ (decode cX10_fresh 140 = .ok (.aload_n 0, 1)) ∧ (decode cX10_fresh 141 = .ok (.iload_n 1, 1)) ∧ (decode cX10_fresh 142 = .ok (.iload_n 3, 1)) ∧ (decode cX10_fresh 143 = .ok (.iconst 3, 1)) ∧ (decode cX10_fresh 144 = .ok (.iadd, 1)) ∧ (decode cX10_fresh 145 = .ok (.iconst 4, 1)) ∧ (decode cX10_fresh 146 = .ok (.idiv, 1)) ∧ (decode cX10_fresh 147 = .ok (.invokevirtual 231, 3)) ∧ (decode cX10_fresh 150 = .ok (.goto 8, 3)) ∧ (decode cX10_fresh 153 = .ok (.aload_n 0, 1)) ∧ (decode cX10_fresh 154 = .ok (.iload_n 1, 1)) ∧ (decode cX10_fresh 155 = .ok (.invokevirtual 253, 3)) ∧ (decode cX10_fresh 158 = .ok (.return_, 1)) := by decide +kernel
theorem dX10_fresh_135 : decode cX10_fresh 135 = .ok (.aload_n 0, 1) := gdX10_fresh_135.1
theorem dX10_fresh_136 : decode cX10_fresh 136 = .ok (.iload_n 1, 1) := gdX10_fresh_135.2.1
theorem dX10_fresh_137 : decode cX10_fresh 137 = .ok (.invokevirtual 250, 3) := gdX10_fresh_135.2.2.1
theorem dX10_fresh_140 : decode cX10_fresh 140 = .ok (.aload_n 0, 1) := gdX10_fresh_135.2.2.2.1
theorem dX10_fresh_141 : decode cX10_fresh 141 = .ok (.iload_n 1, 1) := gdX10_fresh_135.2.2.2.2.1
theorem dX10_fresh_142 : decode cX10_fresh 142 = .ok (.iload_n 3, 1) := gdX10_fresh_135.2.2.2.2.2.1
theorem dX10_fresh_143 : decode cX10_fresh 143 = .ok (.iconst 3, 1) := gdX10_fresh_135.2.2.2.2.2.2.1
theorem dX10_fresh_144 : decode cX10_fresh 144 = .ok (.iadd, 1) := gdX10_fresh_135.2.2.2.2.2.2.2.1
theorem dX10_fresh_145 : decode cX10_fresh 145 = .ok (.iconst 4, 1) := gdX10_fresh_135.2.2.2.2.2.2.2.2.1
theorem dX10_fresh_146 : decode cX10_fresh 146 = .ok (.idiv, 1) := gdX10_fresh_135.2.2.2.2.2.2.2.2.2.1
theorem dX10_fresh_147 : decode cX10_fresh 147 = .ok (.invokevirtual 231, 3) := gdX10_fresh_135.2.2.2.2.2.2.2.2.2.2.1
theorem dX10_fresh_150 : decode cX10_fresh 150 = .ok (.goto 8, 3) := gdX10_fresh_135.2.2.2.2.2.2.2.2.2.2.2.1
theorem dX10_fresh_153 : decode cX10_fresh 153 = .ok (.aload_n 0, 1) := gdX10_fresh_135.2.2.2.2.2.2.2.2.2.2.2.2.1
theorem dX10_fresh_154 : decode cX10_fresh 154 = .ok (.iload_n 1, 1) := gdX10_fresh_135.2.2.2.2.2.2.2.2.2.2.2.2.2.1
theorem dX10_fresh_155 : decode cX10_fresh 155 = .ok (.invokevirtual 253, 3) := gdX10_fresh_135.2.2.2.2.2.2.2.2.2.2.2.2.2.2.1
theorem dX10_fresh_158 : decode cX10_fresh 158 = .ok (.return_, 1) := gdX10_fresh_135.2.2.2.2.2.2.2.2.2.2.2.2.2.2.2
set_option maxHeartbeats 8000000 in
set_option maxRecDepth 100000 in
theorem u_X10_fresh (l : Launch) (E : EE) (z0 : Nat) (G : Nat → Nat) (hGz : ∀ q, G q ≠ 0 → z0 ≤ q) (h0 : Nat) (rf : Nat → Nat) (hR : MG G h0 rf) (t0 t1 t2 : Int32) (A : AA) (cd pk : Int32) (p0 : Int32) (hI2 : I2 (A 5) (A 6)) (hI3 : I3 (A 8)) (hI4 : I4 (A 10) (A 20) (A 29) (A 24) (A 11) (A 12) (A 13)) (hI5 : I5 (A 32) (A 33) (A 35)) (hI6 : I6 (A 22) (A 23) (A 24) (A 25) (A 26)) (hI7 : I7 (A 41) (A 42) (A 44) (A 45) (A 46)) (hI8 : I8 (A 20) (A 30) (A 37) (A 36)) (hy0 : 0 ≤ p0.toInt ∧ p0.toInt ≤ 3) (hy1 : 0 ≤ ((A 42) 24).toInt ∧ ((A 42) 24).toInt ≤ 3) (hy2 : 0 ≤ pk.toInt ∧ pk.toInt ≤ 24) : Met l yX10_fresh [Cond.code yX10_fresh cX10_fresh 4 none] ({ frames := 5, cells := 0, slots := 0, locals := 118 } : Room) (va_Pc [.ref h0, .int p0] (fun U => MH E h0 rf t0 t1 t2 A cd pk U.heap ∧ KS E z0 U)) (va_Qv (fun (u : AA × Int32 × Int32) => (I2 (u.1 5) (u.1 6)) ∧ (I3 (u.1 8)) ∧ (I4 (u.1 10) (u.1 20) (u.1 29) (u.1 24) (u.1 11) (u.1 12) (u.1 13)) ∧ (I5 (u.1 32) (u.1 33) (u.1 35)) ∧ (I6 (u.1 22) (u.1 23) (u.1 24) (u.1 25) (u.1 26)) ∧ (I7 (u.1 41) (u.1 42) (u.1 44) (u.1 45) (u.1 46)) ∧ (I8 (u.1 20) (u.1 30) (u.1 37) (u.1 36)) ∧ (0 ≤ u.2.2.toInt ∧ u.2.2.toInt ≤ 24) ∧ (D_X10_fresh A cd pk p0 u.1 u.2.1 u.2.2)) (fun u t => MH E h0 rf t0 t1 t2 u.1 u.2.1 u.2.2 t.heap) (fun q : Nat => G q ≠ 0)) 0 0 (fun q : Nat => G q ≠ 0) := by
  refine Met.ofW (cc := cX10_fresh) (maxL := 4) (ret := none) (by decide) rfl ?_
  intro p e s m args below meth c s₁ B hml hv
  obtain ⟨rfl, hM, hK⟩ := hv
  have hx := B.exec
  have hb := B.bytes
  have hr := B.returns
  have hts : ∀ w ∈ TS, w.before ([.ref h0, .int p0] : List Value).toArray s = true := fun w hw => hK.2.1 w hw _
  have hown : s.vm.findClass RX10 = some m.cls := findClass_of_methodNamed B.named
  have hlocks := B.notSynchronized
  have hS : va_S (fun q : Nat => G q ≠ 0) s.heap s.heap [] := va_S.rf
  have hAz : ∀ q, (fun q : Nat => G q ≠ 0) q → z0 ≤ q := hGz
  have hl := lv_entry ([.ref h0, .int p0]) (n := 4) (Nat.le_of_ble_eq_true rfl)
  rw [lg_entry_eq]
  generalize (lg_sl ([.ref h0, .int p0]) ++ List.replicate (4 - (lg_sl ([.ref h0, .int p0])).length) Slot.unset).toArray = ls at hl ⊢
  have hl : lv_has ls 4 [(0, .ref h0), (1, .int p0)] := hl
  refine lv_aload_n hx hb dX10_fresh_0 rfl (lv_at hl 0 rfl) ?_
  refine va_get (D := DG E) (ci := 10) (v := .ref (rf 42)) (C := RX10) (T := TX10) (N := 49) hx hb hts iw_X10 hown hK.1 (va_one hM.1) 0 rfl rfl 42 (by decide) (hts _ fl_X10_122) (fun _ h9 => h9) rfl dX10_fresh_1 ?_
  refine lv_bipush (v := 24) hx hb dX10_fresh_4 (by decide) ?_
  have ha_1 : va_at (DG E) vwCl (rf 42, .inl (E.2.2 0, 25, .inl (A 42))) _ := hM.2 42 (by decide) (by decide) (by decide)
  refine va_iald (D := DG E) hx hb hK.1 (va_one ha_1) 0 0 rfl rfl (show vp_in (24) 25 from vp_in_iff.mpr ⟨by decide, by decide⟩) dX10_fresh_6 ?_
  refine W.eq (g2 := F0 m 7 ls [.int ((A 42) 24)]) (by rfl) ?_
  have q_2 : (((A 42) 24).toInt ≠ 0 ∧ ((A 42) 24).toInt ≠ 1 ∧ ((A 42) 24).toInt ≠ 4 ∨ ((A 44) 24).toInt ≤ 4) := (hI7 24 (by decide)).2.2.2.2.1
  have q_3 : (((A 42) 24).toInt < 1 ∨ 3 < ((A 42) 24).toInt ∨ (0 ≤ ((A 45) 24).toInt ∧ ((A 45) 24).toInt ≤ 5)) := (hI7 24 (by decide)).2.2.2.2.2.1
  have q_4 : 0 ≤ ((A 42) 24).toInt := (hI7 24 (by decide)).2.2.2.2.2.2.2.2
  refine lv_istore_n (lv' := [(2, .int ((A 42) 24)), (0, .ref h0), (1, .int p0)]) hx hb dX10_fresh_7 rfl hl (by decide) rfl (fun ls hl => ?_)
  refine lv_iload_n hx hb dX10_fresh_8 rfl (lv_at hl 0 rfl) ?_
  refine lv_if_ne (tgt := 18) hx hb dX10_fresh_9 (by decide) (fun c_5 => ?_) (fun c_5 => ?_)
  · simp only [lt_I, le_I, eq_I, i_0, i_1, i_2, i_3, i_4, i_5, i_6, i_7, i_8, i_10, i_12, i_16, i_20, i_23, i_24, i_31, i_32, i_63, i_64, i_m1, i_9, i_11, i_13, i_25, i_60, i_75, i_79, i_80, i_96, i_100] at c_5
    refine lv_iload_n hx hb dX10_fresh_18 rfl (lv_at hl 0 rfl) ?_
    refine lv_iconst (v := 3) hx hb dX10_fresh_19 (by decide) ?_
    refine lv_icmp_ne (tgt := 27) hx hb dX10_fresh_20 (by decide) (fun c_6 => ?_) (fun c_6 => ?_)
    · simp only [lt_I, le_I, eq_I, i_0, i_1, i_2, i_3, i_4, i_5, i_6, i_7, i_8, i_10, i_12, i_16, i_20, i_23, i_24, i_31, i_32, i_63, i_64, i_m1, i_9, i_11, i_13, i_25, i_60, i_75, i_79, i_80, i_96, i_100] at c_6
      refine lv_aload_n hx hb dX10_fresh_27 rfl (lv_at hl 1 rfl) ?_
      refine va_get (D := DG E) (ci := 10) (v := .ref (rf 44)) (C := RX10) (T := TX10) (N := 49) hx hb hts iw_X10 hown hK.1 (va_one hM.1) 0 rfl rfl 44 (by decide) (hts _ fl_X10_128) (fun _ h9 => h9) rfl dX10_fresh_28 ?_
      refine lv_bipush (v := 24) hx hb dX10_fresh_31 (by decide) ?_
      have ha_7 : va_at (DG E) vwCl (rf 44, .inl (E.2.2 0, 25, .inl (A 44))) _ := hM.2 44 (by decide) (by decide) (by decide)
      refine va_iald (D := DG E) hx hb hK.1 (va_one ha_7) 0 0 rfl rfl (show vp_in (24) 25 from vp_in_iff.mpr ⟨by decide, by decide⟩) dX10_fresh_33 ?_
      refine W.eq (g2 := F0 m 34 ls [.int ((A 44) 24)]) (by rfl) ?_
      have q_8 : 0 ≤ ((A 44) 24).toInt := (hI7 24 (by decide)).2.2.1
      have q_9 : ((A 44) 24).toInt ≤ 12 := (hI7 24 (by decide)).2.2.2.1
      refine lv_istore_n (lv' := [(3, .int ((A 44) 24)), (2, .int ((A 42) 24)), (0, .ref h0), (1, .int p0)]) hx hb dX10_fresh_34 rfl hl (by decide) rfl (fun ls hl => ?_)
      refine lv_aload_n hx hb dX10_fresh_35 rfl (lv_at hl 2 rfl) ?_
      refine lv_iload_n hx hb dX10_fresh_36 rfl (lv_at hl 3 rfl) ?_
      refine lv_aload_n hx hb dX10_fresh_37 rfl (lv_at hl 2 rfl) ?_
      refine va_get (D := DG E) (ci := 10) (v := .ref (rf 45)) (C := RX10) (T := TX10) (N := 49) hx hb hts iw_X10 hown hK.1 (va_one hM.1) 0 rfl rfl 45 (by decide) (hts _ fl_X10_131) (fun _ h9 => h9) rfl dX10_fresh_38 ?_
      refine lv_bipush (v := 24) hx hb dX10_fresh_41 (by decide) ?_
      have ha_10 : va_at (DG E) vwCl (rf 45, .inl (E.2.2 0, 25, .inl (A 45))) _ := hM.2 45 (by decide) (by decide) (by decide)
      refine va_iald (D := DG E) hx hb hK.1 (va_one ha_10) 0 0 rfl rfl (show vp_in (24) 25 from vp_in_iff.mpr ⟨by decide, by decide⟩) dX10_fresh_43 ?_
      refine W.eq (g2 := F0 m 44 ls [.int ((A 45) 24), .int p0, .ref h0]) (by rfl) ?_
      refine lv_aload_n hx hb dX10_fresh_44 rfl (lv_at hl 2 rfl) ?_
      refine va_get (D := DG E) (ci := 10) (v := .ref (rf 46)) (C := RX10) (T := TX10) (N := 49) hx hb hts iw_X10 hown hK.1 (va_one hM.1) 0 rfl rfl 46 (by decide) (hts _ fl_X10_134) (fun _ h9 => h9) rfl dX10_fresh_45 ?_
      refine lv_bipush (v := 24) hx hb dX10_fresh_48 (by decide) ?_
      have ha_11 : va_at (DG E) vwCl (rf 46, .inl (E.2.2 0, 25, .inl (A 46))) _ := hM.2 46 (by decide) (by decide) (by decide)
      refine va_iald (D := DG E) hx hb hK.1 (va_one ha_11) 0 0 rfl rfl (show vp_in (24) 25 from vp_in_iff.mpr ⟨by decide, by decide⟩) dX10_fresh_50 ?_
      refine W.eq (g2 := F0 m 51 ls [.int ((A 46) 24), .int ((A 45) 24), .int p0, .ref h0]) (by rfl) ?_
      have q_12 : -1 ≤ ((A 46) 24).toInt := (hI7 24 (by decide)).2.2.2.2.2.2.1
      have q_13 : ((A 46) 24).toInt ≤ 60 := (hI7 24 (by decide)).2.2.2.2.2.2.2.1
      refine lv_iload_n hx hb dX10_fresh_51 rfl (lv_at hl 0 rfl) ?_
      refine lv_iload_n hx hb dX10_fresh_52 rfl (lv_at hl 1 rfl) ?_
      refine lv_iconst (v := 1) hx hb dX10_fresh_53 (by decide) ?_
      refine lv_icmp_ne (tgt := 61) hx hb dX10_fresh_54 (by decide) (fun c_14 => ?_) (fun c_14 => ?_)
      · simp only [lt_I, le_I, eq_I, i_0, i_1, i_2, i_3, i_4, i_5, i_6, i_7, i_8, i_10, i_12, i_16, i_20, i_23, i_24, i_31, i_32, i_63, i_64, i_m1, i_9, i_11, i_13, i_25, i_60, i_75, i_79, i_80, i_96, i_100] at c_14
        refine lv_iload_n hx hb dX10_fresh_61 rfl (lv_at hl 1 rfl) ?_
        refine lv_iconst (v := 2) hx hb dX10_fresh_62 (by decide) ?_
        refine lv_icmp_ne (tgt := 70) hx hb dX10_fresh_63 (by decide) (fun c_15 => ?_) (fun c_15 => ?_)
        · simp only [lt_I, le_I, eq_I, i_0, i_1, i_2, i_3, i_4, i_5, i_6, i_7, i_8, i_10, i_12, i_16, i_20, i_23, i_24, i_31, i_32, i_63, i_64, i_m1, i_9, i_11, i_13, i_25, i_60, i_75, i_79, i_80, i_96, i_100] at c_15
          refine lv_iconst (v := 4) hx hb dX10_fresh_70 (by decide) ?_
          refine va_calli (rnV (fun H => MH E h0 rf t0 t1 t2 A cd pk H) (As := [.int p0, .int ((A 45) 24), .int ((A 46) 24), .int ((A 44) 24), .int 4]) (rest := []) ⟨hx, hb, hml, hown, hts⟩ (u_X10_allows l E z0 G hGz h0 rf hR t0 t1 t2 A cd pk p0 ((A 45) 24) ((A 46) 24) ((A 44) 24) 4 hI2 (show 0 ≤ p0.toInt ∧ p0.toInt ≤ 3 from by have := i_4; first | decide | omega) (show 0 ≤ ((A 45) 24).toInt ∧ ((A 45) 24).toInt ≤ 5 from by have := i_4; first | decide | omega) (show -1 ≤ ((A 46) 24).toInt ∧ ((A 46) 24).toInt ≤ 60 from by have := i_4; first | decide | omega) (show 0 ≤ ((A 44) 24).toInt ∧ ((A 44) 24).toInt ≤ 12 from by have := i_4; first | decide | omega) (show ¬ (4 : Int32) = 0 from by have := i_4; first | decide | omega)) (cwV 5 hts (gdV ml_X10_246 im_X10_allows se_X10_X10_allows in_X10 co_X10_allows rfl) rfl rfl rfl (by decide +kernel) ⟨Nat.le_of_ble_eq_true rfl, Nat.le_of_ble_eq_true rfl⟩) hM (fun U hU hW => hK.go hW hS hAz hU) (va_recv hK.1 (va_one hM.1) (ci := 10) (q0 := 0) rfl rfl) rfl rfl hl.1 rfl (lv_room (Nat.le_of_ble_eq_true rfl)) dX10_fresh_71 ⟨Nat.le_of_ble_eq_true rfl, Nat.le_of_ble_eq_true rfl⟩) hS (fun q _ h => h.elim) (fun q h => h.elim) (fun r_16 ur_16 t H locs ht hvm hwr_16 hB hz hk hS => ?_)
          have hM := hM.kept (fun q hq => hk q hq (fun h => h))
          have hDr_16 : D_X10_allows A cd pk p0 ((A 45) 24) ((A 46) 24) ((A 44) 24) (4 : Int32) r_16 := hwr_16.2.2
          have hpr_16_0 : r_16 = 0 ∨ r_16 = 1 := hwr_16.1
          have hpr_16_1 : r_16.toInt = 0 ∨ (0 ≤ ((A 46) 24).toInt ∧ ((A 46) 24).toInt + ((A 44) 24).toInt ≤ 32) := hwr_16.2.1
          have := i_4
          have hzr_16 := s_rng hpr_16_0
          refine lv_if_ne (tgt := 84) hx hb dX10_fresh_74 (by decide) (fun c_17 => ?_) (fun c_17 => ?_)
          · simp only [lt_I, le_I, eq_I, i_0, i_1, i_2, i_3, i_4, i_5, i_6, i_7, i_8, i_10, i_12, i_16, i_20, i_23, i_24, i_31, i_32, i_63, i_64, i_m1, i_9, i_11, i_13, i_25, i_60, i_75, i_79, i_80, i_96, i_100] at c_17
            replace hpr_16_1 := hpr_16_1.resolve_left (by omega)
            refine lv_iload_n hx hb dX10_fresh_84 rfl (lv_at hl 1 rfl) ?_
            refine lv_iconst (v := 1) hx hb dX10_fresh_85 (by decide) ?_
            refine lv_icmp_ne (tgt := 130) hx hb dX10_fresh_86 (by decide) (fun c_18 => ?_) (fun c_18 => by exfalso; simp only [lt_I, le_I, eq_I, i_0, i_1, i_2, i_3, i_4, i_5, i_6, i_7, i_8, i_10, i_12, i_16, i_20, i_23, i_24, i_31, i_32, i_63, i_64, i_m1, i_9, i_11, i_13, i_25, i_60, i_75, i_79, i_80, i_96, i_100] at c_18; omega)
            simp only [lt_I, le_I, eq_I, i_0, i_1, i_2, i_3, i_4, i_5, i_6, i_7, i_8, i_10, i_12, i_16, i_20, i_23, i_24, i_31, i_32, i_63, i_64, i_m1, i_9, i_11, i_13, i_25, i_60, i_75, i_79, i_80, i_96, i_100] at c_18
            refine lv_iload_n hx hb dX10_fresh_130 rfl (lv_at hl 1 rfl) ?_
            refine lv_iconst (v := 2) hx hb dX10_fresh_131 (by decide) ?_
            refine lv_icmp_ne (tgt := 153) hx hb dX10_fresh_132 (by decide) (fun c_19 => ?_) (fun c_19 => by exfalso; simp only [lt_I, le_I, eq_I, i_0, i_1, i_2, i_3, i_4, i_5, i_6, i_7, i_8, i_10, i_12, i_16, i_20, i_23, i_24, i_31, i_32, i_63, i_64, i_m1, i_9, i_11, i_13, i_25, i_60, i_75, i_79, i_80, i_96, i_100] at c_19; omega)
            simp only [lt_I, le_I, eq_I, i_0, i_1, i_2, i_3, i_4, i_5, i_6, i_7, i_8, i_10, i_12, i_16, i_20, i_23, i_24, i_31, i_32, i_63, i_64, i_m1, i_9, i_11, i_13, i_25, i_60, i_75, i_79, i_80, i_96, i_100] at c_19
            refine lv_aload_n hx hb dX10_fresh_153 rfl (lv_at hl 2 rfl) ?_
            refine lv_iload_n hx hb dX10_fresh_154 rfl (lv_at hl 3 rfl) ?_
            refine va_callv (rnV (fun H => MH E h0 rf t0 t1 t2 A cd pk H) (As := [.int p0]) (rest := []) ⟨hx, hb, hml, hown, hts⟩ (u_X10_freshAdd l E z0 G hGz h0 rf hR t0 t1 t2 A cd pk p0 hI7 hI8 (show 0 ≤ p0.toInt ∧ p0.toInt ≤ 3 from by first | decide | omega) (show 0 ≤ pk.toInt ∧ pk.toInt ≤ 24 from by first | decide | omega) (show 0 ≤ ((A 46) 24).toInt ∧ ((A 46) 24).toInt ≤ 31 from by first | decide | omega)) (cwV 1 hts (gdV ml_X10_253 im_X10_freshAdd se_X10_X10_freshAdd in_X10 co_X10_freshAdd rfl) rfl rfl rfl (by decide +kernel) ⟨Nat.le_of_ble_eq_true rfl, Nat.le_of_ble_eq_true rfl⟩) hM (fun U hU hW => hK.go hW hS hAz hU) (va_recv hK.1 (va_one hM.1) (ci := 10) (q0 := 0) rfl rfl) rfl rfl hl.1 rfl (lv_room (Nat.le_of_ble_eq_true rfl)) dX10_fresh_155 ⟨Nat.le_of_ble_eq_true rfl, Nat.le_of_ble_eq_true rfl⟩) hS (fun q _ h => h) (fun q h => h) (fun ur_20 t H locs ht hvm hwr_20 hB hz hk hS => ?_)
            have hM : MH E h0 rf t0 t1 t2 (uA (uA (uA (uA (uA (uA (uA (uA (uA (uA (uA (uA (uA (uA A 4 (ur_20.1)) 14 (ur_20.2.1)) 19 (ur_20.2.2.1)) 37 (ur_20.2.2.2.1)) 38 (ur_20.2.2.2.2.1)) 39 (ur_20.2.2.2.2.2.1)) 41 (ur_20.2.2.2.2.2.2.1)) 42 (ur_20.2.2.2.2.2.2.2.1)) 43 (ur_20.2.2.2.2.2.2.2.2.1)) 44 (ur_20.2.2.2.2.2.2.2.2.2.1)) 45 (ur_20.2.2.2.2.2.2.2.2.2.2.1)) 46 (ur_20.2.2.2.2.2.2.2.2.2.2.2.1)) 47 (ur_20.2.2.2.2.2.2.2.2.2.2.2.2.1)) 48 (ur_20.2.2.2.2.2.2.2.2.2.2.2.2.2.1)) cd ur_20.2.2.2.2.2.2.2.2.2.2.2.2.2.2 H := by rw [ht] at hB; exact hB
            have hDr_20 : D_X10_freshAdd A cd pk p0 (uA (uA (uA (uA (uA (uA (uA (uA (uA (uA (uA (uA (uA (uA A 4 (ur_20.1)) 14 (ur_20.2.1)) 19 (ur_20.2.2.1)) 37 (ur_20.2.2.2.1)) 38 (ur_20.2.2.2.2.1)) 39 (ur_20.2.2.2.2.2.1)) 41 (ur_20.2.2.2.2.2.2.1)) 42 (ur_20.2.2.2.2.2.2.2.1)) 43 (ur_20.2.2.2.2.2.2.2.2.1)) 44 (ur_20.2.2.2.2.2.2.2.2.2.1)) 45 (ur_20.2.2.2.2.2.2.2.2.2.2.1)) 46 (ur_20.2.2.2.2.2.2.2.2.2.2.2.1)) 47 (ur_20.2.2.2.2.2.2.2.2.2.2.2.2.1)) 48 (ur_20.2.2.2.2.2.2.2.2.2.2.2.2.2.1)) cd (ur_20.2.2.2.2.2.2.2.2.2.2.2.2.2.2) := hwr_20.2.2.2
            have hpr_20_0 : I7 (ur_20.2.2.2.2.2.2.1) (ur_20.2.2.2.2.2.2.2.1) (ur_20.2.2.2.2.2.2.2.2.2.1) (ur_20.2.2.2.2.2.2.2.2.2.2.1) (ur_20.2.2.2.2.2.2.2.2.2.2.2.1) := hwr_20.1
            have hpr_20_1 : I8 (A 20) (A 30) (ur_20.2.2.2.1) (A 36) := hwr_20.2.1
            have hpr_20_2 : 0 ≤ ur_20.2.2.2.2.2.2.2.2.2.2.2.2.2.2.toInt ∧ ur_20.2.2.2.2.2.2.2.2.2.2.2.2.2.2.toInt ≤ 24 := hwr_20.2.2.1
            exact W.vret hx hb hr (fun t ht hW => ⟨⟨((uA (uA (uA (uA (uA (uA (uA (uA (uA (uA (uA (uA (uA (uA A 4 (ur_20.1)) 14 (ur_20.2.1)) 19 (ur_20.2.2.1)) 37 (ur_20.2.2.2.1)) 38 (ur_20.2.2.2.2.1)) 39 (ur_20.2.2.2.2.2.1)) 41 (ur_20.2.2.2.2.2.2.1)) 42 (ur_20.2.2.2.2.2.2.2.1)) 43 (ur_20.2.2.2.2.2.2.2.2.1)) 44 (ur_20.2.2.2.2.2.2.2.2.2.1)) 45 (ur_20.2.2.2.2.2.2.2.2.2.2.1)) 46 (ur_20.2.2.2.2.2.2.2.2.2.2.2.1)) 47 (ur_20.2.2.2.2.2.2.2.2.2.2.2.2.1)) 48 (ur_20.2.2.2.2.2.2.2.2.2.2.2.2.2.1)), cd, ur_20.2.2.2.2.2.2.2.2.2.2.2.2.2.2), rfl, ⟨hI2, hI3, hI4, hI5, hI6, hpr_20_0, hpr_20_1, (by show 0 ≤ ur_20.2.2.2.2.2.2.2.2.2.2.2.2.2.2.toInt ∧ ur_20.2.2.2.2.2.2.2.2.2.2.2.2.2.2.toInt ≤ 24; omega), (Or.inl ⟨c_5, c_6, c_14, c_15, r_16, hDr_16, hpr_16_0, c_17, ur_20, hDr_20, hpr_20_0, hpr_20_1, hpr_20_2, rfl, rfl, rfl⟩)⟩, (by show MH E h0 rf t0 t1 t2 (uA (uA (uA (uA (uA (uA (uA (uA (uA (uA (uA (uA (uA (uA A 4 (ur_20.1)) 14 (ur_20.2.1)) 19 (ur_20.2.2.1)) 37 (ur_20.2.2.2.1)) 38 (ur_20.2.2.2.2.1)) 39 (ur_20.2.2.2.2.2.1)) 41 (ur_20.2.2.2.2.2.2.1)) 42 (ur_20.2.2.2.2.2.2.2.1)) 43 (ur_20.2.2.2.2.2.2.2.2.1)) 44 (ur_20.2.2.2.2.2.2.2.2.2.1)) 45 (ur_20.2.2.2.2.2.2.2.2.2.2.1)) 46 (ur_20.2.2.2.2.2.2.2.2.2.2.2.1)) 47 (ur_20.2.2.2.2.2.2.2.2.2.2.2.2.1)) 48 (ur_20.2.2.2.2.2.2.2.2.2.2.2.2.2.1)) cd ur_20.2.2.2.2.2.2.2.2.2.2.2.2.2.2 t.heap; rw [ht]; exact hM)⟩, hS.F ht⟩) hS.2.2 dX10_fresh_158
          · simp only [lt_I, le_I, eq_I, i_0, i_1, i_2, i_3, i_4, i_5, i_6, i_7, i_8, i_10, i_12, i_16, i_20, i_23, i_24, i_31, i_32, i_63, i_64, i_m1, i_9, i_11, i_13, i_25, i_60, i_75, i_79, i_80, i_96, i_100] at c_17
            clear hpr_16_1
            refine lv_aload_n hx hb dX10_fresh_77 rfl (lv_at hl 2 rfl) ?_
            refine lv_iload_n hx hb dX10_fresh_78 rfl (lv_at hl 3 rfl) ?_
            refine lv_iconst (v := 3) hx hb dX10_fresh_79 (by decide) ?_
            refine va_callv (rnV (fun H => MH E h0 rf t0 t1 t2 A cd pk H) (As := [.int p0, .int 3]) (rest := []) ⟨hx, hb, hml, hown, hts⟩ (u_X10_refuse l E z0 G hGz h0 rf hR t0 t1 t2 A cd pk p0 3 hI3 hI4 hI7 hI8 (show 0 ≤ p0.toInt ∧ p0.toInt ≤ 3 from by have := i_3; first | decide | omega) (show 0 ≤ pk.toInt ∧ pk.toInt ≤ 24 from by have := i_3; first | decide | omega)) (cwV 2 hts (gdV ml_X10_225 im_X10_refuse se_X10_X10_refuse in_X10 co_X10_refuse rfl) rfl rfl rfl (by decide +kernel) ⟨Nat.le_of_ble_eq_true rfl, Nat.le_of_ble_eq_true rfl⟩) hM (fun U hU hW => hK.go hW hS hAz hU) (va_recv hK.1 (va_one hM.1) (ci := 10) (q0 := 0) rfl rfl) rfl rfl hl.1 rfl (lv_room (Nat.le_of_ble_eq_true rfl)) dX10_fresh_80 ⟨Nat.le_of_ble_eq_true rfl, Nat.le_of_ble_eq_true rfl⟩) hS (fun q _ h => h) (fun q h => h) (fun ur_21 t H locs ht hvm hwr_21 hB hz hk hS => ?_)
            have hM : MH E h0 rf t0 t1 t2 (uA (uA (uA (uA (uA (uA (uA (uA (uA (uA (uA (uA (uA (uA A 41 (ur_21.1)) 42 (ur_21.2.1)) 43 (ur_21.2.2.1)) 44 (ur_21.2.2.2.1)) 45 (ur_21.2.2.2.2.1)) 46 (ur_21.2.2.2.2.2.1)) 47 (ur_21.2.2.2.2.2.2.1)) 8 (ur_21.2.2.2.2.2.2.2.1)) 9 (ur_21.2.2.2.2.2.2.2.2.1)) 10 (ur_21.2.2.2.2.2.2.2.2.2.1)) 18 (ur_21.2.2.2.2.2.2.2.2.2.2.1)) 20 (ur_21.2.2.2.2.2.2.2.2.2.2.2.1)) 30 (ur_21.2.2.2.2.2.2.2.2.2.2.2.2.1)) 36 (ur_21.2.2.2.2.2.2.2.2.2.2.2.2.2.1)) cd ur_21.2.2.2.2.2.2.2.2.2.2.2.2.2.2 H := by rw [ht] at hB; exact hB
            have hDr_21 : D_X10_refuse A cd pk p0 (3 : Int32) (uA (uA (uA (uA (uA (uA (uA (uA (uA (uA (uA (uA (uA (uA A 41 (ur_21.1)) 42 (ur_21.2.1)) 43 (ur_21.2.2.1)) 44 (ur_21.2.2.2.1)) 45 (ur_21.2.2.2.2.1)) 46 (ur_21.2.2.2.2.2.1)) 47 (ur_21.2.2.2.2.2.2.1)) 8 (ur_21.2.2.2.2.2.2.2.1)) 9 (ur_21.2.2.2.2.2.2.2.2.1)) 10 (ur_21.2.2.2.2.2.2.2.2.2.1)) 18 (ur_21.2.2.2.2.2.2.2.2.2.2.1)) 20 (ur_21.2.2.2.2.2.2.2.2.2.2.2.1)) 30 (ur_21.2.2.2.2.2.2.2.2.2.2.2.2.1)) 36 (ur_21.2.2.2.2.2.2.2.2.2.2.2.2.2.1)) cd (ur_21.2.2.2.2.2.2.2.2.2.2.2.2.2.2) := hwr_21.2.2.2.2.2
            have hpr_21_0 : I3 (ur_21.2.2.2.2.2.2.2.1) := hwr_21.1
            have hpr_21_1 : I4 (ur_21.2.2.2.2.2.2.2.2.2.1) (ur_21.2.2.2.2.2.2.2.2.2.2.2.1) (A 29) (A 24) (A 11) (A 12) (A 13) := hwr_21.2.1
            have hpr_21_2 : I7 (ur_21.1) (ur_21.2.1) (ur_21.2.2.2.1) (ur_21.2.2.2.2.1) (ur_21.2.2.2.2.2.1) := hwr_21.2.2.1
            have hpr_21_3 : I8 (ur_21.2.2.2.2.2.2.2.2.2.2.2.1) (ur_21.2.2.2.2.2.2.2.2.2.2.2.2.1) (A 37) (ur_21.2.2.2.2.2.2.2.2.2.2.2.2.2.1) := hwr_21.2.2.2.1
            have hpr_21_4 : 0 ≤ ur_21.2.2.2.2.2.2.2.2.2.2.2.2.2.2.toInt ∧ ur_21.2.2.2.2.2.2.2.2.2.2.2.2.2.2.toInt ≤ 24 := hwr_21.2.2.2.2.1
            have := i_3
            exact W.vret hx hb hr (fun t ht hW => ⟨⟨((uA (uA (uA (uA (uA (uA (uA (uA (uA (uA (uA (uA (uA (uA A 41 (ur_21.1)) 42 (ur_21.2.1)) 43 (ur_21.2.2.1)) 44 (ur_21.2.2.2.1)) 45 (ur_21.2.2.2.2.1)) 46 (ur_21.2.2.2.2.2.1)) 47 (ur_21.2.2.2.2.2.2.1)) 8 (ur_21.2.2.2.2.2.2.2.1)) 9 (ur_21.2.2.2.2.2.2.2.2.1)) 10 (ur_21.2.2.2.2.2.2.2.2.2.1)) 18 (ur_21.2.2.2.2.2.2.2.2.2.2.1)) 20 (ur_21.2.2.2.2.2.2.2.2.2.2.2.1)) 30 (ur_21.2.2.2.2.2.2.2.2.2.2.2.2.1)) 36 (ur_21.2.2.2.2.2.2.2.2.2.2.2.2.2.1)), cd, ur_21.2.2.2.2.2.2.2.2.2.2.2.2.2.2), rfl, ⟨hI2, hpr_21_0, hpr_21_1, hI5, hI6, hpr_21_2, hpr_21_3, (by show 0 ≤ ur_21.2.2.2.2.2.2.2.2.2.2.2.2.2.2.toInt ∧ ur_21.2.2.2.2.2.2.2.2.2.2.2.2.2.2.toInt ≤ 24; omega), (Or.inr (Or.inl ⟨c_5, c_6, c_14, c_15, r_16, hDr_16, hpr_16_0, c_17, ur_21, hDr_21, hpr_21_0, hpr_21_1, hpr_21_2, hpr_21_3, hpr_21_4, rfl, rfl, rfl⟩))⟩, (by show MH E h0 rf t0 t1 t2 (uA (uA (uA (uA (uA (uA (uA (uA (uA (uA (uA (uA (uA (uA A 41 (ur_21.1)) 42 (ur_21.2.1)) 43 (ur_21.2.2.1)) 44 (ur_21.2.2.2.1)) 45 (ur_21.2.2.2.2.1)) 46 (ur_21.2.2.2.2.2.1)) 47 (ur_21.2.2.2.2.2.2.1)) 8 (ur_21.2.2.2.2.2.2.2.1)) 9 (ur_21.2.2.2.2.2.2.2.2.1)) 10 (ur_21.2.2.2.2.2.2.2.2.2.1)) 18 (ur_21.2.2.2.2.2.2.2.2.2.2.1)) 20 (ur_21.2.2.2.2.2.2.2.2.2.2.2.1)) 30 (ur_21.2.2.2.2.2.2.2.2.2.2.2.2.1)) 36 (ur_21.2.2.2.2.2.2.2.2.2.2.2.2.2.1)) cd ur_21.2.2.2.2.2.2.2.2.2.2.2.2.2.2 t.heap; rw [ht]; exact hM)⟩, hS.F ht⟩) hS.2.2 dX10_fresh_83
        · simp only [lt_I, le_I, eq_I, i_0, i_1, i_2, i_3, i_4, i_5, i_6, i_7, i_8, i_10, i_12, i_16, i_20, i_23, i_24, i_31, i_32, i_63, i_64, i_m1, i_9, i_11, i_13, i_25, i_60, i_75, i_79, i_80, i_96, i_100] at c_15
          refine lv_iconst (v := 2) hx hb dX10_fresh_66 (by decide) ?_
          refine lv_goto (tgt := 71) hx hb dX10_fresh_67 (by decide) ?_
          refine va_calli (rnV (fun H => MH E h0 rf t0 t1 t2 A cd pk H) (As := [.int p0, .int ((A 45) 24), .int ((A 46) 24), .int ((A 44) 24), .int 2]) (rest := []) ⟨hx, hb, hml, hown, hts⟩ (u_X10_allows l E z0 G hGz h0 rf hR t0 t1 t2 A cd pk p0 ((A 45) 24) ((A 46) 24) ((A 44) 24) 2 hI2 (show 0 ≤ p0.toInt ∧ p0.toInt ≤ 3 from by have := i_2; first | decide | omega) (show 0 ≤ ((A 45) 24).toInt ∧ ((A 45) 24).toInt ≤ 5 from by have := i_2; first | decide | omega) (show -1 ≤ ((A 46) 24).toInt ∧ ((A 46) 24).toInt ≤ 60 from by have := i_2; first | decide | omega) (show 0 ≤ ((A 44) 24).toInt ∧ ((A 44) 24).toInt ≤ 12 from by have := i_2; first | decide | omega) (show ¬ (2 : Int32) = 0 from by have := i_2; first | decide | omega)) (cwV 5 hts (gdV ml_X10_246 im_X10_allows se_X10_X10_allows in_X10 co_X10_allows rfl) rfl rfl rfl (by decide +kernel) ⟨Nat.le_of_ble_eq_true rfl, Nat.le_of_ble_eq_true rfl⟩) hM (fun U hU hW => hK.go hW hS hAz hU) (va_recv hK.1 (va_one hM.1) (ci := 10) (q0 := 0) rfl rfl) rfl rfl hl.1 rfl (lv_room (Nat.le_of_ble_eq_true rfl)) dX10_fresh_71 ⟨Nat.le_of_ble_eq_true rfl, Nat.le_of_ble_eq_true rfl⟩) hS (fun q _ h => h.elim) (fun q h => h.elim) (fun r_22 ur_22 t H locs ht hvm hwr_22 hB hz hk hS => ?_)
          have hM := hM.kept (fun q hq => hk q hq (fun h => h))
          have hDr_22 : D_X10_allows A cd pk p0 ((A 45) 24) ((A 46) 24) ((A 44) 24) (2 : Int32) r_22 := hwr_22.2.2
          have hpr_22_0 : r_22 = 0 ∨ r_22 = 1 := hwr_22.1
          have hpr_22_1 : r_22.toInt = 0 ∨ (0 ≤ ((A 46) 24).toInt ∧ ((A 46) 24).toInt + ((A 44) 24).toInt ≤ 32) := hwr_22.2.1
          have := i_2
          have hzr_22 := s_rng hpr_22_0
          refine lv_if_ne (tgt := 84) hx hb dX10_fresh_74 (by decide) (fun c_23 => ?_) (fun c_23 => ?_)
          · simp only [lt_I, le_I, eq_I, i_0, i_1, i_2, i_3, i_4, i_5, i_6, i_7, i_8, i_10, i_12, i_16, i_20, i_23, i_24, i_31, i_32, i_63, i_64, i_m1, i_9, i_11, i_13, i_25, i_60, i_75, i_79, i_80, i_96, i_100] at c_23
            replace hpr_22_1 := hpr_22_1.resolve_left (by omega)
            refine lv_iload_n hx hb dX10_fresh_84 rfl (lv_at hl 1 rfl) ?_
            refine lv_iconst (v := 1) hx hb dX10_fresh_85 (by decide) ?_
            refine lv_icmp_ne (tgt := 130) hx hb dX10_fresh_86 (by decide) (fun c_24 => ?_) (fun c_24 => by exfalso; simp only [lt_I, le_I, eq_I, i_0, i_1, i_2, i_3, i_4, i_5, i_6, i_7, i_8, i_10, i_12, i_16, i_20, i_23, i_24, i_31, i_32, i_63, i_64, i_m1, i_9, i_11, i_13, i_25, i_60, i_75, i_79, i_80, i_96, i_100] at c_24; omega)
            simp only [lt_I, le_I, eq_I, i_0, i_1, i_2, i_3, i_4, i_5, i_6, i_7, i_8, i_10, i_12, i_16, i_20, i_23, i_24, i_31, i_32, i_63, i_64, i_m1, i_9, i_11, i_13, i_25, i_60, i_75, i_79, i_80, i_96, i_100] at c_24
            refine lv_iload_n hx hb dX10_fresh_130 rfl (lv_at hl 1 rfl) ?_
            refine lv_iconst (v := 2) hx hb dX10_fresh_131 (by decide) ?_
            refine lv_icmp_ne (tgt := 153) hx hb dX10_fresh_132 (by decide) (fun c_25 => ?_) (fun c_25 => ?_)
            · simp only [lt_I, le_I, eq_I, i_0, i_1, i_2, i_3, i_4, i_5, i_6, i_7, i_8, i_10, i_12, i_16, i_20, i_23, i_24, i_31, i_32, i_63, i_64, i_m1, i_9, i_11, i_13, i_25, i_60, i_75, i_79, i_80, i_96, i_100] at c_25
              refine lv_aload_n hx hb dX10_fresh_153 rfl (lv_at hl 2 rfl) ?_
              refine lv_iload_n hx hb dX10_fresh_154 rfl (lv_at hl 3 rfl) ?_
              refine va_callv (rnV (fun H => MH E h0 rf t0 t1 t2 A cd pk H) (As := [.int p0]) (rest := []) ⟨hx, hb, hml, hown, hts⟩ (u_X10_freshAdd l E z0 G hGz h0 rf hR t0 t1 t2 A cd pk p0 hI7 hI8 (show 0 ≤ p0.toInt ∧ p0.toInt ≤ 3 from by first | decide | omega) (show 0 ≤ pk.toInt ∧ pk.toInt ≤ 24 from by first | decide | omega) (show 0 ≤ ((A 46) 24).toInt ∧ ((A 46) 24).toInt ≤ 31 from by first | decide | omega)) (cwV 1 hts (gdV ml_X10_253 im_X10_freshAdd se_X10_X10_freshAdd in_X10 co_X10_freshAdd rfl) rfl rfl rfl (by decide +kernel) ⟨Nat.le_of_ble_eq_true rfl, Nat.le_of_ble_eq_true rfl⟩) hM (fun U hU hW => hK.go hW hS hAz hU) (va_recv hK.1 (va_one hM.1) (ci := 10) (q0 := 0) rfl rfl) rfl rfl hl.1 rfl (lv_room (Nat.le_of_ble_eq_true rfl)) dX10_fresh_155 ⟨Nat.le_of_ble_eq_true rfl, Nat.le_of_ble_eq_true rfl⟩) hS (fun q _ h => h) (fun q h => h) (fun ur_26 t H locs ht hvm hwr_26 hB hz hk hS => ?_)
              have hM : MH E h0 rf t0 t1 t2 (uA (uA (uA (uA (uA (uA (uA (uA (uA (uA (uA (uA (uA (uA A 4 (ur_26.1)) 14 (ur_26.2.1)) 19 (ur_26.2.2.1)) 37 (ur_26.2.2.2.1)) 38 (ur_26.2.2.2.2.1)) 39 (ur_26.2.2.2.2.2.1)) 41 (ur_26.2.2.2.2.2.2.1)) 42 (ur_26.2.2.2.2.2.2.2.1)) 43 (ur_26.2.2.2.2.2.2.2.2.1)) 44 (ur_26.2.2.2.2.2.2.2.2.2.1)) 45 (ur_26.2.2.2.2.2.2.2.2.2.2.1)) 46 (ur_26.2.2.2.2.2.2.2.2.2.2.2.1)) 47 (ur_26.2.2.2.2.2.2.2.2.2.2.2.2.1)) 48 (ur_26.2.2.2.2.2.2.2.2.2.2.2.2.2.1)) cd ur_26.2.2.2.2.2.2.2.2.2.2.2.2.2.2 H := by rw [ht] at hB; exact hB
              have hDr_26 : D_X10_freshAdd A cd pk p0 (uA (uA (uA (uA (uA (uA (uA (uA (uA (uA (uA (uA (uA (uA A 4 (ur_26.1)) 14 (ur_26.2.1)) 19 (ur_26.2.2.1)) 37 (ur_26.2.2.2.1)) 38 (ur_26.2.2.2.2.1)) 39 (ur_26.2.2.2.2.2.1)) 41 (ur_26.2.2.2.2.2.2.1)) 42 (ur_26.2.2.2.2.2.2.2.1)) 43 (ur_26.2.2.2.2.2.2.2.2.1)) 44 (ur_26.2.2.2.2.2.2.2.2.2.1)) 45 (ur_26.2.2.2.2.2.2.2.2.2.2.1)) 46 (ur_26.2.2.2.2.2.2.2.2.2.2.2.1)) 47 (ur_26.2.2.2.2.2.2.2.2.2.2.2.2.1)) 48 (ur_26.2.2.2.2.2.2.2.2.2.2.2.2.2.1)) cd (ur_26.2.2.2.2.2.2.2.2.2.2.2.2.2.2) := hwr_26.2.2.2
              have hpr_26_0 : I7 (ur_26.2.2.2.2.2.2.1) (ur_26.2.2.2.2.2.2.2.1) (ur_26.2.2.2.2.2.2.2.2.2.1) (ur_26.2.2.2.2.2.2.2.2.2.2.1) (ur_26.2.2.2.2.2.2.2.2.2.2.2.1) := hwr_26.1
              have hpr_26_1 : I8 (A 20) (A 30) (ur_26.2.2.2.1) (A 36) := hwr_26.2.1
              have hpr_26_2 : 0 ≤ ur_26.2.2.2.2.2.2.2.2.2.2.2.2.2.2.toInt ∧ ur_26.2.2.2.2.2.2.2.2.2.2.2.2.2.2.toInt ≤ 24 := hwr_26.2.2.1
              exact W.vret hx hb hr (fun t ht hW => ⟨⟨((uA (uA (uA (uA (uA (uA (uA (uA (uA (uA (uA (uA (uA (uA A 4 (ur_26.1)) 14 (ur_26.2.1)) 19 (ur_26.2.2.1)) 37 (ur_26.2.2.2.1)) 38 (ur_26.2.2.2.2.1)) 39 (ur_26.2.2.2.2.2.1)) 41 (ur_26.2.2.2.2.2.2.1)) 42 (ur_26.2.2.2.2.2.2.2.1)) 43 (ur_26.2.2.2.2.2.2.2.2.1)) 44 (ur_26.2.2.2.2.2.2.2.2.2.1)) 45 (ur_26.2.2.2.2.2.2.2.2.2.2.1)) 46 (ur_26.2.2.2.2.2.2.2.2.2.2.2.1)) 47 (ur_26.2.2.2.2.2.2.2.2.2.2.2.2.1)) 48 (ur_26.2.2.2.2.2.2.2.2.2.2.2.2.2.1)), cd, ur_26.2.2.2.2.2.2.2.2.2.2.2.2.2.2), rfl, ⟨hI2, hI3, hI4, hI5, hI6, hpr_26_0, hpr_26_1, (by show 0 ≤ ur_26.2.2.2.2.2.2.2.2.2.2.2.2.2.2.toInt ∧ ur_26.2.2.2.2.2.2.2.2.2.2.2.2.2.2.toInt ≤ 24; omega), (Or.inr (Or.inr (Or.inl ⟨c_5, c_6, c_14, c_15, r_22, hDr_22, hpr_22_0, c_23, c_25, ur_26, hDr_26, hpr_26_0, hpr_26_1, hpr_26_2, rfl, rfl, rfl⟩)))⟩, (by show MH E h0 rf t0 t1 t2 (uA (uA (uA (uA (uA (uA (uA (uA (uA (uA (uA (uA (uA (uA A 4 (ur_26.1)) 14 (ur_26.2.1)) 19 (ur_26.2.2.1)) 37 (ur_26.2.2.2.1)) 38 (ur_26.2.2.2.2.1)) 39 (ur_26.2.2.2.2.2.1)) 41 (ur_26.2.2.2.2.2.2.1)) 42 (ur_26.2.2.2.2.2.2.2.1)) 43 (ur_26.2.2.2.2.2.2.2.2.1)) 44 (ur_26.2.2.2.2.2.2.2.2.2.1)) 45 (ur_26.2.2.2.2.2.2.2.2.2.2.1)) 46 (ur_26.2.2.2.2.2.2.2.2.2.2.2.1)) 47 (ur_26.2.2.2.2.2.2.2.2.2.2.2.2.1)) 48 (ur_26.2.2.2.2.2.2.2.2.2.2.2.2.2.1)) cd ur_26.2.2.2.2.2.2.2.2.2.2.2.2.2.2 t.heap; rw [ht]; exact hM)⟩, hS.F ht⟩) hS.2.2 dX10_fresh_158
            · simp only [lt_I, le_I, eq_I, i_0, i_1, i_2, i_3, i_4, i_5, i_6, i_7, i_8, i_10, i_12, i_16, i_20, i_23, i_24, i_31, i_32, i_63, i_64, i_m1, i_9, i_11, i_13, i_25, i_60, i_75, i_79, i_80, i_96, i_100] at c_25
              refine lv_aload_n hx hb dX10_fresh_135 rfl (lv_at hl 2 rfl) ?_
              refine lv_iload_n hx hb dX10_fresh_136 rfl (lv_at hl 3 rfl) ?_
              refine va_callv (rnV (fun H => MH E h0 rf t0 t1 t2 A cd pk H) (As := [.int p0]) (rest := []) ⟨hx, hb, hml, hown, hts⟩ (u_X10_reads l E z0 G hGz h0 rf hR t0 t1 t2 A cd pk p0 hI7 (show 0 ≤ p0.toInt ∧ p0.toInt ≤ 3 from by first | decide | omega) (show 0 ≤ pk.toInt ∧ pk.toInt ≤ 24 from by first | decide | omega) (show 0 ≤ ((A 46) 24).toInt ∧ ((A 46) 24).toInt + ((A 44) 24).toInt ≤ 32 from by first | decide | omega)) (cwV 1 hts (gdV ml_X10_250 im_X10_reads se_X10_X10_reads in_X10 co_X10_reads rfl) rfl rfl rfl (by decide +kernel) ⟨Nat.le_of_ble_eq_true rfl, Nat.le_of_ble_eq_true rfl⟩) hM (fun U hU hW => hK.go hW hS hAz hU) (va_recv hK.1 (va_one hM.1) (ci := 10) (q0 := 0) rfl rfl) rfl rfl hl.1 rfl (lv_room (Nat.le_of_ble_eq_true rfl)) dX10_fresh_137 ⟨Nat.le_of_ble_eq_true rfl, Nat.le_of_ble_eq_true rfl⟩) hS (fun q _ h => h) (fun q h => h) (fun ur_27 t H locs ht hvm hwr_27 hB hz hk hS => ?_)
              have hM : MH E h0 rf t0 t1 t2 (uA (uA (uA (uA (uA (uA (uA (uA A 41 (ur_27.1)) 42 (ur_27.2.1)) 43 (ur_27.2.2.1)) 44 (ur_27.2.2.2.1)) 45 (ur_27.2.2.2.2.1)) 46 (ur_27.2.2.2.2.2.1)) 47 (ur_27.2.2.2.2.2.2.1)) 48 (ur_27.2.2.2.2.2.2.2.1)) cd ur_27.2.2.2.2.2.2.2.2 H := by rw [ht] at hB; exact hB
              have hDr_27 : D_X10_reads A cd pk p0 (uA (uA (uA (uA (uA (uA (uA (uA A 41 (ur_27.1)) 42 (ur_27.2.1)) 43 (ur_27.2.2.1)) 44 (ur_27.2.2.2.1)) 45 (ur_27.2.2.2.2.1)) 46 (ur_27.2.2.2.2.2.1)) 47 (ur_27.2.2.2.2.2.2.1)) 48 (ur_27.2.2.2.2.2.2.2.1)) cd (ur_27.2.2.2.2.2.2.2.2) := hwr_27.2.2
              have hpr_27_0 : I7 (ur_27.1) (ur_27.2.1) (ur_27.2.2.2.1) (ur_27.2.2.2.2.1) (ur_27.2.2.2.2.2.1) := hwr_27.1
              have hpr_27_1 : 0 ≤ ur_27.2.2.2.2.2.2.2.2.toInt ∧ ur_27.2.2.2.2.2.2.2.2.toInt ≤ 24 := hwr_27.2.1
              refine lv_aload_n hx hb dX10_fresh_140 rfl (lv_at hl 2 rfl) ?_
              refine lv_iload_n hx hb dX10_fresh_141 rfl (lv_at hl 3 rfl) ?_
              refine lv_iload_n hx hb dX10_fresh_142 rfl (lv_at hl 0 rfl) ?_
              refine lv_iconst (v := 3) hx hb dX10_fresh_143 (by decide) ?_
              refine lv_iadd hx hb dX10_fresh_144 ?_
              refine lv_topi (fun x_28 ex_28 => ?_)
              have fx_28 : x_28.toInt = ((A 44) 24).toInt + 3 := by have h9 := s_add (x := ((A 44) 24)) (y := 3) (by rw [i_3]; omega) (by rw [i_3]; omega); rw [i_3] at h9; rw [ex_28]; exact h9
              refine lv_iconst (v := 4) hx hb dX10_fresh_145 (by decide) ?_
              refine lv_idiv hx hb dX10_fresh_146 (by decide) ?_
              refine lv_topi (fun x_29 ex_29 => ?_)
              have fx_29 : x_29.toInt = x_28.toInt / 4 := by have h9 := s_div (x := x_28) 4 (by decide) (by decide) (by omega); rw [ex_29]; exact h9
              refine va_callv (rnV (fun H => MH E h0 rf t0 t1 t2 (uA (uA (uA (uA (uA (uA (uA (uA A 41 (ur_27.1)) 42 (ur_27.2.1)) 43 (ur_27.2.2.1)) 44 (ur_27.2.2.2.1)) 45 (ur_27.2.2.2.2.1)) 46 (ur_27.2.2.2.2.2.1)) 47 (ur_27.2.2.2.2.2.2.1)) 48 (ur_27.2.2.2.2.2.2.2.1)) cd ur_27.2.2.2.2.2.2.2.2 H) (As := [.int p0, .int x_29]) (rest := []) ⟨hx, hb, hml, hown, hts⟩ (u_X10_accept l E z0 G hGz h0 rf hR t0 t1 t2 (uA (uA (uA (uA (uA (uA (uA (uA A 41 (ur_27.1)) 42 (ur_27.2.1)) 43 (ur_27.2.2.1)) 44 (ur_27.2.2.2.1)) 45 (ur_27.2.2.2.2.1)) 46 (ur_27.2.2.2.2.2.1)) 47 (ur_27.2.2.2.2.2.2.1)) 48 (ur_27.2.2.2.2.2.2.2.1)) cd ur_27.2.2.2.2.2.2.2.2 p0 x_29 (show 0 ≤ p0.toInt ∧ p0.toInt ≤ 3 from by first | decide | omega)) (cwV 2 hts (gdV ml_X10_231 im_X10_accept se_X10_X10_accept in_X10 co_X10_accept rfl) rfl rfl rfl (by decide +kernel) ⟨Nat.le_of_ble_eq_true rfl, Nat.le_of_ble_eq_true rfl⟩) hM (fun U hU hW => hK.go hW hS hAz hU) (va_recv hK.1 (va_one hM.1) (ci := 10) (q0 := 0) rfl rfl) rfl rfl hl.1 rfl (lv_room (Nat.le_of_ble_eq_true rfl)) dX10_fresh_147 ⟨Nat.le_of_ble_eq_true rfl, Nat.le_of_ble_eq_true rfl⟩) hS (fun q _ h => h) (fun q h => h) (fun ur_30 t H locs ht hvm hwr_30 hB hz hk hS => ?_)
              have hM : MH E h0 rf t0 t1 t2 (uA (uA (uA (uA (uA (uA (uA (uA (uA (uA A 41 (ur_27.1)) 42 (ur_27.2.1)) 43 (ur_27.2.2.1)) 44 (ur_27.2.2.2.1)) 45 (ur_27.2.2.2.2.1)) 46 (ur_27.2.2.2.2.2.1)) 47 (ur_27.2.2.2.2.2.2.1)) 48 (ur_27.2.2.2.2.2.2.2.1)) 14 (ur_30.1)) 19 (ur_30.2)) cd ur_27.2.2.2.2.2.2.2.2 H := by rw [ht] at hB; exact hB
              have hDr_30 : D_X10_accept (uA (uA (uA (uA (uA (uA (uA (uA A 41 (ur_27.1)) 42 (ur_27.2.1)) 43 (ur_27.2.2.1)) 44 (ur_27.2.2.2.1)) 45 (ur_27.2.2.2.2.1)) 46 (ur_27.2.2.2.2.2.1)) 47 (ur_27.2.2.2.2.2.2.1)) 48 (ur_27.2.2.2.2.2.2.2.1)) cd (ur_27.2.2.2.2.2.2.2.2) p0 x_29 (uA (uA (uA (uA (uA (uA (uA (uA (uA (uA A 41 (ur_27.1)) 42 (ur_27.2.1)) 43 (ur_27.2.2.1)) 44 (ur_27.2.2.2.1)) 45 (ur_27.2.2.2.2.1)) 46 (ur_27.2.2.2.2.2.1)) 47 (ur_27.2.2.2.2.2.2.1)) 48 (ur_27.2.2.2.2.2.2.2.1)) 14 (ur_30.1)) 19 (ur_30.2)) cd (ur_27.2.2.2.2.2.2.2.2) := hwr_30
              refine lv_goto (tgt := 158) hx hb dX10_fresh_150 (by decide) ?_
              exact W.vret hx hb hr (fun t ht hW => ⟨⟨((uA (uA (uA (uA (uA (uA (uA (uA (uA (uA A 41 (ur_27.1)) 42 (ur_27.2.1)) 43 (ur_27.2.2.1)) 44 (ur_27.2.2.2.1)) 45 (ur_27.2.2.2.2.1)) 46 (ur_27.2.2.2.2.2.1)) 47 (ur_27.2.2.2.2.2.2.1)) 48 (ur_27.2.2.2.2.2.2.2.1)) 14 (ur_30.1)) 19 (ur_30.2)), cd, ur_27.2.2.2.2.2.2.2.2), rfl, ⟨hI2, hI3, hI4, hI5, hI6, hpr_27_0, hI8, (by show 0 ≤ ur_27.2.2.2.2.2.2.2.2.toInt ∧ ur_27.2.2.2.2.2.2.2.2.toInt ≤ 24; omega), (Or.inr (Or.inr (Or.inr (Or.inl ⟨c_5, c_6, c_14, c_15, r_22, hDr_22, hpr_22_0, c_23, c_25, ur_27, hDr_27, hpr_27_0, hpr_27_1, x_28, ex_28, fx_28, x_29, ex_29, fx_29, ur_30, hDr_30, rfl, rfl, rfl⟩))))⟩, (by show MH E h0 rf t0 t1 t2 (uA (uA (uA (uA (uA (uA (uA (uA (uA (uA A 41 (ur_27.1)) 42 (ur_27.2.1)) 43 (ur_27.2.2.1)) 44 (ur_27.2.2.2.1)) 45 (ur_27.2.2.2.2.1)) 46 (ur_27.2.2.2.2.2.1)) 47 (ur_27.2.2.2.2.2.2.1)) 48 (ur_27.2.2.2.2.2.2.2.1)) 14 (ur_30.1)) 19 (ur_30.2)) cd ur_27.2.2.2.2.2.2.2.2 t.heap; rw [ht]; exact hM)⟩, hS.F ht⟩) hS.2.2 dX10_fresh_158
          · simp only [lt_I, le_I, eq_I, i_0, i_1, i_2, i_3, i_4, i_5, i_6, i_7, i_8, i_10, i_12, i_16, i_20, i_23, i_24, i_31, i_32, i_63, i_64, i_m1, i_9, i_11, i_13, i_25, i_60, i_75, i_79, i_80, i_96, i_100] at c_23
            clear hpr_22_1
            refine lv_aload_n hx hb dX10_fresh_77 rfl (lv_at hl 2 rfl) ?_
            refine lv_iload_n hx hb dX10_fresh_78 rfl (lv_at hl 3 rfl) ?_
            refine lv_iconst (v := 3) hx hb dX10_fresh_79 (by decide) ?_
            refine va_callv (rnV (fun H => MH E h0 rf t0 t1 t2 A cd pk H) (As := [.int p0, .int 3]) (rest := []) ⟨hx, hb, hml, hown, hts⟩ (u_X10_refuse l E z0 G hGz h0 rf hR t0 t1 t2 A cd pk p0 3 hI3 hI4 hI7 hI8 (show 0 ≤ p0.toInt ∧ p0.toInt ≤ 3 from by have := i_3; first | decide | omega) (show 0 ≤ pk.toInt ∧ pk.toInt ≤ 24 from by have := i_3; first | decide | omega)) (cwV 2 hts (gdV ml_X10_225 im_X10_refuse se_X10_X10_refuse in_X10 co_X10_refuse rfl) rfl rfl rfl (by decide +kernel) ⟨Nat.le_of_ble_eq_true rfl, Nat.le_of_ble_eq_true rfl⟩) hM (fun U hU hW => hK.go hW hS hAz hU) (va_recv hK.1 (va_one hM.1) (ci := 10) (q0 := 0) rfl rfl) rfl rfl hl.1 rfl (lv_room (Nat.le_of_ble_eq_true rfl)) dX10_fresh_80 ⟨Nat.le_of_ble_eq_true rfl, Nat.le_of_ble_eq_true rfl⟩) hS (fun q _ h => h) (fun q h => h) (fun ur_31 t H locs ht hvm hwr_31 hB hz hk hS => ?_)
            have hM : MH E h0 rf t0 t1 t2 (uA (uA (uA (uA (uA (uA (uA (uA (uA (uA (uA (uA (uA (uA A 41 (ur_31.1)) 42 (ur_31.2.1)) 43 (ur_31.2.2.1)) 44 (ur_31.2.2.2.1)) 45 (ur_31.2.2.2.2.1)) 46 (ur_31.2.2.2.2.2.1)) 47 (ur_31.2.2.2.2.2.2.1)) 8 (ur_31.2.2.2.2.2.2.2.1)) 9 (ur_31.2.2.2.2.2.2.2.2.1)) 10 (ur_31.2.2.2.2.2.2.2.2.2.1)) 18 (ur_31.2.2.2.2.2.2.2.2.2.2.1)) 20 (ur_31.2.2.2.2.2.2.2.2.2.2.2.1)) 30 (ur_31.2.2.2.2.2.2.2.2.2.2.2.2.1)) 36 (ur_31.2.2.2.2.2.2.2.2.2.2.2.2.2.1)) cd ur_31.2.2.2.2.2.2.2.2.2.2.2.2.2.2 H := by rw [ht] at hB; exact hB
            have hDr_31 : D_X10_refuse A cd pk p0 (3 : Int32) (uA (uA (uA (uA (uA (uA (uA (uA (uA (uA (uA (uA (uA (uA A 41 (ur_31.1)) 42 (ur_31.2.1)) 43 (ur_31.2.2.1)) 44 (ur_31.2.2.2.1)) 45 (ur_31.2.2.2.2.1)) 46 (ur_31.2.2.2.2.2.1)) 47 (ur_31.2.2.2.2.2.2.1)) 8 (ur_31.2.2.2.2.2.2.2.1)) 9 (ur_31.2.2.2.2.2.2.2.2.1)) 10 (ur_31.2.2.2.2.2.2.2.2.2.1)) 18 (ur_31.2.2.2.2.2.2.2.2.2.2.1)) 20 (ur_31.2.2.2.2.2.2.2.2.2.2.2.1)) 30 (ur_31.2.2.2.2.2.2.2.2.2.2.2.2.1)) 36 (ur_31.2.2.2.2.2.2.2.2.2.2.2.2.2.1)) cd (ur_31.2.2.2.2.2.2.2.2.2.2.2.2.2.2) := hwr_31.2.2.2.2.2
            have hpr_31_0 : I3 (ur_31.2.2.2.2.2.2.2.1) := hwr_31.1
            have hpr_31_1 : I4 (ur_31.2.2.2.2.2.2.2.2.2.1) (ur_31.2.2.2.2.2.2.2.2.2.2.2.1) (A 29) (A 24) (A 11) (A 12) (A 13) := hwr_31.2.1
            have hpr_31_2 : I7 (ur_31.1) (ur_31.2.1) (ur_31.2.2.2.1) (ur_31.2.2.2.2.1) (ur_31.2.2.2.2.2.1) := hwr_31.2.2.1
            have hpr_31_3 : I8 (ur_31.2.2.2.2.2.2.2.2.2.2.2.1) (ur_31.2.2.2.2.2.2.2.2.2.2.2.2.1) (A 37) (ur_31.2.2.2.2.2.2.2.2.2.2.2.2.2.1) := hwr_31.2.2.2.1
            have hpr_31_4 : 0 ≤ ur_31.2.2.2.2.2.2.2.2.2.2.2.2.2.2.toInt ∧ ur_31.2.2.2.2.2.2.2.2.2.2.2.2.2.2.toInt ≤ 24 := hwr_31.2.2.2.2.1
            have := i_3
            exact W.vret hx hb hr (fun t ht hW => ⟨⟨((uA (uA (uA (uA (uA (uA (uA (uA (uA (uA (uA (uA (uA (uA A 41 (ur_31.1)) 42 (ur_31.2.1)) 43 (ur_31.2.2.1)) 44 (ur_31.2.2.2.1)) 45 (ur_31.2.2.2.2.1)) 46 (ur_31.2.2.2.2.2.1)) 47 (ur_31.2.2.2.2.2.2.1)) 8 (ur_31.2.2.2.2.2.2.2.1)) 9 (ur_31.2.2.2.2.2.2.2.2.1)) 10 (ur_31.2.2.2.2.2.2.2.2.2.1)) 18 (ur_31.2.2.2.2.2.2.2.2.2.2.1)) 20 (ur_31.2.2.2.2.2.2.2.2.2.2.2.1)) 30 (ur_31.2.2.2.2.2.2.2.2.2.2.2.2.1)) 36 (ur_31.2.2.2.2.2.2.2.2.2.2.2.2.2.1)), cd, ur_31.2.2.2.2.2.2.2.2.2.2.2.2.2.2), rfl, ⟨hI2, hpr_31_0, hpr_31_1, hI5, hI6, hpr_31_2, hpr_31_3, (by show 0 ≤ ur_31.2.2.2.2.2.2.2.2.2.2.2.2.2.2.toInt ∧ ur_31.2.2.2.2.2.2.2.2.2.2.2.2.2.2.toInt ≤ 24; omega), (Or.inr (Or.inr (Or.inr (Or.inr (Or.inl ⟨c_5, c_6, c_14, c_15, r_22, hDr_22, hpr_22_0, c_23, ur_31, hDr_31, hpr_31_0, hpr_31_1, hpr_31_2, hpr_31_3, hpr_31_4, rfl, rfl, rfl⟩)))))⟩, (by show MH E h0 rf t0 t1 t2 (uA (uA (uA (uA (uA (uA (uA (uA (uA (uA (uA (uA (uA (uA A 41 (ur_31.1)) 42 (ur_31.2.1)) 43 (ur_31.2.2.1)) 44 (ur_31.2.2.2.1)) 45 (ur_31.2.2.2.2.1)) 46 (ur_31.2.2.2.2.2.1)) 47 (ur_31.2.2.2.2.2.2.1)) 8 (ur_31.2.2.2.2.2.2.2.1)) 9 (ur_31.2.2.2.2.2.2.2.2.1)) 10 (ur_31.2.2.2.2.2.2.2.2.2.1)) 18 (ur_31.2.2.2.2.2.2.2.2.2.2.1)) 20 (ur_31.2.2.2.2.2.2.2.2.2.2.2.1)) 30 (ur_31.2.2.2.2.2.2.2.2.2.2.2.2.1)) 36 (ur_31.2.2.2.2.2.2.2.2.2.2.2.2.2.1)) cd ur_31.2.2.2.2.2.2.2.2.2.2.2.2.2.2 t.heap; rw [ht]; exact hM)⟩, hS.F ht⟩) hS.2.2 dX10_fresh_83
      · simp only [lt_I, le_I, eq_I, i_0, i_1, i_2, i_3, i_4, i_5, i_6, i_7, i_8, i_10, i_12, i_16, i_20, i_23, i_24, i_31, i_32, i_63, i_64, i_m1, i_9, i_11, i_13, i_25, i_60, i_75, i_79, i_80, i_96, i_100] at c_14
        refine lv_iconst (v := 1) hx hb dX10_fresh_57 (by decide) ?_
        refine lv_goto (tgt := 71) hx hb dX10_fresh_58 (by decide) ?_
        refine va_calli (rnV (fun H => MH E h0 rf t0 t1 t2 A cd pk H) (As := [.int p0, .int ((A 45) 24), .int ((A 46) 24), .int ((A 44) 24), .int 1]) (rest := []) ⟨hx, hb, hml, hown, hts⟩ (u_X10_allows l E z0 G hGz h0 rf hR t0 t1 t2 A cd pk p0 ((A 45) 24) ((A 46) 24) ((A 44) 24) 1 hI2 (show 0 ≤ p0.toInt ∧ p0.toInt ≤ 3 from by have := i_1; first | decide | omega) (show 0 ≤ ((A 45) 24).toInt ∧ ((A 45) 24).toInt ≤ 5 from by have := i_1; first | decide | omega) (show -1 ≤ ((A 46) 24).toInt ∧ ((A 46) 24).toInt ≤ 60 from by have := i_1; first | decide | omega) (show 0 ≤ ((A 44) 24).toInt ∧ ((A 44) 24).toInt ≤ 12 from by have := i_1; first | decide | omega) (show ¬ (1 : Int32) = 0 from by have := i_1; first | decide | omega)) (cwV 5 hts (gdV ml_X10_246 im_X10_allows se_X10_X10_allows in_X10 co_X10_allows rfl) rfl rfl rfl (by decide +kernel) ⟨Nat.le_of_ble_eq_true rfl, Nat.le_of_ble_eq_true rfl⟩) hM (fun U hU hW => hK.go hW hS hAz hU) (va_recv hK.1 (va_one hM.1) (ci := 10) (q0 := 0) rfl rfl) rfl rfl hl.1 rfl (lv_room (Nat.le_of_ble_eq_true rfl)) dX10_fresh_71 ⟨Nat.le_of_ble_eq_true rfl, Nat.le_of_ble_eq_true rfl⟩) hS (fun q _ h => h.elim) (fun q h => h.elim) (fun r_32 ur_32 t H locs ht hvm hwr_32 hB hz hk hS => ?_)
        have hM := hM.kept (fun q hq => hk q hq (fun h => h))
        have hDr_32 : D_X10_allows A cd pk p0 ((A 45) 24) ((A 46) 24) ((A 44) 24) (1 : Int32) r_32 := hwr_32.2.2
        have hpr_32_0 : r_32 = 0 ∨ r_32 = 1 := hwr_32.1
        have hpr_32_1 : r_32.toInt = 0 ∨ (0 ≤ ((A 46) 24).toInt ∧ ((A 46) 24).toInt + ((A 44) 24).toInt ≤ 32) := hwr_32.2.1
        have := i_1
        have hzr_32 := s_rng hpr_32_0
        refine lv_if_ne (tgt := 84) hx hb dX10_fresh_74 (by decide) (fun c_33 => ?_) (fun c_33 => ?_)
        · simp only [lt_I, le_I, eq_I, i_0, i_1, i_2, i_3, i_4, i_5, i_6, i_7, i_8, i_10, i_12, i_16, i_20, i_23, i_24, i_31, i_32, i_63, i_64, i_m1, i_9, i_11, i_13, i_25, i_60, i_75, i_79, i_80, i_96, i_100] at c_33
          replace hpr_32_1 := hpr_32_1.resolve_left (by omega)
          refine lv_iload_n hx hb dX10_fresh_84 rfl (lv_at hl 1 rfl) ?_
          refine lv_iconst (v := 1) hx hb dX10_fresh_85 (by decide) ?_
          refine lv_icmp_ne (tgt := 130) hx hb dX10_fresh_86 (by decide) (fun c_34 => ?_) (fun c_34 => ?_)
          · simp only [lt_I, le_I, eq_I, i_0, i_1, i_2, i_3, i_4, i_5, i_6, i_7, i_8, i_10, i_12, i_16, i_20, i_23, i_24, i_31, i_32, i_63, i_64, i_m1, i_9, i_11, i_13, i_25, i_60, i_75, i_79, i_80, i_96, i_100] at c_34
            refine lv_iload_n hx hb dX10_fresh_130 rfl (lv_at hl 1 rfl) ?_
            refine lv_iconst (v := 2) hx hb dX10_fresh_131 (by decide) ?_
            refine lv_icmp_ne (tgt := 153) hx hb dX10_fresh_132 (by decide) (fun c_35 => ?_) (fun c_35 => by exfalso; simp only [lt_I, le_I, eq_I, i_0, i_1, i_2, i_3, i_4, i_5, i_6, i_7, i_8, i_10, i_12, i_16, i_20, i_23, i_24, i_31, i_32, i_63, i_64, i_m1, i_9, i_11, i_13, i_25, i_60, i_75, i_79, i_80, i_96, i_100] at c_35; omega)
            simp only [lt_I, le_I, eq_I, i_0, i_1, i_2, i_3, i_4, i_5, i_6, i_7, i_8, i_10, i_12, i_16, i_20, i_23, i_24, i_31, i_32, i_63, i_64, i_m1, i_9, i_11, i_13, i_25, i_60, i_75, i_79, i_80, i_96, i_100] at c_35
            refine lv_aload_n hx hb dX10_fresh_153 rfl (lv_at hl 2 rfl) ?_
            refine lv_iload_n hx hb dX10_fresh_154 rfl (lv_at hl 3 rfl) ?_
            refine va_callv (rnV (fun H => MH E h0 rf t0 t1 t2 A cd pk H) (As := [.int p0]) (rest := []) ⟨hx, hb, hml, hown, hts⟩ (u_X10_freshAdd l E z0 G hGz h0 rf hR t0 t1 t2 A cd pk p0 hI7 hI8 (show 0 ≤ p0.toInt ∧ p0.toInt ≤ 3 from by first | decide | omega) (show 0 ≤ pk.toInt ∧ pk.toInt ≤ 24 from by first | decide | omega) (show 0 ≤ ((A 46) 24).toInt ∧ ((A 46) 24).toInt ≤ 31 from by first | decide | omega)) (cwV 1 hts (gdV ml_X10_253 im_X10_freshAdd se_X10_X10_freshAdd in_X10 co_X10_freshAdd rfl) rfl rfl rfl (by decide +kernel) ⟨Nat.le_of_ble_eq_true rfl, Nat.le_of_ble_eq_true rfl⟩) hM (fun U hU hW => hK.go hW hS hAz hU) (va_recv hK.1 (va_one hM.1) (ci := 10) (q0 := 0) rfl rfl) rfl rfl hl.1 rfl (lv_room (Nat.le_of_ble_eq_true rfl)) dX10_fresh_155 ⟨Nat.le_of_ble_eq_true rfl, Nat.le_of_ble_eq_true rfl⟩) hS (fun q _ h => h) (fun q h => h) (fun ur_36 t H locs ht hvm hwr_36 hB hz hk hS => ?_)
            have hM : MH E h0 rf t0 t1 t2 (uA (uA (uA (uA (uA (uA (uA (uA (uA (uA (uA (uA (uA (uA A 4 (ur_36.1)) 14 (ur_36.2.1)) 19 (ur_36.2.2.1)) 37 (ur_36.2.2.2.1)) 38 (ur_36.2.2.2.2.1)) 39 (ur_36.2.2.2.2.2.1)) 41 (ur_36.2.2.2.2.2.2.1)) 42 (ur_36.2.2.2.2.2.2.2.1)) 43 (ur_36.2.2.2.2.2.2.2.2.1)) 44 (ur_36.2.2.2.2.2.2.2.2.2.1)) 45 (ur_36.2.2.2.2.2.2.2.2.2.2.1)) 46 (ur_36.2.2.2.2.2.2.2.2.2.2.2.1)) 47 (ur_36.2.2.2.2.2.2.2.2.2.2.2.2.1)) 48 (ur_36.2.2.2.2.2.2.2.2.2.2.2.2.2.1)) cd ur_36.2.2.2.2.2.2.2.2.2.2.2.2.2.2 H := by rw [ht] at hB; exact hB
            have hDr_36 : D_X10_freshAdd A cd pk p0 (uA (uA (uA (uA (uA (uA (uA (uA (uA (uA (uA (uA (uA (uA A 4 (ur_36.1)) 14 (ur_36.2.1)) 19 (ur_36.2.2.1)) 37 (ur_36.2.2.2.1)) 38 (ur_36.2.2.2.2.1)) 39 (ur_36.2.2.2.2.2.1)) 41 (ur_36.2.2.2.2.2.2.1)) 42 (ur_36.2.2.2.2.2.2.2.1)) 43 (ur_36.2.2.2.2.2.2.2.2.1)) 44 (ur_36.2.2.2.2.2.2.2.2.2.1)) 45 (ur_36.2.2.2.2.2.2.2.2.2.2.1)) 46 (ur_36.2.2.2.2.2.2.2.2.2.2.2.1)) 47 (ur_36.2.2.2.2.2.2.2.2.2.2.2.2.1)) 48 (ur_36.2.2.2.2.2.2.2.2.2.2.2.2.2.1)) cd (ur_36.2.2.2.2.2.2.2.2.2.2.2.2.2.2) := hwr_36.2.2.2
            have hpr_36_0 : I7 (ur_36.2.2.2.2.2.2.1) (ur_36.2.2.2.2.2.2.2.1) (ur_36.2.2.2.2.2.2.2.2.2.1) (ur_36.2.2.2.2.2.2.2.2.2.2.1) (ur_36.2.2.2.2.2.2.2.2.2.2.2.1) := hwr_36.1
            have hpr_36_1 : I8 (A 20) (A 30) (ur_36.2.2.2.1) (A 36) := hwr_36.2.1
            have hpr_36_2 : 0 ≤ ur_36.2.2.2.2.2.2.2.2.2.2.2.2.2.2.toInt ∧ ur_36.2.2.2.2.2.2.2.2.2.2.2.2.2.2.toInt ≤ 24 := hwr_36.2.2.1
            exact W.vret hx hb hr (fun t ht hW => ⟨⟨((uA (uA (uA (uA (uA (uA (uA (uA (uA (uA (uA (uA (uA (uA A 4 (ur_36.1)) 14 (ur_36.2.1)) 19 (ur_36.2.2.1)) 37 (ur_36.2.2.2.1)) 38 (ur_36.2.2.2.2.1)) 39 (ur_36.2.2.2.2.2.1)) 41 (ur_36.2.2.2.2.2.2.1)) 42 (ur_36.2.2.2.2.2.2.2.1)) 43 (ur_36.2.2.2.2.2.2.2.2.1)) 44 (ur_36.2.2.2.2.2.2.2.2.2.1)) 45 (ur_36.2.2.2.2.2.2.2.2.2.2.1)) 46 (ur_36.2.2.2.2.2.2.2.2.2.2.2.1)) 47 (ur_36.2.2.2.2.2.2.2.2.2.2.2.2.1)) 48 (ur_36.2.2.2.2.2.2.2.2.2.2.2.2.2.1)), cd, ur_36.2.2.2.2.2.2.2.2.2.2.2.2.2.2), rfl, ⟨hI2, hI3, hI4, hI5, hI6, hpr_36_0, hpr_36_1, (by show 0 ≤ ur_36.2.2.2.2.2.2.2.2.2.2.2.2.2.2.toInt ∧ ur_36.2.2.2.2.2.2.2.2.2.2.2.2.2.2.toInt ≤ 24; omega), (Or.inr (Or.inr (Or.inr (Or.inr (Or.inr (Or.inl ⟨c_5, c_6, c_14, r_32, hDr_32, hpr_32_0, c_33, c_34, ur_36, hDr_36, hpr_36_0, hpr_36_1, hpr_36_2, rfl, rfl, rfl⟩))))))⟩, (by show MH E h0 rf t0 t1 t2 (uA (uA (uA (uA (uA (uA (uA (uA (uA (uA (uA (uA (uA (uA A 4 (ur_36.1)) 14 (ur_36.2.1)) 19 (ur_36.2.2.1)) 37 (ur_36.2.2.2.1)) 38 (ur_36.2.2.2.2.1)) 39 (ur_36.2.2.2.2.2.1)) 41 (ur_36.2.2.2.2.2.2.1)) 42 (ur_36.2.2.2.2.2.2.2.1)) 43 (ur_36.2.2.2.2.2.2.2.2.1)) 44 (ur_36.2.2.2.2.2.2.2.2.2.1)) 45 (ur_36.2.2.2.2.2.2.2.2.2.2.1)) 46 (ur_36.2.2.2.2.2.2.2.2.2.2.2.1)) 47 (ur_36.2.2.2.2.2.2.2.2.2.2.2.2.1)) 48 (ur_36.2.2.2.2.2.2.2.2.2.2.2.2.2.1)) cd ur_36.2.2.2.2.2.2.2.2.2.2.2.2.2.2 t.heap; rw [ht]; exact hM)⟩, hS.F ht⟩) hS.2.2 dX10_fresh_158
          · simp only [lt_I, le_I, eq_I, i_0, i_1, i_2, i_3, i_4, i_5, i_6, i_7, i_8, i_10, i_12, i_16, i_20, i_23, i_24, i_31, i_32, i_63, i_64, i_m1, i_9, i_11, i_13, i_25, i_60, i_75, i_79, i_80, i_96, i_100] at c_34
            refine lv_aload_n hx hb dX10_fresh_89 rfl (lv_at hl 2 rfl) ?_
            refine lv_bipush (v := 32) hx hb dX10_fresh_90 (by decide) ?_
            refine lv_iload_n hx hb dX10_fresh_92 rfl (lv_at hl 3 rfl) ?_
            refine W.callR (W.runS (As := [.int p0]) (rest := [.int 32, .ref h0]) ⟨hx, hb, hml, hown, hts⟩ (c_X10_nodeOf l p0) (cwS 1 hts (gdS ml_X10_160 st_X10_nodeOf in_X10 co_X10_nodeOf rfl) rfl rfl rfl (by decide +kernel) ⟨Nat.le_of_ble_eq_true rfl, Nat.le_of_ble_eq_true rfl⟩) preEq rfl rfl hl.1 rfl (lv_room (Nat.le_of_ble_eq_true rfl)) dX10_fresh_93 ⟨Nat.le_of_ble_eq_true rfl, Nat.le_of_ble_eq_true rfl⟩) ?_
            refine W.eq (g2 := F0 m 96 ls [.int (p0 - p0 / 2 * 2), .int 32, .ref h0]) (by rfl) ?_
            refine lv_topi (fun x_37 ex_37 => ?_)
            have fx_37 : x_37.toInt = p0.toInt % 2 := by rw [ex_37]; exact s_rem (x := p0) 2 (by decide) (by decide) (by omega)
            refine lv_imul hx hb dX10_fresh_96 ?_
            refine lv_topi (fun x_38 ex_38 => ?_)
            have fx_38 : x_38.toInt = 32 * x_37.toInt := by rw [ex_38]; exact s_mulK i_32 (by omega) (by omega)
            refine lv_aload_n hx hb dX10_fresh_97 rfl (lv_at hl 2 rfl) ?_
            refine va_get (D := DG E) (ci := 10) (v := .ref (rf 46)) (C := RX10) (T := TX10) (N := 49) hx hb hts iw_X10 hown hK.1 (va_one hM.1) 0 rfl rfl 46 (by decide) (hts _ fl_X10_134) (fun _ h9 => h9) rfl dX10_fresh_98 ?_
            refine lv_bipush (v := 24) hx hb dX10_fresh_101 (by decide) ?_
            have ha_39 : va_at (DG E) vwCl (rf 46, .inl (E.2.2 0, 25, .inl (A 46))) _ := hM.2 46 (by decide) (by decide) (by decide)
            refine va_iald (D := DG E) hx hb hK.1 (va_one ha_39) 0 0 rfl rfl (show vp_in (24) 25 from vp_in_iff.mpr ⟨by decide, by decide⟩) dX10_fresh_103 ?_
            refine W.eq (g2 := F0 m 104 ls [.int ((A 46) 24), .int x_38, .ref h0]) (by rfl) ?_
            refine lv_iadd hx hb dX10_fresh_104 ?_
            refine lv_topi (fun x_40 ex_40 => ?_)
            have fx_40 : x_40.toInt = x_38.toInt + ((A 46) 24).toInt := by have h9 := s_add (x := x_38) (y := ((A 46) 24)) (by omega) (by omega); rw [ex_40]; exact h9
            refine lv_iload_n hx hb dX10_fresh_105 rfl (lv_at hl 0 rfl) ?_
            refine va_callv (rnV (fun H => MH E h0 rf t0 t1 t2 A cd pk H) (As := [.int x_40, .int ((A 44) 24)]) (rest := []) ⟨hx, hb, hml, hown, hts⟩ (u_X10_takeCells l E z0 G hGz h0 rf hR t0 t1 t2 A cd pk x_40 ((A 44) 24) (show 0 ≤ x_40.toInt ∧ x_40.toInt ≤ 64 from by first | decide | omega) (show 0 ≤ ((A 44) 24).toInt ∧ ((A 44) 24).toInt ≤ 4 from by first | decide | omega) (show x_40.toInt + ((A 44) 24).toInt ≤ 64 from by first | decide | omega)) (cwV 2 hts (gdV ml_X10_228 im_X10_takeCells se_X10_X10_takeCells in_X10 co_X10_takeCells rfl) rfl rfl rfl (by decide +kernel) ⟨Nat.le_of_ble_eq_true rfl, Nat.le_of_ble_eq_true rfl⟩) hM (fun U hU hW => hK.go hW hS hAz hU) (va_recv hK.1 (va_one hM.1) (ci := 10) (q0 := 0) rfl rfl) rfl rfl hl.1 rfl (lv_room (Nat.le_of_ble_eq_true rfl)) dX10_fresh_106 ⟨Nat.le_of_ble_eq_true rfl, Nat.le_of_ble_eq_true rfl⟩) hS (fun q _ h => h) (fun q h => h) (fun ur_41 t H locs ht hvm hwr_41 hB hz hk hS => ?_)
            have hM : MH E h0 rf t0 t1 t2 (uA A 4 ur_41) cd pk H := by rw [ht] at hB; exact hB
            have hDr_41 : D_X10_takeCells A cd pk x_40 ((A 44) 24) (uA A 4 ur_41) cd pk := hwr_41
            refine lv_aload_n hx hb dX10_fresh_109 rfl (lv_at hl 2 rfl) ?_
            refine lv_iload_n hx hb dX10_fresh_110 rfl (lv_at hl 3 rfl) ?_
            refine lv_iconst (v := 1) hx hb dX10_fresh_111 (by decide) ?_
            refine va_callv (rnV (fun H => MH E h0 rf t0 t1 t2 (uA A 4 ur_41) cd pk H) (As := [.int p0, .int 1]) (rest := []) ⟨hx, hb, hml, hown, hts⟩ (u_X10_accept l E z0 G hGz h0 rf hR t0 t1 t2 (uA A 4 ur_41) cd pk p0 1 (show 0 ≤ p0.toInt ∧ p0.toInt ≤ 3 from by have := i_1; first | decide | omega)) (cwV 2 hts (gdV ml_X10_231 im_X10_accept se_X10_X10_accept in_X10 co_X10_accept rfl) rfl rfl rfl (by decide +kernel) ⟨Nat.le_of_ble_eq_true rfl, Nat.le_of_ble_eq_true rfl⟩) hM (fun U hU hW => hK.go hW hS hAz hU) (va_recv hK.1 (va_one hM.1) (ci := 10) (q0 := 0) rfl rfl) rfl rfl hl.1 rfl (lv_room (Nat.le_of_ble_eq_true rfl)) dX10_fresh_112 ⟨Nat.le_of_ble_eq_true rfl, Nat.le_of_ble_eq_true rfl⟩) hS (fun q _ h => h) (fun q h => h) (fun ur_42 t H locs ht hvm hwr_42 hB hz hk hS => ?_)
            have hM : MH E h0 rf t0 t1 t2 (uA (uA (uA A 4 ur_41) 14 (ur_42.1)) 19 (ur_42.2)) cd pk H := by rw [ht] at hB; exact hB
            have hDr_42 : D_X10_accept (uA A 4 ur_41) cd pk p0 (1 : Int32) (uA (uA (uA A 4 ur_41) 14 (ur_42.1)) 19 (ur_42.2)) cd pk := hwr_42
            refine lv_aload_n hx hb dX10_fresh_115 rfl (lv_at hl 2 rfl) ?_
            refine lv_iload_n hx hb dX10_fresh_116 rfl (lv_at hl 3 rfl) ?_
            refine lv_aload_n hx hb dX10_fresh_117 rfl (lv_at hl 2 rfl) ?_
            refine va_get (D := DG E) (ci := 10) (v := .ref (rf 43)) (C := RX10) (T := TX10) (N := 49) hx hb hts iw_X10 hown hK.1 (va_one hM.1) 0 rfl rfl 43 (by decide) (hts _ fl_X10_125) (fun _ h9 => h9) rfl dX10_fresh_118 ?_
            refine lv_bipush (v := 24) hx hb dX10_fresh_121 (by decide) ?_
            have ha_43 : va_at (DG E) vwCl (rf 43, .inl (E.2.2 0, 25, .inl (A 43))) _ := hM.2 43 (by decide) (by decide) (by decide)
            refine va_iald (D := DG E) hx hb hK.1 (va_one ha_43) 0 0 rfl rfl (show vp_in (24) 25 from vp_in_iff.mpr ⟨by decide, by decide⟩) dX10_fresh_123 ?_
            refine W.eq (g2 := F0 m 124 ls [.int ((A 43) 24), .int p0, .ref h0]) (by rfl) ?_
            refine va_callv (rnV (fun H => MH E h0 rf t0 t1 t2 (uA (uA (uA A 4 ur_41) 14 (ur_42.1)) 19 (ur_42.2)) cd pk H) (As := [.int p0, .int ((A 43) 24)]) (rest := []) ⟨hx, hb, hml, hown, hts⟩ (u_X10_ack l E z0 G hGz h0 rf hR t0 t1 t2 (uA (uA (uA A 4 ur_41) 14 (ur_42.1)) 19 (ur_42.2)) cd pk p0 ((A 43) 24) hI7 (show 0 ≤ p0.toInt ∧ p0.toInt ≤ 3 from by first | decide | omega) (show 0 ≤ pk.toInt ∧ pk.toInt ≤ 24 from by first | decide | omega)) (cwV 2 hts (gdV ml_X10_234 im_X10_ack se_X10_X10_ack in_X10 co_X10_ack rfl) rfl rfl rfl (by decide +kernel) ⟨Nat.le_of_ble_eq_true rfl, Nat.le_of_ble_eq_true rfl⟩) hM (fun U hU hW => hK.go hW hS hAz hU) (va_recv hK.1 (va_one hM.1) (ci := 10) (q0 := 0) rfl rfl) rfl rfl hl.1 rfl (lv_room (Nat.le_of_ble_eq_true rfl)) dX10_fresh_124 ⟨Nat.le_of_ble_eq_true rfl, Nat.le_of_ble_eq_true rfl⟩) hS (fun q _ h => h) (fun q h => h) (fun ur_44 t H locs ht hvm hwr_44 hB hz hk hS => ?_)
            have hM : MH E h0 rf t0 t1 t2 (uA (uA (uA (uA (uA (uA (uA (uA (uA (uA A 4 ur_41) 14 (ur_42.1)) 19 (ur_42.2)) 41 (ur_44.1)) 42 (ur_44.2.1)) 43 (ur_44.2.2.1)) 44 (ur_44.2.2.2.1)) 45 (ur_44.2.2.2.2.1)) 46 (ur_44.2.2.2.2.2.1)) 47 (ur_44.2.2.2.2.2.2.1)) cd ur_44.2.2.2.2.2.2.2 H := by rw [ht] at hB; exact hB
            have hDr_44 : D_X10_ack (uA (uA (uA A 4 ur_41) 14 (ur_42.1)) 19 (ur_42.2)) cd pk p0 ((A 43) 24) (uA (uA (uA (uA (uA (uA (uA (uA (uA (uA A 4 ur_41) 14 (ur_42.1)) 19 (ur_42.2)) 41 (ur_44.1)) 42 (ur_44.2.1)) 43 (ur_44.2.2.1)) 44 (ur_44.2.2.2.1)) 45 (ur_44.2.2.2.2.1)) 46 (ur_44.2.2.2.2.2.1)) 47 (ur_44.2.2.2.2.2.2.1)) cd (ur_44.2.2.2.2.2.2.2) := hwr_44.2.2.2
            have hpr_44_0 : I7 (ur_44.1) (ur_44.2.1) (ur_44.2.2.2.1) (ur_44.2.2.2.2.1) (ur_44.2.2.2.2.2.1) := hwr_44.1
            have hpr_44_1 : 0 ≤ ur_44.2.2.2.2.2.2.2.toInt ∧ ur_44.2.2.2.2.2.2.2.toInt ≤ 24 := hwr_44.2.1
            have hpr_44_2 : ((ur_44.2.2.2.1) 24).toInt = ((A 44) 24).toInt ∧ ((ur_44.2.2.2.2.2.1) 24).toInt = ((A 46) 24).toInt := hwr_44.2.2.1
            refine lv_goto (tgt := 158) hx hb dX10_fresh_127 (by decide) ?_
            exact W.vret hx hb hr (fun t ht hW => ⟨⟨((uA (uA (uA (uA (uA (uA (uA (uA (uA (uA A 4 ur_41) 14 (ur_42.1)) 19 (ur_42.2)) 41 (ur_44.1)) 42 (ur_44.2.1)) 43 (ur_44.2.2.1)) 44 (ur_44.2.2.2.1)) 45 (ur_44.2.2.2.2.1)) 46 (ur_44.2.2.2.2.2.1)) 47 (ur_44.2.2.2.2.2.2.1)), cd, ur_44.2.2.2.2.2.2.2), rfl, ⟨hI2, hI3, hI4, hI5, hI6, hpr_44_0, hI8, (by show 0 ≤ ur_44.2.2.2.2.2.2.2.toInt ∧ ur_44.2.2.2.2.2.2.2.toInt ≤ 24; omega), (Or.inr (Or.inr (Or.inr (Or.inr (Or.inr (Or.inr (Or.inl ⟨c_5, c_6, c_14, r_32, hDr_32, hpr_32_0, c_33, c_34, x_37, ex_37, fx_37, x_38, ex_38, fx_38, x_40, ex_40, fx_40, ur_41, hDr_41, ur_42, hDr_42, ur_44, hDr_44, hpr_44_0, hpr_44_1, hpr_44_2, rfl, rfl, rfl⟩)))))))⟩, (by show MH E h0 rf t0 t1 t2 (uA (uA (uA (uA (uA (uA (uA (uA (uA (uA A 4 ur_41) 14 (ur_42.1)) 19 (ur_42.2)) 41 (ur_44.1)) 42 (ur_44.2.1)) 43 (ur_44.2.2.1)) 44 (ur_44.2.2.2.1)) 45 (ur_44.2.2.2.2.1)) 46 (ur_44.2.2.2.2.2.1)) 47 (ur_44.2.2.2.2.2.2.1)) cd ur_44.2.2.2.2.2.2.2 t.heap; rw [ht]; exact hM)⟩, hS.F ht⟩) hS.2.2 dX10_fresh_158
        · simp only [lt_I, le_I, eq_I, i_0, i_1, i_2, i_3, i_4, i_5, i_6, i_7, i_8, i_10, i_12, i_16, i_20, i_23, i_24, i_31, i_32, i_63, i_64, i_m1, i_9, i_11, i_13, i_25, i_60, i_75, i_79, i_80, i_96, i_100] at c_33
          clear hpr_32_1
          refine lv_aload_n hx hb dX10_fresh_77 rfl (lv_at hl 2 rfl) ?_
          refine lv_iload_n hx hb dX10_fresh_78 rfl (lv_at hl 3 rfl) ?_
          refine lv_iconst (v := 3) hx hb dX10_fresh_79 (by decide) ?_
          refine va_callv (rnV (fun H => MH E h0 rf t0 t1 t2 A cd pk H) (As := [.int p0, .int 3]) (rest := []) ⟨hx, hb, hml, hown, hts⟩ (u_X10_refuse l E z0 G hGz h0 rf hR t0 t1 t2 A cd pk p0 3 hI3 hI4 hI7 hI8 (show 0 ≤ p0.toInt ∧ p0.toInt ≤ 3 from by have := i_3; first | decide | omega) (show 0 ≤ pk.toInt ∧ pk.toInt ≤ 24 from by have := i_3; first | decide | omega)) (cwV 2 hts (gdV ml_X10_225 im_X10_refuse se_X10_X10_refuse in_X10 co_X10_refuse rfl) rfl rfl rfl (by decide +kernel) ⟨Nat.le_of_ble_eq_true rfl, Nat.le_of_ble_eq_true rfl⟩) hM (fun U hU hW => hK.go hW hS hAz hU) (va_recv hK.1 (va_one hM.1) (ci := 10) (q0 := 0) rfl rfl) rfl rfl hl.1 rfl (lv_room (Nat.le_of_ble_eq_true rfl)) dX10_fresh_80 ⟨Nat.le_of_ble_eq_true rfl, Nat.le_of_ble_eq_true rfl⟩) hS (fun q _ h => h) (fun q h => h) (fun ur_45 t H locs ht hvm hwr_45 hB hz hk hS => ?_)
          have hM : MH E h0 rf t0 t1 t2 (uA (uA (uA (uA (uA (uA (uA (uA (uA (uA (uA (uA (uA (uA A 41 (ur_45.1)) 42 (ur_45.2.1)) 43 (ur_45.2.2.1)) 44 (ur_45.2.2.2.1)) 45 (ur_45.2.2.2.2.1)) 46 (ur_45.2.2.2.2.2.1)) 47 (ur_45.2.2.2.2.2.2.1)) 8 (ur_45.2.2.2.2.2.2.2.1)) 9 (ur_45.2.2.2.2.2.2.2.2.1)) 10 (ur_45.2.2.2.2.2.2.2.2.2.1)) 18 (ur_45.2.2.2.2.2.2.2.2.2.2.1)) 20 (ur_45.2.2.2.2.2.2.2.2.2.2.2.1)) 30 (ur_45.2.2.2.2.2.2.2.2.2.2.2.2.1)) 36 (ur_45.2.2.2.2.2.2.2.2.2.2.2.2.2.1)) cd ur_45.2.2.2.2.2.2.2.2.2.2.2.2.2.2 H := by rw [ht] at hB; exact hB
          have hDr_45 : D_X10_refuse A cd pk p0 (3 : Int32) (uA (uA (uA (uA (uA (uA (uA (uA (uA (uA (uA (uA (uA (uA A 41 (ur_45.1)) 42 (ur_45.2.1)) 43 (ur_45.2.2.1)) 44 (ur_45.2.2.2.1)) 45 (ur_45.2.2.2.2.1)) 46 (ur_45.2.2.2.2.2.1)) 47 (ur_45.2.2.2.2.2.2.1)) 8 (ur_45.2.2.2.2.2.2.2.1)) 9 (ur_45.2.2.2.2.2.2.2.2.1)) 10 (ur_45.2.2.2.2.2.2.2.2.2.1)) 18 (ur_45.2.2.2.2.2.2.2.2.2.2.1)) 20 (ur_45.2.2.2.2.2.2.2.2.2.2.2.1)) 30 (ur_45.2.2.2.2.2.2.2.2.2.2.2.2.1)) 36 (ur_45.2.2.2.2.2.2.2.2.2.2.2.2.2.1)) cd (ur_45.2.2.2.2.2.2.2.2.2.2.2.2.2.2) := hwr_45.2.2.2.2.2
          have hpr_45_0 : I3 (ur_45.2.2.2.2.2.2.2.1) := hwr_45.1
          have hpr_45_1 : I4 (ur_45.2.2.2.2.2.2.2.2.2.1) (ur_45.2.2.2.2.2.2.2.2.2.2.2.1) (A 29) (A 24) (A 11) (A 12) (A 13) := hwr_45.2.1
          have hpr_45_2 : I7 (ur_45.1) (ur_45.2.1) (ur_45.2.2.2.1) (ur_45.2.2.2.2.1) (ur_45.2.2.2.2.2.1) := hwr_45.2.2.1
          have hpr_45_3 : I8 (ur_45.2.2.2.2.2.2.2.2.2.2.2.1) (ur_45.2.2.2.2.2.2.2.2.2.2.2.2.1) (A 37) (ur_45.2.2.2.2.2.2.2.2.2.2.2.2.2.1) := hwr_45.2.2.2.1
          have hpr_45_4 : 0 ≤ ur_45.2.2.2.2.2.2.2.2.2.2.2.2.2.2.toInt ∧ ur_45.2.2.2.2.2.2.2.2.2.2.2.2.2.2.toInt ≤ 24 := hwr_45.2.2.2.2.1
          have := i_3
          exact W.vret hx hb hr (fun t ht hW => ⟨⟨((uA (uA (uA (uA (uA (uA (uA (uA (uA (uA (uA (uA (uA (uA A 41 (ur_45.1)) 42 (ur_45.2.1)) 43 (ur_45.2.2.1)) 44 (ur_45.2.2.2.1)) 45 (ur_45.2.2.2.2.1)) 46 (ur_45.2.2.2.2.2.1)) 47 (ur_45.2.2.2.2.2.2.1)) 8 (ur_45.2.2.2.2.2.2.2.1)) 9 (ur_45.2.2.2.2.2.2.2.2.1)) 10 (ur_45.2.2.2.2.2.2.2.2.2.1)) 18 (ur_45.2.2.2.2.2.2.2.2.2.2.1)) 20 (ur_45.2.2.2.2.2.2.2.2.2.2.2.1)) 30 (ur_45.2.2.2.2.2.2.2.2.2.2.2.2.1)) 36 (ur_45.2.2.2.2.2.2.2.2.2.2.2.2.2.1)), cd, ur_45.2.2.2.2.2.2.2.2.2.2.2.2.2.2), rfl, ⟨hI2, hpr_45_0, hpr_45_1, hI5, hI6, hpr_45_2, hpr_45_3, (by show 0 ≤ ur_45.2.2.2.2.2.2.2.2.2.2.2.2.2.2.toInt ∧ ur_45.2.2.2.2.2.2.2.2.2.2.2.2.2.2.toInt ≤ 24; omega), (Or.inr (Or.inr (Or.inr (Or.inr (Or.inr (Or.inr (Or.inr (Or.inl ⟨c_5, c_6, c_14, r_32, hDr_32, hpr_32_0, c_33, ur_45, hDr_45, hpr_45_0, hpr_45_1, hpr_45_2, hpr_45_3, hpr_45_4, rfl, rfl, rfl⟩))))))))⟩, (by show MH E h0 rf t0 t1 t2 (uA (uA (uA (uA (uA (uA (uA (uA (uA (uA (uA (uA (uA (uA A 41 (ur_45.1)) 42 (ur_45.2.1)) 43 (ur_45.2.2.1)) 44 (ur_45.2.2.2.1)) 45 (ur_45.2.2.2.2.1)) 46 (ur_45.2.2.2.2.2.1)) 47 (ur_45.2.2.2.2.2.2.1)) 8 (ur_45.2.2.2.2.2.2.2.1)) 9 (ur_45.2.2.2.2.2.2.2.2.1)) 10 (ur_45.2.2.2.2.2.2.2.2.2.1)) 18 (ur_45.2.2.2.2.2.2.2.2.2.2.1)) 20 (ur_45.2.2.2.2.2.2.2.2.2.2.2.1)) 30 (ur_45.2.2.2.2.2.2.2.2.2.2.2.2.1)) 36 (ur_45.2.2.2.2.2.2.2.2.2.2.2.2.2.1)) cd ur_45.2.2.2.2.2.2.2.2.2.2.2.2.2.2 t.heap; rw [ht]; exact hM)⟩, hS.F ht⟩) hS.2.2 dX10_fresh_83
    · simp only [lt_I, le_I, eq_I, i_0, i_1, i_2, i_3, i_4, i_5, i_6, i_7, i_8, i_10, i_12, i_16, i_20, i_23, i_24, i_31, i_32, i_63, i_64, i_m1, i_9, i_11, i_13, i_25, i_60, i_75, i_79, i_80, i_96, i_100] at c_6
      refine lv_iconst (v := 1) hx hb dX10_fresh_23 (by decide) ?_
      refine lv_goto (tgt := 34) hx hb dX10_fresh_24 (by decide) ?_
      refine lv_istore_n (lv' := [(3, .int 1), (2, .int ((A 42) 24)), (0, .ref h0), (1, .int p0)]) hx hb dX10_fresh_34 rfl hl (by decide) rfl (fun ls hl => ?_)
      refine lv_aload_n hx hb dX10_fresh_35 rfl (lv_at hl 2 rfl) ?_
      refine lv_iload_n hx hb dX10_fresh_36 rfl (lv_at hl 3 rfl) ?_
      refine lv_aload_n hx hb dX10_fresh_37 rfl (lv_at hl 2 rfl) ?_
      refine va_get (D := DG E) (ci := 10) (v := .ref (rf 45)) (C := RX10) (T := TX10) (N := 49) hx hb hts iw_X10 hown hK.1 (va_one hM.1) 0 rfl rfl 45 (by decide) (hts _ fl_X10_131) (fun _ h9 => h9) rfl dX10_fresh_38 ?_
      refine lv_bipush (v := 24) hx hb dX10_fresh_41 (by decide) ?_
      have ha_46 : va_at (DG E) vwCl (rf 45, .inl (E.2.2 0, 25, .inl (A 45))) _ := hM.2 45 (by decide) (by decide) (by decide)
      refine va_iald (D := DG E) hx hb hK.1 (va_one ha_46) 0 0 rfl rfl (show vp_in (24) 25 from vp_in_iff.mpr ⟨by decide, by decide⟩) dX10_fresh_43 ?_
      refine W.eq (g2 := F0 m 44 ls [.int ((A 45) 24), .int p0, .ref h0]) (by rfl) ?_
      refine lv_aload_n hx hb dX10_fresh_44 rfl (lv_at hl 2 rfl) ?_
      refine va_get (D := DG E) (ci := 10) (v := .ref (rf 46)) (C := RX10) (T := TX10) (N := 49) hx hb hts iw_X10 hown hK.1 (va_one hM.1) 0 rfl rfl 46 (by decide) (hts _ fl_X10_134) (fun _ h9 => h9) rfl dX10_fresh_45 ?_
      refine lv_bipush (v := 24) hx hb dX10_fresh_48 (by decide) ?_
      have ha_47 : va_at (DG E) vwCl (rf 46, .inl (E.2.2 0, 25, .inl (A 46))) _ := hM.2 46 (by decide) (by decide) (by decide)
      refine va_iald (D := DG E) hx hb hK.1 (va_one ha_47) 0 0 rfl rfl (show vp_in (24) 25 from vp_in_iff.mpr ⟨by decide, by decide⟩) dX10_fresh_50 ?_
      refine W.eq (g2 := F0 m 51 ls [.int ((A 46) 24), .int ((A 45) 24), .int p0, .ref h0]) (by rfl) ?_
      have q_48 : -1 ≤ ((A 46) 24).toInt := (hI7 24 (by decide)).2.2.2.2.2.2.1
      have q_49 : ((A 46) 24).toInt ≤ 60 := (hI7 24 (by decide)).2.2.2.2.2.2.2.1
      refine lv_iload_n hx hb dX10_fresh_51 rfl (lv_at hl 0 rfl) ?_
      refine lv_iload_n hx hb dX10_fresh_52 rfl (lv_at hl 1 rfl) ?_
      refine lv_iconst (v := 1) hx hb dX10_fresh_53 (by decide) ?_
      refine lv_icmp_ne (tgt := 61) hx hb dX10_fresh_54 (by decide) (fun c_50 => ?_) (fun c_50 => by exfalso; simp only [lt_I, le_I, eq_I, i_0, i_1, i_2, i_3, i_4, i_5, i_6, i_7, i_8, i_10, i_12, i_16, i_20, i_23, i_24, i_31, i_32, i_63, i_64, i_m1, i_9, i_11, i_13, i_25, i_60, i_75, i_79, i_80, i_96, i_100] at c_50; omega)
      simp only [lt_I, le_I, eq_I, i_0, i_1, i_2, i_3, i_4, i_5, i_6, i_7, i_8, i_10, i_12, i_16, i_20, i_23, i_24, i_31, i_32, i_63, i_64, i_m1, i_9, i_11, i_13, i_25, i_60, i_75, i_79, i_80, i_96, i_100] at c_50
      refine lv_iload_n hx hb dX10_fresh_61 rfl (lv_at hl 1 rfl) ?_
      refine lv_iconst (v := 2) hx hb dX10_fresh_62 (by decide) ?_
      refine lv_icmp_ne (tgt := 70) hx hb dX10_fresh_63 (by decide) (fun c_51 => ?_) (fun c_51 => by exfalso; simp only [lt_I, le_I, eq_I, i_0, i_1, i_2, i_3, i_4, i_5, i_6, i_7, i_8, i_10, i_12, i_16, i_20, i_23, i_24, i_31, i_32, i_63, i_64, i_m1, i_9, i_11, i_13, i_25, i_60, i_75, i_79, i_80, i_96, i_100] at c_51; omega)
      simp only [lt_I, le_I, eq_I, i_0, i_1, i_2, i_3, i_4, i_5, i_6, i_7, i_8, i_10, i_12, i_16, i_20, i_23, i_24, i_31, i_32, i_63, i_64, i_m1, i_9, i_11, i_13, i_25, i_60, i_75, i_79, i_80, i_96, i_100] at c_51
      refine lv_iconst (v := 4) hx hb dX10_fresh_70 (by decide) ?_
      refine va_calli (rnV (fun H => MH E h0 rf t0 t1 t2 A cd pk H) (As := [.int p0, .int ((A 45) 24), .int ((A 46) 24), .int 1, .int 4]) (rest := []) ⟨hx, hb, hml, hown, hts⟩ (u_X10_allows l E z0 G hGz h0 rf hR t0 t1 t2 A cd pk p0 ((A 45) 24) ((A 46) 24) 1 4 hI2 (show 0 ≤ p0.toInt ∧ p0.toInt ≤ 3 from by have := i_1; have := i_4; first | decide | omega) (show 0 ≤ ((A 45) 24).toInt ∧ ((A 45) 24).toInt ≤ 5 from by have := i_1; have := i_4; first | decide | omega) (show -1 ≤ ((A 46) 24).toInt ∧ ((A 46) 24).toInt ≤ 60 from by have := i_1; have := i_4; first | decide | omega) (show 0 ≤ (1 : Int32).toInt ∧ (1 : Int32).toInt ≤ 12 from by have := i_1; have := i_4; first | decide | omega) (show ¬ (4 : Int32) = 0 from by have := i_1; have := i_4; first | decide | omega)) (cwV 5 hts (gdV ml_X10_246 im_X10_allows se_X10_X10_allows in_X10 co_X10_allows rfl) rfl rfl rfl (by decide +kernel) ⟨Nat.le_of_ble_eq_true rfl, Nat.le_of_ble_eq_true rfl⟩) hM (fun U hU hW => hK.go hW hS hAz hU) (va_recv hK.1 (va_one hM.1) (ci := 10) (q0 := 0) rfl rfl) rfl rfl hl.1 rfl (lv_room (Nat.le_of_ble_eq_true rfl)) dX10_fresh_71 ⟨Nat.le_of_ble_eq_true rfl, Nat.le_of_ble_eq_true rfl⟩) hS (fun q _ h => h.elim) (fun q h => h.elim) (fun r_52 ur_52 t H locs ht hvm hwr_52 hB hz hk hS => ?_)
      have hM := hM.kept (fun q hq => hk q hq (fun h => h))
      have hDr_52 : D_X10_allows A cd pk p0 ((A 45) 24) ((A 46) 24) (1 : Int32) (4 : Int32) r_52 := hwr_52.2.2
      have hpr_52_0 : r_52 = 0 ∨ r_52 = 1 := hwr_52.1
      have hpr_52_1 : r_52.toInt = 0 ∨ (0 ≤ ((A 46) 24).toInt ∧ ((A 46) 24).toInt + (1 : Int32).toInt ≤ 32) := hwr_52.2.1
      have := i_1
      have := i_4
      have hzr_52 := s_rng hpr_52_0
      refine lv_if_ne (tgt := 84) hx hb dX10_fresh_74 (by decide) (fun c_53 => ?_) (fun c_53 => ?_)
      · simp only [lt_I, le_I, eq_I, i_0, i_1, i_2, i_3, i_4, i_5, i_6, i_7, i_8, i_10, i_12, i_16, i_20, i_23, i_24, i_31, i_32, i_63, i_64, i_m1, i_9, i_11, i_13, i_25, i_60, i_75, i_79, i_80, i_96, i_100] at c_53
        replace hpr_52_1 := hpr_52_1.resolve_left (by omega)
        refine lv_iload_n hx hb dX10_fresh_84 rfl (lv_at hl 1 rfl) ?_
        refine lv_iconst (v := 1) hx hb dX10_fresh_85 (by decide) ?_
        refine lv_icmp_ne (tgt := 130) hx hb dX10_fresh_86 (by decide) (fun c_54 => ?_) (fun c_54 => by exfalso; simp only [lt_I, le_I, eq_I, i_0, i_1, i_2, i_3, i_4, i_5, i_6, i_7, i_8, i_10, i_12, i_16, i_20, i_23, i_24, i_31, i_32, i_63, i_64, i_m1, i_9, i_11, i_13, i_25, i_60, i_75, i_79, i_80, i_96, i_100] at c_54; omega)
        simp only [lt_I, le_I, eq_I, i_0, i_1, i_2, i_3, i_4, i_5, i_6, i_7, i_8, i_10, i_12, i_16, i_20, i_23, i_24, i_31, i_32, i_63, i_64, i_m1, i_9, i_11, i_13, i_25, i_60, i_75, i_79, i_80, i_96, i_100] at c_54
        refine lv_iload_n hx hb dX10_fresh_130 rfl (lv_at hl 1 rfl) ?_
        refine lv_iconst (v := 2) hx hb dX10_fresh_131 (by decide) ?_
        refine lv_icmp_ne (tgt := 153) hx hb dX10_fresh_132 (by decide) (fun c_55 => ?_) (fun c_55 => by exfalso; simp only [lt_I, le_I, eq_I, i_0, i_1, i_2, i_3, i_4, i_5, i_6, i_7, i_8, i_10, i_12, i_16, i_20, i_23, i_24, i_31, i_32, i_63, i_64, i_m1, i_9, i_11, i_13, i_25, i_60, i_75, i_79, i_80, i_96, i_100] at c_55; omega)
        simp only [lt_I, le_I, eq_I, i_0, i_1, i_2, i_3, i_4, i_5, i_6, i_7, i_8, i_10, i_12, i_16, i_20, i_23, i_24, i_31, i_32, i_63, i_64, i_m1, i_9, i_11, i_13, i_25, i_60, i_75, i_79, i_80, i_96, i_100] at c_55
        refine lv_aload_n hx hb dX10_fresh_153 rfl (lv_at hl 2 rfl) ?_
        refine lv_iload_n hx hb dX10_fresh_154 rfl (lv_at hl 3 rfl) ?_
        refine va_callv (rnV (fun H => MH E h0 rf t0 t1 t2 A cd pk H) (As := [.int p0]) (rest := []) ⟨hx, hb, hml, hown, hts⟩ (u_X10_freshAdd l E z0 G hGz h0 rf hR t0 t1 t2 A cd pk p0 hI7 hI8 (show 0 ≤ p0.toInt ∧ p0.toInt ≤ 3 from by first | decide | omega) (show 0 ≤ pk.toInt ∧ pk.toInt ≤ 24 from by first | decide | omega) (show 0 ≤ ((A 46) 24).toInt ∧ ((A 46) 24).toInt ≤ 31 from by first | decide | omega)) (cwV 1 hts (gdV ml_X10_253 im_X10_freshAdd se_X10_X10_freshAdd in_X10 co_X10_freshAdd rfl) rfl rfl rfl (by decide +kernel) ⟨Nat.le_of_ble_eq_true rfl, Nat.le_of_ble_eq_true rfl⟩) hM (fun U hU hW => hK.go hW hS hAz hU) (va_recv hK.1 (va_one hM.1) (ci := 10) (q0 := 0) rfl rfl) rfl rfl hl.1 rfl (lv_room (Nat.le_of_ble_eq_true rfl)) dX10_fresh_155 ⟨Nat.le_of_ble_eq_true rfl, Nat.le_of_ble_eq_true rfl⟩) hS (fun q _ h => h) (fun q h => h) (fun ur_56 t H locs ht hvm hwr_56 hB hz hk hS => ?_)
        have hM : MH E h0 rf t0 t1 t2 (uA (uA (uA (uA (uA (uA (uA (uA (uA (uA (uA (uA (uA (uA A 4 (ur_56.1)) 14 (ur_56.2.1)) 19 (ur_56.2.2.1)) 37 (ur_56.2.2.2.1)) 38 (ur_56.2.2.2.2.1)) 39 (ur_56.2.2.2.2.2.1)) 41 (ur_56.2.2.2.2.2.2.1)) 42 (ur_56.2.2.2.2.2.2.2.1)) 43 (ur_56.2.2.2.2.2.2.2.2.1)) 44 (ur_56.2.2.2.2.2.2.2.2.2.1)) 45 (ur_56.2.2.2.2.2.2.2.2.2.2.1)) 46 (ur_56.2.2.2.2.2.2.2.2.2.2.2.1)) 47 (ur_56.2.2.2.2.2.2.2.2.2.2.2.2.1)) 48 (ur_56.2.2.2.2.2.2.2.2.2.2.2.2.2.1)) cd ur_56.2.2.2.2.2.2.2.2.2.2.2.2.2.2 H := by rw [ht] at hB; exact hB
        have hDr_56 : D_X10_freshAdd A cd pk p0 (uA (uA (uA (uA (uA (uA (uA (uA (uA (uA (uA (uA (uA (uA A 4 (ur_56.1)) 14 (ur_56.2.1)) 19 (ur_56.2.2.1)) 37 (ur_56.2.2.2.1)) 38 (ur_56.2.2.2.2.1)) 39 (ur_56.2.2.2.2.2.1)) 41 (ur_56.2.2.2.2.2.2.1)) 42 (ur_56.2.2.2.2.2.2.2.1)) 43 (ur_56.2.2.2.2.2.2.2.2.1)) 44 (ur_56.2.2.2.2.2.2.2.2.2.1)) 45 (ur_56.2.2.2.2.2.2.2.2.2.2.1)) 46 (ur_56.2.2.2.2.2.2.2.2.2.2.2.1)) 47 (ur_56.2.2.2.2.2.2.2.2.2.2.2.2.1)) 48 (ur_56.2.2.2.2.2.2.2.2.2.2.2.2.2.1)) cd (ur_56.2.2.2.2.2.2.2.2.2.2.2.2.2.2) := hwr_56.2.2.2
        have hpr_56_0 : I7 (ur_56.2.2.2.2.2.2.1) (ur_56.2.2.2.2.2.2.2.1) (ur_56.2.2.2.2.2.2.2.2.2.1) (ur_56.2.2.2.2.2.2.2.2.2.2.1) (ur_56.2.2.2.2.2.2.2.2.2.2.2.1) := hwr_56.1
        have hpr_56_1 : I8 (A 20) (A 30) (ur_56.2.2.2.1) (A 36) := hwr_56.2.1
        have hpr_56_2 : 0 ≤ ur_56.2.2.2.2.2.2.2.2.2.2.2.2.2.2.toInt ∧ ur_56.2.2.2.2.2.2.2.2.2.2.2.2.2.2.toInt ≤ 24 := hwr_56.2.2.1
        exact W.vret hx hb hr (fun t ht hW => ⟨⟨((uA (uA (uA (uA (uA (uA (uA (uA (uA (uA (uA (uA (uA (uA A 4 (ur_56.1)) 14 (ur_56.2.1)) 19 (ur_56.2.2.1)) 37 (ur_56.2.2.2.1)) 38 (ur_56.2.2.2.2.1)) 39 (ur_56.2.2.2.2.2.1)) 41 (ur_56.2.2.2.2.2.2.1)) 42 (ur_56.2.2.2.2.2.2.2.1)) 43 (ur_56.2.2.2.2.2.2.2.2.1)) 44 (ur_56.2.2.2.2.2.2.2.2.2.1)) 45 (ur_56.2.2.2.2.2.2.2.2.2.2.1)) 46 (ur_56.2.2.2.2.2.2.2.2.2.2.2.1)) 47 (ur_56.2.2.2.2.2.2.2.2.2.2.2.2.1)) 48 (ur_56.2.2.2.2.2.2.2.2.2.2.2.2.2.1)), cd, ur_56.2.2.2.2.2.2.2.2.2.2.2.2.2.2), rfl, ⟨hI2, hI3, hI4, hI5, hI6, hpr_56_0, hpr_56_1, (by show 0 ≤ ur_56.2.2.2.2.2.2.2.2.2.2.2.2.2.2.toInt ∧ ur_56.2.2.2.2.2.2.2.2.2.2.2.2.2.2.toInt ≤ 24; omega), (Or.inr (Or.inr (Or.inr (Or.inr (Or.inr (Or.inr (Or.inr (Or.inr (Or.inl ⟨c_5, c_6, r_52, hDr_52, hpr_52_0, c_53, ur_56, hDr_56, hpr_56_0, hpr_56_1, hpr_56_2, rfl, rfl, rfl⟩)))))))))⟩, (by show MH E h0 rf t0 t1 t2 (uA (uA (uA (uA (uA (uA (uA (uA (uA (uA (uA (uA (uA (uA A 4 (ur_56.1)) 14 (ur_56.2.1)) 19 (ur_56.2.2.1)) 37 (ur_56.2.2.2.1)) 38 (ur_56.2.2.2.2.1)) 39 (ur_56.2.2.2.2.2.1)) 41 (ur_56.2.2.2.2.2.2.1)) 42 (ur_56.2.2.2.2.2.2.2.1)) 43 (ur_56.2.2.2.2.2.2.2.2.1)) 44 (ur_56.2.2.2.2.2.2.2.2.2.1)) 45 (ur_56.2.2.2.2.2.2.2.2.2.2.1)) 46 (ur_56.2.2.2.2.2.2.2.2.2.2.2.1)) 47 (ur_56.2.2.2.2.2.2.2.2.2.2.2.2.1)) 48 (ur_56.2.2.2.2.2.2.2.2.2.2.2.2.2.1)) cd ur_56.2.2.2.2.2.2.2.2.2.2.2.2.2.2 t.heap; rw [ht]; exact hM)⟩, hS.F ht⟩) hS.2.2 dX10_fresh_158
      · simp only [lt_I, le_I, eq_I, i_0, i_1, i_2, i_3, i_4, i_5, i_6, i_7, i_8, i_10, i_12, i_16, i_20, i_23, i_24, i_31, i_32, i_63, i_64, i_m1, i_9, i_11, i_13, i_25, i_60, i_75, i_79, i_80, i_96, i_100] at c_53
        clear hpr_52_1
        refine lv_aload_n hx hb dX10_fresh_77 rfl (lv_at hl 2 rfl) ?_
        refine lv_iload_n hx hb dX10_fresh_78 rfl (lv_at hl 3 rfl) ?_
        refine lv_iconst (v := 3) hx hb dX10_fresh_79 (by decide) ?_
        refine va_callv (rnV (fun H => MH E h0 rf t0 t1 t2 A cd pk H) (As := [.int p0, .int 3]) (rest := []) ⟨hx, hb, hml, hown, hts⟩ (u_X10_refuse l E z0 G hGz h0 rf hR t0 t1 t2 A cd pk p0 3 hI3 hI4 hI7 hI8 (show 0 ≤ p0.toInt ∧ p0.toInt ≤ 3 from by have := i_3; first | decide | omega) (show 0 ≤ pk.toInt ∧ pk.toInt ≤ 24 from by have := i_3; first | decide | omega)) (cwV 2 hts (gdV ml_X10_225 im_X10_refuse se_X10_X10_refuse in_X10 co_X10_refuse rfl) rfl rfl rfl (by decide +kernel) ⟨Nat.le_of_ble_eq_true rfl, Nat.le_of_ble_eq_true rfl⟩) hM (fun U hU hW => hK.go hW hS hAz hU) (va_recv hK.1 (va_one hM.1) (ci := 10) (q0 := 0) rfl rfl) rfl rfl hl.1 rfl (lv_room (Nat.le_of_ble_eq_true rfl)) dX10_fresh_80 ⟨Nat.le_of_ble_eq_true rfl, Nat.le_of_ble_eq_true rfl⟩) hS (fun q _ h => h) (fun q h => h) (fun ur_57 t H locs ht hvm hwr_57 hB hz hk hS => ?_)
        have hM : MH E h0 rf t0 t1 t2 (uA (uA (uA (uA (uA (uA (uA (uA (uA (uA (uA (uA (uA (uA A 41 (ur_57.1)) 42 (ur_57.2.1)) 43 (ur_57.2.2.1)) 44 (ur_57.2.2.2.1)) 45 (ur_57.2.2.2.2.1)) 46 (ur_57.2.2.2.2.2.1)) 47 (ur_57.2.2.2.2.2.2.1)) 8 (ur_57.2.2.2.2.2.2.2.1)) 9 (ur_57.2.2.2.2.2.2.2.2.1)) 10 (ur_57.2.2.2.2.2.2.2.2.2.1)) 18 (ur_57.2.2.2.2.2.2.2.2.2.2.1)) 20 (ur_57.2.2.2.2.2.2.2.2.2.2.2.1)) 30 (ur_57.2.2.2.2.2.2.2.2.2.2.2.2.1)) 36 (ur_57.2.2.2.2.2.2.2.2.2.2.2.2.2.1)) cd ur_57.2.2.2.2.2.2.2.2.2.2.2.2.2.2 H := by rw [ht] at hB; exact hB
        have hDr_57 : D_X10_refuse A cd pk p0 (3 : Int32) (uA (uA (uA (uA (uA (uA (uA (uA (uA (uA (uA (uA (uA (uA A 41 (ur_57.1)) 42 (ur_57.2.1)) 43 (ur_57.2.2.1)) 44 (ur_57.2.2.2.1)) 45 (ur_57.2.2.2.2.1)) 46 (ur_57.2.2.2.2.2.1)) 47 (ur_57.2.2.2.2.2.2.1)) 8 (ur_57.2.2.2.2.2.2.2.1)) 9 (ur_57.2.2.2.2.2.2.2.2.1)) 10 (ur_57.2.2.2.2.2.2.2.2.2.1)) 18 (ur_57.2.2.2.2.2.2.2.2.2.2.1)) 20 (ur_57.2.2.2.2.2.2.2.2.2.2.2.1)) 30 (ur_57.2.2.2.2.2.2.2.2.2.2.2.2.1)) 36 (ur_57.2.2.2.2.2.2.2.2.2.2.2.2.2.1)) cd (ur_57.2.2.2.2.2.2.2.2.2.2.2.2.2.2) := hwr_57.2.2.2.2.2
        have hpr_57_0 : I3 (ur_57.2.2.2.2.2.2.2.1) := hwr_57.1
        have hpr_57_1 : I4 (ur_57.2.2.2.2.2.2.2.2.2.1) (ur_57.2.2.2.2.2.2.2.2.2.2.2.1) (A 29) (A 24) (A 11) (A 12) (A 13) := hwr_57.2.1
        have hpr_57_2 : I7 (ur_57.1) (ur_57.2.1) (ur_57.2.2.2.1) (ur_57.2.2.2.2.1) (ur_57.2.2.2.2.2.1) := hwr_57.2.2.1
        have hpr_57_3 : I8 (ur_57.2.2.2.2.2.2.2.2.2.2.2.1) (ur_57.2.2.2.2.2.2.2.2.2.2.2.2.1) (A 37) (ur_57.2.2.2.2.2.2.2.2.2.2.2.2.2.1) := hwr_57.2.2.2.1
        have hpr_57_4 : 0 ≤ ur_57.2.2.2.2.2.2.2.2.2.2.2.2.2.2.toInt ∧ ur_57.2.2.2.2.2.2.2.2.2.2.2.2.2.2.toInt ≤ 24 := hwr_57.2.2.2.2.1
        have := i_3
        exact W.vret hx hb hr (fun t ht hW => ⟨⟨((uA (uA (uA (uA (uA (uA (uA (uA (uA (uA (uA (uA (uA (uA A 41 (ur_57.1)) 42 (ur_57.2.1)) 43 (ur_57.2.2.1)) 44 (ur_57.2.2.2.1)) 45 (ur_57.2.2.2.2.1)) 46 (ur_57.2.2.2.2.2.1)) 47 (ur_57.2.2.2.2.2.2.1)) 8 (ur_57.2.2.2.2.2.2.2.1)) 9 (ur_57.2.2.2.2.2.2.2.2.1)) 10 (ur_57.2.2.2.2.2.2.2.2.2.1)) 18 (ur_57.2.2.2.2.2.2.2.2.2.2.1)) 20 (ur_57.2.2.2.2.2.2.2.2.2.2.2.1)) 30 (ur_57.2.2.2.2.2.2.2.2.2.2.2.2.1)) 36 (ur_57.2.2.2.2.2.2.2.2.2.2.2.2.2.1)), cd, ur_57.2.2.2.2.2.2.2.2.2.2.2.2.2.2), rfl, ⟨hI2, hpr_57_0, hpr_57_1, hI5, hI6, hpr_57_2, hpr_57_3, (by show 0 ≤ ur_57.2.2.2.2.2.2.2.2.2.2.2.2.2.2.toInt ∧ ur_57.2.2.2.2.2.2.2.2.2.2.2.2.2.2.toInt ≤ 24; omega), (Or.inr (Or.inr (Or.inr (Or.inr (Or.inr (Or.inr (Or.inr (Or.inr (Or.inr (Or.inl ⟨c_5, c_6, r_52, hDr_52, hpr_52_0, c_53, ur_57, hDr_57, hpr_57_0, hpr_57_1, hpr_57_2, hpr_57_3, hpr_57_4, rfl, rfl, rfl⟩))))))))))⟩, (by show MH E h0 rf t0 t1 t2 (uA (uA (uA (uA (uA (uA (uA (uA (uA (uA (uA (uA (uA (uA A 41 (ur_57.1)) 42 (ur_57.2.1)) 43 (ur_57.2.2.1)) 44 (ur_57.2.2.2.1)) 45 (ur_57.2.2.2.2.1)) 46 (ur_57.2.2.2.2.2.1)) 47 (ur_57.2.2.2.2.2.2.1)) 8 (ur_57.2.2.2.2.2.2.2.1)) 9 (ur_57.2.2.2.2.2.2.2.2.1)) 10 (ur_57.2.2.2.2.2.2.2.2.2.1)) 18 (ur_57.2.2.2.2.2.2.2.2.2.2.1)) 20 (ur_57.2.2.2.2.2.2.2.2.2.2.2.1)) 30 (ur_57.2.2.2.2.2.2.2.2.2.2.2.2.1)) 36 (ur_57.2.2.2.2.2.2.2.2.2.2.2.2.2.1)) cd ur_57.2.2.2.2.2.2.2.2.2.2.2.2.2.2 t.heap; rw [ht]; exact hM)⟩, hS.F ht⟩) hS.2.2 dX10_fresh_83
  · simp only [lt_I, le_I, eq_I, i_0, i_1, i_2, i_3, i_4, i_5, i_6, i_7, i_8, i_10, i_12, i_16, i_20, i_23, i_24, i_31, i_32, i_63, i_64, i_m1, i_9, i_11, i_13, i_25, i_60, i_75, i_79, i_80, i_96, i_100] at c_5
    refine lv_aload_n hx hb dX10_fresh_12 rfl (lv_at hl 1 rfl) ?_
    refine lv_iload_n hx hb dX10_fresh_13 rfl (lv_at hl 2 rfl) ?_
    refine va_callv (rnV (fun H => MH E h0 rf t0 t1 t2 A cd pk H) (As := [.int p0]) (rest := []) ⟨hx, hb, hml, hown, hts⟩ (u_X10_freshSend l E z0 G hGz h0 rf hR t0 t1 t2 A cd pk p0 hI2 hI3 hI4 hI5 hI6 hI7 hI8 (show 0 ≤ p0.toInt ∧ p0.toInt ≤ 3 from by first | decide | omega) (show ((A 42) 24).toInt = 0 from by first | decide | omega) (show 0 ≤ pk.toInt ∧ pk.toInt ≤ 24 from by first | decide | omega)) (cwV 1 hts (gdV ml_X10_243 im_X10_freshSend se_X10_X10_freshSend in_X10 co_X10_freshSend rfl) rfl rfl rfl (by decide +kernel) ⟨Nat.le_of_ble_eq_true rfl, Nat.le_of_ble_eq_true rfl⟩) hM (fun U hU hW => hK.go hW hS hAz hU) (va_recv hK.1 (va_one hM.1) (ci := 10) (q0 := 0) rfl rfl) rfl rfl hl.1 rfl (lv_room (Nat.le_of_ble_eq_true rfl)) dX10_fresh_14 ⟨Nat.le_of_ble_eq_true rfl, Nat.le_of_ble_eq_true rfl⟩) hS (fun q _ h => h) (fun q h => h) (fun ur_58 t H locs ht hvm hwr_58 hB hz hk hS => ?_)
    have hM : MH E h0 rf t0 t1 t2 ur_58.1 ur_58.2.1 ur_58.2.2 H := by rw [ht] at hB; exact hB
    have hDr_58 : D_X10_freshSend A cd pk p0 ur_58.1 (ur_58.2.1) (ur_58.2.2) := hwr_58.2.2.2.2.2.2.2.2
    have hpr_58_0 : I2 (ur_58.1 5) (ur_58.1 6) := hwr_58.1
    have hpr_58_1 : I3 (ur_58.1 8) := hwr_58.2.1
    have hpr_58_2 : I4 (ur_58.1 10) (ur_58.1 20) (ur_58.1 29) (ur_58.1 24) (ur_58.1 11) (ur_58.1 12) (ur_58.1 13) := hwr_58.2.2.1
    have hpr_58_3 : I5 (ur_58.1 32) (ur_58.1 33) (ur_58.1 35) := hwr_58.2.2.2.1
    have hpr_58_4 : I6 (ur_58.1 22) (ur_58.1 23) (ur_58.1 24) (ur_58.1 25) (ur_58.1 26) := hwr_58.2.2.2.2.1
    have hpr_58_5 : I7 (ur_58.1 41) (ur_58.1 42) (ur_58.1 44) (ur_58.1 45) (ur_58.1 46) := hwr_58.2.2.2.2.2.1
    have hpr_58_6 : I8 (ur_58.1 20) (ur_58.1 30) (ur_58.1 37) (ur_58.1 36) := hwr_58.2.2.2.2.2.2.1
    have hpr_58_7 : 0 ≤ ur_58.2.2.toInt ∧ ur_58.2.2.toInt ≤ 24 := hwr_58.2.2.2.2.2.2.2.1
    exact W.vret hx hb hr (fun t ht hW => ⟨⟨(ur_58.1, ur_58.2.1, ur_58.2.2), rfl, ⟨hpr_58_0, hpr_58_1, hpr_58_2, hpr_58_3, hpr_58_4, hpr_58_5, hpr_58_6, (by show 0 ≤ ur_58.2.2.toInt ∧ ur_58.2.2.toInt ≤ 24; omega), (Or.inr (Or.inr (Or.inr (Or.inr (Or.inr (Or.inr (Or.inr (Or.inr (Or.inr (Or.inr ⟨c_5, ur_58, hDr_58, hpr_58_0, hpr_58_1, hpr_58_2, hpr_58_3, hpr_58_4, hpr_58_5, hpr_58_6, hpr_58_7, rfl, rfl, rfl⟩))))))))))⟩, (by show MH E h0 rf t0 t1 t2 ur_58.1 ur_58.2.1 ur_58.2.2 t.heap; rw [ht]; exact hM)⟩, hS.F ht⟩) hS.2.2 dX10_fresh_17
theorem gdX10_again_0 : (decode cX10_again 0 = .ok (.aload_n 0, 1)) ∧ (decode cX10_again 1 = .ok (.getfield 122, 3)) ∧ (decode cX10_again 4 = .ok (.bipush 24, 2)) ∧ (decode cX10_again 6 = .ok (.iaload, 1)) ∧ (decode cX10_again 7 = .ok (.istore_n 2, 1)) ∧ (decode cX10_again 8 = .ok (.iload_n 2, 1)) ∧ (decode cX10_again 9 = .ok (.iconst 2, 1)) ∧ (decode cX10_again 10 = .ok (.if_icmp .ge 23, 3)) ∧ (decode cX10_again 13 = .ok (.aload_n 0, 1)) ∧ (decode cX10_again 14 = .ok (.iload_n 1, 1)) ∧ (decode cX10_again 15 = .ok (.aload_n 0, 1)) ∧ (decode cX10_again 16 = .ok (.getfield 40, 3)) ∧ (decode cX10_again 19 = .ok (.iload_n 1, 1)) ∧ (decode cX10_again 20 = .ok (.iaload, 1)) ∧ (decode cX10_again 21 = .ok (.bipush 63, 2)) ∧ (decode cX10_again 23 = .ok (.iadd, 1)) := by decide +kernel
theorem dX10_again_0 : decode cX10_again 0 = .ok (.aload_n 0, 1) := gdX10_again_0.1
theorem dX10_again_1 : decode cX10_again 1 = .ok (.getfield 122, 3) := gdX10_again_0.2.1
theorem dX10_again_4 : decode cX10_again 4 = .ok (.bipush 24, 2) := gdX10_again_0.2.2.1
theorem dX10_again_6 : decode cX10_again 6 = .ok (.iaload, 1) := gdX10_again_0.2.2.2.1
theorem dX10_again_7 : decode cX10_again 7 = .ok (.istore_n 2, 1) := gdX10_again_0.2.2.2.2.1
theorem dX10_again_8 : decode cX10_again 8 = .ok (.iload_n 2, 1) := gdX10_again_0.2.2.2.2.2.1
theorem dX10_again_9 : decode cX10_again 9 = .ok (.iconst 2, 1) := gdX10_again_0.2.2.2.2.2.2.1
theorem dX10_again_10 : decode cX10_again 10 = .ok (.if_icmp .ge 23, 3) := gdX10_again_0.2.2.2.2.2.2.2.1
theorem dX10_again_13 : decode cX10_again 13 = .ok (.aload_n 0, 1) := gdX10_again_0.2.2.2.2.2.2.2.2.1
theorem dX10_again_14 : decode cX10_again 14 = .ok (.iload_n 1, 1) := gdX10_again_0.2.2.2.2.2.2.2.2.2.1
theorem dX10_again_15 : decode cX10_again 15 = .ok (.aload_n 0, 1) := gdX10_again_0.2.2.2.2.2.2.2.2.2.2.1
theorem dX10_again_16 : decode cX10_again 16 = .ok (.getfield 40, 3) := gdX10_again_0.2.2.2.2.2.2.2.2.2.2.2.1
theorem dX10_again_19 : decode cX10_again 19 = .ok (.iload_n 1, 1) := gdX10_again_0.2.2.2.2.2.2.2.2.2.2.2.2.1
theorem dX10_again_20 : decode cX10_again 20 = .ok (.iaload, 1) := gdX10_again_0.2.2.2.2.2.2.2.2.2.2.2.2.2.1
theorem dX10_again_21 : decode cX10_again 21 = .ok (.bipush 63, 2) := gdX10_again_0.2.2.2.2.2.2.2.2.2.2.2.2.2.2.1
theorem dX10_again_23 : decode cX10_again 23 = .ok (.iadd, 1) := gdX10_again_0.2.2.2.2.2.2.2.2.2.2.2.2.2.2.2
theorem gdX10_again_24 : (decode cX10_again 24 = .ok (.bipush 64, 2)) ∧ (decode cX10_again 26 = .ok (.irem, 1)) ∧ (decode cX10_again 27 = .ok (.invokevirtual 234, 3)) ∧ (decode cX10_again 30 = .ok (.goto 112, 3)) ∧ (decode cX10_again 33 = .ok (.iload_n 2, 1)) ∧ (decode cX10_again 34 = .ok (.iconst 2, 1)) ∧ (decode cX10_again 35 = .ok (.if_icmp .ne 41, 3)) ∧ (decode cX10_again 38 = .ok (.aload_n 0, 1)) ∧ (decode cX10_again 39 = .ok (.iload_n 1, 1)) ∧ (decode cX10_again 40 = .ok (.aload_n 0, 1)) ∧ (decode cX10_again 41 = .ok (.getfield 131, 3)) ∧ (decode cX10_again 44 = .ok (.bipush 24, 2)) ∧ (decode cX10_again 46 = .ok (.iaload, 1)) ∧ (decode cX10_again 47 = .ok (.aload_n 0, 1)) ∧ (decode cX10_again 48 = .ok (.getfield 134, 3)) ∧ (decode cX10_again 51 = .ok (.bipush 24, 2)) := by decide +kernel
theorem dX10_again_24 : decode cX10_again 24 = .ok (.bipush 64, 2) := gdX10_again_24.1
theorem dX10_again_26 : decode cX10_again 26 = .ok (.irem, 1) := gdX10_again_24.2.1
theorem dX10_again_27 : decode cX10_again 27 = .ok (.invokevirtual 234, 3) := gdX10_again_24.2.2.1
theorem dX10_again_30 : decode cX10_again 30 = .ok (.goto 112, 3) := gdX10_again_24.2.2.2.1
theorem dX10_again_33 : decode cX10_again 33 = .ok (.iload_n 2, 1) := gdX10_again_24.2.2.2.2.1
theorem dX10_again_34 : decode cX10_again 34 = .ok (.iconst 2, 1) := gdX10_again_24.2.2.2.2.2.1
theorem dX10_again_35 : decode cX10_again 35 = .ok (.if_icmp .ne 41, 3) := gdX10_again_24.2.2.2.2.2.2.1
theorem dX10_again_38 : decode cX10_again 38 = .ok (.aload_n 0, 1) := gdX10_again_24.2.2.2.2.2.2.2.1
theorem dX10_again_39 : decode cX10_again 39 = .ok (.iload_n 1, 1) := gdX10_again_24.2.2.2.2.2.2.2.2.1
theorem dX10_again_40 : decode cX10_again 40 = .ok (.aload_n 0, 1) := gdX10_again_24.2.2.2.2.2.2.2.2.2.1
theorem dX10_again_41 : decode cX10_again 41 = .ok (.getfield 131, 3) := gdX10_again_24.2.2.2.2.2.2.2.2.2.2.1
theorem dX10_again_44 : decode cX10_again 44 = .ok (.bipush 24, 2) := gdX10_again_24.2.2.2.2.2.2.2.2.2.2.2.1
theorem dX10_again_46 : decode cX10_again 46 = .ok (.iaload, 1) := gdX10_again_24.2.2.2.2.2.2.2.2.2.2.2.2.1
theorem dX10_again_47 : decode cX10_again 47 = .ok (.aload_n 0, 1) := gdX10_again_24.2.2.2.2.2.2.2.2.2.2.2.2.2.1
theorem dX10_again_48 : decode cX10_again 48 = .ok (.getfield 134, 3) := gdX10_again_24.2.2.2.2.2.2.2.2.2.2.2.2.2.2.1
theorem dX10_again_51 : decode cX10_again 51 = .ok (.bipush 24, 2) := gdX10_again_24.2.2.2.2.2.2.2.2.2.2.2.2.2.2.2
theorem gdX10_again_53 : (decode cX10_again 53 = .ok (.iaload, 1)) ∧ (decode cX10_again 54 = .ok (.aload_n 0, 1)) ∧ (decode cX10_again 55 = .ok (.getfield 128, 3)) ∧ (decode cX10_again 58 = .ok (.bipush 24, 2)) ∧ (decode cX10_again 60 = .ok (.iaload, 1)) ∧ (decode cX10_again 61 = .ok (.iconst 2, 1)) ∧ (decode cX10_again 62 = .ok (.invokevirtual 246, 3)) ∧ (decode cX10_again 65 = .ok (.ifCond .eq 77, 3)) ∧ (decode cX10_again 68 = .ok (.aload_n 0, 1)) ∧ (decode cX10_again 69 = .ok (.iload_n 1, 1)) ∧ (decode cX10_again 70 = .ok (.invokevirtual 250, 3)) ∧ (decode cX10_again 73 = .ok (.goto 69, 3)) ∧ (decode cX10_again 76 = .ok (.iconst (-1), 1)) ∧ (decode cX10_again 77 = .ok (.istore_n 3, 1)) ∧ (decode cX10_again 78 = .ok (.aload_n 0, 1)) ∧ (decode cX10_again 79 = .ok (.getfield 110, 3)) := by decide +kernel
theorem dX10_again_53 : decode cX10_again 53 = .ok (.iaload, 1) := gdX10_again_53.1
theorem dX10_again_54 : decode cX10_again 54 = .ok (.aload_n 0, 1) := gdX10_again_53.2.1
theorem dX10_again_55 : decode cX10_again 55 = .ok (.getfield 128, 3) := gdX10_again_53.2.2.1
theorem dX10_again_58 : decode cX10_again 58 = .ok (.bipush 24, 2) := gdX10_again_53.2.2.2.1
theorem dX10_again_60 : decode cX10_again 60 = .ok (.iaload, 1) := gdX10_again_53.2.2.2.2.1
theorem dX10_again_61 : decode cX10_again 61 = .ok (.iconst 2, 1) := gdX10_again_53.2.2.2.2.2.1
theorem dX10_again_62 : decode cX10_again 62 = .ok (.invokevirtual 246, 3) := gdX10_again_53.2.2.2.2.2.2.1
theorem dX10_again_65 : decode cX10_again 65 = .ok (.ifCond .eq 77, 3) := gdX10_again_53.2.2.2.2.2.2.2.1
theorem dX10_again_68 : decode cX10_again 68 = .ok (.aload_n 0, 1) := gdX10_again_53.2.2.2.2.2.2.2.2.1
theorem dX10_again_69 : decode cX10_again 69 = .ok (.iload_n 1, 1) := gdX10_again_53.2.2.2.2.2.2.2.2.2.1
theorem dX10_again_70 : decode cX10_again 70 = .ok (.invokevirtual 250, 3) := gdX10_again_53.2.2.2.2.2.2.2.2.2.2.1
theorem dX10_again_73 : decode cX10_again 73 = .ok (.goto 69, 3) := gdX10_again_53.2.2.2.2.2.2.2.2.2.2.2.1
theorem dX10_again_76 : decode cX10_again 76 = .ok (.iconst (-1), 1) := gdX10_again_53.2.2.2.2.2.2.2.2.2.2.2.2.1
theorem dX10_again_77 : decode cX10_again 77 = .ok (.istore_n 3, 1) := gdX10_again_53.2.2.2.2.2.2.2.2.2.2.2.2.2.1
theorem dX10_again_78 : decode cX10_again 78 = .ok (.aload_n 0, 1) := gdX10_again_53.2.2.2.2.2.2.2.2.2.2.2.2.2.2.1
theorem dX10_again_79 : decode cX10_again 79 = .ok (.getfield 110, 3) := gdX10_again_53.2.2.2.2.2.2.2.2.2.2.2.2.2.2.2
theorem gdX10_again_82 : (decode cX10_again 82 = .ok (.iload_n 1, 1)) ∧ (decode cX10_again 83 = .ok (.iaload, 1)) ∧ (decode cX10_again 84 = .ok (.iconst 1, 1)) ∧ (decode cX10_again 85 = .ok (.isub, 1)) ∧ (decode cX10_again 86 = .ok (.istore 4, 2)) ∧ (decode cX10_again 88 = .ok (.iload 4, 2)) ∧ (decode cX10_again 90 = .ok (.ifCond .lt 37, 3)) ∧ (decode cX10_again 93 = .ok (.aload_n 0, 1)) ∧ (decode cX10_again 94 = .ok (.getfield 113, 3)) ∧ (decode cX10_again 97 = .ok (.iconst 2, 1)) ∧ (decode cX10_again 98 = .ok (.iload_n 1, 1)) ∧ (decode cX10_again 99 = .ok (.imul, 1)) ∧ (decode cX10_again 100 = .ok (.iload 4, 2)) ∧ (decode cX10_again 102 = .ok (.iadd, 1)) ∧ (decode cX10_again 103 = .ok (.iaload, 1)) ∧ (decode cX10_again 104 = .ok (.aload_n 0, 1)) := by decide +kernel
theorem dX10_again_82 : decode cX10_again 82 = .ok (.iload_n 1, 1) := gdX10_again_82.1
theorem dX10_again_83 : decode cX10_again 83 = .ok (.iaload, 1) := gdX10_again_82.2.1
theorem dX10_again_84 : decode cX10_again 84 = .ok (.iconst 1, 1) := gdX10_again_82.2.2.1
theorem dX10_again_85 : decode cX10_again 85 = .ok (.isub, 1) := gdX10_again_82.2.2.2.1
theorem dX10_again_86 : decode cX10_again 86 = .ok (.istore 4, 2) := gdX10_again_82.2.2.2.2.1
theorem dX10_again_88 : decode cX10_again 88 = .ok (.iload 4, 2) := gdX10_again_82.2.2.2.2.2.1
theorem dX10_again_90 : decode cX10_again 90 = .ok (.ifCond .lt 37, 3) := gdX10_again_82.2.2.2.2.2.2.1
theorem dX10_again_93 : decode cX10_again 93 = .ok (.aload_n 0, 1) := gdX10_again_82.2.2.2.2.2.2.2.1
theorem dX10_again_94 : decode cX10_again 94 = .ok (.getfield 113, 3) := gdX10_again_82.2.2.2.2.2.2.2.2.1
theorem dX10_again_97 : decode cX10_again 97 = .ok (.iconst 2, 1) := gdX10_again_82.2.2.2.2.2.2.2.2.2.1
theorem dX10_again_98 : decode cX10_again 98 = .ok (.iload_n 1, 1) := gdX10_again_82.2.2.2.2.2.2.2.2.2.2.1
theorem dX10_again_99 : decode cX10_again 99 = .ok (.imul, 1) := gdX10_again_82.2.2.2.2.2.2.2.2.2.2.2.1
theorem dX10_again_100 : decode cX10_again 100 = .ok (.iload 4, 2) := gdX10_again_82.2.2.2.2.2.2.2.2.2.2.2.2.1
theorem dX10_again_102 : decode cX10_again 102 = .ok (.iadd, 1) := gdX10_again_82.2.2.2.2.2.2.2.2.2.2.2.2.2.1
theorem dX10_again_103 : decode cX10_again 103 = .ok (.iaload, 1) := gdX10_again_82.2.2.2.2.2.2.2.2.2.2.2.2.2.2.1
theorem dX10_again_104 : decode cX10_again 104 = .ok (.aload_n 0, 1) := gdX10_again_82.2.2.2.2.2.2.2.2.2.2.2.2.2.2.2
theorem gdX10_again_105 : (decode cX10_again 105 = .ok (.getfield 125, 3)) ∧ (decode cX10_again 108 = .ok (.bipush 24, 2)) ∧ (decode cX10_again 110 = .ok (.iaload, 1)) ∧ (decode cX10_again 111 = .ok (.if_icmp .ne 10, 3)) ∧ (decode cX10_again 114 = .ok (.iconst 2, 1)) ∧ (decode cX10_again 115 = .ok (.iload_n 1, 1)) ∧ (decode cX10_again 116 = .ok (.imul, 1)) ∧ (decode cX10_again 117 = .ok (.iload 4, 2)) ∧ (decode cX10_again 119 = .ok (.iadd, 1)) ∧ (decode cX10_again 120 = .ok (.istore_n 3, 1)) ∧ (decode cX10_again 121 = .ok (.iinc 4 (-1), 3)) ∧ (decode cX10_again 124 = .ok (.goto (-36), 3)) ∧ (decode cX10_again 127 = .ok (.iload_n 3, 1)) ∧ (decode cX10_again 128 = .ok (.ifCond .lt 14, 3)) ∧ (decode cX10_again 131 = .ok (.aload_n 0, 1)) ∧ (decode cX10_again 132 = .ok (.iload_n 1, 1)) := by decide +kernel
theorem dX10_again_105 : decode cX10_again 105 = .ok (.getfield 125, 3) := gdX10_again_105.1
theorem dX10_again_108 : decode cX10_again 108 = .ok (.bipush 24, 2) := gdX10_again_105.2.1
theorem dX10_again_110 : decode cX10_again 110 = .ok (.iaload, 1) := gdX10_again_105.2.2.1
theorem dX10_again_111 : decode cX10_again 111 = .ok (.if_icmp .ne 10, 3) := gdX10_again_105.2.2.2.1
theorem dX10_again_114 : decode cX10_again 114 = .ok (.iconst 2, 1) := gdX10_again_105.2.2.2.2.1
theorem dX10_again_115 : decode cX10_again 115 = .ok (.iload_n 1, 1) := gdX10_again_105.2.2.2.2.2.1
theorem dX10_again_116 : decode cX10_again 116 = .ok (.imul, 1) := gdX10_again_105.2.2.2.2.2.2.1
theorem dX10_again_117 : decode cX10_again 117 = .ok (.iload 4, 2) := gdX10_again_105.2.2.2.2.2.2.2.1
theorem dX10_again_119 : decode cX10_again 119 = .ok (.iadd, 1) := gdX10_again_105.2.2.2.2.2.2.2.2.1
theorem dX10_again_120 : decode cX10_again 120 = .ok (.istore_n 3, 1) := gdX10_again_105.2.2.2.2.2.2.2.2.2.1
theorem dX10_again_121 : decode cX10_again 121 = .ok (.iinc 4 (-1), 3) := gdX10_again_105.2.2.2.2.2.2.2.2.2.2.1
theorem dX10_again_124 : decode cX10_again 124 = .ok (.goto (-36), 3) := gdX10_again_105.2.2.2.2.2.2.2.2.2.2.2.1
theorem dX10_again_127 : decode cX10_again 127 = .ok (.iload_n 3, 1) := gdX10_again_105.2.2.2.2.2.2.2.2.2.2.2.2.1
theorem dX10_again_128 : decode cX10_again 128 = .ok (.ifCond .lt 14, 3) := gdX10_again_105.2.2.2.2.2.2.2.2.2.2.2.2.2.1
theorem dX10_again_131 : decode cX10_again 131 = .ok (.aload_n 0, 1) := gdX10_again_105.2.2.2.2.2.2.2.2.2.2.2.2.2.2.1
theorem dX10_again_132 : decode cX10_again 132 = .ok (.iload_n 1, 1) := gdX10_again_105.2.2.2.2.2.2.2.2.2.2.2.2.2.2.2
theorem gdX10_again_133 : (decode cX10_again 133 = .ok (.aload_n 0, 1)) ∧ (decode cX10_again 134 = .ok (.getfield 116, 3)) ∧ (decode cX10_again 137 = .ok (.iload_n 3, 1)) ∧ (decode cX10_again 138 = .ok (.iaload, 1)) ∧ (decode cX10_again 139 = .ok (.invokevirtual 240, 3)) ∧ (decode cX10_again 142 = .ok (.return_, 1)) := by decide +kernel
theorem dX10_again_133 : decode cX10_again 133 = .ok (.aload_n 0, 1) := gdX10_again_133.1
theorem dX10_again_134 : decode cX10_again 134 = .ok (.getfield 116, 3) := gdX10_again_133.2.1
theorem dX10_again_137 : decode cX10_again 137 = .ok (.iload_n 3, 1) := gdX10_again_133.2.2.1
theorem dX10_again_138 : decode cX10_again 138 = .ok (.iaload, 1) := gdX10_again_133.2.2.2.1
theorem dX10_again_139 : decode cX10_again 139 = .ok (.invokevirtual 240, 3) := gdX10_again_133.2.2.2.2.1
theorem dX10_again_142 : decode cX10_again 142 = .ok (.return_, 1) := gdX10_again_133.2.2.2.2.2
set_option maxHeartbeats 8000000 in
set_option maxRecDepth 100000 in
theorem u_X10_again (l : Launch) (E : EE) (z0 : Nat) (G : Nat → Nat) (hGz : ∀ q, G q ≠ 0 → z0 ≤ q) (h0 : Nat) (rf : Nat → Nat) (hR : MG G h0 rf) (t0 t1 t2 : Int32) (A : AA) (cd pk : Int32) (p0 : Int32) (hI2 : I2 (A 5) (A 6)) (hI7 : I7 (A 41) (A 42) (A 44) (A 45) (A 46)) (hI8 : I8 (A 20) (A 30) (A 37) (A 36)) (hy0 : 0 ≤ p0.toInt ∧ p0.toInt ≤ 3) (hy1 : 0 ≤ pk.toInt ∧ pk.toInt ≤ 24) : Met l yX10_again [Cond.code yX10_again cX10_again 5 none] ({ frames := 3, cells := 0, slots := 0, locals := 71 } : Room) (va_Pc [.ref h0, .int p0] (fun U => MH E h0 rf t0 t1 t2 A cd pk U.heap ∧ KS E z0 U)) (va_Qv (fun (u : (Nat → Int32) × (Nat → Int32) × (Nat → Int32) × (Nat → Int32) × (Nat → Int32) × (Nat → Int32) × (Nat → Int32) × (Nat → Int32) × Int32) => (I7 (u.1) (u.2.1) (u.2.2.2.1) (u.2.2.2.2.1) (u.2.2.2.2.2.1)) ∧ (0 ≤ (u.2.2.2.2.2.2.2.2).toInt ∧ (u.2.2.2.2.2.2.2.2).toInt ≤ 24) ∧ (D_X10_again A cd pk p0 (uA (uA (uA (uA (uA (uA (uA (uA A 41 (u.1)) 42 (u.2.1)) 43 (u.2.2.1)) 44 (u.2.2.2.1)) 45 (u.2.2.2.2.1)) 46 (u.2.2.2.2.2.1)) 47 (u.2.2.2.2.2.2.1)) 48 (u.2.2.2.2.2.2.2.1)) cd (u.2.2.2.2.2.2.2.2))) (fun u t => MH E h0 rf t0 t1 t2 (uA (uA (uA (uA (uA (uA (uA (uA A 41 (u.1)) 42 (u.2.1)) 43 (u.2.2.1)) 44 (u.2.2.2.1)) 45 (u.2.2.2.2.1)) 46 (u.2.2.2.2.2.1)) 47 (u.2.2.2.2.2.2.1)) 48 (u.2.2.2.2.2.2.2.1)) cd (u.2.2.2.2.2.2.2.2) t.heap) (fun q : Nat => G q ≠ 0)) 0 0 (fun q : Nat => G q ≠ 0) := by
  refine Met.ofW (cc := cX10_again) (maxL := 5) (ret := none) (by decide) rfl ?_
  intro p e s m args below meth c s₁ B hml hv
  obtain ⟨rfl, hM, hK⟩ := hv
  have hx := B.exec
  have hb := B.bytes
  have hr := B.returns
  have hts : ∀ w ∈ TS, w.before ([.ref h0, .int p0] : List Value).toArray s = true := fun w hw => hK.2.1 w hw _
  have hown : s.vm.findClass RX10 = some m.cls := findClass_of_methodNamed B.named
  have hlocks := B.notSynchronized
  have hS : va_S (fun q : Nat => G q ≠ 0) s.heap s.heap [] := va_S.rf
  have hAz : ∀ q, (fun q : Nat => G q ≠ 0) q → z0 ≤ q := hGz
  have hl := lv_entry ([.ref h0, .int p0]) (n := 5) (Nat.le_of_ble_eq_true rfl)
  rw [lg_entry_eq]
  generalize (lg_sl ([.ref h0, .int p0]) ++ List.replicate (5 - (lg_sl ([.ref h0, .int p0])).length) Slot.unset).toArray = ls at hl ⊢
  have hl : lv_has ls 5 [(0, .ref h0), (1, .int p0)] := hl
  refine lv_aload_n hx hb dX10_again_0 rfl (lv_at hl 0 rfl) ?_
  refine va_get (D := DG E) (ci := 10) (v := .ref (rf 42)) (C := RX10) (T := TX10) (N := 49) hx hb hts iw_X10 hown hK.1 (va_one hM.1) 0 rfl rfl 42 (by decide) (hts _ fl_X10_122) (fun _ h9 => h9) rfl dX10_again_1 ?_
  refine lv_bipush (v := 24) hx hb dX10_again_4 (by decide) ?_
  have ha_1 : va_at (DG E) vwCl (rf 42, .inl (E.2.2 0, 25, .inl (A 42))) _ := hM.2 42 (by decide) (by decide) (by decide)
  refine va_iald (D := DG E) hx hb hK.1 (va_one ha_1) 0 0 rfl rfl (show vp_in (24) 25 from vp_in_iff.mpr ⟨by decide, by decide⟩) dX10_again_6 ?_
  refine W.eq (g2 := F0 m 7 ls [.int ((A 42) 24)]) (by rfl) ?_
  have q_2 : (((A 42) 24).toInt ≠ 0 ∧ ((A 42) 24).toInt ≠ 1 ∧ ((A 42) 24).toInt ≠ 4 ∨ ((A 44) 24).toInt ≤ 4) := (hI7 24 (by decide)).2.2.2.2.1
  have q_3 : (((A 42) 24).toInt < 1 ∨ 3 < ((A 42) 24).toInt ∨ (0 ≤ ((A 45) 24).toInt ∧ ((A 45) 24).toInt ≤ 5)) := (hI7 24 (by decide)).2.2.2.2.2.1
  have q_4 : 0 ≤ ((A 42) 24).toInt := (hI7 24 (by decide)).2.2.2.2.2.2.2.2
  refine lv_istore_n (lv' := [(2, .int ((A 42) 24)), (0, .ref h0), (1, .int p0)]) hx hb dX10_again_7 rfl hl (by decide) rfl (fun ls hl => ?_)
  refine lv_iload_n hx hb dX10_again_8 rfl (lv_at hl 0 rfl) ?_
  refine lv_iconst (v := 2) hx hb dX10_again_9 (by decide) ?_
  refine lv_icmp_ge (tgt := 33) hx hb dX10_again_10 (by decide) (fun c_5 => ?_) (fun c_5 => ?_)
  · simp only [lt_I, le_I, eq_I, i_0, i_1, i_2, i_3, i_4, i_5, i_6, i_7, i_8, i_10, i_12, i_16, i_20, i_23, i_24, i_31, i_32, i_63, i_64, i_m1, i_9, i_11, i_13, i_25, i_60, i_75, i_79, i_80, i_96, i_100] at c_5
    refine lv_iload_n hx hb dX10_again_33 rfl (lv_at hl 0 rfl) ?_
    refine lv_iconst (v := 2) hx hb dX10_again_34 (by decide) ?_
    refine lv_icmp_ne (tgt := 76) hx hb dX10_again_35 (by decide) (fun c_6 => ?_) (fun c_6 => ?_)
    · simp only [lt_I, le_I, eq_I, i_0, i_1, i_2, i_3, i_4, i_5, i_6, i_7, i_8, i_10, i_12, i_16, i_20, i_23, i_24, i_31, i_32, i_63, i_64, i_m1, i_9, i_11, i_13, i_25, i_60, i_75, i_79, i_80, i_96, i_100] at c_6
      refine lv_iconst (v := (-1)) hx hb dX10_again_76 (by decide) ?_
      refine lv_istore_n (lv' := [(3, .int (-1)), (2, .int ((A 42) 24)), (0, .ref h0), (1, .int p0)]) hx hb dX10_again_77 rfl hl (by decide) rfl (fun ls hl => ?_)
      refine lv_aload_n hx hb dX10_again_78 rfl (lv_at hl 2 rfl) ?_
      refine va_get (D := DG E) (ci := 10) (v := .ref (rf 37)) (C := RX10) (T := TX10) (N := 49) hx hb hts iw_X10 hown hK.1 (va_one hM.1) 0 rfl rfl 37 (by decide) (hts _ fl_X10_110) (fun _ h9 => h9) rfl dX10_again_79 ?_
      refine lv_iload_n hx hb dX10_again_82 rfl (lv_at hl 3 rfl) ?_
      have hi_7 : vp_in p0 4 := vp_in_iff.mpr (by omega)
      have ha_8 : va_at (DG E) vwCl (rf 37, .inl (E.2.2 0, 4, .inl (A 37))) _ := hM.2 37 (by decide) (by decide) (by decide)
      obtain ⟨n_9, hn_9, en_9⟩ := s_nat (x := p0) (by omega)
      refine va_iald (D := DG E) hx hb hK.1 (va_one ha_8) 0 0 rfl rfl hi_7 dX10_again_83 ?_
      refine W.eq (g2 := F0 m 84 ls [.int ((A 37) n_9)]) (by rw [en_9]) ?_
      have hk_10 : n_9 < 4 := by omega
      have q_11 : 0 ≤ ((A 37) n_9).toInt := (hI8 n_9 hk_10).2.2.2.2.1
      have q_12 : ((A 37) n_9).toInt ≤ 2 := (hI8 n_9 hk_10).2.2.2.2.2.1
      refine lv_iconst (v := 1) hx hb dX10_again_84 (by decide) ?_
      refine lv_isub hx hb dX10_again_85 ?_
      refine lv_topi (fun x_13 ex_13 => ?_)
      have fx_13 : x_13.toInt = ((A 37) n_9).toInt - 1 := by have h9 := s_sub (x := ((A 37) n_9)) (y := 1) (by rw [i_1]; omega) (by rw [i_1]; omega); rw [i_1] at h9; rw [ex_13]; exact h9
      refine lv_istore (lv' := [(4, .int x_13), (3, .int (-1)), (2, .int ((A 42) 24)), (0, .ref h0), (1, .int p0)]) hx hb dX10_again_86 hl (by decide) rfl (fun ls hl => ?_)
      refine lv_iload hx hb dX10_again_88 (lv_at hl 0 rfl) ?_
      refine lv_if_lt (tgt := 127) hx hb dX10_again_90 (by decide) (fun c_14 => ?_) (fun c_14 => ?_)
      · simp only [lt_I, le_I, eq_I, i_0, i_1, i_2, i_3, i_4, i_5, i_6, i_7, i_8, i_10, i_12, i_16, i_20, i_23, i_24, i_31, i_32, i_63, i_64, i_m1, i_9, i_11, i_13, i_25, i_60, i_75, i_79, i_80, i_96, i_100] at c_14
        refine lv_iload_n hx hb dX10_again_127 rfl (lv_at hl 1 rfl) ?_
        refine lv_if_lt (tgt := 142) hx hb dX10_again_128 (by decide) (fun c_15 => ?_) (fun c_15 => absurd c_15 (by decide))
        exact W.vret hx hb hr (fun t ht hW => ⟨⟨((A 41), (A 42), (A 43), (A 44), (A 45), (A 46), (A 47), (A 48), pk), rfl, ⟨hI7, (by show 0 ≤ pk.toInt ∧ pk.toInt ≤ 24; omega), (Or.inl ⟨c_5, c_6, n_9, hn_9, x_13, ex_13, fx_13, c_14, rfl, rfl, rfl⟩)⟩, (by show MH E h0 rf t0 t1 t2 (uA (uA (uA (uA (uA (uA (uA (uA A 41 (A 41)) 42 (A 42)) 43 (A 43)) 44 (A 44)) 45 (A 45)) 46 (A 46)) 47 (A 47)) 48 (A 48)) cd pk t.heap; rw [ht]; exact hM.cge (funext fun j => (cgj j 48 rfl (fun a0 => (cgj j 47 rfl (fun a1 => (cgj j 46 rfl (fun a2 => (cgj j 45 rfl (fun a3 => (cgj j 44 rfl (fun a4 => (cgj j 43 rfl (fun a5 => (cgj j 42 rfl (fun a6 => (cgj j 41 rfl (fun a7 => (by simp only [uA_n a0, uA_n a1, uA_n a2, uA_n a3, uA_n a4, uA_n a5, uA_n a6, uA_n a7])))))))))))))))))))⟩, hS.F ht⟩) hS.2.2 dX10_again_142
      · simp only [lt_I, le_I, eq_I, i_0, i_1, i_2, i_3, i_4, i_5, i_6, i_7, i_8, i_10, i_12, i_16, i_20, i_23, i_24, i_31, i_32, i_63, i_64, i_m1, i_9, i_11, i_13, i_25, i_60, i_75, i_79, i_80, i_96, i_100] at c_14
        refine lv_aload_n hx hb dX10_again_93 rfl (lv_at hl 3 rfl) ?_
        refine va_get (D := DG E) (ci := 10) (v := .ref (rf 38)) (C := RX10) (T := TX10) (N := 49) hx hb hts iw_X10 hown hK.1 (va_one hM.1) 0 rfl rfl 38 (by decide) (hts _ fl_X10_113) (fun _ h9 => h9) rfl dX10_again_94 ?_
        refine lv_iconst (v := 2) hx hb dX10_again_97 (by decide) ?_
        refine lv_iload_n hx hb dX10_again_98 rfl (lv_at hl 4 rfl) ?_
        refine lv_imul hx hb dX10_again_99 ?_
        refine lv_topi (fun x_16 ex_16 => ?_)
        have fx_16 : x_16.toInt = 2 * p0.toInt := by rw [ex_16]; exact s_mulK i_2 (by omega) (by omega)
        refine lv_iload hx hb dX10_again_100 (lv_at hl 0 rfl) ?_
        refine lv_iadd hx hb dX10_again_102 ?_
        refine lv_topi (fun x_17 ex_17 => ?_)
        have fx_17 : x_17.toInt = x_16.toInt + x_13.toInt := by have h9 := s_add (x := x_16) (y := x_13) (by omega) (by omega); rw [ex_17]; exact h9
        have hi_18 : vp_in x_17 8 := vp_in_iff.mpr (by omega)
        have ha_19 : va_at (DG E) vwCl (rf 38, .inl (E.2.2 0, 8, .inl (A 38))) _ := hM.2 38 (by decide) (by decide) (by decide)
        obtain ⟨n_20, hn_20, en_20⟩ := s_nat (x := x_17) (by omega)
        refine va_iald (D := DG E) hx hb hK.1 (va_one ha_19) 0 0 rfl rfl hi_18 dX10_again_103 ?_
        refine W.eq (g2 := F0 m 104 ls [.int ((A 38) n_20)]) (by rw [en_20]) ?_
        refine lv_aload_n hx hb dX10_again_104 rfl (lv_at hl 3 rfl) ?_
        refine va_get (D := DG E) (ci := 10) (v := .ref (rf 43)) (C := RX10) (T := TX10) (N := 49) hx hb hts iw_X10 hown hK.1 (va_one hM.1) 0 rfl rfl 43 (by decide) (hts _ fl_X10_125) (fun _ h9 => h9) rfl dX10_again_105 ?_
        refine lv_bipush (v := 24) hx hb dX10_again_108 (by decide) ?_
        have ha_21 : va_at (DG E) vwCl (rf 43, .inl (E.2.2 0, 25, .inl (A 43))) _ := hM.2 43 (by decide) (by decide) (by decide)
        refine va_iald (D := DG E) hx hb hK.1 (va_one ha_21) 0 0 rfl rfl (show vp_in (24) 25 from vp_in_iff.mpr ⟨by decide, by decide⟩) dX10_again_110 ?_
        refine W.eq (g2 := F0 m 111 ls [.int ((A 43) 24), .int ((A 38) n_20)]) (by rfl) ?_
        refine lv_icmp_ne (tgt := 121) hx hb dX10_again_111 (by decide) (fun c_22 => ?_) (fun c_22 => ?_)
        · simp only [lt_I, le_I, eq_I, i_0, i_1, i_2, i_3, i_4, i_5, i_6, i_7, i_8, i_10, i_12, i_16, i_20, i_23, i_24, i_31, i_32, i_63, i_64, i_m1, i_9, i_11, i_13, i_25, i_60, i_75, i_79, i_80, i_96, i_100] at c_22
          obtain ⟨x_23, ex_23⟩ : ∃ z : Int32, x_13 + Int32.ofInt (-1) = z := ⟨_, rfl⟩
          have fx_23 : x_23.toInt = x_13.toInt + (-1) := by have h9 := s_add (x := x_13) (y := (-1)) (by rw [i_m1]; omega) (by rw [i_m1]; omega); rw [i_m1] at h9; rw [← ex_23]; exact h9
          refine lv_iinc (v := x_23) (lv' := [(4, .int x_23), (3, .int (-1)), (2, .int ((A 42) 24)), (0, .ref h0), (1, .int p0)]) hx hb dX10_again_121 hl (k := 0) rfl ex_23 (by decide) rfl (fun ls hl => ?_)
          refine lv_goto (tgt := 88) hx hb dX10_again_124 (by decide) ?_
          refine lv_iload hx hb dX10_again_88 (lv_at hl 0 rfl) ?_
          refine lv_if_lt (tgt := 127) hx hb dX10_again_90 (by decide) (fun c_24 => ?_) (fun c_24 => ?_)
          · simp only [lt_I, le_I, eq_I, i_0, i_1, i_2, i_3, i_4, i_5, i_6, i_7, i_8, i_10, i_12, i_16, i_20, i_23, i_24, i_31, i_32, i_63, i_64, i_m1, i_9, i_11, i_13, i_25, i_60, i_75, i_79, i_80, i_96, i_100] at c_24
            refine lv_iload_n hx hb dX10_again_127 rfl (lv_at hl 1 rfl) ?_
            refine lv_if_lt (tgt := 142) hx hb dX10_again_128 (by decide) (fun c_25 => ?_) (fun c_25 => absurd c_25 (by decide))
            exact W.vret hx hb hr (fun t ht hW => ⟨⟨((A 41), (A 42), (A 43), (A 44), (A 45), (A 46), (A 47), (A 48), pk), rfl, ⟨hI7, (by show 0 ≤ pk.toInt ∧ pk.toInt ≤ 24; omega), (Or.inr (Or.inl ⟨c_5, c_6, n_9, hn_9, x_13, ex_13, fx_13, c_14, x_16, ex_16, fx_16, x_17, ex_17, fx_17, n_20, hn_20, c_22, x_23, ex_23, fx_23, c_24, rfl, rfl, rfl⟩))⟩, (by show MH E h0 rf t0 t1 t2 (uA (uA (uA (uA (uA (uA (uA (uA A 41 (A 41)) 42 (A 42)) 43 (A 43)) 44 (A 44)) 45 (A 45)) 46 (A 46)) 47 (A 47)) 48 (A 48)) cd pk t.heap; rw [ht]; exact hM.cge (funext fun j => (cgj j 48 rfl (fun a0 => (cgj j 47 rfl (fun a1 => (cgj j 46 rfl (fun a2 => (cgj j 45 rfl (fun a3 => (cgj j 44 rfl (fun a4 => (cgj j 43 rfl (fun a5 => (cgj j 42 rfl (fun a6 => (cgj j 41 rfl (fun a7 => (by simp only [uA_n a0, uA_n a1, uA_n a2, uA_n a3, uA_n a4, uA_n a5, uA_n a6, uA_n a7])))))))))))))))))))⟩, hS.F ht⟩) hS.2.2 dX10_again_142
          · simp only [lt_I, le_I, eq_I, i_0, i_1, i_2, i_3, i_4, i_5, i_6, i_7, i_8, i_10, i_12, i_16, i_20, i_23, i_24, i_31, i_32, i_63, i_64, i_m1, i_9, i_11, i_13, i_25, i_60, i_75, i_79, i_80, i_96, i_100] at c_24
            refine lv_aload_n hx hb dX10_again_93 rfl (lv_at hl 3 rfl) ?_
            refine va_get (D := DG E) (ci := 10) (v := .ref (rf 38)) (C := RX10) (T := TX10) (N := 49) hx hb hts iw_X10 hown hK.1 (va_one hM.1) 0 rfl rfl 38 (by decide) (hts _ fl_X10_113) (fun _ h9 => h9) rfl dX10_again_94 ?_
            refine lv_iconst (v := 2) hx hb dX10_again_97 (by decide) ?_
            refine lv_iload_n hx hb dX10_again_98 rfl (lv_at hl 4 rfl) ?_
            refine lv_imul hx hb dX10_again_99 ?_
            refine W.eq (g2 := F0 m 100 ls [.int x_16, .ref (rf 38)]) (by rw [ex_16]) ?_
            refine lv_iload hx hb dX10_again_100 (lv_at hl 0 rfl) ?_
            refine lv_iadd hx hb dX10_again_102 ?_
            refine lv_topi (fun x_26 ex_26 => ?_)
            have fx_26 : x_26.toInt = x_16.toInt + x_23.toInt := by have h9 := s_add (x := x_16) (y := x_23) (by omega) (by omega); rw [ex_26]; exact h9
            have hi_27 : vp_in x_26 8 := vp_in_iff.mpr (by omega)
            have ha_28 : va_at (DG E) vwCl (rf 38, .inl (E.2.2 0, 8, .inl (A 38))) _ := hM.2 38 (by decide) (by decide) (by decide)
            obtain ⟨n_29, hn_29, en_29⟩ := s_nat (x := x_26) (by omega)
            refine va_iald (D := DG E) hx hb hK.1 (va_one ha_28) 0 0 rfl rfl hi_27 dX10_again_103 ?_
            refine W.eq (g2 := F0 m 104 ls [.int ((A 38) n_29)]) (by rw [en_29]) ?_
            refine lv_aload_n hx hb dX10_again_104 rfl (lv_at hl 3 rfl) ?_
            refine va_get (D := DG E) (ci := 10) (v := .ref (rf 43)) (C := RX10) (T := TX10) (N := 49) hx hb hts iw_X10 hown hK.1 (va_one hM.1) 0 rfl rfl 43 (by decide) (hts _ fl_X10_125) (fun _ h9 => h9) rfl dX10_again_105 ?_
            refine lv_bipush (v := 24) hx hb dX10_again_108 (by decide) ?_
            have ha_30 : va_at (DG E) vwCl (rf 43, .inl (E.2.2 0, 25, .inl (A 43))) _ := hM.2 43 (by decide) (by decide) (by decide)
            refine va_iald (D := DG E) hx hb hK.1 (va_one ha_30) 0 0 rfl rfl (show vp_in (24) 25 from vp_in_iff.mpr ⟨by decide, by decide⟩) dX10_again_110 ?_
            refine W.eq (g2 := F0 m 111 ls [.int ((A 43) 24), .int ((A 38) n_29)]) (by rfl) ?_
            refine lv_icmp_ne (tgt := 121) hx hb dX10_again_111 (by decide) (fun c_31 => ?_) (fun c_31 => ?_)
            · simp only [lt_I, le_I, eq_I, i_0, i_1, i_2, i_3, i_4, i_5, i_6, i_7, i_8, i_10, i_12, i_16, i_20, i_23, i_24, i_31, i_32, i_63, i_64, i_m1, i_9, i_11, i_13, i_25, i_60, i_75, i_79, i_80, i_96, i_100] at c_31
              obtain ⟨x_32, ex_32⟩ : ∃ z : Int32, x_23 + Int32.ofInt (-1) = z := ⟨_, rfl⟩
              have fx_32 : x_32.toInt = x_23.toInt + (-1) := by have h9 := s_add (x := x_23) (y := (-1)) (by rw [i_m1]; omega) (by rw [i_m1]; omega); rw [i_m1] at h9; rw [← ex_32]; exact h9
              refine lv_iinc (v := x_32) (lv' := [(4, .int x_32), (3, .int (-1)), (2, .int ((A 42) 24)), (0, .ref h0), (1, .int p0)]) hx hb dX10_again_121 hl (k := 0) rfl ex_32 (by decide) rfl (fun ls hl => ?_)
              refine lv_goto (tgt := 88) hx hb dX10_again_124 (by decide) ?_
              refine lv_iload hx hb dX10_again_88 (lv_at hl 0 rfl) ?_
              refine lv_if_lt (tgt := 127) hx hb dX10_again_90 (by decide) (fun c_33 => ?_) (fun c_33 => by exfalso; simp only [lt_I, le_I, eq_I, i_0, i_1, i_2, i_3, i_4, i_5, i_6, i_7, i_8, i_10, i_12, i_16, i_20, i_23, i_24, i_31, i_32, i_63, i_64, i_m1, i_9, i_11, i_13, i_25, i_60, i_75, i_79, i_80, i_96, i_100] at c_33; omega)
              simp only [lt_I, le_I, eq_I, i_0, i_1, i_2, i_3, i_4, i_5, i_6, i_7, i_8, i_10, i_12, i_16, i_20, i_23, i_24, i_31, i_32, i_63, i_64, i_m1, i_9, i_11, i_13, i_25, i_60, i_75, i_79, i_80, i_96, i_100] at c_33
              refine lv_iload_n hx hb dX10_again_127 rfl (lv_at hl 1 rfl) ?_
              refine lv_if_lt (tgt := 142) hx hb dX10_again_128 (by decide) (fun c_34 => ?_) (fun c_34 => absurd c_34 (by decide))
              exact W.vret hx hb hr (fun t ht hW => ⟨⟨((A 41), (A 42), (A 43), (A 44), (A 45), (A 46), (A 47), (A 48), pk), rfl, ⟨hI7, (by show 0 ≤ pk.toInt ∧ pk.toInt ≤ 24; omega), (Or.inr (Or.inr (Or.inl ⟨c_5, c_6, n_9, hn_9, x_13, ex_13, fx_13, c_14, x_16, ex_16, fx_16, x_17, ex_17, fx_17, n_20, hn_20, c_22, x_23, ex_23, fx_23, c_24, x_26, ex_26, fx_26, n_29, hn_29, c_31, x_32, ex_32, fx_32, rfl, rfl, rfl⟩)))⟩, (by show MH E h0 rf t0 t1 t2 (uA (uA (uA (uA (uA (uA (uA (uA A 41 (A 41)) 42 (A 42)) 43 (A 43)) 44 (A 44)) 45 (A 45)) 46 (A 46)) 47 (A 47)) 48 (A 48)) cd pk t.heap; rw [ht]; exact hM.cge (funext fun j => (cgj j 48 rfl (fun a0 => (cgj j 47 rfl (fun a1 => (cgj j 46 rfl (fun a2 => (cgj j 45 rfl (fun a3 => (cgj j 44 rfl (fun a4 => (cgj j 43 rfl (fun a5 => (cgj j 42 rfl (fun a6 => (cgj j 41 rfl (fun a7 => (by simp only [uA_n a0, uA_n a1, uA_n a2, uA_n a3, uA_n a4, uA_n a5, uA_n a6, uA_n a7])))))))))))))))))))⟩, hS.F ht⟩) hS.2.2 dX10_again_142
            · simp only [lt_I, le_I, eq_I, i_0, i_1, i_2, i_3, i_4, i_5, i_6, i_7, i_8, i_10, i_12, i_16, i_20, i_23, i_24, i_31, i_32, i_63, i_64, i_m1, i_9, i_11, i_13, i_25, i_60, i_75, i_79, i_80, i_96, i_100] at c_31
              refine lv_iconst (v := 2) hx hb dX10_again_114 (by decide) ?_
              refine lv_iload_n hx hb dX10_again_115 rfl (lv_at hl 4 rfl) ?_
              refine lv_imul hx hb dX10_again_116 ?_
              refine W.eq (g2 := F0 m 117 ls [.int x_16]) (by rw [ex_16]) ?_
              refine lv_iload hx hb dX10_again_117 (lv_at hl 0 rfl) ?_
              refine lv_iadd hx hb dX10_again_119 ?_
              refine W.eq (g2 := F0 m 120 ls [.int x_26]) (by rw [ex_26]) ?_
              refine lv_istore_n (lv' := [(3, .int x_26), (4, .int x_23), (2, .int ((A 42) 24)), (0, .ref h0), (1, .int p0)]) hx hb dX10_again_120 rfl hl (by decide) rfl (fun ls hl => ?_)
              obtain ⟨x_35, ex_35⟩ : ∃ z : Int32, x_23 + Int32.ofInt (-1) = z := ⟨_, rfl⟩
              have fx_35 : x_35.toInt = x_23.toInt + (-1) := by have h9 := s_add (x := x_23) (y := (-1)) (by rw [i_m1]; omega) (by rw [i_m1]; omega); rw [i_m1] at h9; rw [← ex_35]; exact h9
              refine lv_iinc (v := x_35) (lv' := [(4, .int x_35), (3, .int x_26), (2, .int ((A 42) 24)), (0, .ref h0), (1, .int p0)]) hx hb dX10_again_121 hl (k := 1) rfl ex_35 (by decide) rfl (fun ls hl => ?_)
              refine lv_goto (tgt := 88) hx hb dX10_again_124 (by decide) ?_
              refine lv_iload hx hb dX10_again_88 (lv_at hl 0 rfl) ?_
              refine lv_if_lt (tgt := 127) hx hb dX10_again_90 (by decide) (fun c_36 => ?_) (fun c_36 => by exfalso; simp only [lt_I, le_I, eq_I, i_0, i_1, i_2, i_3, i_4, i_5, i_6, i_7, i_8, i_10, i_12, i_16, i_20, i_23, i_24, i_31, i_32, i_63, i_64, i_m1, i_9, i_11, i_13, i_25, i_60, i_75, i_79, i_80, i_96, i_100] at c_36; omega)
              simp only [lt_I, le_I, eq_I, i_0, i_1, i_2, i_3, i_4, i_5, i_6, i_7, i_8, i_10, i_12, i_16, i_20, i_23, i_24, i_31, i_32, i_63, i_64, i_m1, i_9, i_11, i_13, i_25, i_60, i_75, i_79, i_80, i_96, i_100] at c_36
              refine lv_iload_n hx hb dX10_again_127 rfl (lv_at hl 1 rfl) ?_
              refine lv_if_lt (tgt := 142) hx hb dX10_again_128 (by decide) (fun c_37 => by exfalso; simp only [lt_I, le_I, eq_I, i_0, i_1, i_2, i_3, i_4, i_5, i_6, i_7, i_8, i_10, i_12, i_16, i_20, i_23, i_24, i_31, i_32, i_63, i_64, i_m1, i_9, i_11, i_13, i_25, i_60, i_75, i_79, i_80, i_96, i_100] at c_37; omega) (fun c_37 => ?_)
              simp only [lt_I, le_I, eq_I, i_0, i_1, i_2, i_3, i_4, i_5, i_6, i_7, i_8, i_10, i_12, i_16, i_20, i_23, i_24, i_31, i_32, i_63, i_64, i_m1, i_9, i_11, i_13, i_25, i_60, i_75, i_79, i_80, i_96, i_100] at c_37
              refine lv_aload_n hx hb dX10_again_131 rfl (lv_at hl 3 rfl) ?_
              refine lv_iload_n hx hb dX10_again_132 rfl (lv_at hl 4 rfl) ?_
              refine lv_aload_n hx hb dX10_again_133 rfl (lv_at hl 3 rfl) ?_
              refine va_get (D := DG E) (ci := 10) (v := .ref (rf 39)) (C := RX10) (T := TX10) (N := 49) hx hb hts iw_X10 hown hK.1 (va_one hM.1) 0 rfl rfl 39 (by decide) (hts _ fl_X10_116) (fun _ h9 => h9) rfl dX10_again_134 ?_
              refine lv_iload_n hx hb dX10_again_137 rfl (lv_at hl 1 rfl) ?_
              have ha_38 : va_at (DG E) vwCl (rf 39, .inl (E.2.2 0, 8, .inl (A 39))) _ := hM.2 39 (by decide) (by decide) (by decide)
              refine va_iald (D := DG E) hx hb hK.1 (va_one ha_38) 0 0 rfl rfl hi_27 dX10_again_138 ?_
              refine W.eq (g2 := F0 m 139 ls [.int ((A 39) n_29), .int p0, .ref h0]) (by rw [en_29]) ?_
              refine va_callv (rnV (fun H => MH E h0 rf t0 t1 t2 A cd pk H) (As := [.int p0, .int ((A 39) n_29)]) (rest := []) ⟨hx, hb, hml, hown, hts⟩ (u_X10_replyOld l E z0 G hGz h0 rf hR t0 t1 t2 A cd pk p0 ((A 39) n_29) hI7 (show 0 ≤ p0.toInt ∧ p0.toInt ≤ 3 from by first | decide | omega) (show 0 ≤ pk.toInt ∧ pk.toInt ≤ 24 from by first | decide | omega)) (cwV 2 hts (gdV ml_X10_240 im_X10_replyOld se_X10_X10_replyOld in_X10 co_X10_replyOld rfl) rfl rfl rfl (by decide +kernel) ⟨Nat.le_of_ble_eq_true rfl, Nat.le_of_ble_eq_true rfl⟩) hM (fun U hU hW => hK.go hW hS hAz hU) (va_recv hK.1 (va_one hM.1) (ci := 10) (q0 := 0) rfl rfl) rfl rfl hl.1 rfl (lv_room (Nat.le_of_ble_eq_true rfl)) dX10_again_139 ⟨Nat.le_of_ble_eq_true rfl, Nat.le_of_ble_eq_true rfl⟩) hS (fun q _ h => h) (fun q h => h) (fun ur_39 t H locs ht hvm hwr_39 hB hz hk hS => ?_)
              have hM : MH E h0 rf t0 t1 t2 (uA (uA (uA (uA (uA (uA (uA (uA A 41 (ur_39.1)) 42 (ur_39.2.1)) 43 (ur_39.2.2.1)) 44 (ur_39.2.2.2.1)) 45 (ur_39.2.2.2.2.1)) 46 (ur_39.2.2.2.2.2.1)) 47 (ur_39.2.2.2.2.2.2.1)) 48 (ur_39.2.2.2.2.2.2.2.1)) cd ur_39.2.2.2.2.2.2.2.2 H := by rw [ht] at hB; exact hB
              have hDr_39 : D_X10_replyOld A cd pk p0 ((A 39) n_29) (uA (uA (uA (uA (uA (uA (uA (uA A 41 (ur_39.1)) 42 (ur_39.2.1)) 43 (ur_39.2.2.1)) 44 (ur_39.2.2.2.1)) 45 (ur_39.2.2.2.2.1)) 46 (ur_39.2.2.2.2.2.1)) 47 (ur_39.2.2.2.2.2.2.1)) 48 (ur_39.2.2.2.2.2.2.2.1)) cd (ur_39.2.2.2.2.2.2.2.2) := hwr_39.2.2.2
              have hpr_39_0 : I7 (ur_39.1) (ur_39.2.1) (ur_39.2.2.2.1) (ur_39.2.2.2.2.1) (ur_39.2.2.2.2.2.1) := hwr_39.1
              have hpr_39_1 : 0 ≤ ur_39.2.2.2.2.2.2.2.2.toInt ∧ ur_39.2.2.2.2.2.2.2.2.toInt ≤ 24 := hwr_39.2.1
              have hpr_39_2 : ((ur_39.2.2.2.1) 24).toInt = ((A 44) 24).toInt ∧ ((ur_39.2.2.2.2.2.1) 24).toInt = ((A 46) 24).toInt := hwr_39.2.2.1
              exact W.vret hx hb hr (fun t ht hW => ⟨⟨((ur_39.1), (ur_39.2.1), (ur_39.2.2.1), (ur_39.2.2.2.1), (ur_39.2.2.2.2.1), (ur_39.2.2.2.2.2.1), (ur_39.2.2.2.2.2.2.1), (ur_39.2.2.2.2.2.2.2.1), ur_39.2.2.2.2.2.2.2.2), rfl, ⟨hpr_39_0, (by show 0 ≤ ur_39.2.2.2.2.2.2.2.2.toInt ∧ ur_39.2.2.2.2.2.2.2.2.toInt ≤ 24; omega), (Or.inr (Or.inr (Or.inr (Or.inl ⟨c_5, c_6, n_9, hn_9, x_13, ex_13, fx_13, c_14, x_16, ex_16, fx_16, x_17, ex_17, fx_17, n_20, hn_20, c_22, x_23, ex_23, fx_23, c_24, x_26, ex_26, fx_26, n_29, hn_29, c_31, x_35, ex_35, fx_35, ur_39, hDr_39, hpr_39_0, hpr_39_1, hpr_39_2, rfl, rfl, rfl⟩))))⟩, (by show MH E h0 rf t0 t1 t2 (uA (uA (uA (uA (uA (uA (uA (uA A 41 (ur_39.1)) 42 (ur_39.2.1)) 43 (ur_39.2.2.1)) 44 (ur_39.2.2.2.1)) 45 (ur_39.2.2.2.2.1)) 46 (ur_39.2.2.2.2.2.1)) 47 (ur_39.2.2.2.2.2.2.1)) 48 (ur_39.2.2.2.2.2.2.2.1)) cd ur_39.2.2.2.2.2.2.2.2 t.heap; rw [ht]; exact hM)⟩, hS.F ht⟩) hS.2.2 dX10_again_142
        · simp only [lt_I, le_I, eq_I, i_0, i_1, i_2, i_3, i_4, i_5, i_6, i_7, i_8, i_10, i_12, i_16, i_20, i_23, i_24, i_31, i_32, i_63, i_64, i_m1, i_9, i_11, i_13, i_25, i_60, i_75, i_79, i_80, i_96, i_100] at c_22
          refine lv_iconst (v := 2) hx hb dX10_again_114 (by decide) ?_
          refine lv_iload_n hx hb dX10_again_115 rfl (lv_at hl 4 rfl) ?_
          refine lv_imul hx hb dX10_again_116 ?_
          refine W.eq (g2 := F0 m 117 ls [.int x_16]) (by rw [ex_16]) ?_
          refine lv_iload hx hb dX10_again_117 (lv_at hl 0 rfl) ?_
          refine lv_iadd hx hb dX10_again_119 ?_
          refine W.eq (g2 := F0 m 120 ls [.int x_17]) (by rw [ex_17]) ?_
          refine lv_istore_n (lv' := [(3, .int x_17), (4, .int x_13), (2, .int ((A 42) 24)), (0, .ref h0), (1, .int p0)]) hx hb dX10_again_120 rfl hl (by decide) rfl (fun ls hl => ?_)
          obtain ⟨x_40, ex_40⟩ : ∃ z : Int32, x_13 + Int32.ofInt (-1) = z := ⟨_, rfl⟩
          have fx_40 : x_40.toInt = x_13.toInt + (-1) := by have h9 := s_add (x := x_13) (y := (-1)) (by rw [i_m1]; omega) (by rw [i_m1]; omega); rw [i_m1] at h9; rw [← ex_40]; exact h9
          refine lv_iinc (v := x_40) (lv' := [(4, .int x_40), (3, .int x_17), (2, .int ((A 42) 24)), (0, .ref h0), (1, .int p0)]) hx hb dX10_again_121 hl (k := 1) rfl ex_40 (by decide) rfl (fun ls hl => ?_)
          refine lv_goto (tgt := 88) hx hb dX10_again_124 (by decide) ?_
          refine lv_iload hx hb dX10_again_88 (lv_at hl 0 rfl) ?_
          refine lv_if_lt (tgt := 127) hx hb dX10_again_90 (by decide) (fun c_41 => ?_) (fun c_41 => ?_)
          · simp only [lt_I, le_I, eq_I, i_0, i_1, i_2, i_3, i_4, i_5, i_6, i_7, i_8, i_10, i_12, i_16, i_20, i_23, i_24, i_31, i_32, i_63, i_64, i_m1, i_9, i_11, i_13, i_25, i_60, i_75, i_79, i_80, i_96, i_100] at c_41
            refine lv_iload_n hx hb dX10_again_127 rfl (lv_at hl 1 rfl) ?_
            refine lv_if_lt (tgt := 142) hx hb dX10_again_128 (by decide) (fun c_42 => by exfalso; simp only [lt_I, le_I, eq_I, i_0, i_1, i_2, i_3, i_4, i_5, i_6, i_7, i_8, i_10, i_12, i_16, i_20, i_23, i_24, i_31, i_32, i_63, i_64, i_m1, i_9, i_11, i_13, i_25, i_60, i_75, i_79, i_80, i_96, i_100] at c_42; omega) (fun c_42 => ?_)
            simp only [lt_I, le_I, eq_I, i_0, i_1, i_2, i_3, i_4, i_5, i_6, i_7, i_8, i_10, i_12, i_16, i_20, i_23, i_24, i_31, i_32, i_63, i_64, i_m1, i_9, i_11, i_13, i_25, i_60, i_75, i_79, i_80, i_96, i_100] at c_42
            refine lv_aload_n hx hb dX10_again_131 rfl (lv_at hl 3 rfl) ?_
            refine lv_iload_n hx hb dX10_again_132 rfl (lv_at hl 4 rfl) ?_
            refine lv_aload_n hx hb dX10_again_133 rfl (lv_at hl 3 rfl) ?_
            refine va_get (D := DG E) (ci := 10) (v := .ref (rf 39)) (C := RX10) (T := TX10) (N := 49) hx hb hts iw_X10 hown hK.1 (va_one hM.1) 0 rfl rfl 39 (by decide) (hts _ fl_X10_116) (fun _ h9 => h9) rfl dX10_again_134 ?_
            refine lv_iload_n hx hb dX10_again_137 rfl (lv_at hl 1 rfl) ?_
            have ha_43 : va_at (DG E) vwCl (rf 39, .inl (E.2.2 0, 8, .inl (A 39))) _ := hM.2 39 (by decide) (by decide) (by decide)
            refine va_iald (D := DG E) hx hb hK.1 (va_one ha_43) 0 0 rfl rfl hi_18 dX10_again_138 ?_
            refine W.eq (g2 := F0 m 139 ls [.int ((A 39) n_20), .int p0, .ref h0]) (by rw [en_20]) ?_
            refine va_callv (rnV (fun H => MH E h0 rf t0 t1 t2 A cd pk H) (As := [.int p0, .int ((A 39) n_20)]) (rest := []) ⟨hx, hb, hml, hown, hts⟩ (u_X10_replyOld l E z0 G hGz h0 rf hR t0 t1 t2 A cd pk p0 ((A 39) n_20) hI7 (show 0 ≤ p0.toInt ∧ p0.toInt ≤ 3 from by first | decide | omega) (show 0 ≤ pk.toInt ∧ pk.toInt ≤ 24 from by first | decide | omega)) (cwV 2 hts (gdV ml_X10_240 im_X10_replyOld se_X10_X10_replyOld in_X10 co_X10_replyOld rfl) rfl rfl rfl (by decide +kernel) ⟨Nat.le_of_ble_eq_true rfl, Nat.le_of_ble_eq_true rfl⟩) hM (fun U hU hW => hK.go hW hS hAz hU) (va_recv hK.1 (va_one hM.1) (ci := 10) (q0 := 0) rfl rfl) rfl rfl hl.1 rfl (lv_room (Nat.le_of_ble_eq_true rfl)) dX10_again_139 ⟨Nat.le_of_ble_eq_true rfl, Nat.le_of_ble_eq_true rfl⟩) hS (fun q _ h => h) (fun q h => h) (fun ur_44 t H locs ht hvm hwr_44 hB hz hk hS => ?_)
            have hM : MH E h0 rf t0 t1 t2 (uA (uA (uA (uA (uA (uA (uA (uA A 41 (ur_44.1)) 42 (ur_44.2.1)) 43 (ur_44.2.2.1)) 44 (ur_44.2.2.2.1)) 45 (ur_44.2.2.2.2.1)) 46 (ur_44.2.2.2.2.2.1)) 47 (ur_44.2.2.2.2.2.2.1)) 48 (ur_44.2.2.2.2.2.2.2.1)) cd ur_44.2.2.2.2.2.2.2.2 H := by rw [ht] at hB; exact hB
            have hDr_44 : D_X10_replyOld A cd pk p0 ((A 39) n_20) (uA (uA (uA (uA (uA (uA (uA (uA A 41 (ur_44.1)) 42 (ur_44.2.1)) 43 (ur_44.2.2.1)) 44 (ur_44.2.2.2.1)) 45 (ur_44.2.2.2.2.1)) 46 (ur_44.2.2.2.2.2.1)) 47 (ur_44.2.2.2.2.2.2.1)) 48 (ur_44.2.2.2.2.2.2.2.1)) cd (ur_44.2.2.2.2.2.2.2.2) := hwr_44.2.2.2
            have hpr_44_0 : I7 (ur_44.1) (ur_44.2.1) (ur_44.2.2.2.1) (ur_44.2.2.2.2.1) (ur_44.2.2.2.2.2.1) := hwr_44.1
            have hpr_44_1 : 0 ≤ ur_44.2.2.2.2.2.2.2.2.toInt ∧ ur_44.2.2.2.2.2.2.2.2.toInt ≤ 24 := hwr_44.2.1
            have hpr_44_2 : ((ur_44.2.2.2.1) 24).toInt = ((A 44) 24).toInt ∧ ((ur_44.2.2.2.2.2.1) 24).toInt = ((A 46) 24).toInt := hwr_44.2.2.1
            exact W.vret hx hb hr (fun t ht hW => ⟨⟨((ur_44.1), (ur_44.2.1), (ur_44.2.2.1), (ur_44.2.2.2.1), (ur_44.2.2.2.2.1), (ur_44.2.2.2.2.2.1), (ur_44.2.2.2.2.2.2.1), (ur_44.2.2.2.2.2.2.2.1), ur_44.2.2.2.2.2.2.2.2), rfl, ⟨hpr_44_0, (by show 0 ≤ ur_44.2.2.2.2.2.2.2.2.toInt ∧ ur_44.2.2.2.2.2.2.2.2.toInt ≤ 24; omega), (Or.inr (Or.inr (Or.inr (Or.inr (Or.inl ⟨c_5, c_6, n_9, hn_9, x_13, ex_13, fx_13, c_14, x_16, ex_16, fx_16, x_17, ex_17, fx_17, n_20, hn_20, c_22, x_40, ex_40, fx_40, c_41, ur_44, hDr_44, hpr_44_0, hpr_44_1, hpr_44_2, rfl, rfl, rfl⟩)))))⟩, (by show MH E h0 rf t0 t1 t2 (uA (uA (uA (uA (uA (uA (uA (uA A 41 (ur_44.1)) 42 (ur_44.2.1)) 43 (ur_44.2.2.1)) 44 (ur_44.2.2.2.1)) 45 (ur_44.2.2.2.2.1)) 46 (ur_44.2.2.2.2.2.1)) 47 (ur_44.2.2.2.2.2.2.1)) 48 (ur_44.2.2.2.2.2.2.2.1)) cd ur_44.2.2.2.2.2.2.2.2 t.heap; rw [ht]; exact hM)⟩, hS.F ht⟩) hS.2.2 dX10_again_142
          · simp only [lt_I, le_I, eq_I, i_0, i_1, i_2, i_3, i_4, i_5, i_6, i_7, i_8, i_10, i_12, i_16, i_20, i_23, i_24, i_31, i_32, i_63, i_64, i_m1, i_9, i_11, i_13, i_25, i_60, i_75, i_79, i_80, i_96, i_100] at c_41
            refine lv_aload_n hx hb dX10_again_93 rfl (lv_at hl 3 rfl) ?_
            refine va_get (D := DG E) (ci := 10) (v := .ref (rf 38)) (C := RX10) (T := TX10) (N := 49) hx hb hts iw_X10 hown hK.1 (va_one hM.1) 0 rfl rfl 38 (by decide) (hts _ fl_X10_113) (fun _ h9 => h9) rfl dX10_again_94 ?_
            refine lv_iconst (v := 2) hx hb dX10_again_97 (by decide) ?_
            refine lv_iload_n hx hb dX10_again_98 rfl (lv_at hl 4 rfl) ?_
            refine lv_imul hx hb dX10_again_99 ?_
            refine W.eq (g2 := F0 m 100 ls [.int x_16, .ref (rf 38)]) (by rw [ex_16]) ?_
            refine lv_iload hx hb dX10_again_100 (lv_at hl 0 rfl) ?_
            refine lv_iadd hx hb dX10_again_102 ?_
            refine lv_topi (fun x_45 ex_45 => ?_)
            have fx_45 : x_45.toInt = x_16.toInt + x_40.toInt := by have h9 := s_add (x := x_16) (y := x_40) (by omega) (by omega); rw [ex_45]; exact h9
            have hi_46 : vp_in x_45 8 := vp_in_iff.mpr (by omega)
            have ha_47 : va_at (DG E) vwCl (rf 38, .inl (E.2.2 0, 8, .inl (A 38))) _ := hM.2 38 (by decide) (by decide) (by decide)
            obtain ⟨n_48, hn_48, en_48⟩ := s_nat (x := x_45) (by omega)
            refine va_iald (D := DG E) hx hb hK.1 (va_one ha_47) 0 0 rfl rfl hi_46 dX10_again_103 ?_
            refine W.eq (g2 := F0 m 104 ls [.int ((A 38) n_48)]) (by rw [en_48]) ?_
            refine lv_aload_n hx hb dX10_again_104 rfl (lv_at hl 3 rfl) ?_
            refine va_get (D := DG E) (ci := 10) (v := .ref (rf 43)) (C := RX10) (T := TX10) (N := 49) hx hb hts iw_X10 hown hK.1 (va_one hM.1) 0 rfl rfl 43 (by decide) (hts _ fl_X10_125) (fun _ h9 => h9) rfl dX10_again_105 ?_
            refine lv_bipush (v := 24) hx hb dX10_again_108 (by decide) ?_
            have ha_49 : va_at (DG E) vwCl (rf 43, .inl (E.2.2 0, 25, .inl (A 43))) _ := hM.2 43 (by decide) (by decide) (by decide)
            refine va_iald (D := DG E) hx hb hK.1 (va_one ha_49) 0 0 rfl rfl (show vp_in (24) 25 from vp_in_iff.mpr ⟨by decide, by decide⟩) dX10_again_110 ?_
            refine W.eq (g2 := F0 m 111 ls [.int ((A 43) 24), .int ((A 38) n_48)]) (by rfl) ?_
            refine lv_icmp_ne (tgt := 121) hx hb dX10_again_111 (by decide) (fun c_50 => ?_) (fun c_50 => ?_)
            · simp only [lt_I, le_I, eq_I, i_0, i_1, i_2, i_3, i_4, i_5, i_6, i_7, i_8, i_10, i_12, i_16, i_20, i_23, i_24, i_31, i_32, i_63, i_64, i_m1, i_9, i_11, i_13, i_25, i_60, i_75, i_79, i_80, i_96, i_100] at c_50
              obtain ⟨x_51, ex_51⟩ : ∃ z : Int32, x_40 + Int32.ofInt (-1) = z := ⟨_, rfl⟩
              have fx_51 : x_51.toInt = x_40.toInt + (-1) := by have h9 := s_add (x := x_40) (y := (-1)) (by rw [i_m1]; omega) (by rw [i_m1]; omega); rw [i_m1] at h9; rw [← ex_51]; exact h9
              refine lv_iinc (v := x_51) (lv' := [(4, .int x_51), (3, .int x_17), (2, .int ((A 42) 24)), (0, .ref h0), (1, .int p0)]) hx hb dX10_again_121 hl (k := 0) rfl ex_51 (by decide) rfl (fun ls hl => ?_)
              refine lv_goto (tgt := 88) hx hb dX10_again_124 (by decide) ?_
              refine lv_iload hx hb dX10_again_88 (lv_at hl 0 rfl) ?_
              refine lv_if_lt (tgt := 127) hx hb dX10_again_90 (by decide) (fun c_52 => ?_) (fun c_52 => by exfalso; simp only [lt_I, le_I, eq_I, i_0, i_1, i_2, i_3, i_4, i_5, i_6, i_7, i_8, i_10, i_12, i_16, i_20, i_23, i_24, i_31, i_32, i_63, i_64, i_m1, i_9, i_11, i_13, i_25, i_60, i_75, i_79, i_80, i_96, i_100] at c_52; omega)
              simp only [lt_I, le_I, eq_I, i_0, i_1, i_2, i_3, i_4, i_5, i_6, i_7, i_8, i_10, i_12, i_16, i_20, i_23, i_24, i_31, i_32, i_63, i_64, i_m1, i_9, i_11, i_13, i_25, i_60, i_75, i_79, i_80, i_96, i_100] at c_52
              refine lv_iload_n hx hb dX10_again_127 rfl (lv_at hl 1 rfl) ?_
              refine lv_if_lt (tgt := 142) hx hb dX10_again_128 (by decide) (fun c_53 => by exfalso; simp only [lt_I, le_I, eq_I, i_0, i_1, i_2, i_3, i_4, i_5, i_6, i_7, i_8, i_10, i_12, i_16, i_20, i_23, i_24, i_31, i_32, i_63, i_64, i_m1, i_9, i_11, i_13, i_25, i_60, i_75, i_79, i_80, i_96, i_100] at c_53; omega) (fun c_53 => ?_)
              simp only [lt_I, le_I, eq_I, i_0, i_1, i_2, i_3, i_4, i_5, i_6, i_7, i_8, i_10, i_12, i_16, i_20, i_23, i_24, i_31, i_32, i_63, i_64, i_m1, i_9, i_11, i_13, i_25, i_60, i_75, i_79, i_80, i_96, i_100] at c_53
              refine lv_aload_n hx hb dX10_again_131 rfl (lv_at hl 3 rfl) ?_
              refine lv_iload_n hx hb dX10_again_132 rfl (lv_at hl 4 rfl) ?_
              refine lv_aload_n hx hb dX10_again_133 rfl (lv_at hl 3 rfl) ?_
              refine va_get (D := DG E) (ci := 10) (v := .ref (rf 39)) (C := RX10) (T := TX10) (N := 49) hx hb hts iw_X10 hown hK.1 (va_one hM.1) 0 rfl rfl 39 (by decide) (hts _ fl_X10_116) (fun _ h9 => h9) rfl dX10_again_134 ?_
              refine lv_iload_n hx hb dX10_again_137 rfl (lv_at hl 1 rfl) ?_
              have ha_54 : va_at (DG E) vwCl (rf 39, .inl (E.2.2 0, 8, .inl (A 39))) _ := hM.2 39 (by decide) (by decide) (by decide)
              refine va_iald (D := DG E) hx hb hK.1 (va_one ha_54) 0 0 rfl rfl hi_18 dX10_again_138 ?_
              refine W.eq (g2 := F0 m 139 ls [.int ((A 39) n_20), .int p0, .ref h0]) (by rw [en_20]) ?_
              refine va_callv (rnV (fun H => MH E h0 rf t0 t1 t2 A cd pk H) (As := [.int p0, .int ((A 39) n_20)]) (rest := []) ⟨hx, hb, hml, hown, hts⟩ (u_X10_replyOld l E z0 G hGz h0 rf hR t0 t1 t2 A cd pk p0 ((A 39) n_20) hI7 (show 0 ≤ p0.toInt ∧ p0.toInt ≤ 3 from by first | decide | omega) (show 0 ≤ pk.toInt ∧ pk.toInt ≤ 24 from by first | decide | omega)) (cwV 2 hts (gdV ml_X10_240 im_X10_replyOld se_X10_X10_replyOld in_X10 co_X10_replyOld rfl) rfl rfl rfl (by decide +kernel) ⟨Nat.le_of_ble_eq_true rfl, Nat.le_of_ble_eq_true rfl⟩) hM (fun U hU hW => hK.go hW hS hAz hU) (va_recv hK.1 (va_one hM.1) (ci := 10) (q0 := 0) rfl rfl) rfl rfl hl.1 rfl (lv_room (Nat.le_of_ble_eq_true rfl)) dX10_again_139 ⟨Nat.le_of_ble_eq_true rfl, Nat.le_of_ble_eq_true rfl⟩) hS (fun q _ h => h) (fun q h => h) (fun ur_55 t H locs ht hvm hwr_55 hB hz hk hS => ?_)
              have hM : MH E h0 rf t0 t1 t2 (uA (uA (uA (uA (uA (uA (uA (uA A 41 (ur_55.1)) 42 (ur_55.2.1)) 43 (ur_55.2.2.1)) 44 (ur_55.2.2.2.1)) 45 (ur_55.2.2.2.2.1)) 46 (ur_55.2.2.2.2.2.1)) 47 (ur_55.2.2.2.2.2.2.1)) 48 (ur_55.2.2.2.2.2.2.2.1)) cd ur_55.2.2.2.2.2.2.2.2 H := by rw [ht] at hB; exact hB
              have hDr_55 : D_X10_replyOld A cd pk p0 ((A 39) n_20) (uA (uA (uA (uA (uA (uA (uA (uA A 41 (ur_55.1)) 42 (ur_55.2.1)) 43 (ur_55.2.2.1)) 44 (ur_55.2.2.2.1)) 45 (ur_55.2.2.2.2.1)) 46 (ur_55.2.2.2.2.2.1)) 47 (ur_55.2.2.2.2.2.2.1)) 48 (ur_55.2.2.2.2.2.2.2.1)) cd (ur_55.2.2.2.2.2.2.2.2) := hwr_55.2.2.2
              have hpr_55_0 : I7 (ur_55.1) (ur_55.2.1) (ur_55.2.2.2.1) (ur_55.2.2.2.2.1) (ur_55.2.2.2.2.2.1) := hwr_55.1
              have hpr_55_1 : 0 ≤ ur_55.2.2.2.2.2.2.2.2.toInt ∧ ur_55.2.2.2.2.2.2.2.2.toInt ≤ 24 := hwr_55.2.1
              have hpr_55_2 : ((ur_55.2.2.2.1) 24).toInt = ((A 44) 24).toInt ∧ ((ur_55.2.2.2.2.2.1) 24).toInt = ((A 46) 24).toInt := hwr_55.2.2.1
              exact W.vret hx hb hr (fun t ht hW => ⟨⟨((ur_55.1), (ur_55.2.1), (ur_55.2.2.1), (ur_55.2.2.2.1), (ur_55.2.2.2.2.1), (ur_55.2.2.2.2.2.1), (ur_55.2.2.2.2.2.2.1), (ur_55.2.2.2.2.2.2.2.1), ur_55.2.2.2.2.2.2.2.2), rfl, ⟨hpr_55_0, (by show 0 ≤ ur_55.2.2.2.2.2.2.2.2.toInt ∧ ur_55.2.2.2.2.2.2.2.2.toInt ≤ 24; omega), (Or.inr (Or.inr (Or.inr (Or.inr (Or.inr (Or.inl ⟨c_5, c_6, n_9, hn_9, x_13, ex_13, fx_13, c_14, x_16, ex_16, fx_16, x_17, ex_17, fx_17, n_20, hn_20, c_22, x_40, ex_40, fx_40, c_41, x_45, ex_45, fx_45, n_48, hn_48, c_50, x_51, ex_51, fx_51, ur_55, hDr_55, hpr_55_0, hpr_55_1, hpr_55_2, rfl, rfl, rfl⟩))))))⟩, (by show MH E h0 rf t0 t1 t2 (uA (uA (uA (uA (uA (uA (uA (uA A 41 (ur_55.1)) 42 (ur_55.2.1)) 43 (ur_55.2.2.1)) 44 (ur_55.2.2.2.1)) 45 (ur_55.2.2.2.2.1)) 46 (ur_55.2.2.2.2.2.1)) 47 (ur_55.2.2.2.2.2.2.1)) 48 (ur_55.2.2.2.2.2.2.2.1)) cd ur_55.2.2.2.2.2.2.2.2 t.heap; rw [ht]; exact hM)⟩, hS.F ht⟩) hS.2.2 dX10_again_142
            · simp only [lt_I, le_I, eq_I, i_0, i_1, i_2, i_3, i_4, i_5, i_6, i_7, i_8, i_10, i_12, i_16, i_20, i_23, i_24, i_31, i_32, i_63, i_64, i_m1, i_9, i_11, i_13, i_25, i_60, i_75, i_79, i_80, i_96, i_100] at c_50
              refine lv_iconst (v := 2) hx hb dX10_again_114 (by decide) ?_
              refine lv_iload_n hx hb dX10_again_115 rfl (lv_at hl 4 rfl) ?_
              refine lv_imul hx hb dX10_again_116 ?_
              refine W.eq (g2 := F0 m 117 ls [.int x_16]) (by rw [ex_16]) ?_
              refine lv_iload hx hb dX10_again_117 (lv_at hl 0 rfl) ?_
              refine lv_iadd hx hb dX10_again_119 ?_
              refine W.eq (g2 := F0 m 120 ls [.int x_45]) (by rw [ex_45]) ?_
              refine lv_istore_n (lv' := [(3, .int x_45), (4, .int x_40), (2, .int ((A 42) 24)), (0, .ref h0), (1, .int p0)]) hx hb dX10_again_120 rfl hl (by decide) rfl (fun ls hl => ?_)
              obtain ⟨x_56, ex_56⟩ : ∃ z : Int32, x_40 + Int32.ofInt (-1) = z := ⟨_, rfl⟩
              have fx_56 : x_56.toInt = x_40.toInt + (-1) := by have h9 := s_add (x := x_40) (y := (-1)) (by rw [i_m1]; omega) (by rw [i_m1]; omega); rw [i_m1] at h9; rw [← ex_56]; exact h9
              refine lv_iinc (v := x_56) (lv' := [(4, .int x_56), (3, .int x_45), (2, .int ((A 42) 24)), (0, .ref h0), (1, .int p0)]) hx hb dX10_again_121 hl (k := 1) rfl ex_56 (by decide) rfl (fun ls hl => ?_)
              refine lv_goto (tgt := 88) hx hb dX10_again_124 (by decide) ?_
              refine lv_iload hx hb dX10_again_88 (lv_at hl 0 rfl) ?_
              refine lv_if_lt (tgt := 127) hx hb dX10_again_90 (by decide) (fun c_57 => ?_) (fun c_57 => by exfalso; simp only [lt_I, le_I, eq_I, i_0, i_1, i_2, i_3, i_4, i_5, i_6, i_7, i_8, i_10, i_12, i_16, i_20, i_23, i_24, i_31, i_32, i_63, i_64, i_m1, i_9, i_11, i_13, i_25, i_60, i_75, i_79, i_80, i_96, i_100] at c_57; omega)
              simp only [lt_I, le_I, eq_I, i_0, i_1, i_2, i_3, i_4, i_5, i_6, i_7, i_8, i_10, i_12, i_16, i_20, i_23, i_24, i_31, i_32, i_63, i_64, i_m1, i_9, i_11, i_13, i_25, i_60, i_75, i_79, i_80, i_96, i_100] at c_57
              refine lv_iload_n hx hb dX10_again_127 rfl (lv_at hl 1 rfl) ?_
              refine lv_if_lt (tgt := 142) hx hb dX10_again_128 (by decide) (fun c_58 => by exfalso; simp only [lt_I, le_I, eq_I, i_0, i_1, i_2, i_3, i_4, i_5, i_6, i_7, i_8, i_10, i_12, i_16, i_20, i_23, i_24, i_31, i_32, i_63, i_64, i_m1, i_9, i_11, i_13, i_25, i_60, i_75, i_79, i_80, i_96, i_100] at c_58; omega) (fun c_58 => ?_)
              simp only [lt_I, le_I, eq_I, i_0, i_1, i_2, i_3, i_4, i_5, i_6, i_7, i_8, i_10, i_12, i_16, i_20, i_23, i_24, i_31, i_32, i_63, i_64, i_m1, i_9, i_11, i_13, i_25, i_60, i_75, i_79, i_80, i_96, i_100] at c_58
              refine lv_aload_n hx hb dX10_again_131 rfl (lv_at hl 3 rfl) ?_
              refine lv_iload_n hx hb dX10_again_132 rfl (lv_at hl 4 rfl) ?_
              refine lv_aload_n hx hb dX10_again_133 rfl (lv_at hl 3 rfl) ?_
              refine va_get (D := DG E) (ci := 10) (v := .ref (rf 39)) (C := RX10) (T := TX10) (N := 49) hx hb hts iw_X10 hown hK.1 (va_one hM.1) 0 rfl rfl 39 (by decide) (hts _ fl_X10_116) (fun _ h9 => h9) rfl dX10_again_134 ?_
              refine lv_iload_n hx hb dX10_again_137 rfl (lv_at hl 1 rfl) ?_
              have ha_59 : va_at (DG E) vwCl (rf 39, .inl (E.2.2 0, 8, .inl (A 39))) _ := hM.2 39 (by decide) (by decide) (by decide)
              refine va_iald (D := DG E) hx hb hK.1 (va_one ha_59) 0 0 rfl rfl hi_46 dX10_again_138 ?_
              refine W.eq (g2 := F0 m 139 ls [.int ((A 39) n_48), .int p0, .ref h0]) (by rw [en_48]) ?_
              refine va_callv (rnV (fun H => MH E h0 rf t0 t1 t2 A cd pk H) (As := [.int p0, .int ((A 39) n_48)]) (rest := []) ⟨hx, hb, hml, hown, hts⟩ (u_X10_replyOld l E z0 G hGz h0 rf hR t0 t1 t2 A cd pk p0 ((A 39) n_48) hI7 (show 0 ≤ p0.toInt ∧ p0.toInt ≤ 3 from by first | decide | omega) (show 0 ≤ pk.toInt ∧ pk.toInt ≤ 24 from by first | decide | omega)) (cwV 2 hts (gdV ml_X10_240 im_X10_replyOld se_X10_X10_replyOld in_X10 co_X10_replyOld rfl) rfl rfl rfl (by decide +kernel) ⟨Nat.le_of_ble_eq_true rfl, Nat.le_of_ble_eq_true rfl⟩) hM (fun U hU hW => hK.go hW hS hAz hU) (va_recv hK.1 (va_one hM.1) (ci := 10) (q0 := 0) rfl rfl) rfl rfl hl.1 rfl (lv_room (Nat.le_of_ble_eq_true rfl)) dX10_again_139 ⟨Nat.le_of_ble_eq_true rfl, Nat.le_of_ble_eq_true rfl⟩) hS (fun q _ h => h) (fun q h => h) (fun ur_60 t H locs ht hvm hwr_60 hB hz hk hS => ?_)
              have hM : MH E h0 rf t0 t1 t2 (uA (uA (uA (uA (uA (uA (uA (uA A 41 (ur_60.1)) 42 (ur_60.2.1)) 43 (ur_60.2.2.1)) 44 (ur_60.2.2.2.1)) 45 (ur_60.2.2.2.2.1)) 46 (ur_60.2.2.2.2.2.1)) 47 (ur_60.2.2.2.2.2.2.1)) 48 (ur_60.2.2.2.2.2.2.2.1)) cd ur_60.2.2.2.2.2.2.2.2 H := by rw [ht] at hB; exact hB
              have hDr_60 : D_X10_replyOld A cd pk p0 ((A 39) n_48) (uA (uA (uA (uA (uA (uA (uA (uA A 41 (ur_60.1)) 42 (ur_60.2.1)) 43 (ur_60.2.2.1)) 44 (ur_60.2.2.2.1)) 45 (ur_60.2.2.2.2.1)) 46 (ur_60.2.2.2.2.2.1)) 47 (ur_60.2.2.2.2.2.2.1)) 48 (ur_60.2.2.2.2.2.2.2.1)) cd (ur_60.2.2.2.2.2.2.2.2) := hwr_60.2.2.2
              have hpr_60_0 : I7 (ur_60.1) (ur_60.2.1) (ur_60.2.2.2.1) (ur_60.2.2.2.2.1) (ur_60.2.2.2.2.2.1) := hwr_60.1
              have hpr_60_1 : 0 ≤ ur_60.2.2.2.2.2.2.2.2.toInt ∧ ur_60.2.2.2.2.2.2.2.2.toInt ≤ 24 := hwr_60.2.1
              have hpr_60_2 : ((ur_60.2.2.2.1) 24).toInt = ((A 44) 24).toInt ∧ ((ur_60.2.2.2.2.2.1) 24).toInt = ((A 46) 24).toInt := hwr_60.2.2.1
              exact W.vret hx hb hr (fun t ht hW => ⟨⟨((ur_60.1), (ur_60.2.1), (ur_60.2.2.1), (ur_60.2.2.2.1), (ur_60.2.2.2.2.1), (ur_60.2.2.2.2.2.1), (ur_60.2.2.2.2.2.2.1), (ur_60.2.2.2.2.2.2.2.1), ur_60.2.2.2.2.2.2.2.2), rfl, ⟨hpr_60_0, (by show 0 ≤ ur_60.2.2.2.2.2.2.2.2.toInt ∧ ur_60.2.2.2.2.2.2.2.2.toInt ≤ 24; omega), (Or.inr (Or.inr (Or.inr (Or.inr (Or.inr (Or.inr (Or.inl ⟨c_5, c_6, n_9, hn_9, x_13, ex_13, fx_13, c_14, x_16, ex_16, fx_16, x_17, ex_17, fx_17, n_20, hn_20, c_22, x_40, ex_40, fx_40, c_41, x_45, ex_45, fx_45, n_48, hn_48, c_50, x_56, ex_56, fx_56, ur_60, hDr_60, hpr_60_0, hpr_60_1, hpr_60_2, rfl, rfl, rfl⟩)))))))⟩, (by show MH E h0 rf t0 t1 t2 (uA (uA (uA (uA (uA (uA (uA (uA A 41 (ur_60.1)) 42 (ur_60.2.1)) 43 (ur_60.2.2.1)) 44 (ur_60.2.2.2.1)) 45 (ur_60.2.2.2.2.1)) 46 (ur_60.2.2.2.2.2.1)) 47 (ur_60.2.2.2.2.2.2.1)) 48 (ur_60.2.2.2.2.2.2.2.1)) cd ur_60.2.2.2.2.2.2.2.2 t.heap; rw [ht]; exact hM)⟩, hS.F ht⟩) hS.2.2 dX10_again_142
    · simp only [lt_I, le_I, eq_I, i_0, i_1, i_2, i_3, i_4, i_5, i_6, i_7, i_8, i_10, i_12, i_16, i_20, i_23, i_24, i_31, i_32, i_63, i_64, i_m1, i_9, i_11, i_13, i_25, i_60, i_75, i_79, i_80, i_96, i_100] at c_6
      refine lv_aload_n hx hb dX10_again_38 rfl (lv_at hl 1 rfl) ?_
      refine lv_iload_n hx hb dX10_again_39 rfl (lv_at hl 2 rfl) ?_
      refine lv_aload_n hx hb dX10_again_40 rfl (lv_at hl 1 rfl) ?_
      refine va_get (D := DG E) (ci := 10) (v := .ref (rf 45)) (C := RX10) (T := TX10) (N := 49) hx hb hts iw_X10 hown hK.1 (va_one hM.1) 0 rfl rfl 45 (by decide) (hts _ fl_X10_131) (fun _ h9 => h9) rfl dX10_again_41 ?_
      refine lv_bipush (v := 24) hx hb dX10_again_44 (by decide) ?_
      have ha_61 : va_at (DG E) vwCl (rf 45, .inl (E.2.2 0, 25, .inl (A 45))) _ := hM.2 45 (by decide) (by decide) (by decide)
      refine va_iald (D := DG E) hx hb hK.1 (va_one ha_61) 0 0 rfl rfl (show vp_in (24) 25 from vp_in_iff.mpr ⟨by decide, by decide⟩) dX10_again_46 ?_
      refine W.eq (g2 := F0 m 47 ls [.int ((A 45) 24), .int p0, .ref h0]) (by rfl) ?_
      refine lv_aload_n hx hb dX10_again_47 rfl (lv_at hl 1 rfl) ?_
      refine va_get (D := DG E) (ci := 10) (v := .ref (rf 46)) (C := RX10) (T := TX10) (N := 49) hx hb hts iw_X10 hown hK.1 (va_one hM.1) 0 rfl rfl 46 (by decide) (hts _ fl_X10_134) (fun _ h9 => h9) rfl dX10_again_48 ?_
      refine lv_bipush (v := 24) hx hb dX10_again_51 (by decide) ?_
      have ha_62 : va_at (DG E) vwCl (rf 46, .inl (E.2.2 0, 25, .inl (A 46))) _ := hM.2 46 (by decide) (by decide) (by decide)
      refine va_iald (D := DG E) hx hb hK.1 (va_one ha_62) 0 0 rfl rfl (show vp_in (24) 25 from vp_in_iff.mpr ⟨by decide, by decide⟩) dX10_again_53 ?_
      refine W.eq (g2 := F0 m 54 ls [.int ((A 46) 24), .int ((A 45) 24), .int p0, .ref h0]) (by rfl) ?_
      have q_63 : -1 ≤ ((A 46) 24).toInt := (hI7 24 (by decide)).2.2.2.2.2.2.1
      have q_64 : ((A 46) 24).toInt ≤ 60 := (hI7 24 (by decide)).2.2.2.2.2.2.2.1
      refine lv_aload_n hx hb dX10_again_54 rfl (lv_at hl 1 rfl) ?_
      refine va_get (D := DG E) (ci := 10) (v := .ref (rf 44)) (C := RX10) (T := TX10) (N := 49) hx hb hts iw_X10 hown hK.1 (va_one hM.1) 0 rfl rfl 44 (by decide) (hts _ fl_X10_128) (fun _ h9 => h9) rfl dX10_again_55 ?_
      refine lv_bipush (v := 24) hx hb dX10_again_58 (by decide) ?_
      have ha_65 : va_at (DG E) vwCl (rf 44, .inl (E.2.2 0, 25, .inl (A 44))) _ := hM.2 44 (by decide) (by decide) (by decide)
      refine va_iald (D := DG E) hx hb hK.1 (va_one ha_65) 0 0 rfl rfl (show vp_in (24) 25 from vp_in_iff.mpr ⟨by decide, by decide⟩) dX10_again_60 ?_
      refine W.eq (g2 := F0 m 61 ls [.int ((A 44) 24), .int ((A 46) 24), .int ((A 45) 24), .int p0, .ref h0]) (by rfl) ?_
      have q_66 : 0 ≤ ((A 44) 24).toInt := (hI7 24 (by decide)).2.2.1
      have q_67 : ((A 44) 24).toInt ≤ 12 := (hI7 24 (by decide)).2.2.2.1
      refine lv_iconst (v := 2) hx hb dX10_again_61 (by decide) ?_
      refine va_calli (rnV (fun H => MH E h0 rf t0 t1 t2 A cd pk H) (As := [.int p0, .int ((A 45) 24), .int ((A 46) 24), .int ((A 44) 24), .int 2]) (rest := []) ⟨hx, hb, hml, hown, hts⟩ (u_X10_allows l E z0 G hGz h0 rf hR t0 t1 t2 A cd pk p0 ((A 45) 24) ((A 46) 24) ((A 44) 24) 2 hI2 (show 0 ≤ p0.toInt ∧ p0.toInt ≤ 3 from by have := i_2; first | decide | omega) (show 0 ≤ ((A 45) 24).toInt ∧ ((A 45) 24).toInt ≤ 5 from by have := i_2; first | decide | omega) (show -1 ≤ ((A 46) 24).toInt ∧ ((A 46) 24).toInt ≤ 60 from by have := i_2; first | decide | omega) (show 0 ≤ ((A 44) 24).toInt ∧ ((A 44) 24).toInt ≤ 12 from by have := i_2; first | decide | omega) (show ¬ (2 : Int32) = 0 from by have := i_2; first | decide | omega)) (cwV 5 hts (gdV ml_X10_246 im_X10_allows se_X10_X10_allows in_X10 co_X10_allows rfl) rfl rfl rfl (by decide +kernel) ⟨Nat.le_of_ble_eq_true rfl, Nat.le_of_ble_eq_true rfl⟩) hM (fun U hU hW => hK.go hW hS hAz hU) (va_recv hK.1 (va_one hM.1) (ci := 10) (q0 := 0) rfl rfl) rfl rfl hl.1 rfl (lv_room (Nat.le_of_ble_eq_true rfl)) dX10_again_62 ⟨Nat.le_of_ble_eq_true rfl, Nat.le_of_ble_eq_true rfl⟩) hS (fun q _ h => h.elim) (fun q h => h.elim) (fun r_68 ur_68 t H locs ht hvm hwr_68 hB hz hk hS => ?_)
      have hM := hM.kept (fun q hq => hk q hq (fun h => h))
      have hDr_68 : D_X10_allows A cd pk p0 ((A 45) 24) ((A 46) 24) ((A 44) 24) (2 : Int32) r_68 := hwr_68.2.2
      have hpr_68_0 : r_68 = 0 ∨ r_68 = 1 := hwr_68.1
      have hpr_68_1 : r_68.toInt = 0 ∨ (0 ≤ ((A 46) 24).toInt ∧ ((A 46) 24).toInt + ((A 44) 24).toInt ≤ 32) := hwr_68.2.1
      have := i_2
      have hzr_68 := s_rng hpr_68_0
      refine lv_if_eq (tgt := 142) hx hb dX10_again_65 (by decide) (fun c_69 => ?_) (fun c_69 => ?_)
      · simp only [lt_I, le_I, eq_I, i_0, i_1, i_2, i_3, i_4, i_5, i_6, i_7, i_8, i_10, i_12, i_16, i_20, i_23, i_24, i_31, i_32, i_63, i_64, i_m1, i_9, i_11, i_13, i_25, i_60, i_75, i_79, i_80, i_96, i_100] at c_69
        clear hpr_68_1
        exact W.vret hx hb hr (fun t ht hW => ⟨⟨((A 41), (A 42), (A 43), (A 44), (A 45), (A 46), (A 47), (A 48), pk), rfl, ⟨hI7, (by show 0 ≤ pk.toInt ∧ pk.toInt ≤ 24; omega), (Or.inr (Or.inr (Or.inr (Or.inr (Or.inr (Or.inr (Or.inr (Or.inl ⟨c_5, c_6, r_68, hDr_68, hpr_68_0, c_69, rfl, rfl, rfl⟩))))))))⟩, (by show MH E h0 rf t0 t1 t2 (uA (uA (uA (uA (uA (uA (uA (uA A 41 (A 41)) 42 (A 42)) 43 (A 43)) 44 (A 44)) 45 (A 45)) 46 (A 46)) 47 (A 47)) 48 (A 48)) cd pk t.heap; rw [ht]; exact hM.cge (funext fun j => (cgj j 48 rfl (fun a0 => (cgj j 47 rfl (fun a1 => (cgj j 46 rfl (fun a2 => (cgj j 45 rfl (fun a3 => (cgj j 44 rfl (fun a4 => (cgj j 43 rfl (fun a5 => (cgj j 42 rfl (fun a6 => (cgj j 41 rfl (fun a7 => (by simp only [uA_n a0, uA_n a1, uA_n a2, uA_n a3, uA_n a4, uA_n a5, uA_n a6, uA_n a7])))))))))))))))))))⟩, hS.F ht⟩) hS.2.2 dX10_again_142
      · simp only [lt_I, le_I, eq_I, i_0, i_1, i_2, i_3, i_4, i_5, i_6, i_7, i_8, i_10, i_12, i_16, i_20, i_23, i_24, i_31, i_32, i_63, i_64, i_m1, i_9, i_11, i_13, i_25, i_60, i_75, i_79, i_80, i_96, i_100] at c_69
        replace hpr_68_1 := hpr_68_1.resolve_left (by omega)
        refine lv_aload_n hx hb dX10_again_68 rfl (lv_at hl 1 rfl) ?_
        refine lv_iload_n hx hb dX10_again_69 rfl (lv_at hl 2 rfl) ?_
        refine va_callv (rnV (fun H => MH E h0 rf t0 t1 t2 A cd pk H) (As := [.int p0]) (rest := []) ⟨hx, hb, hml, hown, hts⟩ (u_X10_reads l E z0 G hGz h0 rf hR t0 t1 t2 A cd pk p0 hI7 (show 0 ≤ p0.toInt ∧ p0.toInt ≤ 3 from by first | decide | omega) (show 0 ≤ pk.toInt ∧ pk.toInt ≤ 24 from by first | decide | omega) (show 0 ≤ ((A 46) 24).toInt ∧ ((A 46) 24).toInt + ((A 44) 24).toInt ≤ 32 from by first | decide | omega)) (cwV 1 hts (gdV ml_X10_250 im_X10_reads se_X10_X10_reads in_X10 co_X10_reads rfl) rfl rfl rfl (by decide +kernel) ⟨Nat.le_of_ble_eq_true rfl, Nat.le_of_ble_eq_true rfl⟩) hM (fun U hU hW => hK.go hW hS hAz hU) (va_recv hK.1 (va_one hM.1) (ci := 10) (q0 := 0) rfl rfl) rfl rfl hl.1 rfl (lv_room (Nat.le_of_ble_eq_true rfl)) dX10_again_70 ⟨Nat.le_of_ble_eq_true rfl, Nat.le_of_ble_eq_true rfl⟩) hS (fun q _ h => h) (fun q h => h) (fun ur_70 t H locs ht hvm hwr_70 hB hz hk hS => ?_)
        have hM : MH E h0 rf t0 t1 t2 (uA (uA (uA (uA (uA (uA (uA (uA A 41 (ur_70.1)) 42 (ur_70.2.1)) 43 (ur_70.2.2.1)) 44 (ur_70.2.2.2.1)) 45 (ur_70.2.2.2.2.1)) 46 (ur_70.2.2.2.2.2.1)) 47 (ur_70.2.2.2.2.2.2.1)) 48 (ur_70.2.2.2.2.2.2.2.1)) cd ur_70.2.2.2.2.2.2.2.2 H := by rw [ht] at hB; exact hB
        have hDr_70 : D_X10_reads A cd pk p0 (uA (uA (uA (uA (uA (uA (uA (uA A 41 (ur_70.1)) 42 (ur_70.2.1)) 43 (ur_70.2.2.1)) 44 (ur_70.2.2.2.1)) 45 (ur_70.2.2.2.2.1)) 46 (ur_70.2.2.2.2.2.1)) 47 (ur_70.2.2.2.2.2.2.1)) 48 (ur_70.2.2.2.2.2.2.2.1)) cd (ur_70.2.2.2.2.2.2.2.2) := hwr_70.2.2
        have hpr_70_0 : I7 (ur_70.1) (ur_70.2.1) (ur_70.2.2.2.1) (ur_70.2.2.2.2.1) (ur_70.2.2.2.2.2.1) := hwr_70.1
        have hpr_70_1 : 0 ≤ ur_70.2.2.2.2.2.2.2.2.toInt ∧ ur_70.2.2.2.2.2.2.2.2.toInt ≤ 24 := hwr_70.2.1
        refine lv_goto (tgt := 142) hx hb dX10_again_73 (by decide) ?_
        exact W.vret hx hb hr (fun t ht hW => ⟨⟨((ur_70.1), (ur_70.2.1), (ur_70.2.2.1), (ur_70.2.2.2.1), (ur_70.2.2.2.2.1), (ur_70.2.2.2.2.2.1), (ur_70.2.2.2.2.2.2.1), (ur_70.2.2.2.2.2.2.2.1), ur_70.2.2.2.2.2.2.2.2), rfl, ⟨hpr_70_0, (by show 0 ≤ ur_70.2.2.2.2.2.2.2.2.toInt ∧ ur_70.2.2.2.2.2.2.2.2.toInt ≤ 24; omega), (Or.inr (Or.inr (Or.inr (Or.inr (Or.inr (Or.inr (Or.inr (Or.inr (Or.inl ⟨c_5, c_6, r_68, hDr_68, hpr_68_0, c_69, ur_70, hDr_70, hpr_70_0, hpr_70_1, rfl, rfl, rfl⟩)))))))))⟩, (by show MH E h0 rf t0 t1 t2 (uA (uA (uA (uA (uA (uA (uA (uA A 41 (ur_70.1)) 42 (ur_70.2.1)) 43 (ur_70.2.2.1)) 44 (ur_70.2.2.2.1)) 45 (ur_70.2.2.2.2.1)) 46 (ur_70.2.2.2.2.2.1)) 47 (ur_70.2.2.2.2.2.2.1)) 48 (ur_70.2.2.2.2.2.2.2.1)) cd ur_70.2.2.2.2.2.2.2.2 t.heap; rw [ht]; exact hM)⟩, hS.F ht⟩) hS.2.2 dX10_again_142
  · simp only [lt_I, le_I, eq_I, i_0, i_1, i_2, i_3, i_4, i_5, i_6, i_7, i_8, i_10, i_12, i_16, i_20, i_23, i_24, i_31, i_32, i_63, i_64, i_m1, i_9, i_11, i_13, i_25, i_60, i_75, i_79, i_80, i_96, i_100] at c_5
    refine lv_aload_n hx hb dX10_again_13 rfl (lv_at hl 1 rfl) ?_
    refine lv_iload_n hx hb dX10_again_14 rfl (lv_at hl 2 rfl) ?_
    refine lv_aload_n hx hb dX10_again_15 rfl (lv_at hl 1 rfl) ?_
    refine va_get (D := DG E) (ci := 10) (v := .ref (rf 14)) (C := RX10) (T := TX10) (N := 49) hx hb hts iw_X10 hown hK.1 (va_one hM.1) 0 rfl rfl 14 (by decide) (hts _ fl_X10_40) (fun _ h9 => h9) rfl dX10_again_16 ?_
    refine lv_iload_n hx hb dX10_again_19 rfl (lv_at hl 2 rfl) ?_
    have hi_71 : vp_in p0 4 := vp_in_iff.mpr (by omega)
    have ha_72 : va_at (DG E) vwCl (rf 14, .inl (E.2.2 0, 4, .inl (A 14))) _ := hM.2 14 (by decide) (by decide) (by decide)
    obtain ⟨n_73, hn_73, en_73⟩ := s_nat (x := p0) (by omega)
    refine va_iald (D := DG E) hx hb hK.1 (va_one ha_72) 0 0 rfl rfl hi_71 dX10_again_20 ?_
    refine W.eq (g2 := F0 m 21 ls [.int ((A 14) n_73), .int p0, .ref h0]) (by rw [en_73]) ?_
    refine lv_bipush (v := 63) hx hb dX10_again_21 (by decide) ?_
    refine lv_iadd hx hb dX10_again_23 ?_
    refine lv_topi (fun x_74 ex_74 => ?_)
    refine lv_bipush (v := 64) hx hb dX10_again_24 (by decide) ?_
    refine lv_irem hx hb dX10_again_26 (by decide) ?_
    refine lv_topi (fun x_75 ex_75 => ?_)
    refine va_callv (rnV (fun H => MH E h0 rf t0 t1 t2 A cd pk H) (As := [.int p0, .int x_75]) (rest := []) ⟨hx, hb, hml, hown, hts⟩ (u_X10_ack l E z0 G hGz h0 rf hR t0 t1 t2 A cd pk p0 x_75 hI7 (show 0 ≤ p0.toInt ∧ p0.toInt ≤ 3 from by first | decide | omega) (show 0 ≤ pk.toInt ∧ pk.toInt ≤ 24 from by first | decide | omega)) (cwV 2 hts (gdV ml_X10_234 im_X10_ack se_X10_X10_ack in_X10 co_X10_ack rfl) rfl rfl rfl (by decide +kernel) ⟨Nat.le_of_ble_eq_true rfl, Nat.le_of_ble_eq_true rfl⟩) hM (fun U hU hW => hK.go hW hS hAz hU) (va_recv hK.1 (va_one hM.1) (ci := 10) (q0 := 0) rfl rfl) rfl rfl hl.1 rfl (lv_room (Nat.le_of_ble_eq_true rfl)) dX10_again_27 ⟨Nat.le_of_ble_eq_true rfl, Nat.le_of_ble_eq_true rfl⟩) hS (fun q _ h => h) (fun q h => h) (fun ur_76 t H locs ht hvm hwr_76 hB hz hk hS => ?_)
    have hM : MH E h0 rf t0 t1 t2 (uA (uA (uA (uA (uA (uA (uA A 41 (ur_76.1)) 42 (ur_76.2.1)) 43 (ur_76.2.2.1)) 44 (ur_76.2.2.2.1)) 45 (ur_76.2.2.2.2.1)) 46 (ur_76.2.2.2.2.2.1)) 47 (ur_76.2.2.2.2.2.2.1)) cd ur_76.2.2.2.2.2.2.2 H := by rw [ht] at hB; exact hB
    have hDr_76 : D_X10_ack A cd pk p0 x_75 (uA (uA (uA (uA (uA (uA (uA A 41 (ur_76.1)) 42 (ur_76.2.1)) 43 (ur_76.2.2.1)) 44 (ur_76.2.2.2.1)) 45 (ur_76.2.2.2.2.1)) 46 (ur_76.2.2.2.2.2.1)) 47 (ur_76.2.2.2.2.2.2.1)) cd (ur_76.2.2.2.2.2.2.2) := hwr_76.2.2.2
    have hpr_76_0 : I7 (ur_76.1) (ur_76.2.1) (ur_76.2.2.2.1) (ur_76.2.2.2.2.1) (ur_76.2.2.2.2.2.1) := hwr_76.1
    have hpr_76_1 : 0 ≤ ur_76.2.2.2.2.2.2.2.toInt ∧ ur_76.2.2.2.2.2.2.2.toInt ≤ 24 := hwr_76.2.1
    have hpr_76_2 : ((ur_76.2.2.2.1) 24).toInt = ((A 44) 24).toInt ∧ ((ur_76.2.2.2.2.2.1) 24).toInt = ((A 46) 24).toInt := hwr_76.2.2.1
    refine lv_goto (tgt := 142) hx hb dX10_again_30 (by decide) ?_
    exact W.vret hx hb hr (fun t ht hW => ⟨⟨((ur_76.1), (ur_76.2.1), (ur_76.2.2.1), (ur_76.2.2.2.1), (ur_76.2.2.2.2.1), (ur_76.2.2.2.2.2.1), (ur_76.2.2.2.2.2.2.1), (A 48), ur_76.2.2.2.2.2.2.2), rfl, ⟨hpr_76_0, (by show 0 ≤ ur_76.2.2.2.2.2.2.2.toInt ∧ ur_76.2.2.2.2.2.2.2.toInt ≤ 24; omega), (Or.inr (Or.inr (Or.inr (Or.inr (Or.inr (Or.inr (Or.inr (Or.inr (Or.inr ⟨c_5, n_73, hn_73, x_74, ex_74, x_75, ex_75, ur_76, hDr_76, hpr_76_0, hpr_76_1, hpr_76_2, rfl, rfl, rfl⟩)))))))))⟩, (by show MH E h0 rf t0 t1 t2 (uA (uA (uA (uA (uA (uA (uA (uA A 41 (ur_76.1)) 42 (ur_76.2.1)) 43 (ur_76.2.2.1)) 44 (ur_76.2.2.2.1)) 45 (ur_76.2.2.2.2.1)) 46 (ur_76.2.2.2.2.2.1)) 47 (ur_76.2.2.2.2.2.2.1)) 48 (A 48)) cd ur_76.2.2.2.2.2.2.2 t.heap; rw [ht]; exact hM.cge (funext fun j => (cgj j 48 rfl (fun a0 => (cgj j 47 rfl (fun a1 => (cgj j 46 rfl (fun a2 => (cgj j 45 rfl (fun a3 => (cgj j 44 rfl (fun a4 => (cgj j 43 rfl (fun a5 => (cgj j 42 rfl (fun a6 => (cgj j 41 rfl (fun a7 => (by simp only [uA_n a0, uA_n a1, uA_n a2, uA_n a3, uA_n a4, uA_n a5, uA_n a6, uA_n a7])))))))))))))))))))⟩, hS.F ht⟩) hS.2.2 dX10_again_142
theorem gdX10_asked_0 : (decode cX10_asked 0 = .ok (.aload_n 0, 1)) ∧ (decode cX10_asked 1 = .ok (.getfield 40, 3)) ∧ (decode cX10_asked 4 = .ok (.iload_n 1, 1)) ∧ (decode cX10_asked 5 = .ok (.iaload, 1)) ∧ (decode cX10_asked 6 = .ok (.aload_n 0, 1)) ∧ (decode cX10_asked 7 = .ok (.getfield 125, 3)) ∧ (decode cX10_asked 10 = .ok (.bipush 24, 2)) ∧ (decode cX10_asked 12 = .ok (.iaload, 1)) ∧ (decode cX10_asked 13 = .ok (.invokestatic 174, 3)) ∧ (decode cX10_asked 16 = .ok (.istore_n 2, 1)) ∧ (decode cX10_asked 17 = .ok (.iload_n 2, 1)) ∧ (decode cX10_asked 18 = .ok (.ifCond .ne 11, 3)) ∧ (decode cX10_asked 21 = .ok (.aload_n 0, 1)) ∧ (decode cX10_asked 22 = .ok (.iload_n 1, 1)) ∧ (decode cX10_asked 23 = .ok (.invokevirtual 256, 3)) ∧ (decode cX10_asked 26 = .ok (.goto 59, 3)) := by decide +kernel
theorem dX10_asked_0 : decode cX10_asked 0 = .ok (.aload_n 0, 1) := gdX10_asked_0.1
theorem dX10_asked_1 : decode cX10_asked 1 = .ok (.getfield 40, 3) := gdX10_asked_0.2.1
theorem dX10_asked_4 : decode cX10_asked 4 = .ok (.iload_n 1, 1) := gdX10_asked_0.2.2.1
theorem dX10_asked_5 : decode cX10_asked 5 = .ok (.iaload, 1) := gdX10_asked_0.2.2.2.1
theorem dX10_asked_6 : decode cX10_asked 6 = .ok (.aload_n 0, 1) := gdX10_asked_0.2.2.2.2.1
theorem dX10_asked_7 : decode cX10_asked 7 = .ok (.getfield 125, 3) := gdX10_asked_0.2.2.2.2.2.1
theorem dX10_asked_10 : decode cX10_asked 10 = .ok (.bipush 24, 2) := gdX10_asked_0.2.2.2.2.2.2.1
theorem dX10_asked_12 : decode cX10_asked 12 = .ok (.iaload, 1) := gdX10_asked_0.2.2.2.2.2.2.2.1
theorem dX10_asked_13 : decode cX10_asked 13 = .ok (.invokestatic 174, 3) := gdX10_asked_0.2.2.2.2.2.2.2.2.1
theorem dX10_asked_16 : decode cX10_asked 16 = .ok (.istore_n 2, 1) := gdX10_asked_0.2.2.2.2.2.2.2.2.2.1
theorem dX10_asked_17 : decode cX10_asked 17 = .ok (.iload_n 2, 1) := gdX10_asked_0.2.2.2.2.2.2.2.2.2.2.1
theorem dX10_asked_18 : decode cX10_asked 18 = .ok (.ifCond .ne 11, 3) := gdX10_asked_0.2.2.2.2.2.2.2.2.2.2.2.1
theorem dX10_asked_21 : decode cX10_asked 21 = .ok (.aload_n 0, 1) := gdX10_asked_0.2.2.2.2.2.2.2.2.2.2.2.2.1
theorem dX10_asked_22 : decode cX10_asked 22 = .ok (.iload_n 1, 1) := gdX10_asked_0.2.2.2.2.2.2.2.2.2.2.2.2.2.1
theorem dX10_asked_23 : decode cX10_asked 23 = .ok (.invokevirtual 256, 3) := gdX10_asked_0.2.2.2.2.2.2.2.2.2.2.2.2.2.2.1
theorem dX10_asked_26 : decode cX10_asked 26 = .ok (.goto 59, 3) := gdX10_asked_0.2.2.2.2.2.2.2.2.2.2.2.2.2.2.2
theorem gdX10_asked_29 : (decode cX10_asked 29 = .ok (.iload_n 2, 1)) ∧ (decode cX10_asked 30 = .ok (.bipush 32, 2)) ∧ (decode cX10_asked 32 = .ok (.if_icmp .lt 11, 3)) ∧ (decode cX10_asked 35 = .ok (.aload_n 0, 1)) ∧ (decode cX10_asked 36 = .ok (.iload_n 1, 1)) ∧ (decode cX10_asked 37 = .ok (.invokevirtual 259, 3)) ∧ (decode cX10_asked 40 = .ok (.goto 45, 3)) ∧ (decode cX10_asked 43 = .ok (.aload_n 0, 1)) ∧ (decode cX10_asked 44 = .ok (.getfield 56, 3)) ∧ (decode cX10_asked 47 = .ok (.iload_n 1, 1)) ∧ (decode cX10_asked 48 = .ok (.baload, 1)) ∧ (decode cX10_asked 49 = .ok (.ifCond .ne 36, 3)) ∧ (decode cX10_asked 52 = .ok (.aload_n 0, 1)) ∧ (decode cX10_asked 53 = .ok (.iload_n 1, 1)) ∧ (decode cX10_asked 54 = .ok (.bipush 6, 2)) ∧ (decode cX10_asked 56 = .ok (.aload_n 0, 1)) := by decide +kernel
theorem dX10_asked_29 : decode cX10_asked 29 = .ok (.iload_n 2, 1) := gdX10_asked_29.1
theorem dX10_asked_30 : decode cX10_asked 30 = .ok (.bipush 32, 2) := gdX10_asked_29.2.1
theorem dX10_asked_32 : decode cX10_asked 32 = .ok (.if_icmp .lt 11, 3) := gdX10_asked_29.2.2.1
theorem dX10_asked_35 : decode cX10_asked 35 = .ok (.aload_n 0, 1) := gdX10_asked_29.2.2.2.1
theorem dX10_asked_36 : decode cX10_asked 36 = .ok (.iload_n 1, 1) := gdX10_asked_29.2.2.2.2.1
theorem dX10_asked_37 : decode cX10_asked 37 = .ok (.invokevirtual 259, 3) := gdX10_asked_29.2.2.2.2.2.1
theorem dX10_asked_40 : decode cX10_asked 40 = .ok (.goto 45, 3) := gdX10_asked_29.2.2.2.2.2.2.1
theorem dX10_asked_43 : decode cX10_asked 43 = .ok (.aload_n 0, 1) := gdX10_asked_29.2.2.2.2.2.2.2.1
theorem dX10_asked_44 : decode cX10_asked 44 = .ok (.getfield 56, 3) := gdX10_asked_29.2.2.2.2.2.2.2.2.1
theorem dX10_asked_47 : decode cX10_asked 47 = .ok (.iload_n 1, 1) := gdX10_asked_29.2.2.2.2.2.2.2.2.2.1
theorem dX10_asked_48 : decode cX10_asked 48 = .ok (.baload, 1) := gdX10_asked_29.2.2.2.2.2.2.2.2.2.2.1
theorem dX10_asked_49 : decode cX10_asked 49 = .ok (.ifCond .ne 36, 3) := gdX10_asked_29.2.2.2.2.2.2.2.2.2.2.2.1
theorem dX10_asked_52 : decode cX10_asked 52 = .ok (.aload_n 0, 1) := gdX10_asked_29.2.2.2.2.2.2.2.2.2.2.2.2.1
theorem dX10_asked_53 : decode cX10_asked 53 = .ok (.iload_n 1, 1) := gdX10_asked_29.2.2.2.2.2.2.2.2.2.2.2.2.2.1
theorem dX10_asked_54 : decode cX10_asked 54 = .ok (.bipush 6, 2) := gdX10_asked_29.2.2.2.2.2.2.2.2.2.2.2.2.2.2.1
theorem dX10_asked_56 : decode cX10_asked 56 = .ok (.aload_n 0, 1) := gdX10_asked_29.2.2.2.2.2.2.2.2.2.2.2.2.2.2.2
theorem gdX10_asked_57 : (decode cX10_asked 57 = .ok (.getfield 40, 3)) ∧ (decode cX10_asked 60 = .ok (.iload_n 1, 1)) ∧ (decode cX10_asked 61 = .ok (.iaload, 1)) ∧ (decode cX10_asked 62 = .ok (.iconst 1, 1)) ∧ (decode cX10_asked 63 = .ok (.iconst (-1), 1)) ∧ (decode cX10_asked 64 = .ok (.iconst 0, 1)) ∧ (decode cX10_asked 65 = .ok (.invokevirtual 199, 3)) ∧ (decode cX10_asked 68 = .ok (.istore_n 3, 1)) ∧ (decode cX10_asked 69 = .ok (.aload_n 0, 1)) ∧ (decode cX10_asked 70 = .ok (.getfield 56, 3)) ∧ (decode cX10_asked 73 = .ok (.iload_n 1, 1)) ∧ (decode cX10_asked 74 = .ok (.iload_n 3, 1)) ∧ (decode cX10_asked 75 = .ok (.iconst (-1), 1)) ∧ (decode cX10_asked 76 = .ok (.if_icmp .lt 7, 3)) ∧ (decode cX10_asked 79 = .ok (.iconst 1, 1)) ∧ (decode cX10_asked 80 = .ok (.goto 4, 3)) := by decide +kernel
theorem dX10_asked_57 : decode cX10_asked 57 = .ok (.getfield 40, 3) := gdX10_asked_57.1
theorem dX10_asked_60 : decode cX10_asked 60 = .ok (.iload_n 1, 1) := gdX10_asked_57.2.1
theorem dX10_asked_61 : decode cX10_asked 61 = .ok (.iaload, 1) := gdX10_asked_57.2.2.1
theorem dX10_asked_62 : decode cX10_asked 62 = .ok (.iconst 1, 1) := gdX10_asked_57.2.2.2.1
theorem dX10_asked_63 : decode cX10_asked 63 = .ok (.iconst (-1), 1) := gdX10_asked_57.2.2.2.2.1
theorem dX10_asked_64 : decode cX10_asked 64 = .ok (.iconst 0, 1) := gdX10_asked_57.2.2.2.2.2.1
theorem dX10_asked_65 : decode cX10_asked 65 = .ok (.invokevirtual 199, 3) := gdX10_asked_57.2.2.2.2.2.2.1
theorem dX10_asked_68 : decode cX10_asked 68 = .ok (.istore_n 3, 1) := gdX10_asked_57.2.2.2.2.2.2.2.1
theorem dX10_asked_69 : decode cX10_asked 69 = .ok (.aload_n 0, 1) := gdX10_asked_57.2.2.2.2.2.2.2.2.1
theorem dX10_asked_70 : decode cX10_asked 70 = .ok (.getfield 56, 3) := gdX10_asked_57.2.2.2.2.2.2.2.2.2.1
theorem dX10_asked_73 : decode cX10_asked 73 = .ok (.iload_n 1, 1) := gdX10_asked_57.2.2.2.2.2.2.2.2.2.2.1
theorem dX10_asked_74 : decode cX10_asked 74 = .ok (.iload_n 3, 1) := gdX10_asked_57.2.2.2.2.2.2.2.2.2.2.2.1
theorem dX10_asked_75 : decode cX10_asked 75 = .ok (.iconst (-1), 1) := gdX10_asked_57.2.2.2.2.2.2.2.2.2.2.2.2.1
theorem dX10_asked_76 : decode cX10_asked 76 = .ok (.if_icmp .lt 7, 3) := gdX10_asked_57.2.2.2.2.2.2.2.2.2.2.2.2.2.1
theorem dX10_asked_79 : decode cX10_asked 79 = .ok (.iconst 1, 1) := gdX10_asked_57.2.2.2.2.2.2.2.2.2.2.2.2.2.2.1
theorem dX10_asked_80 : decode cX10_asked 80 = .ok (.goto 4, 3) := gdX10_asked_57.2.2.2.2.2.2.2.2.2.2.2.2.2.2.2
theorem gdX10_asked_83 : (decode cX10_asked 83 = .ok (.iconst 0, 1)) ∧ (decode cX10_asked 84 = .ok (.bastore, 1)) ∧ (decode cX10_asked 85 = .ok (.return_, 1)) := by decide +kernel
theorem dX10_asked_83 : decode cX10_asked 83 = .ok (.iconst 0, 1) := gdX10_asked_83.1
theorem dX10_asked_84 : decode cX10_asked 84 = .ok (.bastore, 1) := gdX10_asked_83.2.1
theorem dX10_asked_85 : decode cX10_asked 85 = .ok (.return_, 1) := gdX10_asked_83.2.2
set_option maxHeartbeats 8000000 in
set_option maxRecDepth 100000 in
theorem u_X10_asked (l : Launch) (E : EE) (z0 : Nat) (G : Nat → Nat) (hGz : ∀ q, G q ≠ 0 → z0 ≤ q) (h0 : Nat) (rf : Nat → Nat) (hR : MG G h0 rf) (t0 t1 t2 : Int32) (A : AA) (cd pk : Int32) (p0 : Int32) (hI2 : I2 (A 5) (A 6)) (hI3 : I3 (A 8)) (hI4 : I4 (A 10) (A 20) (A 29) (A 24) (A 11) (A 12) (A 13)) (hI5 : I5 (A 32) (A 33) (A 35)) (hI6 : I6 (A 22) (A 23) (A 24) (A 25) (A 26)) (hI7 : I7 (A 41) (A 42) (A 44) (A 45) (A 46)) (hI8 : I8 (A 20) (A 30) (A 37) (A 36)) (hy0 : 0 ≤ p0.toInt ∧ p0.toInt ≤ 3) (hy1 : ((A 42) 24).toInt ≤ 3) (hy2 : 0 ≤ pk.toInt ∧ pk.toInt ≤ 24) : Met l yX10_asked [Cond.code yX10_asked cX10_asked 4 none] ({ frames := 6, cells := 0, slots := 0, locals := 141 } : Room) (va_Pc [.ref h0, .int p0] (fun U => MH E h0 rf t0 t1 t2 A cd pk U.heap ∧ KS E z0 U)) (va_Qv (fun (u : AA × Int32 × Int32) => (I2 (u.1 5) (u.1 6)) ∧ (I3 (u.1 8)) ∧ (I4 (u.1 10) (u.1 20) (u.1 29) (u.1 24) (u.1 11) (u.1 12) (u.1 13)) ∧ (I5 (u.1 32) (u.1 33) (u.1 35)) ∧ (I6 (u.1 22) (u.1 23) (u.1 24) (u.1 25) (u.1 26)) ∧ (I7 (u.1 41) (u.1 42) (u.1 44) (u.1 45) (u.1 46)) ∧ (I8 (u.1 20) (u.1 30) (u.1 37) (u.1 36)) ∧ (0 ≤ u.2.2.toInt ∧ u.2.2.toInt ≤ 24) ∧ (D_X10_asked A cd pk p0 u.1 u.2.1 u.2.2)) (fun u t => MH E h0 rf t0 t1 t2 u.1 u.2.1 u.2.2 t.heap) (fun q : Nat => G q ≠ 0)) 0 0 (fun q : Nat => G q ≠ 0) := by
  refine Met.ofW (cc := cX10_asked) (maxL := 4) (ret := none) (by decide) rfl ?_
  intro p e s m args below meth c s₁ B hml hv
  obtain ⟨rfl, hM, hK⟩ := hv
  have hx := B.exec
  have hb := B.bytes
  have hr := B.returns
  have hts : ∀ w ∈ TS, w.before ([.ref h0, .int p0] : List Value).toArray s = true := fun w hw => hK.2.1 w hw _
  have hown : s.vm.findClass RX10 = some m.cls := findClass_of_methodNamed B.named
  have hlocks := B.notSynchronized
  have hS : va_S (fun q : Nat => G q ≠ 0) s.heap s.heap [] := va_S.rf
  have hAz : ∀ q, (fun q : Nat => G q ≠ 0) q → z0 ≤ q := hGz
  have hl := lv_entry ([.ref h0, .int p0]) (n := 4) (Nat.le_of_ble_eq_true rfl)
  rw [lg_entry_eq]
  generalize (lg_sl ([.ref h0, .int p0]) ++ List.replicate (4 - (lg_sl ([.ref h0, .int p0])).length) Slot.unset).toArray = ls at hl ⊢
  have hl : lv_has ls 4 [(0, .ref h0), (1, .int p0)] := hl
  have hk0 : 0 ≤ ((A 42) 24).toInt := (hI7 24 (by decide)).2.2.2.2.2.2.2.2
  refine lv_aload_n hx hb dX10_asked_0 rfl (lv_at hl 0 rfl) ?_
  refine va_get (D := DG E) (ci := 10) (v := .ref (rf 14)) (C := RX10) (T := TX10) (N := 49) hx hb hts iw_X10 hown hK.1 (va_one hM.1) 0 rfl rfl 14 (by decide) (hts _ fl_X10_40) (fun _ h9 => h9) rfl dX10_asked_1 ?_
  refine lv_iload_n hx hb dX10_asked_4 rfl (lv_at hl 1 rfl) ?_
  have hi_1 : vp_in p0 4 := vp_in_iff.mpr (by omega)
  have ha_2 : va_at (DG E) vwCl (rf 14, .inl (E.2.2 0, 4, .inl (A 14))) _ := hM.2 14 (by decide) (by decide) (by decide)
  obtain ⟨n_3, hn_3, en_3⟩ := s_nat (x := p0) (by omega)
  refine va_iald (D := DG E) hx hb hK.1 (va_one ha_2) 0 0 rfl rfl hi_1 dX10_asked_5 ?_
  refine W.eq (g2 := F0 m 6 ls [.int ((A 14) n_3)]) (by rw [en_3]) ?_
  refine lv_aload_n hx hb dX10_asked_6 rfl (lv_at hl 0 rfl) ?_
  refine va_get (D := DG E) (ci := 10) (v := .ref (rf 43)) (C := RX10) (T := TX10) (N := 49) hx hb hts iw_X10 hown hK.1 (va_one hM.1) 0 rfl rfl 43 (by decide) (hts _ fl_X10_125) (fun _ h9 => h9) rfl dX10_asked_7 ?_
  refine lv_bipush (v := 24) hx hb dX10_asked_10 (by decide) ?_
  have ha_4 : va_at (DG E) vwCl (rf 43, .inl (E.2.2 0, 25, .inl (A 43))) _ := hM.2 43 (by decide) (by decide) (by decide)
  refine va_iald (D := DG E) hx hb hK.1 (va_one ha_4) 0 0 rfl rfl (show vp_in (24) 25 from vp_in_iff.mpr ⟨by decide, by decide⟩) dX10_asked_12 ?_
  refine W.eq (g2 := F0 m 13 ls [.int ((A 43) 24), .int ((A 14) n_3)]) (by rfl) ?_
  refine W.callR (W.runS (As := [.int ((A 14) n_3), .int ((A 43) 24)]) (rest := []) ⟨hx, hb, hml, hown, hts⟩ (c_X10_far l (((A 14) n_3)) (((A 43) 24))) (cwS 2 hts (gdS ml_X10_174 st_X10_far in_X10 co_X10_far rfl) rfl rfl rfl (by decide +kernel) ⟨Nat.le_of_ble_eq_true rfl, Nat.le_of_ble_eq_true rfl⟩) preEq rfl rfl hl.1 rfl (lv_room (Nat.le_of_ble_eq_true rfl)) dX10_asked_13 ⟨Nat.le_of_ble_eq_true rfl, Nat.le_of_ble_eq_true rfl⟩) ?_
  refine W.eq (g2 := F0 m 16 ls [.int (((((A 43) 24) - ((A 14) n_3)) + 64) - ((((A 43) 24) - ((A 14) n_3)) + 64) / 64 * 64)]) (by rfl) ?_
  refine lv_topi (fun x_5 ex_5 => ?_)
  have kx_5 : x_5.toInt = (farI ((A 14) n_3) ((A 43) 24)).toInt := by rw [ex_5]; rfl
  refine lv_istore_n (lv' := [(2, .int x_5), (0, .ref h0), (1, .int p0)]) hx hb dX10_asked_16 rfl hl (by decide) rfl (fun ls hl => ?_)
  refine lv_iload_n hx hb dX10_asked_17 rfl (lv_at hl 0 rfl) ?_
  refine lv_if_ne (tgt := 29) hx hb dX10_asked_18 (by decide) (fun c_6 => ?_) (fun c_6 => ?_)
  · simp only [lt_I, le_I, eq_I, i_0, i_1, i_2, i_3, i_4, i_5, i_6, i_7, i_8, i_10, i_12, i_16, i_20, i_23, i_24, i_31, i_32, i_63, i_64, i_m1, i_9, i_11, i_13, i_25, i_60, i_75, i_79, i_80, i_96, i_100] at c_6
    refine lv_iload_n hx hb dX10_asked_29 rfl (lv_at hl 0 rfl) ?_
    refine lv_bipush (v := 32) hx hb dX10_asked_30 (by decide) ?_
    refine lv_icmp_lt (tgt := 43) hx hb dX10_asked_32 (by decide) (fun c_7 => ?_) (fun c_7 => ?_)
    · simp only [lt_I, le_I, eq_I, i_0, i_1, i_2, i_3, i_4, i_5, i_6, i_7, i_8, i_10, i_12, i_16, i_20, i_23, i_24, i_31, i_32, i_63, i_64, i_m1, i_9, i_11, i_13, i_25, i_60, i_75, i_79, i_80, i_96, i_100] at c_7
      refine lv_aload_n hx hb dX10_asked_43 rfl (lv_at hl 1 rfl) ?_
      refine va_get (D := DG E) (ci := 10) (v := .ref (rf 19)) (C := RX10) (T := TX10) (N := 49) hx hb hts iw_X10 hown hK.1 (va_one hM.1) 0 rfl rfl 19 (by decide) (hts _ fl_X10_56) (fun _ h9 => h9) rfl dX10_asked_44 ?_
      refine lv_iload_n hx hb dX10_asked_47 rfl (lv_at hl 2 rfl) ?_
      have ha_8 : va_at (DG E) vwCl (rf 19, .inl (E.2.2 1, 4, .inl (A 19))) _ := hM.2 19 (by decide) (by decide) (by decide)
      refine va_zald (D := DG E) hx hb hK.1 (va_one ha_8) 0 1 rfl rfl hi_1 dX10_asked_48 ?_
      refine W.eq (g2 := F0 m 49 ls [.int ((A 19) n_3)]) (by rw [en_3]) ?_
      refine lv_if_ne (tgt := 85) hx hb dX10_asked_49 (by decide) (fun c_9 => ?_) (fun c_9 => ?_)
      · simp only [lt_I, le_I, eq_I, i_0, i_1, i_2, i_3, i_4, i_5, i_6, i_7, i_8, i_10, i_12, i_16, i_20, i_23, i_24, i_31, i_32, i_63, i_64, i_m1, i_9, i_11, i_13, i_25, i_60, i_75, i_79, i_80, i_96, i_100] at c_9
        exact W.vret hx hb hr (fun t ht hW => ⟨⟨(A, cd, pk), rfl, ⟨hI2, hI3, hI4, hI5, hI6, hI7, hI8, (by show 0 ≤ pk.toInt ∧ pk.toInt ≤ 24; omega), (Or.inl ⟨n_3, hn_3, x_5, ex_5, c_6, c_7, c_9, rfl, rfl, rfl⟩)⟩, (by show MH E h0 rf t0 t1 t2 A cd pk t.heap; rw [ht]; exact hM)⟩, hS.F ht⟩) hS.2.2 dX10_asked_85
      · simp only [lt_I, le_I, eq_I, i_0, i_1, i_2, i_3, i_4, i_5, i_6, i_7, i_8, i_10, i_12, i_16, i_20, i_23, i_24, i_31, i_32, i_63, i_64, i_m1, i_9, i_11, i_13, i_25, i_60, i_75, i_79, i_80, i_96, i_100] at c_9
        refine lv_aload_n hx hb dX10_asked_52 rfl (lv_at hl 1 rfl) ?_
        refine lv_iload_n hx hb dX10_asked_53 rfl (lv_at hl 2 rfl) ?_
        refine lv_bipush (v := 6) hx hb dX10_asked_54 (by decide) ?_
        refine lv_aload_n hx hb dX10_asked_56 rfl (lv_at hl 1 rfl) ?_
        refine va_get (D := DG E) (ci := 10) (v := .ref (rf 14)) (C := RX10) (T := TX10) (N := 49) hx hb hts iw_X10 hown hK.1 (va_one hM.1) 0 rfl rfl 14 (by decide) (hts _ fl_X10_40) (fun _ h9 => h9) rfl dX10_asked_57 ?_
        refine lv_iload_n hx hb dX10_asked_60 rfl (lv_at hl 2 rfl) ?_
        have ha_10 : va_at (DG E) vwCl (rf 14, .inl (E.2.2 0, 4, .inl (A 14))) _ := hM.2 14 (by decide) (by decide) (by decide)
        refine va_iald (D := DG E) hx hb hK.1 (va_one ha_10) 0 0 rfl rfl hi_1 dX10_asked_61 ?_
        refine W.eq (g2 := F0 m 62 ls [.int ((A 14) n_3), .int 6, .int p0, .ref h0]) (by rw [en_3]) ?_
        refine lv_iconst (v := 1) hx hb dX10_asked_62 (by decide) ?_
        refine lv_iconst (v := (-1)) hx hb dX10_asked_63 (by decide) ?_
        refine lv_iconst (v := 0) hx hb dX10_asked_64 (by decide) ?_
        refine va_calli (rnV (fun H => MH E h0 rf t0 t1 t2 A cd pk H) (As := [.int p0, .int 6, .int ((A 14) n_3), .int 1, .int (-1), .int 0]) (rest := []) ⟨hx, hb, hml, hown, hts⟩ (u_X10_emit l E z0 G hGz h0 rf hR t0 t1 t2 A cd pk p0 6 ((A 14) n_3) 1 (-1) 0 hI7 (show 0 ≤ p0.toInt ∧ p0.toInt ≤ 3 from by have := i_m1; have := i_0; have := i_1; have := i_6; first | decide | omega) (show 0 ≤ pk.toInt ∧ pk.toInt ≤ 24 from by have := i_m1; have := i_0; have := i_1; have := i_6; first | decide | omega) (show -1 ≤ (-1 : Int32).toInt ∧ (-1 : Int32).toInt ≤ 60 from by have := i_m1; have := i_0; have := i_1; have := i_6; first | decide | omega) (show 0 ≤ (6 : Int32).toInt from by have := i_m1; have := i_0; have := i_1; have := i_6; first | decide | omega) (show (6 : Int32).toInt < 1 ∨ 3 < (6 : Int32).toInt ∨ (0 ≤ (1 : Int32).toInt ∧ (1 : Int32).toInt ≤ 5) from by have := i_m1; have := i_0; have := i_1; have := i_6; first | decide | omega)) (cwV 6 hts (gdV ml_X10_199 im_X10_emit se_X10_X10_emit in_X10 co_X10_emit rfl) rfl rfl rfl (by decide +kernel) ⟨Nat.le_of_ble_eq_true rfl, Nat.le_of_ble_eq_true rfl⟩) hM (fun U hU hW => hK.go hW hS hAz hU) (va_recv hK.1 (va_one hM.1) (ci := 10) (q0 := 0) rfl rfl) rfl rfl hl.1 rfl (lv_room (Nat.le_of_ble_eq_true rfl)) dX10_asked_65 ⟨Nat.le_of_ble_eq_true rfl, Nat.le_of_ble_eq_true rfl⟩) hS (fun q _ h => h) (fun q h => h) (fun r_11 ur_11 t H locs ht hvm hwr_11 hB hz hk hS => ?_)
        have hM : MH E h0 rf t0 t1 t2 (uA (uA (uA (uA (uA (uA (uA A 41 (ur_11.1)) 42 (ur_11.2.1)) 43 (ur_11.2.2.1)) 44 (ur_11.2.2.2.1)) 45 (ur_11.2.2.2.2.1)) 46 (ur_11.2.2.2.2.2.1)) 47 (ur_11.2.2.2.2.2.2.1)) cd ur_11.2.2.2.2.2.2.2 H := by rw [ht] at hB; exact hB
        have hDr_11 : D_X10_emit A cd pk p0 (6 : Int32) ((A 14) n_3) (1 : Int32) (-1 : Int32) (0 : Int32) (uA (uA (uA (uA (uA (uA (uA A 41 (ur_11.1)) 42 (ur_11.2.1)) 43 (ur_11.2.2.1)) 44 (ur_11.2.2.2.1)) 45 (ur_11.2.2.2.2.1)) 46 (ur_11.2.2.2.2.2.1)) 47 (ur_11.2.2.2.2.2.2.1)) cd (ur_11.2.2.2.2.2.2.2) r_11 := hwr_11.2.2.2.2.2
        have hpr_11_0 : I7 (ur_11.1) (ur_11.2.1) (ur_11.2.2.2.1) (ur_11.2.2.2.2.1) (ur_11.2.2.2.2.2.1) := hwr_11.1
        have hpr_11_1 : 0 ≤ ur_11.2.2.2.2.2.2.2.toInt ∧ ur_11.2.2.2.2.2.2.2.toInt ≤ 24 := hwr_11.2.1
        have hpr_11_2 : -1 ≤ r_11.toInt ∧ r_11.toInt ≤ 23 := hwr_11.2.2.1
        have hpr_11_3 : ∀ n : Nat, (n : Int) = r_11.toInt → (ur_11.2.1) n = (6 : Int32) := hwr_11.2.2.2.1
        have hpr_11_4 : ((ur_11.2.2.2.1) 24).toInt = ((A 44) 24).toInt ∧ ((ur_11.2.2.2.2.2.1) 24).toInt = ((A 46) 24).toInt := hwr_11.2.2.2.2.1
        have := i_m1
        have := i_0
        have := i_1
        have := i_6
        refine lv_istore_n (lv' := [(3, .int r_11), (2, .int x_5), (0, .ref h0), (1, .int p0)]) hx hb dX10_asked_68 rfl hl (by decide) rfl (fun ls hl => ?_)
        refine lv_aload_n hx hb dX10_asked_69 rfl (lv_at hl 2 rfl) ?_
        refine va_get (D := DG E) (ci := 10) (v := .ref (rf 19)) (C := RX10) (T := TX10) (N := 49) hx hb hts iw_X10 hown hK.1 (va_one hM.1) 0 rfl rfl 19 (by decide) (hts _ fl_X10_56) (fun _ h9 => h9) rfl dX10_asked_70 ?_
        refine lv_iload_n hx hb dX10_asked_73 rfl (lv_at hl 3 rfl) ?_
        refine W.jv (P := fun v_12 : Int32 => (0 ≤ v_12.toInt ∧ v_12.toInt ≤ 1) ∧ HID ((v_12 = 1))) (f := fun v_12 => F0 m 84 ls ([.int v_12, .int p0, .ref (rf 19)])) (fun v_12 hv_12 => ?_) (fun key_12 => ?_)
        · have hv_12_0 : 0 ≤ v_12.toInt ∧ v_12.toInt ≤ 1 := hv_12.1
          have ha_14 : va_at (DG E) vwCl (rf 19, .inl (E.2.2 1, 4, .inl (A 19))) _ := hM.2 19 (by decide) (by decide) (by decide)
          refine rr_zast (D := DG E) hx hb hK.1 1 ha_14 hS (by show G (rf 19) ≠ 0; rw [hR.2 19 (by decide) (by decide) (by decide)]; decide) rfl hi_1 dX10_asked_84 (fun H locs hn ho hz hS => ?_)
          rw [en_3] at hn
          obtain ⟨g_14, eg_14⟩ : ∃ z : Nat → Int32, z = upd (A 19) n_3 (vp_nar .boolean v_12) := ⟨_, rfl⟩
          have sg_14 : g_14 n_3 = (vp_nar .boolean v_12) := by rw [eg_14]; exact upd_s
          have ng_14 : ∀ k, k ≠ n_3 → g_14 k = (A 19) k := fun k hk => by rw [eg_14]; exact upd_n hk
          have hn : va_at (DG E) vwCl (rf 19, .inl (E.2.2 1, 4, .inl g_14)) H := by rw [eg_14]; exact hn
          have hM : MH E h0 rf t0 t1 t2 (uA (uA (uA (uA (uA (uA (uA (uA A 41 (ur_11.1)) 42 (ur_11.2.1)) 43 (ur_11.2.2.1)) 44 (ur_11.2.2.2.1)) 45 (ur_11.2.2.2.2.1)) 46 (ur_11.2.2.2.2.2.1)) 47 (ur_11.2.2.2.2.2.2.1)) 19 g_14) cd ur_11.2.2.2.2.2.2.2 H := hM.w hR 19 (by decide) (by decide) (by decide) hn ho
          exact W.vret hx hb hr (fun t ht hW => ⟨⟨((uA (uA (uA (uA (uA (uA (uA (uA A 41 (ur_11.1)) 42 (ur_11.2.1)) 43 (ur_11.2.2.1)) 44 (ur_11.2.2.2.1)) 45 (ur_11.2.2.2.2.1)) 46 (ur_11.2.2.2.2.2.1)) 47 (ur_11.2.2.2.2.2.2.1)) 19 g_14), cd, ur_11.2.2.2.2.2.2.2), rfl, ⟨hI2, hI3, hI4, hI5, hI6, hpr_11_0, hI8, (by show 0 ≤ ur_11.2.2.2.2.2.2.2.toInt ∧ ur_11.2.2.2.2.2.2.2.toInt ≤ 24; omega), (Or.inr (Or.inl ⟨n_3, hn_3, x_5, ex_5, c_6, c_7, c_9, ur_11, r_11, hDr_11, hpr_11_0, hpr_11_1, hpr_11_2, hpr_11_3, hpr_11_4, v_12, hv_12.2, g_14, eg_14, rfl, rfl, rfl⟩))⟩, (by show MH E h0 rf t0 t1 t2 (uA (uA (uA (uA (uA (uA (uA (uA A 41 (ur_11.1)) 42 (ur_11.2.1)) 43 (ur_11.2.2.1)) 44 (ur_11.2.2.2.1)) 45 (ur_11.2.2.2.2.1)) 46 (ur_11.2.2.2.2.2.1)) 47 (ur_11.2.2.2.2.2.2.1)) 19 g_14) cd ur_11.2.2.2.2.2.2.2 t.heap; rw [ht]; exact hM)⟩, hS.F ht⟩) hS.2.2 dX10_asked_85
        · refine lv_iload_n hx hb dX10_asked_74 rfl (lv_at hl 0 rfl) ?_
          refine lv_iconst (v := (-1)) hx hb dX10_asked_75 (by decide) ?_
          refine lv_icmp_lt (tgt := 83) hx hb dX10_asked_76 (by decide) (fun c_13 => by exfalso; simp only [lt_I, le_I, eq_I, i_0, i_1, i_2, i_3, i_4, i_5, i_6, i_7, i_8, i_10, i_12, i_16, i_20, i_23, i_24, i_31, i_32, i_63, i_64, i_m1, i_9, i_11, i_13, i_25, i_60, i_75, i_79, i_80, i_96, i_100] at c_13; omega) (fun c_13 => ?_)
          simp only [lt_I, le_I, eq_I, i_0, i_1, i_2, i_3, i_4, i_5, i_6, i_7, i_8, i_10, i_12, i_16, i_20, i_23, i_24, i_31, i_32, i_63, i_64, i_m1, i_9, i_11, i_13, i_25, i_60, i_75, i_79, i_80, i_96, i_100] at c_13
          refine lv_iconst (v := 1) hx hb dX10_asked_79 (by decide) ?_
          refine lv_goto (tgt := 84) hx hb dX10_asked_80 (by decide) ?_
          exact key_12 1 ⟨(by first | decide | omega), rfl⟩
    · simp only [lt_I, le_I, eq_I, i_0, i_1, i_2, i_3, i_4, i_5, i_6, i_7, i_8, i_10, i_12, i_16, i_20, i_23, i_24, i_31, i_32, i_63, i_64, i_m1, i_9, i_11, i_13, i_25, i_60, i_75, i_79, i_80, i_96, i_100] at c_7
      refine lv_aload_n hx hb dX10_asked_35 rfl (lv_at hl 1 rfl) ?_
      refine lv_iload_n hx hb dX10_asked_36 rfl (lv_at hl 2 rfl) ?_
      refine va_callv (rnV (fun H => MH E h0 rf t0 t1 t2 A cd pk H) (As := [.int p0]) (rest := []) ⟨hx, hb, hml, hown, hts⟩ (u_X10_again l E z0 G hGz h0 rf hR t0 t1 t2 A cd pk p0 hI2 hI7 hI8 (show 0 ≤ p0.toInt ∧ p0.toInt ≤ 3 from by first | decide | omega) (show 0 ≤ pk.toInt ∧ pk.toInt ≤ 24 from by first | decide | omega)) (cwV 1 hts (gdV ml_X10_259 im_X10_again se_X10_X10_again in_X10 co_X10_again rfl) rfl rfl rfl (by decide +kernel) ⟨Nat.le_of_ble_eq_true rfl, Nat.le_of_ble_eq_true rfl⟩) hM (fun U hU hW => hK.go hW hS hAz hU) (va_recv hK.1 (va_one hM.1) (ci := 10) (q0 := 0) rfl rfl) rfl rfl hl.1 rfl (lv_room (Nat.le_of_ble_eq_true rfl)) dX10_asked_37 ⟨Nat.le_of_ble_eq_true rfl, Nat.le_of_ble_eq_true rfl⟩) hS (fun q _ h => h) (fun q h => h) (fun ur_15 t H locs ht hvm hwr_15 hB hz hk hS => ?_)
      have hM : MH E h0 rf t0 t1 t2 (uA (uA (uA (uA (uA (uA (uA (uA A 41 (ur_15.1)) 42 (ur_15.2.1)) 43 (ur_15.2.2.1)) 44 (ur_15.2.2.2.1)) 45 (ur_15.2.2.2.2.1)) 46 (ur_15.2.2.2.2.2.1)) 47 (ur_15.2.2.2.2.2.2.1)) 48 (ur_15.2.2.2.2.2.2.2.1)) cd ur_15.2.2.2.2.2.2.2.2 H := by rw [ht] at hB; exact hB
      have hDr_15 : D_X10_again A cd pk p0 (uA (uA (uA (uA (uA (uA (uA (uA A 41 (ur_15.1)) 42 (ur_15.2.1)) 43 (ur_15.2.2.1)) 44 (ur_15.2.2.2.1)) 45 (ur_15.2.2.2.2.1)) 46 (ur_15.2.2.2.2.2.1)) 47 (ur_15.2.2.2.2.2.2.1)) 48 (ur_15.2.2.2.2.2.2.2.1)) cd (ur_15.2.2.2.2.2.2.2.2) := hwr_15.2.2
      have hpr_15_0 : I7 (ur_15.1) (ur_15.2.1) (ur_15.2.2.2.1) (ur_15.2.2.2.2.1) (ur_15.2.2.2.2.2.1) := hwr_15.1
      have hpr_15_1 : 0 ≤ ur_15.2.2.2.2.2.2.2.2.toInt ∧ ur_15.2.2.2.2.2.2.2.2.toInt ≤ 24 := hwr_15.2.1
      refine lv_goto (tgt := 85) hx hb dX10_asked_40 (by decide) ?_
      exact W.vret hx hb hr (fun t ht hW => ⟨⟨((uA (uA (uA (uA (uA (uA (uA (uA A 41 (ur_15.1)) 42 (ur_15.2.1)) 43 (ur_15.2.2.1)) 44 (ur_15.2.2.2.1)) 45 (ur_15.2.2.2.2.1)) 46 (ur_15.2.2.2.2.2.1)) 47 (ur_15.2.2.2.2.2.2.1)) 48 (ur_15.2.2.2.2.2.2.2.1)), cd, ur_15.2.2.2.2.2.2.2.2), rfl, ⟨hI2, hI3, hI4, hI5, hI6, hpr_15_0, hI8, (by show 0 ≤ ur_15.2.2.2.2.2.2.2.2.toInt ∧ ur_15.2.2.2.2.2.2.2.2.toInt ≤ 24; omega), (Or.inr (Or.inr (Or.inl ⟨n_3, hn_3, x_5, ex_5, c_6, c_7, ur_15, hDr_15, hpr_15_0, hpr_15_1, rfl, rfl, rfl⟩)))⟩, (by show MH E h0 rf t0 t1 t2 (uA (uA (uA (uA (uA (uA (uA (uA A 41 (ur_15.1)) 42 (ur_15.2.1)) 43 (ur_15.2.2.1)) 44 (ur_15.2.2.2.1)) 45 (ur_15.2.2.2.2.1)) 46 (ur_15.2.2.2.2.2.1)) 47 (ur_15.2.2.2.2.2.2.1)) 48 (ur_15.2.2.2.2.2.2.2.1)) cd ur_15.2.2.2.2.2.2.2.2 t.heap; rw [ht]; exact hM)⟩, hS.F ht⟩) hS.2.2 dX10_asked_85
  · simp only [lt_I, le_I, eq_I, i_0, i_1, i_2, i_3, i_4, i_5, i_6, i_7, i_8, i_10, i_12, i_16, i_20, i_23, i_24, i_31, i_32, i_63, i_64, i_m1, i_9, i_11, i_13, i_25, i_60, i_75, i_79, i_80, i_96, i_100] at c_6
    refine lv_aload_n hx hb dX10_asked_21 rfl (lv_at hl 1 rfl) ?_
    refine lv_iload_n hx hb dX10_asked_22 rfl (lv_at hl 2 rfl) ?_
    refine va_callv (rnV (fun H => MH E h0 rf t0 t1 t2 A cd pk H) (As := [.int p0]) (rest := []) ⟨hx, hb, hml, hown, hts⟩ (u_X10_fresh l E z0 G hGz h0 rf hR t0 t1 t2 A cd pk p0 hI2 hI3 hI4 hI5 hI6 hI7 hI8 (show 0 ≤ p0.toInt ∧ p0.toInt ≤ 3 from by first | decide | omega) (show 0 ≤ ((A 42) 24).toInt ∧ ((A 42) 24).toInt ≤ 3 from by first | decide | omega) (show 0 ≤ pk.toInt ∧ pk.toInt ≤ 24 from by first | decide | omega)) (cwV 1 hts (gdV ml_X10_256 im_X10_fresh se_X10_X10_fresh in_X10 co_X10_fresh rfl) rfl rfl rfl (by decide +kernel) ⟨Nat.le_of_ble_eq_true rfl, Nat.le_of_ble_eq_true rfl⟩) hM (fun U hU hW => hK.go hW hS hAz hU) (va_recv hK.1 (va_one hM.1) (ci := 10) (q0 := 0) rfl rfl) rfl rfl hl.1 rfl (lv_room (Nat.le_of_ble_eq_true rfl)) dX10_asked_23 ⟨Nat.le_of_ble_eq_true rfl, Nat.le_of_ble_eq_true rfl⟩) hS (fun q _ h => h) (fun q h => h) (fun ur_16 t H locs ht hvm hwr_16 hB hz hk hS => ?_)
    have hM : MH E h0 rf t0 t1 t2 ur_16.1 ur_16.2.1 ur_16.2.2 H := by rw [ht] at hB; exact hB
    have hDr_16 : D_X10_fresh A cd pk p0 ur_16.1 (ur_16.2.1) (ur_16.2.2) := hwr_16.2.2.2.2.2.2.2.2
    have hpr_16_0 : I2 (ur_16.1 5) (ur_16.1 6) := hwr_16.1
    have hpr_16_1 : I3 (ur_16.1 8) := hwr_16.2.1
    have hpr_16_2 : I4 (ur_16.1 10) (ur_16.1 20) (ur_16.1 29) (ur_16.1 24) (ur_16.1 11) (ur_16.1 12) (ur_16.1 13) := hwr_16.2.2.1
    have hpr_16_3 : I5 (ur_16.1 32) (ur_16.1 33) (ur_16.1 35) := hwr_16.2.2.2.1
    have hpr_16_4 : I6 (ur_16.1 22) (ur_16.1 23) (ur_16.1 24) (ur_16.1 25) (ur_16.1 26) := hwr_16.2.2.2.2.1
    have hpr_16_5 : I7 (ur_16.1 41) (ur_16.1 42) (ur_16.1 44) (ur_16.1 45) (ur_16.1 46) := hwr_16.2.2.2.2.2.1
    have hpr_16_6 : I8 (ur_16.1 20) (ur_16.1 30) (ur_16.1 37) (ur_16.1 36) := hwr_16.2.2.2.2.2.2.1
    have hpr_16_7 : 0 ≤ ur_16.2.2.toInt ∧ ur_16.2.2.toInt ≤ 24 := hwr_16.2.2.2.2.2.2.2.1
    refine lv_goto (tgt := 85) hx hb dX10_asked_26 (by decide) ?_
    exact W.vret hx hb hr (fun t ht hW => ⟨⟨(ur_16.1, ur_16.2.1, ur_16.2.2), rfl, ⟨hpr_16_0, hpr_16_1, hpr_16_2, hpr_16_3, hpr_16_4, hpr_16_5, hpr_16_6, (by show 0 ≤ ur_16.2.2.toInt ∧ ur_16.2.2.toInt ≤ 24; omega), (Or.inr (Or.inr (Or.inr ⟨n_3, hn_3, x_5, ex_5, c_6, ur_16, hDr_16, hpr_16_0, hpr_16_1, hpr_16_2, hpr_16_3, hpr_16_4, hpr_16_5, hpr_16_6, hpr_16_7, rfl, rfl, rfl⟩)))⟩, (by show MH E h0 rf t0 t1 t2 ur_16.1 ur_16.2.1 ur_16.2.2 t.heap; rw [ht]; exact hM)⟩, hS.F ht⟩) hS.2.2 dX10_asked_85
end
section
theorem gdX10_replied_0 : (decode cX10_replied 0 = .ok (.aload_n 0, 1)) ∧ (decode cX10_replied 1 = .ok (.getfield 125, 3)) ∧ (decode cX10_replied 4 = .ok (.bipush 24, 2)) ∧ (decode cX10_replied 6 = .ok (.iaload, 1)) ∧ (decode cX10_replied 7 = .ok (.aload_n 0, 1)) ∧ (decode cX10_replied 8 = .ok (.getfield 34, 3)) ∧ (decode cX10_replied 11 = .ok (.iload_n 1, 1)) ∧ (decode cX10_replied 12 = .ok (.iaload, 1)) ∧ (decode cX10_replied 13 = .ok (.if_icmp .ne 18, 3)) ∧ (decode cX10_replied 16 = .ok (.aload_n 0, 1)) ∧ (decode cX10_replied 17 = .ok (.getfield 37, 3)) ∧ (decode cX10_replied 20 = .ok (.iload_n 1, 1)) ∧ (decode cX10_replied 21 = .ok (.iaload, 1)) ∧ (decode cX10_replied 22 = .ok (.aload_n 0, 1)) ∧ (decode cX10_replied 23 = .ok (.getfield 34, 3)) ∧ (decode cX10_replied 26 = .ok (.iload_n 1, 1)) := by decide +kernel
theorem dX10_replied_0 : decode cX10_replied 0 = .ok (.aload_n 0, 1) := gdX10_replied_0.1
theorem dX10_replied_1 : decode cX10_replied 1 = .ok (.getfield 125, 3) := gdX10_replied_0.2.1
theorem dX10_replied_4 : decode cX10_replied 4 = .ok (.bipush 24, 2) := gdX10_replied_0.2.2.1
theorem dX10_replied_6 : decode cX10_replied 6 = .ok (.iaload, 1) := gdX10_replied_0.2.2.2.1
theorem dX10_replied_7 : decode cX10_replied 7 = .ok (.aload_n 0, 1) := gdX10_replied_0.2.2.2.2.1
theorem dX10_replied_8 : decode cX10_replied 8 = .ok (.getfield 34, 3) := gdX10_replied_0.2.2.2.2.2.1
theorem dX10_replied_11 : decode cX10_replied 11 = .ok (.iload_n 1, 1) := gdX10_replied_0.2.2.2.2.2.2.1
theorem dX10_replied_12 : decode cX10_replied 12 = .ok (.iaload, 1) := gdX10_replied_0.2.2.2.2.2.2.2.1
theorem dX10_replied_13 : decode cX10_replied 13 = .ok (.if_icmp .ne 18, 3) := gdX10_replied_0.2.2.2.2.2.2.2.2.1
theorem dX10_replied_16 : decode cX10_replied 16 = .ok (.aload_n 0, 1) := gdX10_replied_0.2.2.2.2.2.2.2.2.2.1
theorem dX10_replied_17 : decode cX10_replied 17 = .ok (.getfield 37, 3) := gdX10_replied_0.2.2.2.2.2.2.2.2.2.2.1
theorem dX10_replied_20 : decode cX10_replied 20 = .ok (.iload_n 1, 1) := gdX10_replied_0.2.2.2.2.2.2.2.2.2.2.2.1
theorem dX10_replied_21 : decode cX10_replied 21 = .ok (.iaload, 1) := gdX10_replied_0.2.2.2.2.2.2.2.2.2.2.2.2.1
theorem dX10_replied_22 : decode cX10_replied 22 = .ok (.aload_n 0, 1) := gdX10_replied_0.2.2.2.2.2.2.2.2.2.2.2.2.2.1
theorem dX10_replied_23 : decode cX10_replied 23 = .ok (.getfield 34, 3) := gdX10_replied_0.2.2.2.2.2.2.2.2.2.2.2.2.2.2.1
theorem dX10_replied_26 : decode cX10_replied 26 = .ok (.iload_n 1, 1) := gdX10_replied_0.2.2.2.2.2.2.2.2.2.2.2.2.2.2.2
theorem gdX10_replied_27 : (decode cX10_replied 27 = .ok (.iaload, 1)) ∧ (decode cX10_replied 28 = .ok (.if_icmp .ne 4, 3)) ∧ (decode cX10_replied 31 = .ok (.return_, 1)) ∧ (decode cX10_replied 32 = .ok (.aload_n 0, 1)) ∧ (decode cX10_replied 33 = .ok (.iload_n 1, 1)) ∧ (decode cX10_replied 34 = .ok (.aload_n 0, 1)) ∧ (decode cX10_replied 35 = .ok (.getfield 34, 3)) ∧ (decode cX10_replied 38 = .ok (.iload_n 1, 1)) ∧ (decode cX10_replied 39 = .ok (.iaload, 1)) ∧ (decode cX10_replied 40 = .ok (.invokevirtual 196, 3)) ∧ (decode cX10_replied 43 = .ok (.istore_n 2, 1)) ∧ (decode cX10_replied 44 = .ok (.aload_n 0, 1)) ∧ (decode cX10_replied 45 = .ok (.iload_n 2, 1)) ∧ (decode cX10_replied 46 = .ok (.invokevirtual 215, 3)) ∧ (decode cX10_replied 49 = .ok (.ifCond .ne 4, 3)) ∧ (decode cX10_replied 52 = .ok (.return_, 1)) := by decide +kernel
theorem dX10_replied_27 : decode cX10_replied 27 = .ok (.iaload, 1) := gdX10_replied_27.1
theorem dX10_replied_28 : decode cX10_replied 28 = .ok (.if_icmp .ne 4, 3) := gdX10_replied_27.2.1
theorem dX10_replied_31 : decode cX10_replied 31 = .ok (.return_, 1) := gdX10_replied_27.2.2.1
theorem dX10_replied_32 : decode cX10_replied 32 = .ok (.aload_n 0, 1) := gdX10_replied_27.2.2.2.1
theorem dX10_replied_33 : decode cX10_replied 33 = .ok (.iload_n 1, 1) := gdX10_replied_27.2.2.2.2.1
theorem dX10_replied_34 : decode cX10_replied 34 = .ok (.aload_n 0, 1) := gdX10_replied_27.2.2.2.2.2.1
theorem dX10_replied_35 : decode cX10_replied 35 = .ok (.getfield 34, 3) := gdX10_replied_27.2.2.2.2.2.2.1
theorem dX10_replied_38 : decode cX10_replied 38 = .ok (.iload_n 1, 1) := gdX10_replied_27.2.2.2.2.2.2.2.1
theorem dX10_replied_39 : decode cX10_replied 39 = .ok (.iaload, 1) := gdX10_replied_27.2.2.2.2.2.2.2.2.1
theorem dX10_replied_40 : decode cX10_replied 40 = .ok (.invokevirtual 196, 3) := gdX10_replied_27.2.2.2.2.2.2.2.2.2.1
theorem dX10_replied_43 : decode cX10_replied 43 = .ok (.istore_n 2, 1) := gdX10_replied_27.2.2.2.2.2.2.2.2.2.2.1
theorem dX10_replied_44 : decode cX10_replied 44 = .ok (.aload_n 0, 1) := gdX10_replied_27.2.2.2.2.2.2.2.2.2.2.2.1
theorem dX10_replied_45 : decode cX10_replied 45 = .ok (.iload_n 2, 1) := gdX10_replied_27.2.2.2.2.2.2.2.2.2.2.2.2.1
theorem dX10_replied_46 : decode cX10_replied 46 = .ok (.invokevirtual 215, 3) := gdX10_replied_27.2.2.2.2.2.2.2.2.2.2.2.2.2.1
theorem dX10_replied_49 : decode cX10_replied 49 = .ok (.ifCond .ne 4, 3) := gdX10_replied_27.2.2.2.2.2.2.2.2.2.2.2.2.2.2.1
theorem dX10_replied_52 : decode cX10_replied 52 = .ok (.return_, 1) := gdX10_replied_27.2.2.2.2.2.2.2.2.2.2.2.2.2.2.2
theorem gdX10_replied_53 : (decode cX10_replied 53 = .ok (.iconst 4, 1)) ∧ (decode cX10_replied 54 = .ok (.aload_n 0, 1)) ∧ (decode cX10_replied 55 = .ok (.getfield 86, 3)) ∧ (decode cX10_replied 58 = .ok (.iload_n 2, 1)) ∧ (decode cX10_replied 59 = .ok (.iaload, 1)) ∧ (decode cX10_replied 60 = .ok (.aload_n 0, 1)) ∧ (decode cX10_replied 61 = .ok (.getfield 34, 3)) ∧ (decode cX10_replied 64 = .ok (.iload_n 1, 1)) ∧ (decode cX10_replied 65 = .ok (.iaload, 1)) ∧ (decode cX10_replied 66 = .ok (.invokestatic 174, 3)) ∧ (decode cX10_replied 69 = .ok (.imul, 1)) ∧ (decode cX10_replied 70 = .ok (.istore_n 3, 1)) ∧ (decode cX10_replied 71 = .ok (.aload_n 0, 1)) ∧ (decode cX10_replied 72 = .ok (.getfield 71, 3)) ∧ (decode cX10_replied 75 = .ok (.iload_n 2, 1)) ∧ (decode cX10_replied 76 = .ok (.iaload, 1)) := by decide +kernel
theorem dX10_replied_53 : decode cX10_replied 53 = .ok (.iconst 4, 1) := gdX10_replied_53.1
theorem dX10_replied_54 : decode cX10_replied 54 = .ok (.aload_n 0, 1) := gdX10_replied_53.2.1
theorem dX10_replied_55 : decode cX10_replied 55 = .ok (.getfield 86, 3) := gdX10_replied_53.2.2.1
theorem dX10_replied_58 : decode cX10_replied 58 = .ok (.iload_n 2, 1) := gdX10_replied_53.2.2.2.1
theorem dX10_replied_59 : decode cX10_replied 59 = .ok (.iaload, 1) := gdX10_replied_53.2.2.2.2.1
theorem dX10_replied_60 : decode cX10_replied 60 = .ok (.aload_n 0, 1) := gdX10_replied_53.2.2.2.2.2.1
theorem dX10_replied_61 : decode cX10_replied 61 = .ok (.getfield 34, 3) := gdX10_replied_53.2.2.2.2.2.2.1
theorem dX10_replied_64 : decode cX10_replied 64 = .ok (.iload_n 1, 1) := gdX10_replied_53.2.2.2.2.2.2.2.1
theorem dX10_replied_65 : decode cX10_replied 65 = .ok (.iaload, 1) := gdX10_replied_53.2.2.2.2.2.2.2.2.1
theorem dX10_replied_66 : decode cX10_replied 66 = .ok (.invokestatic 174, 3) := gdX10_replied_53.2.2.2.2.2.2.2.2.2.1
theorem dX10_replied_69 : decode cX10_replied 69 = .ok (.imul, 1) := gdX10_replied_53.2.2.2.2.2.2.2.2.2.2.1
theorem dX10_replied_70 : decode cX10_replied 70 = .ok (.istore_n 3, 1) := gdX10_replied_53.2.2.2.2.2.2.2.2.2.2.2.1
theorem dX10_replied_71 : decode cX10_replied 71 = .ok (.aload_n 0, 1) := gdX10_replied_53.2.2.2.2.2.2.2.2.2.2.2.2.1
theorem dX10_replied_72 : decode cX10_replied 72 = .ok (.getfield 71, 3) := gdX10_replied_53.2.2.2.2.2.2.2.2.2.2.2.2.2.1
theorem dX10_replied_75 : decode cX10_replied 75 = .ok (.iload_n 2, 1) := gdX10_replied_53.2.2.2.2.2.2.2.2.2.2.2.2.2.2.1
theorem dX10_replied_76 : decode cX10_replied 76 = .ok (.iaload, 1) := gdX10_replied_53.2.2.2.2.2.2.2.2.2.2.2.2.2.2.2
theorem gdX10_replied_77 : (decode cX10_replied 77 = .ok (.iload_n 3, 1)) ∧ (decode cX10_replied 78 = .ok (.isub, 1)) ∧ (decode cX10_replied 79 = .ok (.istore 4, 2)) ∧ (decode cX10_replied 81 = .ok (.aload_n 0, 1)) ∧ (decode cX10_replied 82 = .ok (.bipush 32, 2)) ∧ (decode cX10_replied 84 = .ok (.iload_n 1, 1)) ∧ (decode cX10_replied 85 = .ok (.invokestatic 160, 3)) ∧ (decode cX10_replied 88 = .ok (.imul, 1)) ∧ (decode cX10_replied 89 = .ok (.aload_n 0, 1)) ∧ (decode cX10_replied 90 = .ok (.getfield 68, 3)) ∧ (decode cX10_replied 93 = .ok (.iload_n 2, 1)) ∧ (decode cX10_replied 94 = .ok (.iaload, 1)) ∧ (decode cX10_replied 95 = .ok (.iadd, 1)) ∧ (decode cX10_replied 96 = .ok (.iload_n 3, 1)) ∧ (decode cX10_replied 97 = .ok (.iadd, 1)) ∧ (decode cX10_replied 98 = .ok (.aload_n 0, 1)) := by decide +kernel
theorem dX10_replied_77 : decode cX10_replied 77 = .ok (.iload_n 3, 1) := gdX10_replied_77.1
theorem dX10_replied_78 : decode cX10_replied 78 = .ok (.isub, 1) := gdX10_replied_77.2.1
theorem dX10_replied_79 : decode cX10_replied 79 = .ok (.istore 4, 2) := gdX10_replied_77.2.2.1
theorem dX10_replied_81 : decode cX10_replied 81 = .ok (.aload_n 0, 1) := gdX10_replied_77.2.2.2.1
theorem dX10_replied_82 : decode cX10_replied 82 = .ok (.bipush 32, 2) := gdX10_replied_77.2.2.2.2.1
theorem dX10_replied_84 : decode cX10_replied 84 = .ok (.iload_n 1, 1) := gdX10_replied_77.2.2.2.2.2.1
theorem dX10_replied_85 : decode cX10_replied 85 = .ok (.invokestatic 160, 3) := gdX10_replied_77.2.2.2.2.2.2.1
theorem dX10_replied_88 : decode cX10_replied 88 = .ok (.imul, 1) := gdX10_replied_77.2.2.2.2.2.2.2.1
theorem dX10_replied_89 : decode cX10_replied 89 = .ok (.aload_n 0, 1) := gdX10_replied_77.2.2.2.2.2.2.2.2.1
theorem dX10_replied_90 : decode cX10_replied 90 = .ok (.getfield 68, 3) := gdX10_replied_77.2.2.2.2.2.2.2.2.2.1
theorem dX10_replied_93 : decode cX10_replied 93 = .ok (.iload_n 2, 1) := gdX10_replied_77.2.2.2.2.2.2.2.2.2.2.1
theorem dX10_replied_94 : decode cX10_replied 94 = .ok (.iaload, 1) := gdX10_replied_77.2.2.2.2.2.2.2.2.2.2.2.1
theorem dX10_replied_95 : decode cX10_replied 95 = .ok (.iadd, 1) := gdX10_replied_77.2.2.2.2.2.2.2.2.2.2.2.2.1
theorem dX10_replied_96 : decode cX10_replied 96 = .ok (.iload_n 3, 1) := gdX10_replied_77.2.2.2.2.2.2.2.2.2.2.2.2.2.1
theorem dX10_replied_97 : decode cX10_replied 97 = .ok (.iadd, 1) := gdX10_replied_77.2.2.2.2.2.2.2.2.2.2.2.2.2.2.1
theorem dX10_replied_98 : decode cX10_replied 98 = .ok (.aload_n 0, 1) := gdX10_replied_77.2.2.2.2.2.2.2.2.2.2.2.2.2.2.2
theorem gdX10_replied_99 : (decode cX10_replied 99 = .ok (.getfield 128, 3)) ∧ (decode cX10_replied 102 = .ok (.bipush 24, 2)) ∧ (decode cX10_replied 104 = .ok (.iaload, 1)) ∧ (decode cX10_replied 105 = .ok (.iload 4, 2)) ∧ (decode cX10_replied 107 = .ok (.if_icmp .ge 13, 3)) ∧ (decode cX10_replied 110 = .ok (.aload_n 0, 1)) ∧ (decode cX10_replied 111 = .ok (.getfield 128, 3)) ∧ (decode cX10_replied 114 = .ok (.bipush 24, 2)) ∧ (decode cX10_replied 116 = .ok (.iaload, 1)) ∧ (decode cX10_replied 117 = .ok (.goto 5, 3)) ∧ (decode cX10_replied 120 = .ok (.iload 4, 2)) ∧ (decode cX10_replied 122 = .ok (.invokevirtual 228, 3)) ∧ (decode cX10_replied 125 = .ok (.aload_n 0, 1)) ∧ (decode cX10_replied 126 = .ok (.iload_n 1, 1)) ∧ (decode cX10_replied 127 = .ok (.invokevirtual 218, 3)) ∧ (decode cX10_replied 130 = .ok (.return_, 1)) := by decide +kernel
theorem dX10_replied_99 : decode cX10_replied 99 = .ok (.getfield 128, 3) := gdX10_replied_99.1
theorem dX10_replied_102 : decode cX10_replied 102 = .ok (.bipush 24, 2) := gdX10_replied_99.2.1
theorem dX10_replied_104 : decode cX10_replied 104 = .ok (.iaload, 1) := gdX10_replied_99.2.2.1
theorem dX10_replied_105 : decode cX10_replied 105 = .ok (.iload 4, 2) := gdX10_replied_99.2.2.2.1
theorem dX10_replied_107 : decode cX10_replied 107 = .ok (.if_icmp .ge 13, 3) := gdX10_replied_99.2.2.2.2.1
theorem dX10_replied_110 : decode cX10_replied 110 = .ok (.aload_n 0, 1) := gdX10_replied_99.2.2.2.2.2.1
theorem dX10_replied_111 : decode cX10_replied 111 = .ok (.getfield 128, 3) := gdX10_replied_99.2.2.2.2.2.2.1
theorem dX10_replied_114 : decode cX10_replied 114 = .ok (.bipush 24, 2) := gdX10_replied_99.2.2.2.2.2.2.2.1
theorem dX10_replied_116 : decode cX10_replied 116 = .ok (.iaload, 1) := gdX10_replied_99.2.2.2.2.2.2.2.2.1
theorem dX10_replied_117 : decode cX10_replied 117 = .ok (.goto 5, 3) := gdX10_replied_99.2.2.2.2.2.2.2.2.2.1
theorem dX10_replied_120 : decode cX10_replied 120 = .ok (.iload 4, 2) := gdX10_replied_99.2.2.2.2.2.2.2.2.2.2.1
theorem dX10_replied_122 : decode cX10_replied 122 = .ok (.invokevirtual 228, 3) := gdX10_replied_99.2.2.2.2.2.2.2.2.2.2.2.1
theorem dX10_replied_125 : decode cX10_replied 125 = .ok (.aload_n 0, 1) := gdX10_replied_99.2.2.2.2.2.2.2.2.2.2.2.2.1
theorem dX10_replied_126 : decode cX10_replied 126 = .ok (.iload_n 1, 1) := gdX10_replied_99.2.2.2.2.2.2.2.2.2.2.2.2.2.1
theorem dX10_replied_127 : decode cX10_replied 127 = .ok (.invokevirtual 218, 3) := gdX10_replied_99.2.2.2.2.2.2.2.2.2.2.2.2.2.2.1
theorem dX10_replied_130 : decode cX10_replied 130 = .ok (.return_, 1) := gdX10_replied_99.2.2.2.2.2.2.2.2.2.2.2.2.2.2.2
set_option maxHeartbeats 8000000 in
set_option maxRecDepth 100000 in
theorem u_X10_replied (l : Launch) (E : EE) (z0 : Nat) (G : Nat → Nat) (hGz : ∀ q, G q ≠ 0 → z0 ≤ q) (h0 : Nat) (rf : Nat → Nat) (hR : MG G h0 rf) (t0 t1 t2 : Int32) (A : AA) (cd pk : Int32) (p0 : Int32) (hI3 : I3 (A 8)) (hI4 : I4 (A 10) (A 20) (A 29) (A 24) (A 11) (A 12) (A 13)) (hI6 : I6 (A 22) (A 23) (A 24) (A 25) (A 26)) (hI7 : I7 (A 41) (A 42) (A 44) (A 45) (A 46)) (hI8 : I8 (A 20) (A 30) (A 37) (A 36)) (hy0 : 0 ≤ p0.toInt ∧ p0.toInt ≤ 3) (hy1 : ∀ n : Nat, (n : Int) = p0.toInt → ((A 10) n).toInt = 1) (hy2 : ((A 42) 24).toInt = 4) : Met l yX10_replied [Cond.code yX10_replied cX10_replied 5 none] ({ frames := 3, cells := 0, slots := 0, locals := 70 } : Room) (va_Pc [.ref h0, .int p0] (fun U => MH E h0 rf t0 t1 t2 A cd pk U.heap ∧ KS E z0 U)) (va_Qv (fun (u : (Nat → Int32) × (Nat → Int32) × (Nat → Int32) × (Nat → Int32) × (Nat → Int32) × (Nat → Int32) × (Nat → Int32) × (Nat → Int32) × (Nat → Int32) × (Nat → Int32) × (Nat → Int32) × (Nat → Int32) × (Nat → Int32) × (Nat → Int32) × (Nat → Int32) × (Nat → Int32) × (Nat → Int32)) => (I3 (u.2.1)) ∧ (I4 (A 10) (u.2.2.2.2.2.2.2.2.1) (u.2.2.2.2.2.2.2.2.2.2.2.2.2.2.2.2) (u.2.2.2.2.2.2.2.2.2.2.2.1) (A 11) (u.2.2.2.1) (A 13)) ∧ (I6 (u.2.2.2.2.2.2.2.2.2.1) (u.2.2.2.2.2.2.2.2.2.2.1) (u.2.2.2.2.2.2.2.2.2.2.2.1) (u.2.2.2.2.2.2.2.2.2.2.2.2.1) (u.2.2.2.2.2.2.2.2.2.2.2.2.2.1)) ∧ (I8 (u.2.2.2.2.2.2.2.2.1) (A 30) (A 37) (A 36)) ∧ (D_X10_replied A cd pk p0 (uA (uA (uA (uA (uA (uA (uA (uA (uA (uA (uA (uA (uA (uA (uA (uA (uA A 4 (u.1)) 8 (u.2.1)) 9 (u.2.2.1)) 12 (u.2.2.2.1)) 15 (u.2.2.2.2.1)) 16 (u.2.2.2.2.2.1)) 17 (u.2.2.2.2.2.2.1)) 18 (u.2.2.2.2.2.2.2.1)) 20 (u.2.2.2.2.2.2.2.2.1)) 22 (u.2.2.2.2.2.2.2.2.2.1)) 23 (u.2.2.2.2.2.2.2.2.2.2.1)) 24 (u.2.2.2.2.2.2.2.2.2.2.2.1)) 25 (u.2.2.2.2.2.2.2.2.2.2.2.2.1)) 26 (u.2.2.2.2.2.2.2.2.2.2.2.2.2.1)) 27 (u.2.2.2.2.2.2.2.2.2.2.2.2.2.2.1)) 28 (u.2.2.2.2.2.2.2.2.2.2.2.2.2.2.2.1)) 29 (u.2.2.2.2.2.2.2.2.2.2.2.2.2.2.2.2)) cd pk)) (fun u t => MH E h0 rf t0 t1 t2 (uA (uA (uA (uA (uA (uA (uA (uA (uA (uA (uA (uA (uA (uA (uA (uA (uA A 4 (u.1)) 8 (u.2.1)) 9 (u.2.2.1)) 12 (u.2.2.2.1)) 15 (u.2.2.2.2.1)) 16 (u.2.2.2.2.2.1)) 17 (u.2.2.2.2.2.2.1)) 18 (u.2.2.2.2.2.2.2.1)) 20 (u.2.2.2.2.2.2.2.2.1)) 22 (u.2.2.2.2.2.2.2.2.2.1)) 23 (u.2.2.2.2.2.2.2.2.2.2.1)) 24 (u.2.2.2.2.2.2.2.2.2.2.2.1)) 25 (u.2.2.2.2.2.2.2.2.2.2.2.2.1)) 26 (u.2.2.2.2.2.2.2.2.2.2.2.2.2.1)) 27 (u.2.2.2.2.2.2.2.2.2.2.2.2.2.2.1)) 28 (u.2.2.2.2.2.2.2.2.2.2.2.2.2.2.2.1)) 29 (u.2.2.2.2.2.2.2.2.2.2.2.2.2.2.2.2)) cd pk t.heap) (fun q : Nat => G q ≠ 0)) 0 0 (fun q : Nat => G q ≠ 0) := by
  refine Met.ofW (cc := cX10_replied) (maxL := 5) (ret := none) (by decide) rfl ?_
  intro p e s m args below meth c s₁ B hml hv
  obtain ⟨rfl, hM, hK⟩ := hv
  have hx := B.exec
  have hb := B.bytes
  have hr := B.returns
  have hts : ∀ w ∈ TS, w.before ([.ref h0, .int p0] : List Value).toArray s = true := fun w hw => hK.2.1 w hw _
  have hown : s.vm.findClass RX10 = some m.cls := findClass_of_methodNamed B.named
  have hlocks := B.notSynchronized
  have hS : va_S (fun q : Nat => G q ≠ 0) s.heap s.heap [] := va_S.rf
  have hAz : ∀ q, (fun q : Nat => G q ≠ 0) q → z0 ≤ q := hGz
  have hl := lv_entry ([.ref h0, .int p0]) (n := 5) (Nat.le_of_ble_eq_true rfl)
  rw [lg_entry_eq]
  generalize (lg_sl ([.ref h0, .int p0]) ++ List.replicate (5 - (lg_sl ([.ref h0, .int p0])).length) Slot.unset).toArray = ls at hl ⊢
  have hl : lv_has ls 5 [(0, .ref h0), (1, .int p0)] := hl
  obtain ⟨n_1, hn_1, en_1⟩ := s_nat (x := p0) (by omega)
  have hst0 := hy1 n_1 (by omega)
  have hP0 := (hI4 n_1 (by omega)).1 hst0
  have rg0 := hP0.rng
  refine lv_aload_n hx hb dX10_replied_0 rfl (lv_at hl 0 rfl) ?_
  refine va_get (D := DG E) (ci := 10) (v := .ref (rf 43)) (C := RX10) (T := TX10) (N := 49) hx hb hts iw_X10 hown hK.1 (va_one hM.1) 0 rfl rfl 43 (by decide) (hts _ fl_X10_125) (fun _ h9 => h9) rfl dX10_replied_1 ?_
  refine lv_bipush (v := 24) hx hb dX10_replied_4 (by decide) ?_
  have ha_2 : va_at (DG E) vwCl (rf 43, .inl (E.2.2 0, 25, .inl (A 43))) _ := hM.2 43 (by decide) (by decide) (by decide)
  refine va_iald (D := DG E) hx hb hK.1 (va_one ha_2) 0 0 rfl rfl (show vp_in (24) 25 from vp_in_iff.mpr ⟨by decide, by decide⟩) dX10_replied_6 ?_
  refine W.eq (g2 := F0 m 7 ls [.int ((A 43) 24)]) (by rfl) ?_
  refine lv_aload_n hx hb dX10_replied_7 rfl (lv_at hl 0 rfl) ?_
  refine va_get (D := DG E) (ci := 10) (v := .ref (rf 12)) (C := RX10) (T := TX10) (N := 49) hx hb hts iw_X10 hown hK.1 (va_one hM.1) 0 rfl rfl 12 (by decide) (hts _ fl_X10_34) (fun _ h9 => h9) rfl dX10_replied_8 ?_
  refine lv_iload_n hx hb dX10_replied_11 rfl (lv_at hl 1 rfl) ?_
  have hi_3 : vp_in p0 4 := vp_in_iff.mpr (by omega)
  have ha_4 : va_at (DG E) vwCl (rf 12, .inl (E.2.2 0, 4, .inl (A 12))) _ := hM.2 12 (by decide) (by decide) (by decide)
  refine va_iald (D := DG E) hx hb hK.1 (va_one ha_4) 0 0 rfl rfl hi_3 dX10_replied_12 ?_
  refine W.eq (g2 := F0 m 13 ls [.int ((A 12) n_1), .int ((A 43) 24)]) (by rw [en_1]) ?_
  refine lv_icmp_ne (tgt := 31) hx hb dX10_replied_13 (by decide) (fun c_5 => ?_) (fun c_5 => ?_)
  · simp only [lt_I, le_I, eq_I, i_0, i_1, i_2, i_3, i_4, i_5, i_6, i_7, i_8, i_10, i_12, i_16, i_20, i_23, i_24, i_31, i_32, i_63, i_64, i_m1, i_9, i_11, i_13, i_25, i_60, i_75, i_79, i_80, i_96, i_100] at c_5
    exact W.vret hx hb hr (fun t ht hW => ⟨⟨((A 4), (A 8), (A 9), (A 12), (A 15), (A 16), (A 17), (A 18), (A 20), (A 22), (A 23), (A 24), (A 25), (A 26), (A 27), (A 28), (A 29)), rfl, ⟨hI3, hI4, hI6, hI8, (Or.inl ⟨n_1, hn_1, c_5, rfl, rfl, rfl⟩)⟩, (by show MH E h0 rf t0 t1 t2 (uA (uA (uA (uA (uA (uA (uA (uA (uA (uA (uA (uA (uA (uA (uA (uA (uA A 4 (A 4)) 8 (A 8)) 9 (A 9)) 12 (A 12)) 15 (A 15)) 16 (A 16)) 17 (A 17)) 18 (A 18)) 20 (A 20)) 22 (A 22)) 23 (A 23)) 24 (A 24)) 25 (A 25)) 26 (A 26)) 27 (A 27)) 28 (A 28)) 29 (A 29)) cd pk t.heap; rw [ht]; exact hM.cge (funext fun j => (cgj j 29 rfl (fun a0 => (cgj j 28 rfl (fun a1 => (cgj j 27 rfl (fun a2 => (cgj j 26 rfl (fun a3 => (cgj j 25 rfl (fun a4 => (cgj j 24 rfl (fun a5 => (cgj j 23 rfl (fun a6 => (cgj j 22 rfl (fun a7 => (cgj j 20 rfl (fun a8 => (cgj j 18 rfl (fun a9 => (cgj j 17 rfl (fun a10 => (cgj j 16 rfl (fun a11 => (cgj j 15 rfl (fun a12 => (cgj j 12 rfl (fun a13 => (cgj j 9 rfl (fun a14 => (cgj j 8 rfl (fun a15 => (cgj j 4 rfl (fun a16 => (by simp only [uA_n a0, uA_n a1, uA_n a2, uA_n a3, uA_n a4, uA_n a5, uA_n a6, uA_n a7, uA_n a8, uA_n a9, uA_n a10, uA_n a11, uA_n a12, uA_n a13, uA_n a14, uA_n a15, uA_n a16])))))))))))))))))))))))))))))))))))))⟩, hS.F ht⟩) hS.2.2 dX10_replied_31
  · simp only [lt_I, le_I, eq_I, i_0, i_1, i_2, i_3, i_4, i_5, i_6, i_7, i_8, i_10, i_12, i_16, i_20, i_23, i_24, i_31, i_32, i_63, i_64, i_m1, i_9, i_11, i_13, i_25, i_60, i_75, i_79, i_80, i_96, i_100] at c_5
    refine lv_aload_n hx hb dX10_replied_16 rfl (lv_at hl 0 rfl) ?_
    refine va_get (D := DG E) (ci := 10) (v := .ref (rf 13)) (C := RX10) (T := TX10) (N := 49) hx hb hts iw_X10 hown hK.1 (va_one hM.1) 0 rfl rfl 13 (by decide) (hts _ fl_X10_37) (fun _ h9 => h9) rfl dX10_replied_17 ?_
    refine lv_iload_n hx hb dX10_replied_20 rfl (lv_at hl 1 rfl) ?_
    have ha_6 : va_at (DG E) vwCl (rf 13, .inl (E.2.2 0, 4, .inl (A 13))) _ := hM.2 13 (by decide) (by decide) (by decide)
    refine va_iald (D := DG E) hx hb hK.1 (va_one ha_6) 0 0 rfl rfl hi_3 dX10_replied_21 ?_
    refine W.eq (g2 := F0 m 22 ls [.int ((A 13) n_1)]) (by rw [en_1]) ?_
    refine lv_aload_n hx hb dX10_replied_22 rfl (lv_at hl 0 rfl) ?_
    refine va_get (D := DG E) (ci := 10) (v := .ref (rf 12)) (C := RX10) (T := TX10) (N := 49) hx hb hts iw_X10 hown hK.1 (va_one hM.1) 0 rfl rfl 12 (by decide) (hts _ fl_X10_34) (fun _ h9 => h9) rfl dX10_replied_23 ?_
    refine lv_iload_n hx hb dX10_replied_26 rfl (lv_at hl 1 rfl) ?_
    have ha_7 : va_at (DG E) vwCl (rf 12, .inl (E.2.2 0, 4, .inl (A 12))) _ := hM.2 12 (by decide) (by decide) (by decide)
    refine va_iald (D := DG E) hx hb hK.1 (va_one ha_7) 0 0 rfl rfl hi_3 dX10_replied_27 ?_
    refine W.eq (g2 := F0 m 28 ls [.int ((A 12) n_1), .int ((A 13) n_1)]) (by rw [en_1]) ?_
    refine lv_icmp_ne (tgt := 32) hx hb dX10_replied_28 (by decide) (fun c_8 => ?_) (fun c_8 => ?_)
    · simp only [lt_I, le_I, eq_I, i_0, i_1, i_2, i_3, i_4, i_5, i_6, i_7, i_8, i_10, i_12, i_16, i_20, i_23, i_24, i_31, i_32, i_63, i_64, i_m1, i_9, i_11, i_13, i_25, i_60, i_75, i_79, i_80, i_96, i_100] at c_8
      refine lv_aload_n hx hb dX10_replied_32 rfl (lv_at hl 0 rfl) ?_
      refine lv_iload_n hx hb dX10_replied_33 rfl (lv_at hl 1 rfl) ?_
      refine lv_aload_n hx hb dX10_replied_34 rfl (lv_at hl 0 rfl) ?_
      refine va_get (D := DG E) (ci := 10) (v := .ref (rf 12)) (C := RX10) (T := TX10) (N := 49) hx hb hts iw_X10 hown hK.1 (va_one hM.1) 0 rfl rfl 12 (by decide) (hts _ fl_X10_34) (fun _ h9 => h9) rfl dX10_replied_35 ?_
      refine lv_iload_n hx hb dX10_replied_38 rfl (lv_at hl 1 rfl) ?_
      have ha_9 : va_at (DG E) vwCl (rf 12, .inl (E.2.2 0, 4, .inl (A 12))) _ := hM.2 12 (by decide) (by decide) (by decide)
      refine va_iald (D := DG E) hx hb hK.1 (va_one ha_9) 0 0 rfl rfl hi_3 dX10_replied_39 ?_
      refine W.eq (g2 := F0 m 40 ls [.int ((A 12) n_1), .int p0, .ref h0]) (by rw [en_1]) ?_
      refine va_calli (rnV (fun H => MH E h0 rf t0 t1 t2 A cd pk H) (As := [.int p0, .int ((A 12) n_1)]) (rest := []) ⟨hx, hb, hml, hown, hts⟩ (u_X10_requestOf l E z0 G hGz h0 rf hR t0 t1 t2 A cd pk p0 ((A 12) n_1) hI6 (show 0 ≤ p0.toInt ∧ p0.toInt ≤ 3 from by first | decide | omega)) (cwV 2 hts (gdV ml_X10_196 im_X10_requestOf se_X10_X10_requestOf in_X10 co_X10_requestOf rfl) rfl rfl rfl (by decide +kernel) ⟨Nat.le_of_ble_eq_true rfl, Nat.le_of_ble_eq_true rfl⟩) hM (fun U hU hW => hK.go hW hS hAz hU) (va_recv hK.1 (va_one hM.1) (ci := 10) (q0 := 0) rfl rfl) rfl rfl hl.1 rfl (lv_room (Nat.le_of_ble_eq_true rfl)) dX10_replied_40 ⟨Nat.le_of_ble_eq_true rfl, Nat.le_of_ble_eq_true rfl⟩) hS (fun q _ h => h.elim) (fun q h => h.elim) (fun r_10 ur_10 t H locs ht hvm hwr_10 hB hz hk hS => ?_)
      have hM := hM.kept (fun q hq => hk q hq (fun h => h))
      have hpr_10_0 : 0 ≤ r_10.toInt ∧ r_10.toInt ≤ 15 := hwr_10.1
      have hpr_10_1 : ∀ n : Nat, (n : Int) = p0.toInt → RO (A 29) (A 24) n ((A 12) n_1) r_10.toInt := hwr_10.2
      have iahpr_10_1 := hpr_10_1 n_1 (by omega)
      obtain ⟨er0, h1n, hk0, hk1, hz0, hz1, hfar, hA, hB0⟩ := hP0.ans (by omega) iahpr_10_1
      have hN0 := pj_N ⟨hz0, hz1⟩
      have hNB : NB (A 24) (4 * n_1) = (((A 24) (4 * n_1)).toInt + 3) / 4 := rfl
      clear hA hB0 hfar
      obtain ⟨n_11, hn_11, en_11⟩ := s_nat (x := r_10) (by omega)
      have e9 : n_11 = 4 * n_1 := by omega
      subst e9
      refine lv_istore_n (lv' := [(2, .int r_10), (0, .ref h0), (1, .int p0)]) hx hb dX10_replied_43 rfl hl (by decide) rfl (fun ls hl => ?_)
      refine lv_aload_n hx hb dX10_replied_44 rfl (lv_at hl 1 rfl) ?_
      refine lv_iload_n hx hb dX10_replied_45 rfl (lv_at hl 0 rfl) ?_
      refine va_calli (rnV (fun H => MH E h0 rf t0 t1 t2 A cd pk H) (As := [.int r_10]) (rest := []) ⟨hx, hb, hml, hown, hts⟩ (u_X10_hasCells l E z0 G hGz h0 rf hR t0 t1 t2 A cd pk r_10 hI6 (show 0 ≤ r_10.toInt ∧ r_10.toInt ≤ 15 from by first | decide | omega)) (cwV 1 hts (gdV ml_X10_215 im_X10_hasCells se_X10_X10_hasCells in_X10 co_X10_hasCells rfl) rfl rfl rfl (by decide +kernel) ⟨Nat.le_of_ble_eq_true rfl, Nat.le_of_ble_eq_true rfl⟩) hM (fun U hU hW => hK.go hW hS hAz hU) (va_recv hK.1 (va_one hM.1) (ci := 10) (q0 := 0) rfl rfl) rfl rfl hl.1 rfl (lv_room (Nat.le_of_ble_eq_true rfl)) dX10_replied_46 ⟨Nat.le_of_ble_eq_true rfl, Nat.le_of_ble_eq_true rfl⟩) hS (fun q _ h => h.elim) (fun q h => h.elim) (fun r_12 ur_12 t H locs ht hvm hwr_12 hB hz hk hS => ?_)
      have hM := hM.kept (fun q hq => hk q hq (fun h => h))
      have hDr_12 : D_X10_hasCells A cd pk r_10 r_12 := hwr_12.2
      have hpr_12_0 : r_12 = 0 ∨ r_12 = 1 := hwr_12.1
      have hzr_12 := s_rng hpr_12_0
      refine lv_if_ne (tgt := 53) hx hb dX10_replied_49 (by decide) (fun c_13 => ?_) (fun c_13 => ?_)
      · simp only [lt_I, le_I, eq_I, i_0, i_1, i_2, i_3, i_4, i_5, i_6, i_7, i_8, i_10, i_12, i_16, i_20, i_23, i_24, i_31, i_32, i_63, i_64, i_m1, i_9, i_11, i_13, i_25, i_60, i_75, i_79, i_80, i_96, i_100] at c_13
        refine lv_iconst (v := 4) hx hb dX10_replied_53 (by decide) ?_
        refine lv_aload_n hx hb dX10_replied_54 rfl (lv_at hl 1 rfl) ?_
        refine va_get (D := DG E) (ci := 10) (v := .ref (rf 29)) (C := RX10) (T := TX10) (N := 49) hx hb hts iw_X10 hown hK.1 (va_one hM.1) 0 rfl rfl 29 (by decide) (hts _ fl_X10_86) (fun _ h9 => h9) rfl dX10_replied_55 ?_
        refine lv_iload_n hx hb dX10_replied_58 rfl (lv_at hl 0 rfl) ?_
        have hi_14 : vp_in r_10 16 := vp_in_iff.mpr (by omega)
        have ha_15 : va_at (DG E) vwCl (rf 29, .inl (E.2.2 0, 16, .inl (A 29))) _ := hM.2 29 (by decide) (by decide) (by decide)
        refine va_iald (D := DG E) hx hb hK.1 (va_one ha_15) 0 0 rfl rfl hi_14 dX10_replied_59 ?_
        refine W.eq (g2 := F0 m 60 ls [.int ((A 29) (4 * n_1)), .int 4]) (by rw [en_11]) ?_
        refine lv_aload_n hx hb dX10_replied_60 rfl (lv_at hl 1 rfl) ?_
        refine va_get (D := DG E) (ci := 10) (v := .ref (rf 12)) (C := RX10) (T := TX10) (N := 49) hx hb hts iw_X10 hown hK.1 (va_one hM.1) 0 rfl rfl 12 (by decide) (hts _ fl_X10_34) (fun _ h9 => h9) rfl dX10_replied_61 ?_
        refine lv_iload_n hx hb dX10_replied_64 rfl (lv_at hl 2 rfl) ?_
        have ha_16 : va_at (DG E) vwCl (rf 12, .inl (E.2.2 0, 4, .inl (A 12))) _ := hM.2 12 (by decide) (by decide) (by decide)
        refine va_iald (D := DG E) hx hb hK.1 (va_one ha_16) 0 0 rfl rfl hi_3 dX10_replied_65 ?_
        refine W.eq (g2 := F0 m 66 ls [.int ((A 12) n_1), .int ((A 29) (4 * n_1)), .int 4]) (by rw [en_1]) ?_
        refine W.callR (W.runS (As := [.int ((A 29) (4 * n_1)), .int ((A 12) n_1)]) (rest := [.int 4]) ⟨hx, hb, hml, hown, hts⟩ (c_X10_far l (((A 29) (4 * n_1))) (((A 12) n_1))) (cwS 2 hts (gdS ml_X10_174 st_X10_far in_X10 co_X10_far rfl) rfl rfl rfl (by decide +kernel) ⟨Nat.le_of_ble_eq_true rfl, Nat.le_of_ble_eq_true rfl⟩) preEq rfl rfl hl.1 rfl (lv_room (Nat.le_of_ble_eq_true rfl)) dX10_replied_66 ⟨Nat.le_of_ble_eq_true rfl, Nat.le_of_ble_eq_true rfl⟩) ?_
        refine W.eq (g2 := F0 m 69 ls [.int (((((A 12) n_1) - ((A 29) (4 * n_1))) + 64) - ((((A 12) n_1) - ((A 29) (4 * n_1))) + 64) / 64 * 64), .int 4]) (by rfl) ?_
        refine lv_topi (fun x_17 ex_17 => ?_)
        have kx_17 : x_17.toInt = (farI ((A 29) (4 * n_1)) ((A 12) n_1)).toInt := by rw [ex_17]; rfl
        refine lv_imul hx hb dX10_replied_69 ?_
        refine lv_topi (fun x_18 ex_18 => ?_)
        have fx_18 : x_18.toInt = 4 * x_17.toInt := by rw [ex_18]; exact s_mulK i_4 (by omega) (by omega)
        refine lv_istore_n (lv' := [(3, .int x_18), (2, .int r_10), (0, .ref h0), (1, .int p0)]) hx hb dX10_replied_70 rfl hl (by decide) rfl (fun ls hl => ?_)
        refine lv_aload_n hx hb dX10_replied_71 rfl (lv_at hl 2 rfl) ?_
        refine va_get (D := DG E) (ci := 10) (v := .ref (rf 24)) (C := RX10) (T := TX10) (N := 49) hx hb hts iw_X10 hown hK.1 (va_one hM.1) 0 rfl rfl 24 (by decide) (hts _ fl_X10_71) (fun _ h9 => h9) rfl dX10_replied_72 ?_
        refine lv_iload_n hx hb dX10_replied_75 rfl (lv_at hl 1 rfl) ?_
        have ha_19 : va_at (DG E) vwCl (rf 24, .inl (E.2.2 0, 16, .inl (A 24))) _ := hM.2 24 (by decide) (by decide) (by decide)
        refine va_iald (D := DG E) hx hb hK.1 (va_one ha_19) 0 0 rfl rfl hi_14 dX10_replied_76 ?_
        refine W.eq (g2 := F0 m 77 ls [.int ((A 24) (4 * n_1))]) (by rw [en_11]) ?_
        have hk_20 : (4 * n_1) < 16 := by omega
        have q_21 : 0 ≤ ((A 24) (4 * n_1)).toInt := (hI6 (4 * n_1) hk_20).2.2.2.1
        have q_22 : ((A 24) (4 * n_1)).toInt ≤ 12 := (hI6 (4 * n_1) hk_20).2.2.2.2.1
        have q_23 : ((A 23) (4 * n_1)).toInt + ((A 24) (4 * n_1)).toInt ≤ 32 := (hI6 (4 * n_1) hk_20).2.2.2.2.2.1
        refine lv_iload_n hx hb dX10_replied_77 rfl (lv_at hl 0 rfl) ?_
        refine lv_isub hx hb dX10_replied_78 ?_
        refine lv_topi (fun x_24 ex_24 => ?_)
        have fx_24 : x_24.toInt = ((A 24) (4 * n_1)).toInt - x_18.toInt := by have h9 := s_sub (x := ((A 24) (4 * n_1))) (y := x_18) (by omega) (by omega); rw [ex_24]; exact h9
        refine lv_istore (lv' := [(4, .int x_24), (3, .int x_18), (2, .int r_10), (0, .ref h0), (1, .int p0)]) hx hb dX10_replied_79 hl (by decide) rfl (fun ls hl => ?_)
        refine lv_aload_n hx hb dX10_replied_81 rfl (lv_at hl 3 rfl) ?_
        refine lv_bipush (v := 32) hx hb dX10_replied_82 (by decide) ?_
        refine lv_iload_n hx hb dX10_replied_84 rfl (lv_at hl 4 rfl) ?_
        refine W.callR (W.runS (As := [.int p0]) (rest := [.int 32, .ref h0]) ⟨hx, hb, hml, hown, hts⟩ (c_X10_nodeOf l p0) (cwS 1 hts (gdS ml_X10_160 st_X10_nodeOf in_X10 co_X10_nodeOf rfl) rfl rfl rfl (by decide +kernel) ⟨Nat.le_of_ble_eq_true rfl, Nat.le_of_ble_eq_true rfl⟩) preEq rfl rfl hl.1 rfl (lv_room (Nat.le_of_ble_eq_true rfl)) dX10_replied_85 ⟨Nat.le_of_ble_eq_true rfl, Nat.le_of_ble_eq_true rfl⟩) ?_
        refine W.eq (g2 := F0 m 88 ls [.int (p0 - p0 / 2 * 2), .int 32, .ref h0]) (by rfl) ?_
        refine lv_topi (fun x_25 ex_25 => ?_)
        have fx_25 : x_25.toInt = p0.toInt % 2 := by rw [ex_25]; exact s_rem (x := p0) 2 (by decide) (by decide) (by omega)
        refine lv_imul hx hb dX10_replied_88 ?_
        refine lv_topi (fun x_26 ex_26 => ?_)
        have fx_26 : x_26.toInt = 32 * x_25.toInt := by rw [ex_26]; exact s_mulK i_32 (by omega) (by omega)
        refine lv_aload_n hx hb dX10_replied_89 rfl (lv_at hl 3 rfl) ?_
        refine va_get (D := DG E) (ci := 10) (v := .ref (rf 23)) (C := RX10) (T := TX10) (N := 49) hx hb hts iw_X10 hown hK.1 (va_one hM.1) 0 rfl rfl 23 (by decide) (hts _ fl_X10_68) (fun _ h9 => h9) rfl dX10_replied_90 ?_
        refine lv_iload_n hx hb dX10_replied_93 rfl (lv_at hl 2 rfl) ?_
        have ha_27 : va_at (DG E) vwCl (rf 23, .inl (E.2.2 0, 16, .inl (A 23))) _ := hM.2 23 (by decide) (by decide) (by decide)
        refine va_iald (D := DG E) hx hb hK.1 (va_one ha_27) 0 0 rfl rfl hi_14 dX10_replied_94 ?_
        refine W.eq (g2 := F0 m 95 ls [.int ((A 23) (4 * n_1)), .int x_26, .ref h0]) (by rw [en_11]) ?_
        have q_28 : 0 ≤ ((A 23) (4 * n_1)).toInt := (hI6 (4 * n_1) hk_20).2.2.1
        refine lv_iadd hx hb dX10_replied_95 ?_
        refine lv_topi (fun x_29 ex_29 => ?_)
        have fx_29 : x_29.toInt = x_26.toInt + ((A 23) (4 * n_1)).toInt := by have h9 := s_add (x := x_26) (y := ((A 23) (4 * n_1))) (by omega) (by omega); rw [ex_29]; exact h9
        refine lv_iload_n hx hb dX10_replied_96 rfl (lv_at hl 1 rfl) ?_
        refine lv_iadd hx hb dX10_replied_97 ?_
        refine lv_topi (fun x_30 ex_30 => ?_)
        have fx_30 : x_30.toInt = x_29.toInt + x_18.toInt := by have h9 := s_add (x := x_29) (y := x_18) (by omega) (by omega); rw [ex_30]; exact h9
        refine lv_aload_n hx hb dX10_replied_98 rfl (lv_at hl 3 rfl) ?_
        refine va_get (D := DG E) (ci := 10) (v := .ref (rf 44)) (C := RX10) (T := TX10) (N := 49) hx hb hts iw_X10 hown hK.1 (va_one hM.1) 0 rfl rfl 44 (by decide) (hts _ fl_X10_128) (fun _ h9 => h9) rfl dX10_replied_99 ?_
        refine lv_bipush (v := 24) hx hb dX10_replied_102 (by decide) ?_
        have ha_31 : va_at (DG E) vwCl (rf 44, .inl (E.2.2 0, 25, .inl (A 44))) _ := hM.2 44 (by decide) (by decide) (by decide)
        refine va_iald (D := DG E) hx hb hK.1 (va_one ha_31) 0 0 rfl rfl (show vp_in (24) 25 from vp_in_iff.mpr ⟨by decide, by decide⟩) dX10_replied_104 ?_
        refine W.eq (g2 := F0 m 105 ls [.int ((A 44) 24), .int x_30, .ref h0]) (by rfl) ?_
        have q_32 : 0 ≤ ((A 44) 24).toInt := (hI7 24 (by decide)).2.2.1
        have q_33 : ((A 44) 24).toInt ≤ 12 := (hI7 24 (by decide)).2.2.2.1
        have q_34 : (((A 42) 24).toInt ≠ 0 ∧ ((A 42) 24).toInt ≠ 1 ∧ ((A 42) 24).toInt ≠ 4 ∨ ((A 44) 24).toInt ≤ 4) := (hI7 24 (by decide)).2.2.2.2.1
        refine lv_iload hx hb dX10_replied_105 (lv_at hl 0 rfl) ?_
        refine lv_icmp_ge (tgt := 120) hx hb dX10_replied_107 (by decide) (fun c_35 => ?_) (fun c_35 => ?_)
        · simp only [lt_I, le_I, eq_I, i_0, i_1, i_2, i_3, i_4, i_5, i_6, i_7, i_8, i_10, i_12, i_16, i_20, i_23, i_24, i_31, i_32, i_63, i_64, i_m1, i_9, i_11, i_13, i_25, i_60, i_75, i_79, i_80, i_96, i_100] at c_35
          refine lv_iload hx hb dX10_replied_120 (lv_at hl 0 rfl) ?_
          refine va_callv (rnV (fun H => MH E h0 rf t0 t1 t2 A cd pk H) (As := [.int x_30, .int x_24]) (rest := []) ⟨hx, hb, hml, hown, hts⟩ (u_X10_takeCells l E z0 G hGz h0 rf hR t0 t1 t2 A cd pk x_30 x_24 (show 0 ≤ x_30.toInt ∧ x_30.toInt ≤ 64 from by first | decide | omega) (show 0 ≤ x_24.toInt ∧ x_24.toInt ≤ 4 from by first | decide | omega) (show x_30.toInt + x_24.toInt ≤ 64 from by first | decide | omega)) (cwV 2 hts (gdV ml_X10_228 im_X10_takeCells se_X10_X10_takeCells in_X10 co_X10_takeCells rfl) rfl rfl rfl (by decide +kernel) ⟨Nat.le_of_ble_eq_true rfl, Nat.le_of_ble_eq_true rfl⟩) hM (fun U hU hW => hK.go hW hS hAz hU) (va_recv hK.1 (va_one hM.1) (ci := 10) (q0 := 0) rfl rfl) rfl rfl hl.1 rfl (lv_room (Nat.le_of_ble_eq_true rfl)) dX10_replied_122 ⟨Nat.le_of_ble_eq_true rfl, Nat.le_of_ble_eq_true rfl⟩) hS (fun q _ h => h) (fun q h => h) (fun ur_36 t H locs ht hvm hwr_36 hB hz hk hS => ?_)
          have hM : MH E h0 rf t0 t1 t2 (uA A 4 ur_36) cd pk H := by rw [ht] at hB; exact hB
          have hDr_36 : D_X10_takeCells A cd pk x_30 x_24 (uA A 4 ur_36) cd pk := hwr_36
          refine lv_aload_n hx hb dX10_replied_125 rfl (lv_at hl 3 rfl) ?_
          refine lv_iload_n hx hb dX10_replied_126 rfl (lv_at hl 4 rfl) ?_
          refine va_callv (rnV (fun H => MH E h0 rf t0 t1 t2 (uA A 4 ur_36) cd pk H) (As := [.int p0]) (rest := []) ⟨hx, hb, hml, hown, hts⟩ (u_X10_answerOne l E z0 G hGz h0 rf hR t0 t1 t2 (uA A 4 ur_36) cd pk p0 hI3 hI4 hI6 hI8 (show 0 ≤ p0.toInt ∧ p0.toInt ≤ 3 from by first | decide | omega) (show ∀ n : Nat, (n : Int) = p0.toInt → ((A 10) n).toInt = 1 ∧ ((A 13) n).toInt ≠ ((A 12) n).toInt from (fun n hn => by
        obtain rfl : n_1 = n := by omega
        exact ⟨hst0, by omega⟩))) (cwV 1 hts (gdV ml_X10_218 im_X10_answerOne se_X10_X10_answerOne in_X10 co_X10_answerOne rfl) rfl rfl rfl (by decide +kernel) ⟨Nat.le_of_ble_eq_true rfl, Nat.le_of_ble_eq_true rfl⟩) hM (fun U hU hW => hK.go hW hS hAz hU) (va_recv hK.1 (va_one hM.1) (ci := 10) (q0 := 0) rfl rfl) rfl rfl hl.1 rfl (lv_room (Nat.le_of_ble_eq_true rfl)) dX10_replied_127 ⟨Nat.le_of_ble_eq_true rfl, Nat.le_of_ble_eq_true rfl⟩) hS (fun q _ h => h) (fun q h => h) (fun ur_37 t H locs ht hvm hwr_37 hB hz hk hS => ?_)
          have hM : MH E h0 rf t0 t1 t2 (uA (uA (uA (uA (uA (uA (uA (uA (uA (uA (uA (uA (uA (uA (uA (uA (uA A 4 ur_36) 8 (ur_37.1)) 9 (ur_37.2.1)) 12 (ur_37.2.2.1)) 15 (ur_37.2.2.2.1)) 16 (ur_37.2.2.2.2.1)) 17 (ur_37.2.2.2.2.2.1)) 18 (ur_37.2.2.2.2.2.2.1)) 20 (ur_37.2.2.2.2.2.2.2.1)) 22 (ur_37.2.2.2.2.2.2.2.2.1)) 23 (ur_37.2.2.2.2.2.2.2.2.2.1)) 24 (ur_37.2.2.2.2.2.2.2.2.2.2.1)) 25 (ur_37.2.2.2.2.2.2.2.2.2.2.2.1)) 26 (ur_37.2.2.2.2.2.2.2.2.2.2.2.2.1)) 27 (ur_37.2.2.2.2.2.2.2.2.2.2.2.2.2.1)) 28 (ur_37.2.2.2.2.2.2.2.2.2.2.2.2.2.2.1)) 29 (ur_37.2.2.2.2.2.2.2.2.2.2.2.2.2.2.2)) cd pk H := by rw [ht] at hB; exact hB
          have hDr_37 : D_X10_answerOne (uA A 4 ur_36) cd pk p0 (uA (uA (uA (uA (uA (uA (uA (uA (uA (uA (uA (uA (uA (uA (uA (uA (uA A 4 ur_36) 8 (ur_37.1)) 9 (ur_37.2.1)) 12 (ur_37.2.2.1)) 15 (ur_37.2.2.2.1)) 16 (ur_37.2.2.2.2.1)) 17 (ur_37.2.2.2.2.2.1)) 18 (ur_37.2.2.2.2.2.2.1)) 20 (ur_37.2.2.2.2.2.2.2.1)) 22 (ur_37.2.2.2.2.2.2.2.2.1)) 23 (ur_37.2.2.2.2.2.2.2.2.2.1)) 24 (ur_37.2.2.2.2.2.2.2.2.2.2.1)) 25 (ur_37.2.2.2.2.2.2.2.2.2.2.2.1)) 26 (ur_37.2.2.2.2.2.2.2.2.2.2.2.2.1)) 27 (ur_37.2.2.2.2.2.2.2.2.2.2.2.2.2.1)) 28 (ur_37.2.2.2.2.2.2.2.2.2.2.2.2.2.2.1)) 29 (ur_37.2.2.2.2.2.2.2.2.2.2.2.2.2.2.2)) cd pk := hwr_37.2.2.2.2.2
          have hpr_37_0 : I3 (ur_37.1) := hwr_37.1
          have hpr_37_1 : I4 (A 10) (ur_37.2.2.2.2.2.2.2.1) (ur_37.2.2.2.2.2.2.2.2.2.2.2.2.2.2.2) (ur_37.2.2.2.2.2.2.2.2.2.2.1) (A 11) (ur_37.2.2.1) (A 13) := hwr_37.2.1
          have hpr_37_2 : I6 (ur_37.2.2.2.2.2.2.2.2.1) (ur_37.2.2.2.2.2.2.2.2.2.1) (ur_37.2.2.2.2.2.2.2.2.2.2.1) (ur_37.2.2.2.2.2.2.2.2.2.2.2.1) (ur_37.2.2.2.2.2.2.2.2.2.2.2.2.1) := hwr_37.2.2.1
          have hpr_37_3 : I8 (ur_37.2.2.2.2.2.2.2.1) (A 30) (A 37) (A 36) := hwr_37.2.2.2.1
          have hpr_37_4 : ∀ n : Nat, (n : Int) = p0.toInt → (farI ((ur_37.2.2.1) n) ((A 13) n)).toInt = (farI ((A 12) n) ((A 13) n)).toInt - 1 := hwr_37.2.2.2.2.1
          have iahpr_37_4 := hpr_37_4 n_1 (by omega)
          exact W.vret hx hb hr (fun t ht hW => ⟨⟨(ur_36, (ur_37.1), (ur_37.2.1), (ur_37.2.2.1), (ur_37.2.2.2.1), (ur_37.2.2.2.2.1), (ur_37.2.2.2.2.2.1), (ur_37.2.2.2.2.2.2.1), (ur_37.2.2.2.2.2.2.2.1), (ur_37.2.2.2.2.2.2.2.2.1), (ur_37.2.2.2.2.2.2.2.2.2.1), (ur_37.2.2.2.2.2.2.2.2.2.2.1), (ur_37.2.2.2.2.2.2.2.2.2.2.2.1), (ur_37.2.2.2.2.2.2.2.2.2.2.2.2.1), (ur_37.2.2.2.2.2.2.2.2.2.2.2.2.2.1), (ur_37.2.2.2.2.2.2.2.2.2.2.2.2.2.2.1), (ur_37.2.2.2.2.2.2.2.2.2.2.2.2.2.2.2)), rfl, ⟨hpr_37_0, hpr_37_1, hpr_37_2, hpr_37_3, (Or.inr (Or.inl ⟨n_1, hn_1, c_5, c_8, r_10, hpr_10_0, hpr_10_1, hn_11, r_12, hDr_12, hpr_12_0, c_13, x_17, ex_17, x_18, ex_18, fx_18, x_24, ex_24, fx_24, x_25, ex_25, fx_25, x_26, ex_26, fx_26, x_29, ex_29, fx_29, x_30, ex_30, fx_30, c_35, ur_36, hDr_36, ur_37, hDr_37, hpr_37_0, hpr_37_1, hpr_37_2, hpr_37_3, hpr_37_4, rfl, rfl, rfl⟩))⟩, (by show MH E h0 rf t0 t1 t2 (uA (uA (uA (uA (uA (uA (uA (uA (uA (uA (uA (uA (uA (uA (uA (uA (uA A 4 ur_36) 8 (ur_37.1)) 9 (ur_37.2.1)) 12 (ur_37.2.2.1)) 15 (ur_37.2.2.2.1)) 16 (ur_37.2.2.2.2.1)) 17 (ur_37.2.2.2.2.2.1)) 18 (ur_37.2.2.2.2.2.2.1)) 20 (ur_37.2.2.2.2.2.2.2.1)) 22 (ur_37.2.2.2.2.2.2.2.2.1)) 23 (ur_37.2.2.2.2.2.2.2.2.2.1)) 24 (ur_37.2.2.2.2.2.2.2.2.2.2.1)) 25 (ur_37.2.2.2.2.2.2.2.2.2.2.2.1)) 26 (ur_37.2.2.2.2.2.2.2.2.2.2.2.2.1)) 27 (ur_37.2.2.2.2.2.2.2.2.2.2.2.2.2.1)) 28 (ur_37.2.2.2.2.2.2.2.2.2.2.2.2.2.2.1)) 29 (ur_37.2.2.2.2.2.2.2.2.2.2.2.2.2.2.2)) cd pk t.heap; rw [ht]; exact hM)⟩, hS.F ht⟩) hS.2.2 dX10_replied_130
        · simp only [lt_I, le_I, eq_I, i_0, i_1, i_2, i_3, i_4, i_5, i_6, i_7, i_8, i_10, i_12, i_16, i_20, i_23, i_24, i_31, i_32, i_63, i_64, i_m1, i_9, i_11, i_13, i_25, i_60, i_75, i_79, i_80, i_96, i_100] at c_35
          refine lv_aload_n hx hb dX10_replied_110 rfl (lv_at hl 3 rfl) ?_
          refine va_get (D := DG E) (ci := 10) (v := .ref (rf 44)) (C := RX10) (T := TX10) (N := 49) hx hb hts iw_X10 hown hK.1 (va_one hM.1) 0 rfl rfl 44 (by decide) (hts _ fl_X10_128) (fun _ h9 => h9) rfl dX10_replied_111 ?_
          refine lv_bipush (v := 24) hx hb dX10_replied_114 (by decide) ?_
          have ha_38 : va_at (DG E) vwCl (rf 44, .inl (E.2.2 0, 25, .inl (A 44))) _ := hM.2 44 (by decide) (by decide) (by decide)
          refine va_iald (D := DG E) hx hb hK.1 (va_one ha_38) 0 0 rfl rfl (show vp_in (24) 25 from vp_in_iff.mpr ⟨by decide, by decide⟩) dX10_replied_116 ?_
          refine W.eq (g2 := F0 m 117 ls [.int ((A 44) 24), .int x_30, .ref h0]) (by rfl) ?_
          refine lv_goto (tgt := 122) hx hb dX10_replied_117 (by decide) ?_
          refine va_callv (rnV (fun H => MH E h0 rf t0 t1 t2 A cd pk H) (As := [.int x_30, .int ((A 44) 24)]) (rest := []) ⟨hx, hb, hml, hown, hts⟩ (u_X10_takeCells l E z0 G hGz h0 rf hR t0 t1 t2 A cd pk x_30 ((A 44) 24) (show 0 ≤ x_30.toInt ∧ x_30.toInt ≤ 64 from by first | decide | omega) (show 0 ≤ ((A 44) 24).toInt ∧ ((A 44) 24).toInt ≤ 4 from by first | decide | omega) (show x_30.toInt + ((A 44) 24).toInt ≤ 64 from by first | decide | omega)) (cwV 2 hts (gdV ml_X10_228 im_X10_takeCells se_X10_X10_takeCells in_X10 co_X10_takeCells rfl) rfl rfl rfl (by decide +kernel) ⟨Nat.le_of_ble_eq_true rfl, Nat.le_of_ble_eq_true rfl⟩) hM (fun U hU hW => hK.go hW hS hAz hU) (va_recv hK.1 (va_one hM.1) (ci := 10) (q0 := 0) rfl rfl) rfl rfl hl.1 rfl (lv_room (Nat.le_of_ble_eq_true rfl)) dX10_replied_122 ⟨Nat.le_of_ble_eq_true rfl, Nat.le_of_ble_eq_true rfl⟩) hS (fun q _ h => h) (fun q h => h) (fun ur_39 t H locs ht hvm hwr_39 hB hz hk hS => ?_)
          have hM : MH E h0 rf t0 t1 t2 (uA A 4 ur_39) cd pk H := by rw [ht] at hB; exact hB
          have hDr_39 : D_X10_takeCells A cd pk x_30 ((A 44) 24) (uA A 4 ur_39) cd pk := hwr_39
          refine lv_aload_n hx hb dX10_replied_125 rfl (lv_at hl 3 rfl) ?_
          refine lv_iload_n hx hb dX10_replied_126 rfl (lv_at hl 4 rfl) ?_
          refine va_callv (rnV (fun H => MH E h0 rf t0 t1 t2 (uA A 4 ur_39) cd pk H) (As := [.int p0]) (rest := []) ⟨hx, hb, hml, hown, hts⟩ (u_X10_answerOne l E z0 G hGz h0 rf hR t0 t1 t2 (uA A 4 ur_39) cd pk p0 hI3 hI4 hI6 hI8 (show 0 ≤ p0.toInt ∧ p0.toInt ≤ 3 from by first | decide | omega) (show ∀ n : Nat, (n : Int) = p0.toInt → ((A 10) n).toInt = 1 ∧ ((A 13) n).toInt ≠ ((A 12) n).toInt from (fun n hn => by
        obtain rfl : n_1 = n := by omega
        exact ⟨hst0, by omega⟩))) (cwV 1 hts (gdV ml_X10_218 im_X10_answerOne se_X10_X10_answerOne in_X10 co_X10_answerOne rfl) rfl rfl rfl (by decide +kernel) ⟨Nat.le_of_ble_eq_true rfl, Nat.le_of_ble_eq_true rfl⟩) hM (fun U hU hW => hK.go hW hS hAz hU) (va_recv hK.1 (va_one hM.1) (ci := 10) (q0 := 0) rfl rfl) rfl rfl hl.1 rfl (lv_room (Nat.le_of_ble_eq_true rfl)) dX10_replied_127 ⟨Nat.le_of_ble_eq_true rfl, Nat.le_of_ble_eq_true rfl⟩) hS (fun q _ h => h) (fun q h => h) (fun ur_40 t H locs ht hvm hwr_40 hB hz hk hS => ?_)
          have hM : MH E h0 rf t0 t1 t2 (uA (uA (uA (uA (uA (uA (uA (uA (uA (uA (uA (uA (uA (uA (uA (uA (uA A 4 ur_39) 8 (ur_40.1)) 9 (ur_40.2.1)) 12 (ur_40.2.2.1)) 15 (ur_40.2.2.2.1)) 16 (ur_40.2.2.2.2.1)) 17 (ur_40.2.2.2.2.2.1)) 18 (ur_40.2.2.2.2.2.2.1)) 20 (ur_40.2.2.2.2.2.2.2.1)) 22 (ur_40.2.2.2.2.2.2.2.2.1)) 23 (ur_40.2.2.2.2.2.2.2.2.2.1)) 24 (ur_40.2.2.2.2.2.2.2.2.2.2.1)) 25 (ur_40.2.2.2.2.2.2.2.2.2.2.2.1)) 26 (ur_40.2.2.2.2.2.2.2.2.2.2.2.2.1)) 27 (ur_40.2.2.2.2.2.2.2.2.2.2.2.2.2.1)) 28 (ur_40.2.2.2.2.2.2.2.2.2.2.2.2.2.2.1)) 29 (ur_40.2.2.2.2.2.2.2.2.2.2.2.2.2.2.2)) cd pk H := by rw [ht] at hB; exact hB
          have hDr_40 : D_X10_answerOne (uA A 4 ur_39) cd pk p0 (uA (uA (uA (uA (uA (uA (uA (uA (uA (uA (uA (uA (uA (uA (uA (uA (uA A 4 ur_39) 8 (ur_40.1)) 9 (ur_40.2.1)) 12 (ur_40.2.2.1)) 15 (ur_40.2.2.2.1)) 16 (ur_40.2.2.2.2.1)) 17 (ur_40.2.2.2.2.2.1)) 18 (ur_40.2.2.2.2.2.2.1)) 20 (ur_40.2.2.2.2.2.2.2.1)) 22 (ur_40.2.2.2.2.2.2.2.2.1)) 23 (ur_40.2.2.2.2.2.2.2.2.2.1)) 24 (ur_40.2.2.2.2.2.2.2.2.2.2.1)) 25 (ur_40.2.2.2.2.2.2.2.2.2.2.2.1)) 26 (ur_40.2.2.2.2.2.2.2.2.2.2.2.2.1)) 27 (ur_40.2.2.2.2.2.2.2.2.2.2.2.2.2.1)) 28 (ur_40.2.2.2.2.2.2.2.2.2.2.2.2.2.2.1)) 29 (ur_40.2.2.2.2.2.2.2.2.2.2.2.2.2.2.2)) cd pk := hwr_40.2.2.2.2.2
          have hpr_40_0 : I3 (ur_40.1) := hwr_40.1
          have hpr_40_1 : I4 (A 10) (ur_40.2.2.2.2.2.2.2.1) (ur_40.2.2.2.2.2.2.2.2.2.2.2.2.2.2.2) (ur_40.2.2.2.2.2.2.2.2.2.2.1) (A 11) (ur_40.2.2.1) (A 13) := hwr_40.2.1
          have hpr_40_2 : I6 (ur_40.2.2.2.2.2.2.2.2.1) (ur_40.2.2.2.2.2.2.2.2.2.1) (ur_40.2.2.2.2.2.2.2.2.2.2.1) (ur_40.2.2.2.2.2.2.2.2.2.2.2.1) (ur_40.2.2.2.2.2.2.2.2.2.2.2.2.1) := hwr_40.2.2.1
          have hpr_40_3 : I8 (ur_40.2.2.2.2.2.2.2.1) (A 30) (A 37) (A 36) := hwr_40.2.2.2.1
          have hpr_40_4 : ∀ n : Nat, (n : Int) = p0.toInt → (farI ((ur_40.2.2.1) n) ((A 13) n)).toInt = (farI ((A 12) n) ((A 13) n)).toInt - 1 := hwr_40.2.2.2.2.1
          have iahpr_40_4 := hpr_40_4 n_1 (by omega)
          exact W.vret hx hb hr (fun t ht hW => ⟨⟨(ur_39, (ur_40.1), (ur_40.2.1), (ur_40.2.2.1), (ur_40.2.2.2.1), (ur_40.2.2.2.2.1), (ur_40.2.2.2.2.2.1), (ur_40.2.2.2.2.2.2.1), (ur_40.2.2.2.2.2.2.2.1), (ur_40.2.2.2.2.2.2.2.2.1), (ur_40.2.2.2.2.2.2.2.2.2.1), (ur_40.2.2.2.2.2.2.2.2.2.2.1), (ur_40.2.2.2.2.2.2.2.2.2.2.2.1), (ur_40.2.2.2.2.2.2.2.2.2.2.2.2.1), (ur_40.2.2.2.2.2.2.2.2.2.2.2.2.2.1), (ur_40.2.2.2.2.2.2.2.2.2.2.2.2.2.2.1), (ur_40.2.2.2.2.2.2.2.2.2.2.2.2.2.2.2)), rfl, ⟨hpr_40_0, hpr_40_1, hpr_40_2, hpr_40_3, (Or.inr (Or.inr (Or.inl ⟨n_1, hn_1, c_5, c_8, r_10, hpr_10_0, hpr_10_1, hn_11, r_12, hDr_12, hpr_12_0, c_13, x_17, ex_17, x_18, ex_18, fx_18, x_24, ex_24, fx_24, x_25, ex_25, fx_25, x_26, ex_26, fx_26, x_29, ex_29, fx_29, x_30, ex_30, fx_30, c_35, ur_39, hDr_39, ur_40, hDr_40, hpr_40_0, hpr_40_1, hpr_40_2, hpr_40_3, hpr_40_4, rfl, rfl, rfl⟩)))⟩, (by show MH E h0 rf t0 t1 t2 (uA (uA (uA (uA (uA (uA (uA (uA (uA (uA (uA (uA (uA (uA (uA (uA (uA A 4 ur_39) 8 (ur_40.1)) 9 (ur_40.2.1)) 12 (ur_40.2.2.1)) 15 (ur_40.2.2.2.1)) 16 (ur_40.2.2.2.2.1)) 17 (ur_40.2.2.2.2.2.1)) 18 (ur_40.2.2.2.2.2.2.1)) 20 (ur_40.2.2.2.2.2.2.2.1)) 22 (ur_40.2.2.2.2.2.2.2.2.1)) 23 (ur_40.2.2.2.2.2.2.2.2.2.1)) 24 (ur_40.2.2.2.2.2.2.2.2.2.2.1)) 25 (ur_40.2.2.2.2.2.2.2.2.2.2.2.1)) 26 (ur_40.2.2.2.2.2.2.2.2.2.2.2.2.1)) 27 (ur_40.2.2.2.2.2.2.2.2.2.2.2.2.2.1)) 28 (ur_40.2.2.2.2.2.2.2.2.2.2.2.2.2.2.1)) 29 (ur_40.2.2.2.2.2.2.2.2.2.2.2.2.2.2.2)) cd pk t.heap; rw [ht]; exact hM)⟩, hS.F ht⟩) hS.2.2 dX10_replied_130
      · simp only [lt_I, le_I, eq_I, i_0, i_1, i_2, i_3, i_4, i_5, i_6, i_7, i_8, i_10, i_12, i_16, i_20, i_23, i_24, i_31, i_32, i_63, i_64, i_m1, i_9, i_11, i_13, i_25, i_60, i_75, i_79, i_80, i_96, i_100] at c_13
        exact W.vret hx hb hr (fun t ht hW => ⟨⟨((A 4), (A 8), (A 9), (A 12), (A 15), (A 16), (A 17), (A 18), (A 20), (A 22), (A 23), (A 24), (A 25), (A 26), (A 27), (A 28), (A 29)), rfl, ⟨hI3, hI4, hI6, hI8, (Or.inr (Or.inr (Or.inr (Or.inl ⟨n_1, hn_1, c_5, c_8, r_10, hpr_10_0, hpr_10_1, hn_11, r_12, hDr_12, hpr_12_0, c_13, rfl, rfl, rfl⟩))))⟩, (by show MH E h0 rf t0 t1 t2 (uA (uA (uA (uA (uA (uA (uA (uA (uA (uA (uA (uA (uA (uA (uA (uA (uA A 4 (A 4)) 8 (A 8)) 9 (A 9)) 12 (A 12)) 15 (A 15)) 16 (A 16)) 17 (A 17)) 18 (A 18)) 20 (A 20)) 22 (A 22)) 23 (A 23)) 24 (A 24)) 25 (A 25)) 26 (A 26)) 27 (A 27)) 28 (A 28)) 29 (A 29)) cd pk t.heap; rw [ht]; exact hM.cge (funext fun j => (cgj j 29 rfl (fun a0 => (cgj j 28 rfl (fun a1 => (cgj j 27 rfl (fun a2 => (cgj j 26 rfl (fun a3 => (cgj j 25 rfl (fun a4 => (cgj j 24 rfl (fun a5 => (cgj j 23 rfl (fun a6 => (cgj j 22 rfl (fun a7 => (cgj j 20 rfl (fun a8 => (cgj j 18 rfl (fun a9 => (cgj j 17 rfl (fun a10 => (cgj j 16 rfl (fun a11 => (cgj j 15 rfl (fun a12 => (cgj j 12 rfl (fun a13 => (cgj j 9 rfl (fun a14 => (cgj j 8 rfl (fun a15 => (cgj j 4 rfl (fun a16 => (by simp only [uA_n a0, uA_n a1, uA_n a2, uA_n a3, uA_n a4, uA_n a5, uA_n a6, uA_n a7, uA_n a8, uA_n a9, uA_n a10, uA_n a11, uA_n a12, uA_n a13, uA_n a14, uA_n a15, uA_n a16])))))))))))))))))))))))))))))))))))))⟩, hS.F ht⟩) hS.2.2 dX10_replied_52
    · simp only [lt_I, le_I, eq_I, i_0, i_1, i_2, i_3, i_4, i_5, i_6, i_7, i_8, i_10, i_12, i_16, i_20, i_23, i_24, i_31, i_32, i_63, i_64, i_m1, i_9, i_11, i_13, i_25, i_60, i_75, i_79, i_80, i_96, i_100] at c_8
      exact W.vret hx hb hr (fun t ht hW => ⟨⟨((A 4), (A 8), (A 9), (A 12), (A 15), (A 16), (A 17), (A 18), (A 20), (A 22), (A 23), (A 24), (A 25), (A 26), (A 27), (A 28), (A 29)), rfl, ⟨hI3, hI4, hI6, hI8, (Or.inr (Or.inr (Or.inr (Or.inr ⟨n_1, hn_1, c_5, c_8, rfl, rfl, rfl⟩))))⟩, (by show MH E h0 rf t0 t1 t2 (uA (uA (uA (uA (uA (uA (uA (uA (uA (uA (uA (uA (uA (uA (uA (uA (uA A 4 (A 4)) 8 (A 8)) 9 (A 9)) 12 (A 12)) 15 (A 15)) 16 (A 16)) 17 (A 17)) 18 (A 18)) 20 (A 20)) 22 (A 22)) 23 (A 23)) 24 (A 24)) 25 (A 25)) 26 (A 26)) 27 (A 27)) 28 (A 28)) 29 (A 29)) cd pk t.heap; rw [ht]; exact hM.cge (funext fun j => (cgj j 29 rfl (fun a0 => (cgj j 28 rfl (fun a1 => (cgj j 27 rfl (fun a2 => (cgj j 26 rfl (fun a3 => (cgj j 25 rfl (fun a4 => (cgj j 24 rfl (fun a5 => (cgj j 23 rfl (fun a6 => (cgj j 22 rfl (fun a7 => (cgj j 20 rfl (fun a8 => (cgj j 18 rfl (fun a9 => (cgj j 17 rfl (fun a10 => (cgj j 16 rfl (fun a11 => (cgj j 15 rfl (fun a12 => (cgj j 12 rfl (fun a13 => (cgj j 9 rfl (fun a14 => (cgj j 8 rfl (fun a15 => (cgj j 4 rfl (fun a16 => (by simp only [uA_n a0, uA_n a1, uA_n a2, uA_n a3, uA_n a4, uA_n a5, uA_n a6, uA_n a7, uA_n a8, uA_n a9, uA_n a10, uA_n a11, uA_n a12, uA_n a13, uA_n a14, uA_n a15, uA_n a16])))))))))))))))))))))))))))))))))))))⟩, hS.F ht⟩) hS.2.2 dX10_replied_31
theorem gdX10_refused_0 : (decode cX10_refused 0 = .ok (.aload_n 0, 1)) ∧ (decode cX10_refused 1 = .ok (.getfield 34, 3)) ∧ (decode cX10_refused 4 = .ok (.iload_n 1, 1)) ∧ (decode cX10_refused 5 = .ok (.iaload, 1)) ∧ (decode cX10_refused 6 = .ok (.aload_n 0, 1)) ∧ (decode cX10_refused 7 = .ok (.getfield 125, 3)) ∧ (decode cX10_refused 10 = .ok (.bipush 24, 2)) ∧ (decode cX10_refused 12 = .ok (.iaload, 1)) ∧ (decode cX10_refused 13 = .ok (.invokestatic 174, 3)) ∧ (decode cX10_refused 16 = .ok (.istore_n 2, 1)) ∧ (decode cX10_refused 17 = .ok (.aload_n 0, 1)) ∧ (decode cX10_refused 18 = .ok (.getfield 131, 3)) ∧ (decode cX10_refused 21 = .ok (.bipush 24, 2)) ∧ (decode cX10_refused 23 = .ok (.iaload, 1)) ∧ (decode cX10_refused 24 = .ok (.istore_n 3, 1)) ∧ (decode cX10_refused 25 = .ok (.iload_n 2, 1)) := by decide +kernel
theorem dX10_refused_0 : decode cX10_refused 0 = .ok (.aload_n 0, 1) := gdX10_refused_0.1
theorem dX10_refused_1 : decode cX10_refused 1 = .ok (.getfield 34, 3) := gdX10_refused_0.2.1
theorem dX10_refused_4 : decode cX10_refused 4 = .ok (.iload_n 1, 1) := gdX10_refused_0.2.2.1
theorem dX10_refused_5 : decode cX10_refused 5 = .ok (.iaload, 1) := gdX10_refused_0.2.2.2.1
theorem dX10_refused_6 : decode cX10_refused 6 = .ok (.aload_n 0, 1) := gdX10_refused_0.2.2.2.2.1
theorem dX10_refused_7 : decode cX10_refused 7 = .ok (.getfield 125, 3) := gdX10_refused_0.2.2.2.2.2.1
theorem dX10_refused_10 : decode cX10_refused 10 = .ok (.bipush 24, 2) := gdX10_refused_0.2.2.2.2.2.2.1
theorem dX10_refused_12 : decode cX10_refused 12 = .ok (.iaload, 1) := gdX10_refused_0.2.2.2.2.2.2.2.1
theorem dX10_refused_13 : decode cX10_refused 13 = .ok (.invokestatic 174, 3) := gdX10_refused_0.2.2.2.2.2.2.2.2.1
theorem dX10_refused_16 : decode cX10_refused 16 = .ok (.istore_n 2, 1) := gdX10_refused_0.2.2.2.2.2.2.2.2.2.1
theorem dX10_refused_17 : decode cX10_refused 17 = .ok (.aload_n 0, 1) := gdX10_refused_0.2.2.2.2.2.2.2.2.2.2.1
theorem dX10_refused_18 : decode cX10_refused 18 = .ok (.getfield 131, 3) := gdX10_refused_0.2.2.2.2.2.2.2.2.2.2.2.1
theorem dX10_refused_21 : decode cX10_refused 21 = .ok (.bipush 24, 2) := gdX10_refused_0.2.2.2.2.2.2.2.2.2.2.2.2.1
theorem dX10_refused_23 : decode cX10_refused 23 = .ok (.iaload, 1) := gdX10_refused_0.2.2.2.2.2.2.2.2.2.2.2.2.2.1
theorem dX10_refused_24 : decode cX10_refused 24 = .ok (.istore_n 3, 1) := gdX10_refused_0.2.2.2.2.2.2.2.2.2.2.2.2.2.2.1
theorem dX10_refused_25 : decode cX10_refused 25 = .ok (.iload_n 2, 1) := gdX10_refused_0.2.2.2.2.2.2.2.2.2.2.2.2.2.2.2
theorem gdX10_refused_26 : (decode cX10_refused 26 = .ok (.aload_n 0, 1)) ∧ (decode cX10_refused 27 = .ok (.getfield 34, 3)) ∧ (decode cX10_refused 30 = .ok (.iload_n 1, 1)) ∧ (decode cX10_refused 31 = .ok (.iaload, 1)) ∧ (decode cX10_refused 32 = .ok (.aload_n 0, 1)) ∧ (decode cX10_refused 33 = .ok (.getfield 37, 3)) ∧ (decode cX10_refused 36 = .ok (.iload_n 1, 1)) ∧ (decode cX10_refused 37 = .ok (.iaload, 1)) ∧ (decode cX10_refused 38 = .ok (.invokestatic 174, 3)) ∧ (decode cX10_refused 41 = .ok (.if_icmp .lt 4, 3)) ∧ (decode cX10_refused 44 = .ok (.return_, 1)) ∧ (decode cX10_refused 45 = .ok (.aload_n 0, 1)) ∧ (decode cX10_refused 46 = .ok (.iload_n 1, 1)) ∧ (decode cX10_refused 47 = .ok (.iload_n 2, 1)) ∧ (decode cX10_refused 48 = .ok (.invokevirtual 262, 3)) ∧ (decode cX10_refused 51 = .ok (.aload_n 0, 1)) := by decide +kernel
theorem dX10_refused_26 : decode cX10_refused 26 = .ok (.aload_n 0, 1) := gdX10_refused_26.1
theorem dX10_refused_27 : decode cX10_refused 27 = .ok (.getfield 34, 3) := gdX10_refused_26.2.1
theorem dX10_refused_30 : decode cX10_refused 30 = .ok (.iload_n 1, 1) := gdX10_refused_26.2.2.1
theorem dX10_refused_31 : decode cX10_refused 31 = .ok (.iaload, 1) := gdX10_refused_26.2.2.2.1
theorem dX10_refused_32 : decode cX10_refused 32 = .ok (.aload_n 0, 1) := gdX10_refused_26.2.2.2.2.1
theorem dX10_refused_33 : decode cX10_refused 33 = .ok (.getfield 37, 3) := gdX10_refused_26.2.2.2.2.2.1
theorem dX10_refused_36 : decode cX10_refused 36 = .ok (.iload_n 1, 1) := gdX10_refused_26.2.2.2.2.2.2.1
theorem dX10_refused_37 : decode cX10_refused 37 = .ok (.iaload, 1) := gdX10_refused_26.2.2.2.2.2.2.2.1
theorem dX10_refused_38 : decode cX10_refused 38 = .ok (.invokestatic 174, 3) := gdX10_refused_26.2.2.2.2.2.2.2.2.1
theorem dX10_refused_41 : decode cX10_refused 41 = .ok (.if_icmp .lt 4, 3) := gdX10_refused_26.2.2.2.2.2.2.2.2.2.1
theorem dX10_refused_44 : decode cX10_refused 44 = .ok (.return_, 1) := gdX10_refused_26.2.2.2.2.2.2.2.2.2.2.1
theorem dX10_refused_45 : decode cX10_refused 45 = .ok (.aload_n 0, 1) := gdX10_refused_26.2.2.2.2.2.2.2.2.2.2.2.1
theorem dX10_refused_46 : decode cX10_refused 46 = .ok (.iload_n 1, 1) := gdX10_refused_26.2.2.2.2.2.2.2.2.2.2.2.2.1
theorem dX10_refused_47 : decode cX10_refused 47 = .ok (.iload_n 2, 1) := gdX10_refused_26.2.2.2.2.2.2.2.2.2.2.2.2.2.1
theorem dX10_refused_48 : decode cX10_refused 48 = .ok (.invokevirtual 262, 3) := gdX10_refused_26.2.2.2.2.2.2.2.2.2.2.2.2.2.2.1
theorem dX10_refused_51 : decode cX10_refused 51 = .ok (.aload_n 0, 1) := gdX10_refused_26.2.2.2.2.2.2.2.2.2.2.2.2.2.2.2
theorem gdX10_refused_52 : (decode cX10_refused 52 = .ok (.getfield 125, 3)) ∧ (decode cX10_refused 55 = .ok (.bipush 24, 2)) ∧ (decode cX10_refused 57 = .ok (.iaload, 1)) ∧ (decode cX10_refused 58 = .ok (.aload_n 0, 1)) ∧ (decode cX10_refused 59 = .ok (.getfield 34, 3)) ∧ (decode cX10_refused 62 = .ok (.iload_n 1, 1)) ∧ (decode cX10_refused 63 = .ok (.iaload, 1)) ∧ (decode cX10_refused 64 = .ok (.if_icmp .eq 4, 3)) ∧ (decode cX10_refused 67 = .ok (.return_, 1)) ∧ (decode cX10_refused 68 = .ok (.iload_n 3, 1)) ∧ (decode cX10_refused 69 = .ok (.iconst 3, 1)) ∧ (decode cX10_refused 70 = .ok (.if_icmp .lt 11, 3)) ∧ (decode cX10_refused 73 = .ok (.aload_n 0, 1)) ∧ (decode cX10_refused 74 = .ok (.iload_n 1, 1)) ∧ (decode cX10_refused 75 = .ok (.iload_n 3, 1)) ∧ (decode cX10_refused 76 = .ok (.iconst 0, 1)) := by decide +kernel
theorem dX10_refused_52 : decode cX10_refused 52 = .ok (.getfield 125, 3) := gdX10_refused_52.1
theorem dX10_refused_55 : decode cX10_refused 55 = .ok (.bipush 24, 2) := gdX10_refused_52.2.1
theorem dX10_refused_57 : decode cX10_refused 57 = .ok (.iaload, 1) := gdX10_refused_52.2.2.1
theorem dX10_refused_58 : decode cX10_refused 58 = .ok (.aload_n 0, 1) := gdX10_refused_52.2.2.2.1
theorem dX10_refused_59 : decode cX10_refused 59 = .ok (.getfield 34, 3) := gdX10_refused_52.2.2.2.2.1
theorem dX10_refused_62 : decode cX10_refused 62 = .ok (.iload_n 1, 1) := gdX10_refused_52.2.2.2.2.2.1
theorem dX10_refused_63 : decode cX10_refused 63 = .ok (.iaload, 1) := gdX10_refused_52.2.2.2.2.2.2.1
theorem dX10_refused_64 : decode cX10_refused 64 = .ok (.if_icmp .eq 4, 3) := gdX10_refused_52.2.2.2.2.2.2.2.1
theorem dX10_refused_67 : decode cX10_refused 67 = .ok (.return_, 1) := gdX10_refused_52.2.2.2.2.2.2.2.2.1
theorem dX10_refused_68 : decode cX10_refused 68 = .ok (.iload_n 3, 1) := gdX10_refused_52.2.2.2.2.2.2.2.2.2.1
theorem dX10_refused_69 : decode cX10_refused 69 = .ok (.iconst 3, 1) := gdX10_refused_52.2.2.2.2.2.2.2.2.2.2.1
theorem dX10_refused_70 : decode cX10_refused 70 = .ok (.if_icmp .lt 11, 3) := gdX10_refused_52.2.2.2.2.2.2.2.2.2.2.2.1
theorem dX10_refused_73 : decode cX10_refused 73 = .ok (.aload_n 0, 1) := gdX10_refused_52.2.2.2.2.2.2.2.2.2.2.2.2.1
theorem dX10_refused_74 : decode cX10_refused 74 = .ok (.iload_n 1, 1) := gdX10_refused_52.2.2.2.2.2.2.2.2.2.2.2.2.2.1
theorem dX10_refused_75 : decode cX10_refused 75 = .ok (.iload_n 3, 1) := gdX10_refused_52.2.2.2.2.2.2.2.2.2.2.2.2.2.2.1
theorem dX10_refused_76 : decode cX10_refused 76 = .ok (.iconst 0, 1) := gdX10_refused_52.2.2.2.2.2.2.2.2.2.2.2.2.2.2.2
theorem gdX10_refused_77 : (decode cX10_refused 77 = .ok (.invokevirtual 221, 3)) ∧ (decode cX10_refused 80 = .ok (.return_, 1)) ∧ (decode cX10_refused 81 = .ok (.aload_n 0, 1)) ∧ (decode cX10_refused 82 = .ok (.getfield 37, 3)) ∧ (decode cX10_refused 85 = .ok (.iload_n 1, 1)) ∧ (decode cX10_refused 86 = .ok (.aload_n 0, 1)) ∧ (decode cX10_refused 87 = .ok (.getfield 34, 3)) ∧ (decode cX10_refused 90 = .ok (.iload_n 1, 1)) ∧ (decode cX10_refused 91 = .ok (.iaload, 1)) ∧ (decode cX10_refused 92 = .ok (.iastore, 1)) ∧ (decode cX10_refused 93 = .ok (.iload_n 3, 1)) ∧ (decode cX10_refused 94 = .ok (.iconst 1, 1)) ∧ (decode cX10_refused 95 = .ok (.if_icmp .ne 4, 3)) ∧ (decode cX10_refused 98 = .ok (.return_, 1)) ∧ (decode cX10_refused 99 = .ok (.aload_n 0, 1)) ∧ (decode cX10_refused 100 = .ok (.getfield 52, 3)) := by decide +kernel
theorem dX10_refused_77 : decode cX10_refused 77 = .ok (.invokevirtual 221, 3) := gdX10_refused_77.1
theorem dX10_refused_80 : decode cX10_refused 80 = .ok (.return_, 1) := gdX10_refused_77.2.1
theorem dX10_refused_81 : decode cX10_refused 81 = .ok (.aload_n 0, 1) := gdX10_refused_77.2.2.1
theorem dX10_refused_82 : decode cX10_refused 82 = .ok (.getfield 37, 3) := gdX10_refused_77.2.2.2.1
theorem dX10_refused_85 : decode cX10_refused 85 = .ok (.iload_n 1, 1) := gdX10_refused_77.2.2.2.2.1
theorem dX10_refused_86 : decode cX10_refused 86 = .ok (.aload_n 0, 1) := gdX10_refused_77.2.2.2.2.2.1
theorem dX10_refused_87 : decode cX10_refused 87 = .ok (.getfield 34, 3) := gdX10_refused_77.2.2.2.2.2.2.1
theorem dX10_refused_90 : decode cX10_refused 90 = .ok (.iload_n 1, 1) := gdX10_refused_77.2.2.2.2.2.2.2.1
theorem dX10_refused_91 : decode cX10_refused 91 = .ok (.iaload, 1) := gdX10_refused_77.2.2.2.2.2.2.2.2.1
theorem dX10_refused_92 : decode cX10_refused 92 = .ok (.iastore, 1) := gdX10_refused_77.2.2.2.2.2.2.2.2.2.1
theorem dX10_refused_93 : decode cX10_refused 93 = .ok (.iload_n 3, 1) := gdX10_refused_77.2.2.2.2.2.2.2.2.2.2.1
theorem dX10_refused_94 : decode cX10_refused 94 = .ok (.iconst 1, 1) := gdX10_refused_77.2.2.2.2.2.2.2.2.2.2.2.1
theorem dX10_refused_95 : decode cX10_refused 95 = .ok (.if_icmp .ne 4, 3) := gdX10_refused_77.2.2.2.2.2.2.2.2.2.2.2.2.1
theorem dX10_refused_98 : decode cX10_refused 98 = .ok (.return_, 1) := gdX10_refused_77.2.2.2.2.2.2.2.2.2.2.2.2.2.1
theorem dX10_refused_99 : decode cX10_refused 99 = .ok (.aload_n 0, 1) := gdX10_refused_77.2.2.2.2.2.2.2.2.2.2.2.2.2.2.1
theorem dX10_refused_100 : decode cX10_refused 100 = .ok (.getfield 52, 3) := gdX10_refused_77.2.2.2.2.2.2.2.2.2.2.2.2.2.2.2
theorem gdX10_refused_103 : (decode cX10_refused 103 = .ok (.iload_n 1, 1)) ∧ (decode cX10_refused 104 = .ok (.iconst 1, 1)) ∧ (decode cX10_refused 105 = .ok (.bastore, 1)) ∧ (decode cX10_refused 106 = .ok (.aload_n 0, 1)) ∧ (decode cX10_refused 107 = .ok (.getfield 43, 3)) ∧ (decode cX10_refused 110 = .ok (.iload_n 1, 1)) ∧ (decode cX10_refused 111 = .ok (.iconst 0, 1)) ∧ (decode cX10_refused 112 = .ok (.iastore, 1)) ∧ (decode cX10_refused 113 = .ok (.aload_n 0, 1)) ∧ (decode cX10_refused 114 = .ok (.getfield 49, 3)) ∧ (decode cX10_refused 117 = .ok (.iload_n 1, 1)) ∧ (decode cX10_refused 118 = .ok (.dup2, 1)) ∧ (decode cX10_refused 119 = .ok (.iaload, 1)) ∧ (decode cX10_refused 120 = .ok (.iconst 1, 1)) ∧ (decode cX10_refused 121 = .ok (.iadd, 1)) ∧ (decode cX10_refused 122 = .ok (.iastore, 1)) := by decide +kernel
theorem dX10_refused_103 : decode cX10_refused 103 = .ok (.iload_n 1, 1) := gdX10_refused_103.1
theorem dX10_refused_104 : decode cX10_refused 104 = .ok (.iconst 1, 1) := gdX10_refused_103.2.1
theorem dX10_refused_105 : decode cX10_refused 105 = .ok (.bastore, 1) := gdX10_refused_103.2.2.1
theorem dX10_refused_106 : decode cX10_refused 106 = .ok (.aload_n 0, 1) := gdX10_refused_103.2.2.2.1
theorem dX10_refused_107 : decode cX10_refused 107 = .ok (.getfield 43, 3) := gdX10_refused_103.2.2.2.2.1
theorem dX10_refused_110 : decode cX10_refused 110 = .ok (.iload_n 1, 1) := gdX10_refused_103.2.2.2.2.2.1
theorem dX10_refused_111 : decode cX10_refused 111 = .ok (.iconst 0, 1) := gdX10_refused_103.2.2.2.2.2.2.1
theorem dX10_refused_112 : decode cX10_refused 112 = .ok (.iastore, 1) := gdX10_refused_103.2.2.2.2.2.2.2.1
theorem dX10_refused_113 : decode cX10_refused 113 = .ok (.aload_n 0, 1) := gdX10_refused_103.2.2.2.2.2.2.2.2.1
theorem dX10_refused_114 : decode cX10_refused 114 = .ok (.getfield 49, 3) := gdX10_refused_103.2.2.2.2.2.2.2.2.2.1
theorem dX10_refused_117 : decode cX10_refused 117 = .ok (.iload_n 1, 1) := gdX10_refused_103.2.2.2.2.2.2.2.2.2.2.1
theorem dX10_refused_118 : decode cX10_refused 118 = .ok (.dup2, 1) := gdX10_refused_103.2.2.2.2.2.2.2.2.2.2.2.1
theorem dX10_refused_119 : decode cX10_refused 119 = .ok (.iaload, 1) := gdX10_refused_103.2.2.2.2.2.2.2.2.2.2.2.2.1
theorem dX10_refused_120 : decode cX10_refused 120 = .ok (.iconst 1, 1) := gdX10_refused_103.2.2.2.2.2.2.2.2.2.2.2.2.2.1
theorem dX10_refused_121 : decode cX10_refused 121 = .ok (.iadd, 1) := gdX10_refused_103.2.2.2.2.2.2.2.2.2.2.2.2.2.2.1
theorem dX10_refused_122 : decode cX10_refused 122 = .ok (.iastore, 1) := gdX10_refused_103.2.2.2.2.2.2.2.2.2.2.2.2.2.2.2
theorem gdX10_refused_123 : (decode cX10_refused 123 = .ok (.aload_n 0, 1)) ∧ (decode cX10_refused 124 = .ok (.getfield 49, 3)) ∧ (decode cX10_refused 127 = .ok (.iload_n 1, 1)) ∧ (decode cX10_refused 128 = .ok (.iaload, 1)) ∧ (decode cX10_refused 129 = .ok (.aload_n 0, 1)) ∧ (decode cX10_refused 130 = .ok (.getfield 150, 3)) ∧ (decode cX10_refused 133 = .ok (.if_icmp .le 10, 3)) ∧ (decode cX10_refused 136 = .ok (.aload_n 0, 1)) ∧ (decode cX10_refused 137 = .ok (.iload_n 1, 1)) ∧ (decode cX10_refused 138 = .ok (.iconst 2, 1)) ∧ (decode cX10_refused 139 = .ok (.iconst 0, 1)) ∧ (decode cX10_refused 140 = .ok (.invokevirtual 221, 3)) ∧ (decode cX10_refused 143 = .ok (.return_, 1)) := by decide +kernel
theorem dX10_refused_123 : decode cX10_refused 123 = .ok (.aload_n 0, 1) := gdX10_refused_123.1
theorem dX10_refused_124 : decode cX10_refused 124 = .ok (.getfield 49, 3) := gdX10_refused_123.2.1
theorem dX10_refused_127 : decode cX10_refused 127 = .ok (.iload_n 1, 1) := gdX10_refused_123.2.2.1
theorem dX10_refused_128 : decode cX10_refused 128 = .ok (.iaload, 1) := gdX10_refused_123.2.2.2.1
theorem dX10_refused_129 : decode cX10_refused 129 = .ok (.aload_n 0, 1) := gdX10_refused_123.2.2.2.2.1
theorem dX10_refused_130 : decode cX10_refused 130 = .ok (.getfield 150, 3) := gdX10_refused_123.2.2.2.2.2.1
theorem dX10_refused_133 : decode cX10_refused 133 = .ok (.if_icmp .le 10, 3) := gdX10_refused_123.2.2.2.2.2.2.1
theorem dX10_refused_136 : decode cX10_refused 136 = .ok (.aload_n 0, 1) := gdX10_refused_123.2.2.2.2.2.2.2.1
theorem dX10_refused_137 : decode cX10_refused 137 = .ok (.iload_n 1, 1) := gdX10_refused_123.2.2.2.2.2.2.2.2.1
theorem dX10_refused_138 : decode cX10_refused 138 = .ok (.iconst 2, 1) := gdX10_refused_123.2.2.2.2.2.2.2.2.2.1
theorem dX10_refused_139 : decode cX10_refused 139 = .ok (.iconst 0, 1) := gdX10_refused_123.2.2.2.2.2.2.2.2.2.2.1
theorem dX10_refused_140 : decode cX10_refused 140 = .ok (.invokevirtual 221, 3) := gdX10_refused_123.2.2.2.2.2.2.2.2.2.2.2.1
theorem dX10_refused_143 : decode cX10_refused 143 = .ok (.return_, 1) := gdX10_refused_123.2.2.2.2.2.2.2.2.2.2.2.2
set_option maxHeartbeats 8000000 in
set_option maxRecDepth 100000 in
theorem u_X10_refused (l : Launch) (E : EE) (z0 : Nat) (G : Nat → Nat) (hGz : ∀ q, G q ≠ 0 → z0 ≤ q) (h0 : Nat) (rf : Nat → Nat) (hR : MG G h0 rf) (t0 t1 t2 : Int32) (A : AA) (cd pk : Int32) (p0 : Int32) (hI2 : I2 (A 5) (A 6)) (hI3 : I3 (A 8)) (hI4 : I4 (A 10) (A 20) (A 29) (A 24) (A 11) (A 12) (A 13)) (hI5 : I5 (A 32) (A 33) (A 35)) (hI6 : I6 (A 22) (A 23) (A 24) (A 25) (A 26)) (hI7 : I7 (A 41) (A 42) (A 44) (A 45) (A 46)) (hI8 : I8 (A 20) (A 30) (A 37) (A 36)) (hy0 : 0 ≤ p0.toInt ∧ p0.toInt ≤ 3) (hy1 : ∀ n : Nat, (n : Int) = p0.toInt → ((A 10) n).toInt = 1) (hy2 : 0 ≤ pk.toInt ∧ pk.toInt ≤ 24) : Met l yX10_refused [Cond.code yX10_refused cX10_refused 4 none] ({ frames := 4, cells := 0, slots := 0, locals := 93 } : Room) (va_Pc [.ref h0, .int p0] (fun U => MH E h0 rf t0 t1 t2 A cd pk U.heap ∧ KS E z0 U)) (va_Qv (fun (u : AA × Int32 × Int32) => (I2 (u.1 5) (u.1 6)) ∧ (I3 (u.1 8)) ∧ (I4 (u.1 10) (u.1 20) (u.1 29) (u.1 24) (u.1 11) (u.1 12) (u.1 13)) ∧ (I5 (u.1 32) (u.1 33) (u.1 35)) ∧ (I6 (u.1 22) (u.1 23) (u.1 24) (u.1 25) (u.1 26)) ∧ (I7 (u.1 41) (u.1 42) (u.1 44) (u.1 45) (u.1 46)) ∧ (I8 (u.1 20) (u.1 30) (u.1 37) (u.1 36)) ∧ (0 ≤ u.2.2.toInt ∧ u.2.2.toInt ≤ 24) ∧ (D_X10_refused t0 t1 t2 A cd pk p0 u.1 u.2.1 u.2.2)) (fun u t => MH E h0 rf t0 t1 t2 u.1 u.2.1 u.2.2 t.heap) (fun q : Nat => G q ≠ 0)) 0 0 (fun q : Nat => G q ≠ 0) := by
  refine Met.ofW (cc := cX10_refused) (maxL := 4) (ret := none) (by decide) rfl ?_
  intro p e s m args below meth c s₁ B hml hv
  obtain ⟨rfl, hM, hK⟩ := hv
  have hx := B.exec
  have hb := B.bytes
  have hr := B.returns
  have hts : ∀ w ∈ TS, w.before ([.ref h0, .int p0] : List Value).toArray s = true := fun w hw => hK.2.1 w hw _
  have hown : s.vm.findClass RX10 = some m.cls := findClass_of_methodNamed B.named
  have hlocks := B.notSynchronized
  have hS : va_S (fun q : Nat => G q ≠ 0) s.heap s.heap [] := va_S.rf
  have hAz : ∀ q, (fun q : Nat => G q ≠ 0) q → z0 ≤ q := hGz
  have hl := lv_entry ([.ref h0, .int p0]) (n := 4) (Nat.le_of_ble_eq_true rfl)
  rw [lg_entry_eq]
  generalize (lg_sl ([.ref h0, .int p0]) ++ List.replicate (4 - (lg_sl ([.ref h0, .int p0])).length) Slot.unset).toArray = ls at hl ⊢
  have hl : lv_has ls 4 [(0, .ref h0), (1, .int p0)] := hl
  obtain ⟨n_1, hn_1, en_1⟩ := s_nat (x := p0) (by omega)
  have hst0 := hy1 n_1 (by omega)
  have hP0 := (hI4 n_1 (by omega)).1 hst0
  have rg0 := hP0.rng
  refine lv_aload_n hx hb dX10_refused_0 rfl (lv_at hl 0 rfl) ?_
  refine va_get (D := DG E) (ci := 10) (v := .ref (rf 12)) (C := RX10) (T := TX10) (N := 49) hx hb hts iw_X10 hown hK.1 (va_one hM.1) 0 rfl rfl 12 (by decide) (hts _ fl_X10_34) (fun _ h9 => h9) rfl dX10_refused_1 ?_
  refine lv_iload_n hx hb dX10_refused_4 rfl (lv_at hl 1 rfl) ?_
  have hi_2 : vp_in p0 4 := vp_in_iff.mpr (by omega)
  have ha_3 : va_at (DG E) vwCl (rf 12, .inl (E.2.2 0, 4, .inl (A 12))) _ := hM.2 12 (by decide) (by decide) (by decide)
  refine va_iald (D := DG E) hx hb hK.1 (va_one ha_3) 0 0 rfl rfl hi_2 dX10_refused_5 ?_
  refine W.eq (g2 := F0 m 6 ls [.int ((A 12) n_1)]) (by rw [en_1]) ?_
  refine lv_aload_n hx hb dX10_refused_6 rfl (lv_at hl 0 rfl) ?_
  refine va_get (D := DG E) (ci := 10) (v := .ref (rf 43)) (C := RX10) (T := TX10) (N := 49) hx hb hts iw_X10 hown hK.1 (va_one hM.1) 0 rfl rfl 43 (by decide) (hts _ fl_X10_125) (fun _ h9 => h9) rfl dX10_refused_7 ?_
  refine lv_bipush (v := 24) hx hb dX10_refused_10 (by decide) ?_
  have ha_4 : va_at (DG E) vwCl (rf 43, .inl (E.2.2 0, 25, .inl (A 43))) _ := hM.2 43 (by decide) (by decide) (by decide)
  refine va_iald (D := DG E) hx hb hK.1 (va_one ha_4) 0 0 rfl rfl (show vp_in (24) 25 from vp_in_iff.mpr ⟨by decide, by decide⟩) dX10_refused_12 ?_
  refine W.eq (g2 := F0 m 13 ls [.int ((A 43) 24), .int ((A 12) n_1)]) (by rfl) ?_
  refine W.callR (W.runS (As := [.int ((A 12) n_1), .int ((A 43) 24)]) (rest := []) ⟨hx, hb, hml, hown, hts⟩ (c_X10_far l (((A 12) n_1)) (((A 43) 24))) (cwS 2 hts (gdS ml_X10_174 st_X10_far in_X10 co_X10_far rfl) rfl rfl rfl (by decide +kernel) ⟨Nat.le_of_ble_eq_true rfl, Nat.le_of_ble_eq_true rfl⟩) preEq rfl rfl hl.1 rfl (lv_room (Nat.le_of_ble_eq_true rfl)) dX10_refused_13 ⟨Nat.le_of_ble_eq_true rfl, Nat.le_of_ble_eq_true rfl⟩) ?_
  refine W.eq (g2 := F0 m 16 ls [.int (((((A 43) 24) - ((A 12) n_1)) + 64) - ((((A 43) 24) - ((A 12) n_1)) + 64) / 64 * 64)]) (by rfl) ?_
  refine lv_topi (fun x_5 ex_5 => ?_)
  have kx_5 : x_5.toInt = (farI ((A 12) n_1) ((A 43) 24)).toInt := by rw [ex_5]; rfl
  refine lv_istore_n (lv' := [(2, .int x_5), (0, .ref h0), (1, .int p0)]) hx hb dX10_refused_16 rfl hl (by decide) rfl (fun ls hl => ?_)
  refine lv_aload_n hx hb dX10_refused_17 rfl (lv_at hl 1 rfl) ?_
  refine va_get (D := DG E) (ci := 10) (v := .ref (rf 45)) (C := RX10) (T := TX10) (N := 49) hx hb hts iw_X10 hown hK.1 (va_one hM.1) 0 rfl rfl 45 (by decide) (hts _ fl_X10_131) (fun _ h9 => h9) rfl dX10_refused_18 ?_
  refine lv_bipush (v := 24) hx hb dX10_refused_21 (by decide) ?_
  have ha_6 : va_at (DG E) vwCl (rf 45, .inl (E.2.2 0, 25, .inl (A 45))) _ := hM.2 45 (by decide) (by decide) (by decide)
  refine va_iald (D := DG E) hx hb hK.1 (va_one ha_6) 0 0 rfl rfl (show vp_in (24) 25 from vp_in_iff.mpr ⟨by decide, by decide⟩) dX10_refused_23 ?_
  refine W.eq (g2 := F0 m 24 ls [.int ((A 45) 24)]) (by rfl) ?_
  refine lv_istore_n (lv' := [(3, .int ((A 45) 24)), (2, .int x_5), (0, .ref h0), (1, .int p0)]) hx hb dX10_refused_24 rfl hl (by decide) rfl (fun ls hl => ?_)
  refine lv_iload_n hx hb dX10_refused_25 rfl (lv_at hl 1 rfl) ?_
  refine lv_aload_n hx hb dX10_refused_26 rfl (lv_at hl 2 rfl) ?_
  refine va_get (D := DG E) (ci := 10) (v := .ref (rf 12)) (C := RX10) (T := TX10) (N := 49) hx hb hts iw_X10 hown hK.1 (va_one hM.1) 0 rfl rfl 12 (by decide) (hts _ fl_X10_34) (fun _ h9 => h9) rfl dX10_refused_27 ?_
  refine lv_iload_n hx hb dX10_refused_30 rfl (lv_at hl 3 rfl) ?_
  have ha_7 : va_at (DG E) vwCl (rf 12, .inl (E.2.2 0, 4, .inl (A 12))) _ := hM.2 12 (by decide) (by decide) (by decide)
  refine va_iald (D := DG E) hx hb hK.1 (va_one ha_7) 0 0 rfl rfl hi_2 dX10_refused_31 ?_
  refine W.eq (g2 := F0 m 32 ls [.int ((A 12) n_1), .int x_5]) (by rw [en_1]) ?_
  refine lv_aload_n hx hb dX10_refused_32 rfl (lv_at hl 2 rfl) ?_
  refine va_get (D := DG E) (ci := 10) (v := .ref (rf 13)) (C := RX10) (T := TX10) (N := 49) hx hb hts iw_X10 hown hK.1 (va_one hM.1) 0 rfl rfl 13 (by decide) (hts _ fl_X10_37) (fun _ h9 => h9) rfl dX10_refused_33 ?_
  refine lv_iload_n hx hb dX10_refused_36 rfl (lv_at hl 3 rfl) ?_
  have ha_8 : va_at (DG E) vwCl (rf 13, .inl (E.2.2 0, 4, .inl (A 13))) _ := hM.2 13 (by decide) (by decide) (by decide)
  refine va_iald (D := DG E) hx hb hK.1 (va_one ha_8) 0 0 rfl rfl hi_2 dX10_refused_37 ?_
  refine W.eq (g2 := F0 m 38 ls [.int ((A 13) n_1), .int ((A 12) n_1), .int x_5]) (by rw [en_1]) ?_
  refine W.callR (W.runS (As := [.int ((A 12) n_1), .int ((A 13) n_1)]) (rest := [.int x_5]) ⟨hx, hb, hml, hown, hts⟩ (c_X10_far l (((A 12) n_1)) (((A 13) n_1))) (cwS 2 hts (gdS ml_X10_174 st_X10_far in_X10 co_X10_far rfl) rfl rfl rfl (by decide +kernel) ⟨Nat.le_of_ble_eq_true rfl, Nat.le_of_ble_eq_true rfl⟩) preEq rfl rfl hl.1 rfl (lv_room (Nat.le_of_ble_eq_true rfl)) dX10_refused_38 ⟨Nat.le_of_ble_eq_true rfl, Nat.le_of_ble_eq_true rfl⟩) ?_
  refine W.eq (g2 := F0 m 41 ls [.int (((((A 13) n_1) - ((A 12) n_1)) + 64) - ((((A 13) n_1) - ((A 12) n_1)) + 64) / 64 * 64), .int x_5]) (by rfl) ?_
  refine lv_topi (fun x_9 ex_9 => ?_)
  have fx_9 : x_9.toInt = (((A 13) n_1).toInt - ((A 12) n_1).toInt + 64) % 64 := by rw [ex_9]; exact far_t (by omega) (by omega)
  have kx_9 : x_9.toInt = (farI ((A 12) n_1) ((A 13) n_1)).toInt := by rw [ex_9]; rfl
  refine lv_icmp_lt (tgt := 45) hx hb dX10_refused_41 (by decide) (fun c_10 => ?_) (fun c_10 => ?_)
  · simp only [lt_I, le_I, eq_I, i_0, i_1, i_2, i_3, i_4, i_5, i_6, i_7, i_8, i_10, i_12, i_16, i_20, i_23, i_24, i_31, i_32, i_63, i_64, i_m1, i_9, i_11, i_13, i_25, i_60, i_75, i_79, i_80, i_96, i_100] at c_10
    refine lv_aload_n hx hb dX10_refused_45 rfl (lv_at hl 2 rfl) ?_
    refine lv_iload_n hx hb dX10_refused_46 rfl (lv_at hl 3 rfl) ?_
    refine lv_iload_n hx hb dX10_refused_47 rfl (lv_at hl 1 rfl) ?_
    refine va_callv (rnV (fun H => MH E h0 rf t0 t1 t2 A cd pk H) (As := [.int p0, .int x_5]) (rest := []) ⟨hx, hb, hml, hown, hts⟩ (u_X10_answerSome l E z0 G hGz h0 rf hR t0 t1 t2 A cd pk p0 x_5 hI3 hI4 hI6 hI8 (show 0 ≤ p0.toInt ∧ p0.toInt ≤ 3 from by first | decide | omega) (show ∀ n : Nat, (n : Int) = p0.toInt → ((A 10) n).toInt = 1 from (fun n hn => by
        obtain rfl : n_1 = n := by omega
        first | exact hst0 | omega))) (cwV 2 hts (gdV ml_X10_262 im_X10_answerSome se_X10_X10_answerSome in_X10 co_X10_answerSome rfl) rfl rfl rfl (by decide +kernel) ⟨Nat.le_of_ble_eq_true rfl, Nat.le_of_ble_eq_true rfl⟩) hM (fun U hU hW => hK.go hW hS hAz hU) (va_recv hK.1 (va_one hM.1) (ci := 10) (q0 := 0) rfl rfl) rfl rfl hl.1 rfl (lv_room (Nat.le_of_ble_eq_true rfl)) dX10_refused_48 ⟨Nat.le_of_ble_eq_true rfl, Nat.le_of_ble_eq_true rfl⟩) hS (fun q _ h => h) (fun q h => h) (fun ur_11 t H locs ht hvm hwr_11 hB hz hk hS => ?_)
    have hM : MH E h0 rf t0 t1 t2 (uA (uA (uA (uA (uA (uA (uA (uA (uA (uA (uA (uA (uA (uA (uA (uA A 8 (ur_11.1)) 9 (ur_11.2.1)) 12 (ur_11.2.2.1)) 15 (ur_11.2.2.2.1)) 16 (ur_11.2.2.2.2.1)) 17 (ur_11.2.2.2.2.2.1)) 18 (ur_11.2.2.2.2.2.2.1)) 20 (ur_11.2.2.2.2.2.2.2.1)) 22 (ur_11.2.2.2.2.2.2.2.2.1)) 23 (ur_11.2.2.2.2.2.2.2.2.2.1)) 24 (ur_11.2.2.2.2.2.2.2.2.2.2.1)) 25 (ur_11.2.2.2.2.2.2.2.2.2.2.2.1)) 26 (ur_11.2.2.2.2.2.2.2.2.2.2.2.2.1)) 27 (ur_11.2.2.2.2.2.2.2.2.2.2.2.2.2.1)) 28 (ur_11.2.2.2.2.2.2.2.2.2.2.2.2.2.2.1)) 29 (ur_11.2.2.2.2.2.2.2.2.2.2.2.2.2.2.2)) cd pk H := by rw [ht] at hB; exact hB
    have hDr_11 : D_X10_answerSome A cd pk p0 x_5 (uA (uA (uA (uA (uA (uA (uA (uA (uA (uA (uA (uA (uA (uA (uA (uA A 8 (ur_11.1)) 9 (ur_11.2.1)) 12 (ur_11.2.2.1)) 15 (ur_11.2.2.2.1)) 16 (ur_11.2.2.2.2.1)) 17 (ur_11.2.2.2.2.2.1)) 18 (ur_11.2.2.2.2.2.2.1)) 20 (ur_11.2.2.2.2.2.2.2.1)) 22 (ur_11.2.2.2.2.2.2.2.2.1)) 23 (ur_11.2.2.2.2.2.2.2.2.2.1)) 24 (ur_11.2.2.2.2.2.2.2.2.2.2.1)) 25 (ur_11.2.2.2.2.2.2.2.2.2.2.2.1)) 26 (ur_11.2.2.2.2.2.2.2.2.2.2.2.2.1)) 27 (ur_11.2.2.2.2.2.2.2.2.2.2.2.2.2.1)) 28 (ur_11.2.2.2.2.2.2.2.2.2.2.2.2.2.2.1)) 29 (ur_11.2.2.2.2.2.2.2.2.2.2.2.2.2.2.2)) cd pk := hwr_11.2.2.2.2
    have hpr_11_0 : I3 (ur_11.1) := hwr_11.1
    have hpr_11_1 : I4 (A 10) (ur_11.2.2.2.2.2.2.2.1) (ur_11.2.2.2.2.2.2.2.2.2.2.2.2.2.2.2) (ur_11.2.2.2.2.2.2.2.2.2.2.1) (A 11) (ur_11.2.2.1) (A 13) := hwr_11.2.1
    have hpr_11_2 : I6 (ur_11.2.2.2.2.2.2.2.2.1) (ur_11.2.2.2.2.2.2.2.2.2.1) (ur_11.2.2.2.2.2.2.2.2.2.2.1) (ur_11.2.2.2.2.2.2.2.2.2.2.2.1) (ur_11.2.2.2.2.2.2.2.2.2.2.2.2.1) := hwr_11.2.2.1
    have hpr_11_3 : I8 (ur_11.2.2.2.2.2.2.2.1) (A 30) (A 37) (A 36) := hwr_11.2.2.2.1
    refine lv_aload_n hx hb dX10_refused_51 rfl (lv_at hl 2 rfl) ?_
    refine va_get (D := DG E) (ci := 10) (v := .ref (rf 43)) (C := RX10) (T := TX10) (N := 49) hx hb hts iw_X10 hown hK.1 (va_one hM.1) 0 rfl rfl 43 (by decide) (hts _ fl_X10_125) (fun _ h9 => h9) rfl dX10_refused_52 ?_
    refine lv_bipush (v := 24) hx hb dX10_refused_55 (by decide) ?_
    have ha_12 : va_at (DG E) vwCl (rf 43, .inl (E.2.2 0, 25, .inl (A 43))) _ := hM.2 43 (by decide) (by decide) (by decide)
    refine va_iald (D := DG E) hx hb hK.1 (va_one ha_12) 0 0 rfl rfl (show vp_in (24) 25 from vp_in_iff.mpr ⟨by decide, by decide⟩) dX10_refused_57 ?_
    refine W.eq (g2 := F0 m 58 ls [.int ((A 43) 24)]) (by rfl) ?_
    refine lv_aload_n hx hb dX10_refused_58 rfl (lv_at hl 2 rfl) ?_
    refine va_get (D := DG E) (ci := 10) (v := .ref (rf 12)) (C := RX10) (T := TX10) (N := 49) hx hb hts iw_X10 hown hK.1 (va_one hM.1) 0 rfl rfl 12 (by decide) (hts _ fl_X10_34) (fun _ h9 => h9) rfl dX10_refused_59 ?_
    refine lv_iload_n hx hb dX10_refused_62 rfl (lv_at hl 3 rfl) ?_
    have ha_13 : va_at (DG E) vwCl (rf 12, .inl (E.2.2 0, 4, .inl (ur_11.2.2.1))) _ := hM.2 12 (by decide) (by decide) (by decide)
    refine va_iald (D := DG E) hx hb hK.1 (va_one ha_13) 0 0 rfl rfl hi_2 dX10_refused_63 ?_
    refine W.eq (g2 := F0 m 64 ls [.int ((ur_11.2.2.1) n_1), .int ((A 43) 24)]) (by rw [en_1]) ?_
    refine lv_icmp_eq (tgt := 68) hx hb dX10_refused_64 (by decide) (fun c_14 => ?_) (fun c_14 => ?_)
    · simp only [lt_I, le_I, eq_I, i_0, i_1, i_2, i_3, i_4, i_5, i_6, i_7, i_8, i_10, i_12, i_16, i_20, i_23, i_24, i_31, i_32, i_63, i_64, i_m1, i_9, i_11, i_13, i_25, i_60, i_75, i_79, i_80, i_96, i_100] at c_14
      refine lv_iload_n hx hb dX10_refused_68 rfl (lv_at hl 0 rfl) ?_
      refine lv_iconst (v := 3) hx hb dX10_refused_69 (by decide) ?_
      refine lv_icmp_lt (tgt := 81) hx hb dX10_refused_70 (by decide) (fun c_15 => ?_) (fun c_15 => ?_)
      · simp only [lt_I, le_I, eq_I, i_0, i_1, i_2, i_3, i_4, i_5, i_6, i_7, i_8, i_10, i_12, i_16, i_20, i_23, i_24, i_31, i_32, i_63, i_64, i_m1, i_9, i_11, i_13, i_25, i_60, i_75, i_79, i_80, i_96, i_100] at c_15
        refine lv_aload_n hx hb dX10_refused_81 rfl (lv_at hl 2 rfl) ?_
        refine va_get (D := DG E) (ci := 10) (v := .ref (rf 13)) (C := RX10) (T := TX10) (N := 49) hx hb hts iw_X10 hown hK.1 (va_one hM.1) 0 rfl rfl 13 (by decide) (hts _ fl_X10_37) (fun _ h9 => h9) rfl dX10_refused_82 ?_
        refine lv_iload_n hx hb dX10_refused_85 rfl (lv_at hl 3 rfl) ?_
        refine lv_aload_n hx hb dX10_refused_86 rfl (lv_at hl 2 rfl) ?_
        refine va_get (D := DG E) (ci := 10) (v := .ref (rf 12)) (C := RX10) (T := TX10) (N := 49) hx hb hts iw_X10 hown hK.1 (va_one hM.1) 0 rfl rfl 12 (by decide) (hts _ fl_X10_34) (fun _ h9 => h9) rfl dX10_refused_87 ?_
        refine lv_iload_n hx hb dX10_refused_90 rfl (lv_at hl 3 rfl) ?_
        have ha_16 : va_at (DG E) vwCl (rf 12, .inl (E.2.2 0, 4, .inl (ur_11.2.2.1))) _ := hM.2 12 (by decide) (by decide) (by decide)
        refine va_iald (D := DG E) hx hb hK.1 (va_one ha_16) 0 0 rfl rfl hi_2 dX10_refused_91 ?_
        refine W.eq (g2 := F0 m 92 ls [.int ((ur_11.2.2.1) n_1), .int p0, .ref (rf 13)]) (by rw [en_1]) ?_
        have ha_17 : va_at (DG E) vwCl (rf 13, .inl (E.2.2 0, 4, .inl (A 13))) _ := hM.2 13 (by decide) (by decide) (by decide)
        refine rr_iast (D := DG E) hx hb hK.1 0 ha_17 hS (by show G (rf 13) ≠ 0; rw [hR.2 13 (by decide) (by decide) (by decide)]; decide) rfl hi_2 dX10_refused_92 (fun H locs hn ho hz hS => ?_)
        rw [en_1] at hn
        obtain ⟨g_17, eg_17⟩ : ∃ z : Nat → Int32, z = upd (A 13) n_1 ((ur_11.2.2.1) n_1) := ⟨_, rfl⟩
        have sg_17 : g_17 n_1 = ((ur_11.2.2.1) n_1) := by rw [eg_17]; exact upd_s
        have ng_17 : ∀ k, k ≠ n_1 → g_17 k = (A 13) k := fun k hk => by rw [eg_17]; exact upd_n hk
        have hn : va_at (DG E) vwCl (rf 13, .inl (E.2.2 0, 4, .inl g_17)) H := by rw [eg_17]; exact hn
        have hM : MH E h0 rf t0 t1 t2 (uA (uA (uA (uA (uA (uA (uA (uA (uA (uA (uA (uA (uA (uA (uA (uA (uA A 8 (ur_11.1)) 9 (ur_11.2.1)) 12 (ur_11.2.2.1)) 15 (ur_11.2.2.2.1)) 16 (ur_11.2.2.2.2.1)) 17 (ur_11.2.2.2.2.2.1)) 18 (ur_11.2.2.2.2.2.2.1)) 20 (ur_11.2.2.2.2.2.2.2.1)) 22 (ur_11.2.2.2.2.2.2.2.2.1)) 23 (ur_11.2.2.2.2.2.2.2.2.2.1)) 24 (ur_11.2.2.2.2.2.2.2.2.2.2.1)) 25 (ur_11.2.2.2.2.2.2.2.2.2.2.2.1)) 26 (ur_11.2.2.2.2.2.2.2.2.2.2.2.2.1)) 27 (ur_11.2.2.2.2.2.2.2.2.2.2.2.2.2.1)) 28 (ur_11.2.2.2.2.2.2.2.2.2.2.2.2.2.2.1)) 29 (ur_11.2.2.2.2.2.2.2.2.2.2.2.2.2.2.2)) 13 g_17) cd pk H := hM.w hR 13 (by decide) (by decide) (by decide) hn ho
        refine lv_iload_n hx hb dX10_refused_93 rfl (lv_at hl 0 rfl) ?_
        refine lv_iconst (v := 1) hx hb dX10_refused_94 (by decide) ?_
        refine lv_icmp_ne (tgt := 99) hx hb dX10_refused_95 (by decide) (fun c_18 => ?_) (fun c_18 => ?_)
        · simp only [lt_I, le_I, eq_I, i_0, i_1, i_2, i_3, i_4, i_5, i_6, i_7, i_8, i_10, i_12, i_16, i_20, i_23, i_24, i_31, i_32, i_63, i_64, i_m1, i_9, i_11, i_13, i_25, i_60, i_75, i_79, i_80, i_96, i_100] at c_18
          refine lv_aload_n hx hb dX10_refused_99 rfl (lv_at hl 2 rfl) ?_
          refine va_get (D := DG E) (ci := 10) (v := .ref (rf 18)) (C := RX10) (T := TX10) (N := 49) hx hb hts iw_X10 hown hK.1 (va_one hM.1) 0 rfl rfl 18 (by decide) (hts _ fl_X10_52) (fun _ h9 => h9) rfl dX10_refused_100 ?_
          refine lv_iload_n hx hb dX10_refused_103 rfl (lv_at hl 3 rfl) ?_
          refine lv_iconst (v := 1) hx hb dX10_refused_104 (by decide) ?_
          have ha_19 : va_at (DG E) vwCl (rf 18, .inl (E.2.2 1, 4, .inl (ur_11.2.2.2.2.2.2.1))) _ := hM.2 18 (by decide) (by decide) (by decide)
          refine rr_zast (D := DG E) hx hb hK.1 1 ha_19 hS (by show G (rf 18) ≠ 0; rw [hR.2 18 (by decide) (by decide) (by decide)]; decide) rfl hi_2 dX10_refused_105 (fun H locs hn ho hz hS => ?_)
          rw [en_1] at hn
          obtain ⟨g_19, eg_19⟩ : ∃ z : Nat → Int32, z = upd (ur_11.2.2.2.2.2.2.1) n_1 1 := ⟨_, rfl⟩
          have sg_19 : g_19 n_1 = 1 := by rw [eg_19]; exact upd_s
          have ng_19 : ∀ k, k ≠ n_1 → g_19 k = (ur_11.2.2.2.2.2.2.1) k := fun k hk => by rw [eg_19]; exact upd_n hk
          have hn : va_at (DG E) vwCl (rf 18, .inl (E.2.2 1, 4, .inl g_19)) H := by rw [eg_19]; exact hn
          have hM : MH E h0 rf t0 t1 t2 (uA (uA (uA (uA (uA (uA (uA (uA (uA (uA (uA (uA (uA (uA (uA (uA (uA (uA A 8 (ur_11.1)) 9 (ur_11.2.1)) 12 (ur_11.2.2.1)) 15 (ur_11.2.2.2.1)) 16 (ur_11.2.2.2.2.1)) 17 (ur_11.2.2.2.2.2.1)) 18 (ur_11.2.2.2.2.2.2.1)) 20 (ur_11.2.2.2.2.2.2.2.1)) 22 (ur_11.2.2.2.2.2.2.2.2.1)) 23 (ur_11.2.2.2.2.2.2.2.2.2.1)) 24 (ur_11.2.2.2.2.2.2.2.2.2.2.1)) 25 (ur_11.2.2.2.2.2.2.2.2.2.2.2.1)) 26 (ur_11.2.2.2.2.2.2.2.2.2.2.2.2.1)) 27 (ur_11.2.2.2.2.2.2.2.2.2.2.2.2.2.1)) 28 (ur_11.2.2.2.2.2.2.2.2.2.2.2.2.2.2.1)) 29 (ur_11.2.2.2.2.2.2.2.2.2.2.2.2.2.2.2)) 13 g_17) 18 g_19) cd pk H := hM.w hR 18 (by decide) (by decide) (by decide) hn ho
          refine lv_aload_n hx hb dX10_refused_106 rfl (lv_at hl 2 rfl) ?_
          refine va_get (D := DG E) (ci := 10) (v := .ref (rf 15)) (C := RX10) (T := TX10) (N := 49) hx hb hts iw_X10 hown hK.1 (va_one hM.1) 0 rfl rfl 15 (by decide) (hts _ fl_X10_43) (fun _ h9 => h9) rfl dX10_refused_107 ?_
          refine lv_iload_n hx hb dX10_refused_110 rfl (lv_at hl 3 rfl) ?_
          refine lv_iconst (v := 0) hx hb dX10_refused_111 (by decide) ?_
          have ha_20 : va_at (DG E) vwCl (rf 15, .inl (E.2.2 0, 4, .inl (ur_11.2.2.2.1))) _ := hM.2 15 (by decide) (by decide) (by decide)
          refine rr_iast (D := DG E) hx hb hK.1 0 ha_20 hS (by show G (rf 15) ≠ 0; rw [hR.2 15 (by decide) (by decide) (by decide)]; decide) rfl hi_2 dX10_refused_112 (fun H locs hn ho hz hS => ?_)
          rw [en_1] at hn
          obtain ⟨g_20, eg_20⟩ : ∃ z : Nat → Int32, z = upd (ur_11.2.2.2.1) n_1 0 := ⟨_, rfl⟩
          have sg_20 : g_20 n_1 = 0 := by rw [eg_20]; exact upd_s
          have ng_20 : ∀ k, k ≠ n_1 → g_20 k = (ur_11.2.2.2.1) k := fun k hk => by rw [eg_20]; exact upd_n hk
          have hn : va_at (DG E) vwCl (rf 15, .inl (E.2.2 0, 4, .inl g_20)) H := by rw [eg_20]; exact hn
          have hM : MH E h0 rf t0 t1 t2 (uA (uA (uA (uA (uA (uA (uA (uA (uA (uA (uA (uA (uA (uA (uA (uA (uA (uA (uA A 8 (ur_11.1)) 9 (ur_11.2.1)) 12 (ur_11.2.2.1)) 15 (ur_11.2.2.2.1)) 16 (ur_11.2.2.2.2.1)) 17 (ur_11.2.2.2.2.2.1)) 18 (ur_11.2.2.2.2.2.2.1)) 20 (ur_11.2.2.2.2.2.2.2.1)) 22 (ur_11.2.2.2.2.2.2.2.2.1)) 23 (ur_11.2.2.2.2.2.2.2.2.2.1)) 24 (ur_11.2.2.2.2.2.2.2.2.2.2.1)) 25 (ur_11.2.2.2.2.2.2.2.2.2.2.2.1)) 26 (ur_11.2.2.2.2.2.2.2.2.2.2.2.2.1)) 27 (ur_11.2.2.2.2.2.2.2.2.2.2.2.2.2.1)) 28 (ur_11.2.2.2.2.2.2.2.2.2.2.2.2.2.2.1)) 29 (ur_11.2.2.2.2.2.2.2.2.2.2.2.2.2.2.2)) 13 g_17) 18 g_19) 15 g_20) cd pk H := hM.w hR 15 (by decide) (by decide) (by decide) hn ho
          refine lv_aload_n hx hb dX10_refused_113 rfl (lv_at hl 2 rfl) ?_
          refine va_get (D := DG E) (ci := 10) (v := .ref (rf 17)) (C := RX10) (T := TX10) (N := 49) hx hb hts iw_X10 hown hK.1 (va_one hM.1) 0 rfl rfl 17 (by decide) (hts _ fl_X10_49) (fun _ h9 => h9) rfl dX10_refused_114 ?_
          refine lv_iload_n hx hb dX10_refused_117 rfl (lv_at hl 3 rfl) ?_
          refine lv_dup2_11 hx hb dX10_refused_118 rfl rfl ?_
          have ha_21 : va_at (DG E) vwCl (rf 17, .inl (E.2.2 0, 4, .inl (ur_11.2.2.2.2.2.1))) _ := hM.2 17 (by decide) (by decide) (by decide)
          refine va_iald (D := DG E) hx hb hK.1 (va_one ha_21) 0 0 rfl rfl hi_2 dX10_refused_119 ?_
          refine W.eq (g2 := F0 m 120 ls [.int ((ur_11.2.2.2.2.2.1) n_1), .int p0, .ref (rf 17)]) (by rw [en_1]) ?_
          refine lv_iconst (v := 1) hx hb dX10_refused_120 (by decide) ?_
          refine lv_iadd hx hb dX10_refused_121 ?_
          refine lv_topi (fun x_22 ex_22 => ?_)
          have ha_23 : va_at (DG E) vwCl (rf 17, .inl (E.2.2 0, 4, .inl (ur_11.2.2.2.2.2.1))) _ := hM.2 17 (by decide) (by decide) (by decide)
          refine rr_iast (D := DG E) hx hb hK.1 0 ha_23 hS (by show G (rf 17) ≠ 0; rw [hR.2 17 (by decide) (by decide) (by decide)]; decide) rfl hi_2 dX10_refused_122 (fun H locs hn ho hz hS => ?_)
          rw [en_1] at hn
          obtain ⟨g_23, eg_23⟩ : ∃ z : Nat → Int32, z = upd (ur_11.2.2.2.2.2.1) n_1 x_22 := ⟨_, rfl⟩
          have sg_23 : g_23 n_1 = x_22 := by rw [eg_23]; exact upd_s
          have ng_23 : ∀ k, k ≠ n_1 → g_23 k = (ur_11.2.2.2.2.2.1) k := fun k hk => by rw [eg_23]; exact upd_n hk
          have hn : va_at (DG E) vwCl (rf 17, .inl (E.2.2 0, 4, .inl g_23)) H := by rw [eg_23]; exact hn
          have hM : MH E h0 rf t0 t1 t2 (uA (uA (uA (uA (uA (uA (uA (uA (uA (uA (uA (uA (uA (uA (uA (uA (uA (uA (uA (uA A 8 (ur_11.1)) 9 (ur_11.2.1)) 12 (ur_11.2.2.1)) 15 (ur_11.2.2.2.1)) 16 (ur_11.2.2.2.2.1)) 17 (ur_11.2.2.2.2.2.1)) 18 (ur_11.2.2.2.2.2.2.1)) 20 (ur_11.2.2.2.2.2.2.2.1)) 22 (ur_11.2.2.2.2.2.2.2.2.1)) 23 (ur_11.2.2.2.2.2.2.2.2.2.1)) 24 (ur_11.2.2.2.2.2.2.2.2.2.2.1)) 25 (ur_11.2.2.2.2.2.2.2.2.2.2.2.1)) 26 (ur_11.2.2.2.2.2.2.2.2.2.2.2.2.1)) 27 (ur_11.2.2.2.2.2.2.2.2.2.2.2.2.2.1)) 28 (ur_11.2.2.2.2.2.2.2.2.2.2.2.2.2.2.1)) 29 (ur_11.2.2.2.2.2.2.2.2.2.2.2.2.2.2.2)) 13 g_17) 18 g_19) 15 g_20) 17 g_23) cd pk H := hM.w hR 17 (by decide) (by decide) (by decide) hn ho
          refine lv_aload_n hx hb dX10_refused_123 rfl (lv_at hl 2 rfl) ?_
          refine va_get (D := DG E) (ci := 10) (v := .ref (rf 17)) (C := RX10) (T := TX10) (N := 49) hx hb hts iw_X10 hown hK.1 (va_one hM.1) 0 rfl rfl 17 (by decide) (hts _ fl_X10_49) (fun _ h9 => h9) rfl dX10_refused_124 ?_
          refine lv_iload_n hx hb dX10_refused_127 rfl (lv_at hl 3 rfl) ?_
          have ha_24 : va_at (DG E) vwCl (rf 17, .inl (E.2.2 0, 4, .inl g_23)) _ := hM.2 17 (by decide) (by decide) (by decide)
          refine va_iald (D := DG E) hx hb hK.1 (va_one ha_24) 0 0 rfl rfl hi_2 dX10_refused_128 ?_
          refine W.eq (g2 := F0 m 129 ls [.int x_22]) (by rw [en_1, sg_23]) ?_
          refine lv_aload_n hx hb dX10_refused_129 rfl (lv_at hl 2 rfl) ?_
          refine va_get (D := DG E) (ci := 10) (v := .int t2) (C := RX10) (T := TX10) (N := 49) hx hb hts iw_X10 hown hK.1 (va_one hM.1) 0 rfl rfl 2 (by decide) (hts _ fl_X10_150) (fun _ h9 => h9) rfl dX10_refused_130 ?_
          refine lv_icmp_le (tgt := 143) hx hb dX10_refused_133 (by decide) (fun c_25 => ?_) (fun c_25 => ?_)
          · simp only [lt_I, le_I, eq_I, i_0, i_1, i_2, i_3, i_4, i_5, i_6, i_7, i_8, i_10, i_12, i_16, i_20, i_23, i_24, i_31, i_32, i_63, i_64, i_m1, i_9, i_11, i_13, i_25, i_60, i_75, i_79, i_80, i_96, i_100] at c_25
            have hI4_26 : I4 (A 10) (ur_11.2.2.2.2.2.2.2.1) (ur_11.2.2.2.2.2.2.2.2.2.2.2.2.2.2.2) (ur_11.2.2.2.2.2.2.2.2.2.2.1) (A 11) (ur_11.2.2.1) g_17 := by
              intro k hk
              by_cases e : k = n_1
              · rw [e]
                exact ⟨fun _ => ((hpr_11_1 n_1 (by omega)).1 hst0).back sg_17, Or.inl hst0⟩
              · exact (hpr_11_1 k hk).cg rfl rfl (fun _ _ => rfl) (fun _ _ => rfl) rfl rfl (ng_17 k e)
            exact W.vret hx hb hr (fun t ht hW => ⟨⟨((uA (uA (uA (uA (uA (uA (uA (uA (uA (uA (uA (uA (uA (uA (uA (uA (uA (uA (uA (uA A 8 (ur_11.1)) 9 (ur_11.2.1)) 12 (ur_11.2.2.1)) 15 (ur_11.2.2.2.1)) 16 (ur_11.2.2.2.2.1)) 17 (ur_11.2.2.2.2.2.1)) 18 (ur_11.2.2.2.2.2.2.1)) 20 (ur_11.2.2.2.2.2.2.2.1)) 22 (ur_11.2.2.2.2.2.2.2.2.1)) 23 (ur_11.2.2.2.2.2.2.2.2.2.1)) 24 (ur_11.2.2.2.2.2.2.2.2.2.2.1)) 25 (ur_11.2.2.2.2.2.2.2.2.2.2.2.1)) 26 (ur_11.2.2.2.2.2.2.2.2.2.2.2.2.1)) 27 (ur_11.2.2.2.2.2.2.2.2.2.2.2.2.2.1)) 28 (ur_11.2.2.2.2.2.2.2.2.2.2.2.2.2.2.1)) 29 (ur_11.2.2.2.2.2.2.2.2.2.2.2.2.2.2.2)) 13 g_17) 18 g_19) 15 g_20) 17 g_23), cd, pk), rfl, ⟨hI2, hpr_11_0, hI4_26, hI5, hpr_11_2, hI7, hpr_11_3, (by show 0 ≤ pk.toInt ∧ pk.toInt ≤ 24; omega), (Or.inl ⟨n_1, hn_1, x_5, ex_5, x_9, ex_9, fx_9, c_10, ur_11, hDr_11, hpr_11_0, hpr_11_1, hpr_11_2, hpr_11_3, c_14, c_15, g_17, eg_17, c_18, g_19, eg_19, g_20, eg_20, x_22, ex_22, g_23, eg_23, c_25, rfl, rfl, rfl⟩)⟩, (by show MH E h0 rf t0 t1 t2 (uA (uA (uA (uA (uA (uA (uA (uA (uA (uA (uA (uA (uA (uA (uA (uA (uA (uA (uA (uA A 8 (ur_11.1)) 9 (ur_11.2.1)) 12 (ur_11.2.2.1)) 15 (ur_11.2.2.2.1)) 16 (ur_11.2.2.2.2.1)) 17 (ur_11.2.2.2.2.2.1)) 18 (ur_11.2.2.2.2.2.2.1)) 20 (ur_11.2.2.2.2.2.2.2.1)) 22 (ur_11.2.2.2.2.2.2.2.2.1)) 23 (ur_11.2.2.2.2.2.2.2.2.2.1)) 24 (ur_11.2.2.2.2.2.2.2.2.2.2.1)) 25 (ur_11.2.2.2.2.2.2.2.2.2.2.2.1)) 26 (ur_11.2.2.2.2.2.2.2.2.2.2.2.2.1)) 27 (ur_11.2.2.2.2.2.2.2.2.2.2.2.2.2.1)) 28 (ur_11.2.2.2.2.2.2.2.2.2.2.2.2.2.2.1)) 29 (ur_11.2.2.2.2.2.2.2.2.2.2.2.2.2.2.2)) 13 g_17) 18 g_19) 15 g_20) 17 g_23) cd pk t.heap; rw [ht]; exact hM)⟩, hS.F ht⟩) hS.2.2 dX10_refused_143
          · simp only [lt_I, le_I, eq_I, i_0, i_1, i_2, i_3, i_4, i_5, i_6, i_7, i_8, i_10, i_12, i_16, i_20, i_23, i_24, i_31, i_32, i_63, i_64, i_m1, i_9, i_11, i_13, i_25, i_60, i_75, i_79, i_80, i_96, i_100] at c_25
            refine lv_aload_n hx hb dX10_refused_136 rfl (lv_at hl 2 rfl) ?_
            refine lv_iload_n hx hb dX10_refused_137 rfl (lv_at hl 3 rfl) ?_
            refine lv_iconst (v := 2) hx hb dX10_refused_138 (by decide) ?_
            refine lv_iconst (v := 0) hx hb dX10_refused_139 (by decide) ?_
            have hI4_27 : I4 (A 10) (ur_11.2.2.2.2.2.2.2.1) (ur_11.2.2.2.2.2.2.2.2.2.2.2.2.2.2.2) (ur_11.2.2.2.2.2.2.2.2.2.2.1) (A 11) (ur_11.2.2.1) g_17 := by
              intro k hk
              by_cases e : k = n_1
              · rw [e]
                exact ⟨fun _ => ((hpr_11_1 n_1 (by omega)).1 hst0).back sg_17, Or.inl hst0⟩
              · exact (hpr_11_1 k hk).cg rfl rfl (fun _ _ => rfl) (fun _ _ => rfl) rfl rfl (ng_17 k e)
            refine va_callv (rnV (fun H => MH E h0 rf t0 t1 t2 (uA (uA (uA (uA (uA (uA (uA (uA (uA (uA (uA (uA (uA (uA (uA (uA (uA (uA (uA (uA A 8 (ur_11.1)) 9 (ur_11.2.1)) 12 (ur_11.2.2.1)) 15 (ur_11.2.2.2.1)) 16 (ur_11.2.2.2.2.1)) 17 (ur_11.2.2.2.2.2.1)) 18 (ur_11.2.2.2.2.2.2.1)) 20 (ur_11.2.2.2.2.2.2.2.1)) 22 (ur_11.2.2.2.2.2.2.2.2.1)) 23 (ur_11.2.2.2.2.2.2.2.2.2.1)) 24 (ur_11.2.2.2.2.2.2.2.2.2.2.1)) 25 (ur_11.2.2.2.2.2.2.2.2.2.2.2.1)) 26 (ur_11.2.2.2.2.2.2.2.2.2.2.2.2.1)) 27 (ur_11.2.2.2.2.2.2.2.2.2.2.2.2.2.1)) 28 (ur_11.2.2.2.2.2.2.2.2.2.2.2.2.2.2.1)) 29 (ur_11.2.2.2.2.2.2.2.2.2.2.2.2.2.2.2)) 13 g_17) 18 g_19) 15 g_20) 17 g_23) cd pk H) (As := [.int p0, .int 2, .int 0]) (rest := []) ⟨hx, hb, hml, hown, hts⟩ (u_X10_failPair l E z0 G hGz h0 rf hR t0 t1 t2 (uA (uA (uA (uA (uA (uA (uA (uA (uA (uA (uA (uA (uA (uA (uA (uA (uA (uA (uA (uA A 8 (ur_11.1)) 9 (ur_11.2.1)) 12 (ur_11.2.2.1)) 15 (ur_11.2.2.2.1)) 16 (ur_11.2.2.2.2.1)) 17 (ur_11.2.2.2.2.2.1)) 18 (ur_11.2.2.2.2.2.2.1)) 20 (ur_11.2.2.2.2.2.2.2.1)) 22 (ur_11.2.2.2.2.2.2.2.2.1)) 23 (ur_11.2.2.2.2.2.2.2.2.2.1)) 24 (ur_11.2.2.2.2.2.2.2.2.2.2.1)) 25 (ur_11.2.2.2.2.2.2.2.2.2.2.2.1)) 26 (ur_11.2.2.2.2.2.2.2.2.2.2.2.2.1)) 27 (ur_11.2.2.2.2.2.2.2.2.2.2.2.2.2.1)) 28 (ur_11.2.2.2.2.2.2.2.2.2.2.2.2.2.2.1)) 29 (ur_11.2.2.2.2.2.2.2.2.2.2.2.2.2.2.2)) 13 g_17) 18 g_19) 15 g_20) 17 g_23) cd pk p0 2 0 hpr_11_0 hI4_27 hpr_11_3 (show 0 ≤ p0.toInt ∧ p0.toInt ≤ 3 from by have := i_0; have := i_2; first | decide | omega)) (cwV 3 hts (gdV ml_X10_221 im_X10_failPair se_X10_X10_failPair in_X10 co_X10_failPair rfl) rfl rfl rfl (by decide +kernel) ⟨Nat.le_of_ble_eq_true rfl, Nat.le_of_ble_eq_true rfl⟩) hM (fun U hU hW => hK.go hW hS hAz hU) (va_recv hK.1 (va_one hM.1) (ci := 10) (q0 := 0) rfl rfl) rfl rfl hl.1 rfl (lv_room (Nat.le_of_ble_eq_true rfl)) dX10_refused_140 ⟨Nat.le_of_ble_eq_true rfl, Nat.le_of_ble_eq_true rfl⟩) hS (fun q _ h => h) (fun q h => h) (fun ur_28 t H locs ht hvm hwr_28 hB hz hk hS => ?_)
            have hM : MH E h0 rf t0 t1 t2 (uA (uA (uA (uA (uA (uA (uA (uA (uA (uA (uA (uA (uA (uA (uA (uA (uA (uA (uA (uA (uA (uA (uA (uA (uA (uA (uA A 8 (ur_11.1)) 9 (ur_11.2.1)) 12 (ur_11.2.2.1)) 15 (ur_11.2.2.2.1)) 16 (ur_11.2.2.2.2.1)) 17 (ur_11.2.2.2.2.2.1)) 18 (ur_11.2.2.2.2.2.2.1)) 20 (ur_11.2.2.2.2.2.2.2.1)) 22 (ur_11.2.2.2.2.2.2.2.2.1)) 23 (ur_11.2.2.2.2.2.2.2.2.2.1)) 24 (ur_11.2.2.2.2.2.2.2.2.2.2.1)) 25 (ur_11.2.2.2.2.2.2.2.2.2.2.2.1)) 26 (ur_11.2.2.2.2.2.2.2.2.2.2.2.2.1)) 27 (ur_11.2.2.2.2.2.2.2.2.2.2.2.2.2.1)) 28 (ur_11.2.2.2.2.2.2.2.2.2.2.2.2.2.2.1)) 29 (ur_11.2.2.2.2.2.2.2.2.2.2.2.2.2.2.2)) 13 g_17) 18 g_19) 15 g_20) 17 g_23) 8 (ur_28.1)) 9 (ur_28.2.1)) 10 (ur_28.2.2.1)) 18 (ur_28.2.2.2.1)) 20 (ur_28.2.2.2.2.1)) 30 (ur_28.2.2.2.2.2.1)) 36 (ur_28.2.2.2.2.2.2)) cd pk H := by rw [ht] at hB; exact hB
            have hDr_28 : D_X10_failPair (uA (uA (uA (uA (uA (uA (uA (uA (uA (uA (uA (uA (uA (uA (uA (uA (uA (uA (uA (uA A 8 (ur_11.1)) 9 (ur_11.2.1)) 12 (ur_11.2.2.1)) 15 (ur_11.2.2.2.1)) 16 (ur_11.2.2.2.2.1)) 17 (ur_11.2.2.2.2.2.1)) 18 (ur_11.2.2.2.2.2.2.1)) 20 (ur_11.2.2.2.2.2.2.2.1)) 22 (ur_11.2.2.2.2.2.2.2.2.1)) 23 (ur_11.2.2.2.2.2.2.2.2.2.1)) 24 (ur_11.2.2.2.2.2.2.2.2.2.2.1)) 25 (ur_11.2.2.2.2.2.2.2.2.2.2.2.1)) 26 (ur_11.2.2.2.2.2.2.2.2.2.2.2.2.1)) 27 (ur_11.2.2.2.2.2.2.2.2.2.2.2.2.2.1)) 28 (ur_11.2.2.2.2.2.2.2.2.2.2.2.2.2.2.1)) 29 (ur_11.2.2.2.2.2.2.2.2.2.2.2.2.2.2.2)) 13 g_17) 18 g_19) 15 g_20) 17 g_23) cd pk p0 (2 : Int32) (0 : Int32) (uA (uA (uA (uA (uA (uA (uA (uA (uA (uA (uA (uA (uA (uA (uA (uA (uA (uA (uA (uA (uA (uA (uA (uA (uA (uA (uA A 8 (ur_11.1)) 9 (ur_11.2.1)) 12 (ur_11.2.2.1)) 15 (ur_11.2.2.2.1)) 16 (ur_11.2.2.2.2.1)) 17 (ur_11.2.2.2.2.2.1)) 18 (ur_11.2.2.2.2.2.2.1)) 20 (ur_11.2.2.2.2.2.2.2.1)) 22 (ur_11.2.2.2.2.2.2.2.2.1)) 23 (ur_11.2.2.2.2.2.2.2.2.2.1)) 24 (ur_11.2.2.2.2.2.2.2.2.2.2.1)) 25 (ur_11.2.2.2.2.2.2.2.2.2.2.2.1)) 26 (ur_11.2.2.2.2.2.2.2.2.2.2.2.2.1)) 27 (ur_11.2.2.2.2.2.2.2.2.2.2.2.2.2.1)) 28 (ur_11.2.2.2.2.2.2.2.2.2.2.2.2.2.2.1)) 29 (ur_11.2.2.2.2.2.2.2.2.2.2.2.2.2.2.2)) 13 g_17) 18 g_19) 15 g_20) 17 g_23) 8 (ur_28.1)) 9 (ur_28.2.1)) 10 (ur_28.2.2.1)) 18 (ur_28.2.2.2.1)) 20 (ur_28.2.2.2.2.1)) 30 (ur_28.2.2.2.2.2.1)) 36 (ur_28.2.2.2.2.2.2)) cd pk := hwr_28.2.2.2
            have hpr_28_0 : I3 (ur_28.1) := hwr_28.1
            have hpr_28_1 : I4 (ur_28.2.2.1) (ur_28.2.2.2.2.1) (ur_11.2.2.2.2.2.2.2.2.2.2.2.2.2.2.2) (ur_11.2.2.2.2.2.2.2.2.2.2.1) (A 11) (ur_11.2.2.1) g_17 := hwr_28.2.1
            have hpr_28_2 : I8 (ur_28.2.2.2.2.1) (ur_28.2.2.2.2.2.1) (A 37) (ur_28.2.2.2.2.2.2) := hwr_28.2.2.1
            have := i_0
            have := i_2
            exact W.vret hx hb hr (fun t ht hW => ⟨⟨((uA (uA (uA (uA (uA (uA (uA (uA (uA (uA (uA (uA (uA (uA (uA (uA (uA (uA (uA (uA (uA (uA (uA (uA (uA (uA (uA A 8 (ur_11.1)) 9 (ur_11.2.1)) 12 (ur_11.2.2.1)) 15 (ur_11.2.2.2.1)) 16 (ur_11.2.2.2.2.1)) 17 (ur_11.2.2.2.2.2.1)) 18 (ur_11.2.2.2.2.2.2.1)) 20 (ur_11.2.2.2.2.2.2.2.1)) 22 (ur_11.2.2.2.2.2.2.2.2.1)) 23 (ur_11.2.2.2.2.2.2.2.2.2.1)) 24 (ur_11.2.2.2.2.2.2.2.2.2.2.1)) 25 (ur_11.2.2.2.2.2.2.2.2.2.2.2.1)) 26 (ur_11.2.2.2.2.2.2.2.2.2.2.2.2.1)) 27 (ur_11.2.2.2.2.2.2.2.2.2.2.2.2.2.1)) 28 (ur_11.2.2.2.2.2.2.2.2.2.2.2.2.2.2.1)) 29 (ur_11.2.2.2.2.2.2.2.2.2.2.2.2.2.2.2)) 13 g_17) 18 g_19) 15 g_20) 17 g_23) 8 (ur_28.1)) 9 (ur_28.2.1)) 10 (ur_28.2.2.1)) 18 (ur_28.2.2.2.1)) 20 (ur_28.2.2.2.2.1)) 30 (ur_28.2.2.2.2.2.1)) 36 (ur_28.2.2.2.2.2.2)), cd, pk), rfl, ⟨hI2, hpr_28_0, hpr_28_1, hI5, hpr_11_2, hI7, hpr_28_2, (by show 0 ≤ pk.toInt ∧ pk.toInt ≤ 24; omega), (Or.inr (Or.inl ⟨n_1, hn_1, x_5, ex_5, x_9, ex_9, fx_9, c_10, ur_11, hDr_11, hpr_11_0, hpr_11_1, hpr_11_2, hpr_11_3, c_14, c_15, g_17, eg_17, c_18, g_19, eg_19, g_20, eg_20, x_22, ex_22, g_23, eg_23, c_25, ur_28, hDr_28, hpr_28_0, hpr_28_1, hpr_28_2, rfl, rfl, rfl⟩))⟩, (by show MH E h0 rf t0 t1 t2 (uA (uA (uA (uA (uA (uA (uA (uA (uA (uA (uA (uA (uA (uA (uA (uA (uA (uA (uA (uA (uA (uA (uA (uA (uA (uA (uA A 8 (ur_11.1)) 9 (ur_11.2.1)) 12 (ur_11.2.2.1)) 15 (ur_11.2.2.2.1)) 16 (ur_11.2.2.2.2.1)) 17 (ur_11.2.2.2.2.2.1)) 18 (ur_11.2.2.2.2.2.2.1)) 20 (ur_11.2.2.2.2.2.2.2.1)) 22 (ur_11.2.2.2.2.2.2.2.2.1)) 23 (ur_11.2.2.2.2.2.2.2.2.2.1)) 24 (ur_11.2.2.2.2.2.2.2.2.2.2.1)) 25 (ur_11.2.2.2.2.2.2.2.2.2.2.2.1)) 26 (ur_11.2.2.2.2.2.2.2.2.2.2.2.2.1)) 27 (ur_11.2.2.2.2.2.2.2.2.2.2.2.2.2.1)) 28 (ur_11.2.2.2.2.2.2.2.2.2.2.2.2.2.2.1)) 29 (ur_11.2.2.2.2.2.2.2.2.2.2.2.2.2.2.2)) 13 g_17) 18 g_19) 15 g_20) 17 g_23) 8 (ur_28.1)) 9 (ur_28.2.1)) 10 (ur_28.2.2.1)) 18 (ur_28.2.2.2.1)) 20 (ur_28.2.2.2.2.1)) 30 (ur_28.2.2.2.2.2.1)) 36 (ur_28.2.2.2.2.2.2)) cd pk t.heap; rw [ht]; exact hM)⟩, hS.F ht⟩) hS.2.2 dX10_refused_143
        · simp only [lt_I, le_I, eq_I, i_0, i_1, i_2, i_3, i_4, i_5, i_6, i_7, i_8, i_10, i_12, i_16, i_20, i_23, i_24, i_31, i_32, i_63, i_64, i_m1, i_9, i_11, i_13, i_25, i_60, i_75, i_79, i_80, i_96, i_100] at c_18
          have hI4_29 : I4 (A 10) (ur_11.2.2.2.2.2.2.2.1) (ur_11.2.2.2.2.2.2.2.2.2.2.2.2.2.2.2) (ur_11.2.2.2.2.2.2.2.2.2.2.1) (A 11) (ur_11.2.2.1) g_17 := by
            intro k hk
            by_cases e : k = n_1
            · rw [e]
              exact ⟨fun _ => ((hpr_11_1 n_1 (by omega)).1 hst0).back sg_17, Or.inl hst0⟩
            · exact (hpr_11_1 k hk).cg rfl rfl (fun _ _ => rfl) (fun _ _ => rfl) rfl rfl (ng_17 k e)
          exact W.vret hx hb hr (fun t ht hW => ⟨⟨((uA (uA (uA (uA (uA (uA (uA (uA (uA (uA (uA (uA (uA (uA (uA (uA (uA A 8 (ur_11.1)) 9 (ur_11.2.1)) 12 (ur_11.2.2.1)) 15 (ur_11.2.2.2.1)) 16 (ur_11.2.2.2.2.1)) 17 (ur_11.2.2.2.2.2.1)) 18 (ur_11.2.2.2.2.2.2.1)) 20 (ur_11.2.2.2.2.2.2.2.1)) 22 (ur_11.2.2.2.2.2.2.2.2.1)) 23 (ur_11.2.2.2.2.2.2.2.2.2.1)) 24 (ur_11.2.2.2.2.2.2.2.2.2.2.1)) 25 (ur_11.2.2.2.2.2.2.2.2.2.2.2.1)) 26 (ur_11.2.2.2.2.2.2.2.2.2.2.2.2.1)) 27 (ur_11.2.2.2.2.2.2.2.2.2.2.2.2.2.1)) 28 (ur_11.2.2.2.2.2.2.2.2.2.2.2.2.2.2.1)) 29 (ur_11.2.2.2.2.2.2.2.2.2.2.2.2.2.2.2)) 13 g_17), cd, pk), rfl, ⟨hI2, hpr_11_0, hI4_29, hI5, hpr_11_2, hI7, hpr_11_3, (by show 0 ≤ pk.toInt ∧ pk.toInt ≤ 24; omega), (Or.inr (Or.inr (Or.inl ⟨n_1, hn_1, x_5, ex_5, x_9, ex_9, fx_9, c_10, ur_11, hDr_11, hpr_11_0, hpr_11_1, hpr_11_2, hpr_11_3, c_14, c_15, g_17, eg_17, c_18, rfl, rfl, rfl⟩)))⟩, (by show MH E h0 rf t0 t1 t2 (uA (uA (uA (uA (uA (uA (uA (uA (uA (uA (uA (uA (uA (uA (uA (uA (uA A 8 (ur_11.1)) 9 (ur_11.2.1)) 12 (ur_11.2.2.1)) 15 (ur_11.2.2.2.1)) 16 (ur_11.2.2.2.2.1)) 17 (ur_11.2.2.2.2.2.1)) 18 (ur_11.2.2.2.2.2.2.1)) 20 (ur_11.2.2.2.2.2.2.2.1)) 22 (ur_11.2.2.2.2.2.2.2.2.1)) 23 (ur_11.2.2.2.2.2.2.2.2.2.1)) 24 (ur_11.2.2.2.2.2.2.2.2.2.2.1)) 25 (ur_11.2.2.2.2.2.2.2.2.2.2.2.1)) 26 (ur_11.2.2.2.2.2.2.2.2.2.2.2.2.1)) 27 (ur_11.2.2.2.2.2.2.2.2.2.2.2.2.2.1)) 28 (ur_11.2.2.2.2.2.2.2.2.2.2.2.2.2.2.1)) 29 (ur_11.2.2.2.2.2.2.2.2.2.2.2.2.2.2.2)) 13 g_17) cd pk t.heap; rw [ht]; exact hM)⟩, hS.F ht⟩) hS.2.2 dX10_refused_98
      · simp only [lt_I, le_I, eq_I, i_0, i_1, i_2, i_3, i_4, i_5, i_6, i_7, i_8, i_10, i_12, i_16, i_20, i_23, i_24, i_31, i_32, i_63, i_64, i_m1, i_9, i_11, i_13, i_25, i_60, i_75, i_79, i_80, i_96, i_100] at c_15
        refine lv_aload_n hx hb dX10_refused_73 rfl (lv_at hl 2 rfl) ?_
        refine lv_iload_n hx hb dX10_refused_74 rfl (lv_at hl 3 rfl) ?_
        refine lv_iload_n hx hb dX10_refused_75 rfl (lv_at hl 0 rfl) ?_
        refine lv_iconst (v := 0) hx hb dX10_refused_76 (by decide) ?_
        refine va_callv (rnV (fun H => MH E h0 rf t0 t1 t2 (uA (uA (uA (uA (uA (uA (uA (uA (uA (uA (uA (uA (uA (uA (uA (uA A 8 (ur_11.1)) 9 (ur_11.2.1)) 12 (ur_11.2.2.1)) 15 (ur_11.2.2.2.1)) 16 (ur_11.2.2.2.2.1)) 17 (ur_11.2.2.2.2.2.1)) 18 (ur_11.2.2.2.2.2.2.1)) 20 (ur_11.2.2.2.2.2.2.2.1)) 22 (ur_11.2.2.2.2.2.2.2.2.1)) 23 (ur_11.2.2.2.2.2.2.2.2.2.1)) 24 (ur_11.2.2.2.2.2.2.2.2.2.2.1)) 25 (ur_11.2.2.2.2.2.2.2.2.2.2.2.1)) 26 (ur_11.2.2.2.2.2.2.2.2.2.2.2.2.1)) 27 (ur_11.2.2.2.2.2.2.2.2.2.2.2.2.2.1)) 28 (ur_11.2.2.2.2.2.2.2.2.2.2.2.2.2.2.1)) 29 (ur_11.2.2.2.2.2.2.2.2.2.2.2.2.2.2.2)) cd pk H) (As := [.int p0, .int ((A 45) 24), .int 0]) (rest := []) ⟨hx, hb, hml, hown, hts⟩ (u_X10_failPair l E z0 G hGz h0 rf hR t0 t1 t2 (uA (uA (uA (uA (uA (uA (uA (uA (uA (uA (uA (uA (uA (uA (uA (uA A 8 (ur_11.1)) 9 (ur_11.2.1)) 12 (ur_11.2.2.1)) 15 (ur_11.2.2.2.1)) 16 (ur_11.2.2.2.2.1)) 17 (ur_11.2.2.2.2.2.1)) 18 (ur_11.2.2.2.2.2.2.1)) 20 (ur_11.2.2.2.2.2.2.2.1)) 22 (ur_11.2.2.2.2.2.2.2.2.1)) 23 (ur_11.2.2.2.2.2.2.2.2.2.1)) 24 (ur_11.2.2.2.2.2.2.2.2.2.2.1)) 25 (ur_11.2.2.2.2.2.2.2.2.2.2.2.1)) 26 (ur_11.2.2.2.2.2.2.2.2.2.2.2.2.1)) 27 (ur_11.2.2.2.2.2.2.2.2.2.2.2.2.2.1)) 28 (ur_11.2.2.2.2.2.2.2.2.2.2.2.2.2.2.1)) 29 (ur_11.2.2.2.2.2.2.2.2.2.2.2.2.2.2.2)) cd pk p0 ((A 45) 24) 0 hpr_11_0 hpr_11_1 hpr_11_3 (show 0 ≤ p0.toInt ∧ p0.toInt ≤ 3 from by have := i_0; first | decide | omega)) (cwV 3 hts (gdV ml_X10_221 im_X10_failPair se_X10_X10_failPair in_X10 co_X10_failPair rfl) rfl rfl rfl (by decide +kernel) ⟨Nat.le_of_ble_eq_true rfl, Nat.le_of_ble_eq_true rfl⟩) hM (fun U hU hW => hK.go hW hS hAz hU) (va_recv hK.1 (va_one hM.1) (ci := 10) (q0 := 0) rfl rfl) rfl rfl hl.1 rfl (lv_room (Nat.le_of_ble_eq_true rfl)) dX10_refused_77 ⟨Nat.le_of_ble_eq_true rfl, Nat.le_of_ble_eq_true rfl⟩) hS (fun q _ h => h) (fun q h => h) (fun ur_30 t H locs ht hvm hwr_30 hB hz hk hS => ?_)
        have hM : MH E h0 rf t0 t1 t2 (uA (uA (uA (uA (uA (uA (uA (uA (uA (uA (uA (uA (uA (uA (uA (uA (uA (uA (uA (uA (uA (uA (uA A 8 (ur_11.1)) 9 (ur_11.2.1)) 12 (ur_11.2.2.1)) 15 (ur_11.2.2.2.1)) 16 (ur_11.2.2.2.2.1)) 17 (ur_11.2.2.2.2.2.1)) 18 (ur_11.2.2.2.2.2.2.1)) 20 (ur_11.2.2.2.2.2.2.2.1)) 22 (ur_11.2.2.2.2.2.2.2.2.1)) 23 (ur_11.2.2.2.2.2.2.2.2.2.1)) 24 (ur_11.2.2.2.2.2.2.2.2.2.2.1)) 25 (ur_11.2.2.2.2.2.2.2.2.2.2.2.1)) 26 (ur_11.2.2.2.2.2.2.2.2.2.2.2.2.1)) 27 (ur_11.2.2.2.2.2.2.2.2.2.2.2.2.2.1)) 28 (ur_11.2.2.2.2.2.2.2.2.2.2.2.2.2.2.1)) 29 (ur_11.2.2.2.2.2.2.2.2.2.2.2.2.2.2.2)) 8 (ur_30.1)) 9 (ur_30.2.1)) 10 (ur_30.2.2.1)) 18 (ur_30.2.2.2.1)) 20 (ur_30.2.2.2.2.1)) 30 (ur_30.2.2.2.2.2.1)) 36 (ur_30.2.2.2.2.2.2)) cd pk H := by rw [ht] at hB; exact hB
        have hDr_30 : D_X10_failPair (uA (uA (uA (uA (uA (uA (uA (uA (uA (uA (uA (uA (uA (uA (uA (uA A 8 (ur_11.1)) 9 (ur_11.2.1)) 12 (ur_11.2.2.1)) 15 (ur_11.2.2.2.1)) 16 (ur_11.2.2.2.2.1)) 17 (ur_11.2.2.2.2.2.1)) 18 (ur_11.2.2.2.2.2.2.1)) 20 (ur_11.2.2.2.2.2.2.2.1)) 22 (ur_11.2.2.2.2.2.2.2.2.1)) 23 (ur_11.2.2.2.2.2.2.2.2.2.1)) 24 (ur_11.2.2.2.2.2.2.2.2.2.2.1)) 25 (ur_11.2.2.2.2.2.2.2.2.2.2.2.1)) 26 (ur_11.2.2.2.2.2.2.2.2.2.2.2.2.1)) 27 (ur_11.2.2.2.2.2.2.2.2.2.2.2.2.2.1)) 28 (ur_11.2.2.2.2.2.2.2.2.2.2.2.2.2.2.1)) 29 (ur_11.2.2.2.2.2.2.2.2.2.2.2.2.2.2.2)) cd pk p0 ((A 45) 24) (0 : Int32) (uA (uA (uA (uA (uA (uA (uA (uA (uA (uA (uA (uA (uA (uA (uA (uA (uA (uA (uA (uA (uA (uA (uA A 8 (ur_11.1)) 9 (ur_11.2.1)) 12 (ur_11.2.2.1)) 15 (ur_11.2.2.2.1)) 16 (ur_11.2.2.2.2.1)) 17 (ur_11.2.2.2.2.2.1)) 18 (ur_11.2.2.2.2.2.2.1)) 20 (ur_11.2.2.2.2.2.2.2.1)) 22 (ur_11.2.2.2.2.2.2.2.2.1)) 23 (ur_11.2.2.2.2.2.2.2.2.2.1)) 24 (ur_11.2.2.2.2.2.2.2.2.2.2.1)) 25 (ur_11.2.2.2.2.2.2.2.2.2.2.2.1)) 26 (ur_11.2.2.2.2.2.2.2.2.2.2.2.2.1)) 27 (ur_11.2.2.2.2.2.2.2.2.2.2.2.2.2.1)) 28 (ur_11.2.2.2.2.2.2.2.2.2.2.2.2.2.2.1)) 29 (ur_11.2.2.2.2.2.2.2.2.2.2.2.2.2.2.2)) 8 (ur_30.1)) 9 (ur_30.2.1)) 10 (ur_30.2.2.1)) 18 (ur_30.2.2.2.1)) 20 (ur_30.2.2.2.2.1)) 30 (ur_30.2.2.2.2.2.1)) 36 (ur_30.2.2.2.2.2.2)) cd pk := hwr_30.2.2.2
        have hpr_30_0 : I3 (ur_30.1) := hwr_30.1
        have hpr_30_1 : I4 (ur_30.2.2.1) (ur_30.2.2.2.2.1) (ur_11.2.2.2.2.2.2.2.2.2.2.2.2.2.2.2) (ur_11.2.2.2.2.2.2.2.2.2.2.1) (A 11) (ur_11.2.2.1) (A 13) := hwr_30.2.1
        have hpr_30_2 : I8 (ur_30.2.2.2.2.1) (ur_30.2.2.2.2.2.1) (A 37) (ur_30.2.2.2.2.2.2) := hwr_30.2.2.1
        have := i_0
        exact W.vret hx hb hr (fun t ht hW => ⟨⟨((uA (uA (uA (uA (uA (uA (uA (uA (uA (uA (uA (uA (uA (uA (uA (uA (uA (uA (uA (uA (uA (uA (uA A 8 (ur_11.1)) 9 (ur_11.2.1)) 12 (ur_11.2.2.1)) 15 (ur_11.2.2.2.1)) 16 (ur_11.2.2.2.2.1)) 17 (ur_11.2.2.2.2.2.1)) 18 (ur_11.2.2.2.2.2.2.1)) 20 (ur_11.2.2.2.2.2.2.2.1)) 22 (ur_11.2.2.2.2.2.2.2.2.1)) 23 (ur_11.2.2.2.2.2.2.2.2.2.1)) 24 (ur_11.2.2.2.2.2.2.2.2.2.2.1)) 25 (ur_11.2.2.2.2.2.2.2.2.2.2.2.1)) 26 (ur_11.2.2.2.2.2.2.2.2.2.2.2.2.1)) 27 (ur_11.2.2.2.2.2.2.2.2.2.2.2.2.2.1)) 28 (ur_11.2.2.2.2.2.2.2.2.2.2.2.2.2.2.1)) 29 (ur_11.2.2.2.2.2.2.2.2.2.2.2.2.2.2.2)) 8 (ur_30.1)) 9 (ur_30.2.1)) 10 (ur_30.2.2.1)) 18 (ur_30.2.2.2.1)) 20 (ur_30.2.2.2.2.1)) 30 (ur_30.2.2.2.2.2.1)) 36 (ur_30.2.2.2.2.2.2)), cd, pk), rfl, ⟨hI2, hpr_30_0, hpr_30_1, hI5, hpr_11_2, hI7, hpr_30_2, (by show 0 ≤ pk.toInt ∧ pk.toInt ≤ 24; omega), (Or.inr (Or.inr (Or.inr (Or.inl ⟨n_1, hn_1, x_5, ex_5, x_9, ex_9, fx_9, c_10, ur_11, hDr_11, hpr_11_0, hpr_11_1, hpr_11_2, hpr_11_3, c_14, c_15, ur_30, hDr_30, hpr_30_0, hpr_30_1, hpr_30_2, rfl, rfl, rfl⟩))))⟩, (by show MH E h0 rf t0 t1 t2 (uA (uA (uA (uA (uA (uA (uA (uA (uA (uA (uA (uA (uA (uA (uA (uA (uA (uA (uA (uA (uA (uA (uA A 8 (ur_11.1)) 9 (ur_11.2.1)) 12 (ur_11.2.2.1)) 15 (ur_11.2.2.2.1)) 16 (ur_11.2.2.2.2.1)) 17 (ur_11.2.2.2.2.2.1)) 18 (ur_11.2.2.2.2.2.2.1)) 20 (ur_11.2.2.2.2.2.2.2.1)) 22 (ur_11.2.2.2.2.2.2.2.2.1)) 23 (ur_11.2.2.2.2.2.2.2.2.2.1)) 24 (ur_11.2.2.2.2.2.2.2.2.2.2.1)) 25 (ur_11.2.2.2.2.2.2.2.2.2.2.2.1)) 26 (ur_11.2.2.2.2.2.2.2.2.2.2.2.2.1)) 27 (ur_11.2.2.2.2.2.2.2.2.2.2.2.2.2.1)) 28 (ur_11.2.2.2.2.2.2.2.2.2.2.2.2.2.2.1)) 29 (ur_11.2.2.2.2.2.2.2.2.2.2.2.2.2.2.2)) 8 (ur_30.1)) 9 (ur_30.2.1)) 10 (ur_30.2.2.1)) 18 (ur_30.2.2.2.1)) 20 (ur_30.2.2.2.2.1)) 30 (ur_30.2.2.2.2.2.1)) 36 (ur_30.2.2.2.2.2.2)) cd pk t.heap; rw [ht]; exact hM)⟩, hS.F ht⟩) hS.2.2 dX10_refused_80
    · simp only [lt_I, le_I, eq_I, i_0, i_1, i_2, i_3, i_4, i_5, i_6, i_7, i_8, i_10, i_12, i_16, i_20, i_23, i_24, i_31, i_32, i_63, i_64, i_m1, i_9, i_11, i_13, i_25, i_60, i_75, i_79, i_80, i_96, i_100] at c_14
      exact W.vret hx hb hr (fun t ht hW => ⟨⟨((uA (uA (uA (uA (uA (uA (uA (uA (uA (uA (uA (uA (uA (uA (uA (uA A 8 (ur_11.1)) 9 (ur_11.2.1)) 12 (ur_11.2.2.1)) 15 (ur_11.2.2.2.1)) 16 (ur_11.2.2.2.2.1)) 17 (ur_11.2.2.2.2.2.1)) 18 (ur_11.2.2.2.2.2.2.1)) 20 (ur_11.2.2.2.2.2.2.2.1)) 22 (ur_11.2.2.2.2.2.2.2.2.1)) 23 (ur_11.2.2.2.2.2.2.2.2.2.1)) 24 (ur_11.2.2.2.2.2.2.2.2.2.2.1)) 25 (ur_11.2.2.2.2.2.2.2.2.2.2.2.1)) 26 (ur_11.2.2.2.2.2.2.2.2.2.2.2.2.1)) 27 (ur_11.2.2.2.2.2.2.2.2.2.2.2.2.2.1)) 28 (ur_11.2.2.2.2.2.2.2.2.2.2.2.2.2.2.1)) 29 (ur_11.2.2.2.2.2.2.2.2.2.2.2.2.2.2.2)), cd, pk), rfl, ⟨hI2, hpr_11_0, hpr_11_1, hI5, hpr_11_2, hI7, hpr_11_3, (by show 0 ≤ pk.toInt ∧ pk.toInt ≤ 24; omega), (Or.inr (Or.inr (Or.inr (Or.inr (Or.inl ⟨n_1, hn_1, x_5, ex_5, x_9, ex_9, fx_9, c_10, ur_11, hDr_11, hpr_11_0, hpr_11_1, hpr_11_2, hpr_11_3, c_14, rfl, rfl, rfl⟩)))))⟩, (by show MH E h0 rf t0 t1 t2 (uA (uA (uA (uA (uA (uA (uA (uA (uA (uA (uA (uA (uA (uA (uA (uA A 8 (ur_11.1)) 9 (ur_11.2.1)) 12 (ur_11.2.2.1)) 15 (ur_11.2.2.2.1)) 16 (ur_11.2.2.2.2.1)) 17 (ur_11.2.2.2.2.2.1)) 18 (ur_11.2.2.2.2.2.2.1)) 20 (ur_11.2.2.2.2.2.2.2.1)) 22 (ur_11.2.2.2.2.2.2.2.2.1)) 23 (ur_11.2.2.2.2.2.2.2.2.2.1)) 24 (ur_11.2.2.2.2.2.2.2.2.2.2.1)) 25 (ur_11.2.2.2.2.2.2.2.2.2.2.2.1)) 26 (ur_11.2.2.2.2.2.2.2.2.2.2.2.2.1)) 27 (ur_11.2.2.2.2.2.2.2.2.2.2.2.2.2.1)) 28 (ur_11.2.2.2.2.2.2.2.2.2.2.2.2.2.2.1)) 29 (ur_11.2.2.2.2.2.2.2.2.2.2.2.2.2.2.2)) cd pk t.heap; rw [ht]; exact hM)⟩, hS.F ht⟩) hS.2.2 dX10_refused_67
  · simp only [lt_I, le_I, eq_I, i_0, i_1, i_2, i_3, i_4, i_5, i_6, i_7, i_8, i_10, i_12, i_16, i_20, i_23, i_24, i_31, i_32, i_63, i_64, i_m1, i_9, i_11, i_13, i_25, i_60, i_75, i_79, i_80, i_96, i_100] at c_10
    exact W.vret hx hb hr (fun t ht hW => ⟨⟨(A, cd, pk), rfl, ⟨hI2, hI3, hI4, hI5, hI6, hI7, hI8, (by show 0 ≤ pk.toInt ∧ pk.toInt ≤ 24; omega), (Or.inr (Or.inr (Or.inr (Or.inr (Or.inr ⟨n_1, hn_1, x_5, ex_5, x_9, ex_9, fx_9, c_10, rfl, rfl, rfl⟩)))))⟩, (by show MH E h0 rf t0 t1 t2 A cd pk t.heap; rw [ht]; exact hM)⟩, hS.F ht⟩) hS.2.2 dX10_refused_44
theorem gdX10_tickPair_0 : (decode cX10_tickPair 0 = .ok (.aload_n 0, 1)) ∧ (decode cX10_tickPair 1 = .ok (.getfield 28, 3)) ∧ (decode cX10_tickPair 4 = .ok (.iload_n 1, 1)) ∧ (decode cX10_tickPair 5 = .ok (.iaload, 1)) ∧ (decode cX10_tickPair 6 = .ok (.iconst 1, 1)) ∧ (decode cX10_tickPair 7 = .ok (.if_icmp .ne 27, 3)) ∧ (decode cX10_tickPair 10 = .ok (.aload_n 0, 1)) ∧ (decode cX10_tickPair 11 = .ok (.getfield 37, 3)) ∧ (decode cX10_tickPair 14 = .ok (.iload_n 1, 1)) ∧ (decode cX10_tickPair 15 = .ok (.iaload, 1)) ∧ (decode cX10_tickPair 16 = .ok (.aload_n 0, 1)) ∧ (decode cX10_tickPair 17 = .ok (.getfield 34, 3)) ∧ (decode cX10_tickPair 20 = .ok (.iload_n 1, 1)) ∧ (decode cX10_tickPair 21 = .ok (.iaload, 1)) ∧ (decode cX10_tickPair 22 = .ok (.if_icmp .ne 14, 3)) ∧ (decode cX10_tickPair 25 = .ok (.aload_n 0, 1)) := by decide +kernel
theorem dX10_tickPair_0 : decode cX10_tickPair 0 = .ok (.aload_n 0, 1) := gdX10_tickPair_0.1
theorem dX10_tickPair_1 : decode cX10_tickPair 1 = .ok (.getfield 28, 3) := gdX10_tickPair_0.2.1
theorem dX10_tickPair_4 : decode cX10_tickPair 4 = .ok (.iload_n 1, 1) := gdX10_tickPair_0.2.2.1
theorem dX10_tickPair_5 : decode cX10_tickPair 5 = .ok (.iaload, 1) := gdX10_tickPair_0.2.2.2.1
theorem dX10_tickPair_6 : decode cX10_tickPair 6 = .ok (.iconst 1, 1) := gdX10_tickPair_0.2.2.2.2.1
theorem dX10_tickPair_7 : decode cX10_tickPair 7 = .ok (.if_icmp .ne 27, 3) := gdX10_tickPair_0.2.2.2.2.2.1
theorem dX10_tickPair_10 : decode cX10_tickPair 10 = .ok (.aload_n 0, 1) := gdX10_tickPair_0.2.2.2.2.2.2.1
theorem dX10_tickPair_11 : decode cX10_tickPair 11 = .ok (.getfield 37, 3) := gdX10_tickPair_0.2.2.2.2.2.2.2.1
theorem dX10_tickPair_14 : decode cX10_tickPair 14 = .ok (.iload_n 1, 1) := gdX10_tickPair_0.2.2.2.2.2.2.2.2.1
theorem dX10_tickPair_15 : decode cX10_tickPair 15 = .ok (.iaload, 1) := gdX10_tickPair_0.2.2.2.2.2.2.2.2.2.1
theorem dX10_tickPair_16 : decode cX10_tickPair 16 = .ok (.aload_n 0, 1) := gdX10_tickPair_0.2.2.2.2.2.2.2.2.2.2.1
theorem dX10_tickPair_17 : decode cX10_tickPair 17 = .ok (.getfield 34, 3) := gdX10_tickPair_0.2.2.2.2.2.2.2.2.2.2.2.1
theorem dX10_tickPair_20 : decode cX10_tickPair 20 = .ok (.iload_n 1, 1) := gdX10_tickPair_0.2.2.2.2.2.2.2.2.2.2.2.2.1
theorem dX10_tickPair_21 : decode cX10_tickPair 21 = .ok (.iaload, 1) := gdX10_tickPair_0.2.2.2.2.2.2.2.2.2.2.2.2.2.1
theorem dX10_tickPair_22 : decode cX10_tickPair 22 = .ok (.if_icmp .ne 14, 3) := gdX10_tickPair_0.2.2.2.2.2.2.2.2.2.2.2.2.2.2.1
theorem dX10_tickPair_25 : decode cX10_tickPair 25 = .ok (.aload_n 0, 1) := gdX10_tickPair_0.2.2.2.2.2.2.2.2.2.2.2.2.2.2.2
theorem gdX10_tickPair_26 : (decode cX10_tickPair 26 = .ok (.getfield 52, 3)) ∧ (decode cX10_tickPair 29 = .ok (.iload_n 1, 1)) ∧ (decode cX10_tickPair 30 = .ok (.baload, 1)) ∧ (decode cX10_tickPair 31 = .ok (.ifCond .ne 5, 3)) ∧ (decode cX10_tickPair 34 = .ok (.iconst 0, 1)) ∧ (decode cX10_tickPair 35 = .ok (.ireturn, 1)) ∧ (decode cX10_tickPair 36 = .ok (.aload_n 0, 1)) ∧ (decode cX10_tickPair 37 = .ok (.getfield 43, 3)) ∧ (decode cX10_tickPair 40 = .ok (.iload_n 1, 1)) ∧ (decode cX10_tickPair 41 = .ok (.dup2, 1)) ∧ (decode cX10_tickPair 42 = .ok (.iaload, 1)) ∧ (decode cX10_tickPair 43 = .ok (.iconst 1, 1)) ∧ (decode cX10_tickPair 44 = .ok (.iadd, 1)) ∧ (decode cX10_tickPair 45 = .ok (.iastore, 1)) ∧ (decode cX10_tickPair 46 = .ok (.aload_n 0, 1)) ∧ (decode cX10_tickPair 47 = .ok (.getfield 52, 3)) := by decide +kernel
theorem dX10_tickPair_26 : decode cX10_tickPair 26 = .ok (.getfield 52, 3) := gdX10_tickPair_26.1
theorem dX10_tickPair_29 : decode cX10_tickPair 29 = .ok (.iload_n 1, 1) := gdX10_tickPair_26.2.1
theorem dX10_tickPair_30 : decode cX10_tickPair 30 = .ok (.baload, 1) := gdX10_tickPair_26.2.2.1
theorem dX10_tickPair_31 : decode cX10_tickPair 31 = .ok (.ifCond .ne 5, 3) := gdX10_tickPair_26.2.2.2.1
theorem dX10_tickPair_34 : decode cX10_tickPair 34 = .ok (.iconst 0, 1) := gdX10_tickPair_26.2.2.2.2.1
theorem dX10_tickPair_35 : decode cX10_tickPair 35 = .ok (.ireturn, 1) := gdX10_tickPair_26.2.2.2.2.2.1
theorem dX10_tickPair_36 : decode cX10_tickPair 36 = .ok (.aload_n 0, 1) := gdX10_tickPair_26.2.2.2.2.2.2.1
theorem dX10_tickPair_37 : decode cX10_tickPair 37 = .ok (.getfield 43, 3) := gdX10_tickPair_26.2.2.2.2.2.2.2.1
theorem dX10_tickPair_40 : decode cX10_tickPair 40 = .ok (.iload_n 1, 1) := gdX10_tickPair_26.2.2.2.2.2.2.2.2.1
theorem dX10_tickPair_41 : decode cX10_tickPair 41 = .ok (.dup2, 1) := gdX10_tickPair_26.2.2.2.2.2.2.2.2.2.1
theorem dX10_tickPair_42 : decode cX10_tickPair 42 = .ok (.iaload, 1) := gdX10_tickPair_26.2.2.2.2.2.2.2.2.2.2.1
theorem dX10_tickPair_43 : decode cX10_tickPair 43 = .ok (.iconst 1, 1) := gdX10_tickPair_26.2.2.2.2.2.2.2.2.2.2.2.1
theorem dX10_tickPair_44 : decode cX10_tickPair 44 = .ok (.iadd, 1) := gdX10_tickPair_26.2.2.2.2.2.2.2.2.2.2.2.2.1
theorem dX10_tickPair_45 : decode cX10_tickPair 45 = .ok (.iastore, 1) := gdX10_tickPair_26.2.2.2.2.2.2.2.2.2.2.2.2.2.1
theorem dX10_tickPair_46 : decode cX10_tickPair 46 = .ok (.aload_n 0, 1) := gdX10_tickPair_26.2.2.2.2.2.2.2.2.2.2.2.2.2.2.1
theorem dX10_tickPair_47 : decode cX10_tickPair 47 = .ok (.getfield 52, 3) := gdX10_tickPair_26.2.2.2.2.2.2.2.2.2.2.2.2.2.2.2
theorem gdX10_tickPair_50 : (decode cX10_tickPair 50 = .ok (.iload_n 1, 1)) ∧ (decode cX10_tickPair 51 = .ok (.baload, 1)) ∧ (decode cX10_tickPair 52 = .ok (.ifCond .eq 31, 3)) ∧ (decode cX10_tickPair 55 = .ok (.aload_n 0, 1)) ∧ (decode cX10_tickPair 56 = .ok (.getfield 43, 3)) ∧ (decode cX10_tickPair 59 = .ok (.iload_n 1, 1)) ∧ (decode cX10_tickPair 60 = .ok (.iaload, 1)) ∧ (decode cX10_tickPair 61 = .ok (.iconst 3, 1)) ∧ (decode cX10_tickPair 62 = .ok (.if_icmp .ge 5, 3)) ∧ (decode cX10_tickPair 65 = .ok (.iconst 0, 1)) ∧ (decode cX10_tickPair 66 = .ok (.ireturn, 1)) ∧ (decode cX10_tickPair 67 = .ok (.aload_n 0, 1)) ∧ (decode cX10_tickPair 68 = .ok (.getfield 52, 3)) ∧ (decode cX10_tickPair 71 = .ok (.iload_n 1, 1)) ∧ (decode cX10_tickPair 72 = .ok (.iconst 0, 1)) ∧ (decode cX10_tickPair 73 = .ok (.bastore, 1)) := by decide +kernel
theorem dX10_tickPair_50 : decode cX10_tickPair 50 = .ok (.iload_n 1, 1) := gdX10_tickPair_50.1
theorem dX10_tickPair_51 : decode cX10_tickPair 51 = .ok (.baload, 1) := gdX10_tickPair_50.2.1
theorem dX10_tickPair_52 : decode cX10_tickPair 52 = .ok (.ifCond .eq 31, 3) := gdX10_tickPair_50.2.2.1
theorem dX10_tickPair_55 : decode cX10_tickPair 55 = .ok (.aload_n 0, 1) := gdX10_tickPair_50.2.2.2.1
theorem dX10_tickPair_56 : decode cX10_tickPair 56 = .ok (.getfield 43, 3) := gdX10_tickPair_50.2.2.2.2.1
theorem dX10_tickPair_59 : decode cX10_tickPair 59 = .ok (.iload_n 1, 1) := gdX10_tickPair_50.2.2.2.2.2.1
theorem dX10_tickPair_60 : decode cX10_tickPair 60 = .ok (.iaload, 1) := gdX10_tickPair_50.2.2.2.2.2.2.1
theorem dX10_tickPair_61 : decode cX10_tickPair 61 = .ok (.iconst 3, 1) := gdX10_tickPair_50.2.2.2.2.2.2.2.1
theorem dX10_tickPair_62 : decode cX10_tickPair 62 = .ok (.if_icmp .ge 5, 3) := gdX10_tickPair_50.2.2.2.2.2.2.2.2.1
theorem dX10_tickPair_65 : decode cX10_tickPair 65 = .ok (.iconst 0, 1) := gdX10_tickPair_50.2.2.2.2.2.2.2.2.2.1
theorem dX10_tickPair_66 : decode cX10_tickPair 66 = .ok (.ireturn, 1) := gdX10_tickPair_50.2.2.2.2.2.2.2.2.2.2.1
theorem dX10_tickPair_67 : decode cX10_tickPair 67 = .ok (.aload_n 0, 1) := gdX10_tickPair_50.2.2.2.2.2.2.2.2.2.2.2.1
theorem dX10_tickPair_68 : decode cX10_tickPair 68 = .ok (.getfield 52, 3) := gdX10_tickPair_50.2.2.2.2.2.2.2.2.2.2.2.2.1
theorem dX10_tickPair_71 : decode cX10_tickPair 71 = .ok (.iload_n 1, 1) := gdX10_tickPair_50.2.2.2.2.2.2.2.2.2.2.2.2.2.1
theorem dX10_tickPair_72 : decode cX10_tickPair 72 = .ok (.iconst 0, 1) := gdX10_tickPair_50.2.2.2.2.2.2.2.2.2.2.2.2.2.2.1
theorem dX10_tickPair_73 : decode cX10_tickPair 73 = .ok (.bastore, 1) := gdX10_tickPair_50.2.2.2.2.2.2.2.2.2.2.2.2.2.2.2
theorem gdX10_tickPair_74 : (decode cX10_tickPair 74 = .ok (.aload_n 0, 1)) ∧ (decode cX10_tickPair 75 = .ok (.getfield 43, 3)) ∧ (decode cX10_tickPair 78 = .ok (.iload_n 1, 1)) ∧ (decode cX10_tickPair 79 = .ok (.iconst 0, 1)) ∧ (decode cX10_tickPair 80 = .ok (.iastore, 1)) ∧ (decode cX10_tickPair 81 = .ok (.iconst 0, 1)) ∧ (decode cX10_tickPair 82 = .ok (.ireturn, 1)) ∧ (decode cX10_tickPair 83 = .ok (.aload_n 0, 1)) ∧ (decode cX10_tickPair 84 = .ok (.getfield 43, 3)) ∧ (decode cX10_tickPair 87 = .ok (.iload_n 1, 1)) ∧ (decode cX10_tickPair 88 = .ok (.iaload, 1)) ∧ (decode cX10_tickPair 89 = .ok (.aload_n 0, 1)) ∧ (decode cX10_tickPair 90 = .ok (.getfield 143, 3)) ∧ (decode cX10_tickPair 93 = .ok (.if_icmp .eq 5, 3)) ∧ (decode cX10_tickPair 96 = .ok (.iconst 0, 1)) ∧ (decode cX10_tickPair 97 = .ok (.ireturn, 1)) := by decide +kernel
theorem dX10_tickPair_74 : decode cX10_tickPair 74 = .ok (.aload_n 0, 1) := gdX10_tickPair_74.1
theorem dX10_tickPair_75 : decode cX10_tickPair 75 = .ok (.getfield 43, 3) := gdX10_tickPair_74.2.1
theorem dX10_tickPair_78 : decode cX10_tickPair 78 = .ok (.iload_n 1, 1) := gdX10_tickPair_74.2.2.1
theorem dX10_tickPair_79 : decode cX10_tickPair 79 = .ok (.iconst 0, 1) := gdX10_tickPair_74.2.2.2.1
theorem dX10_tickPair_80 : decode cX10_tickPair 80 = .ok (.iastore, 1) := gdX10_tickPair_74.2.2.2.2.1
theorem dX10_tickPair_81 : decode cX10_tickPair 81 = .ok (.iconst 0, 1) := gdX10_tickPair_74.2.2.2.2.2.1
theorem dX10_tickPair_82 : decode cX10_tickPair 82 = .ok (.ireturn, 1) := gdX10_tickPair_74.2.2.2.2.2.2.1
theorem dX10_tickPair_83 : decode cX10_tickPair 83 = .ok (.aload_n 0, 1) := gdX10_tickPair_74.2.2.2.2.2.2.2.1
theorem dX10_tickPair_84 : decode cX10_tickPair 84 = .ok (.getfield 43, 3) := gdX10_tickPair_74.2.2.2.2.2.2.2.2.1
theorem dX10_tickPair_87 : decode cX10_tickPair 87 = .ok (.iload_n 1, 1) := gdX10_tickPair_74.2.2.2.2.2.2.2.2.2.1
theorem dX10_tickPair_88 : decode cX10_tickPair 88 = .ok (.iaload, 1) := gdX10_tickPair_74.2.2.2.2.2.2.2.2.2.2.1
theorem dX10_tickPair_89 : decode cX10_tickPair 89 = .ok (.aload_n 0, 1) := gdX10_tickPair_74.2.2.2.2.2.2.2.2.2.2.2.1
theorem dX10_tickPair_90 : decode cX10_tickPair 90 = .ok (.getfield 143, 3) := gdX10_tickPair_74.2.2.2.2.2.2.2.2.2.2.2.2.1
theorem dX10_tickPair_93 : decode cX10_tickPair 93 = .ok (.if_icmp .eq 5, 3) := gdX10_tickPair_74.2.2.2.2.2.2.2.2.2.2.2.2.2.1
theorem dX10_tickPair_96 : decode cX10_tickPair 96 = .ok (.iconst 0, 1) := gdX10_tickPair_74.2.2.2.2.2.2.2.2.2.2.2.2.2.2.1
theorem dX10_tickPair_97 : decode cX10_tickPair 97 = .ok (.ireturn, 1) := gdX10_tickPair_74.2.2.2.2.2.2.2.2.2.2.2.2.2.2.2
theorem gdX10_tickPair_98 : (decode cX10_tickPair 98 = .ok (.aload_n 0, 1)) ∧ (decode cX10_tickPair 99 = .ok (.getfield 43, 3)) ∧ (decode cX10_tickPair 102 = .ok (.iload_n 1, 1)) ∧ (decode cX10_tickPair 103 = .ok (.iconst 0, 1)) ∧ (decode cX10_tickPair 104 = .ok (.iastore, 1)) ∧ (decode cX10_tickPair 105 = .ok (.aload_n 0, 1)) ∧ (decode cX10_tickPair 106 = .ok (.getfield 46, 3)) ∧ (decode cX10_tickPair 109 = .ok (.iload_n 1, 1)) ∧ (decode cX10_tickPair 110 = .ok (.dup2, 1)) ∧ (decode cX10_tickPair 111 = .ok (.iaload, 1)) ∧ (decode cX10_tickPair 112 = .ok (.iconst 1, 1)) ∧ (decode cX10_tickPair 113 = .ok (.iadd, 1)) ∧ (decode cX10_tickPair 114 = .ok (.iastore, 1)) ∧ (decode cX10_tickPair 115 = .ok (.aload_n 0, 1)) ∧ (decode cX10_tickPair 116 = .ok (.getfield 46, 3)) ∧ (decode cX10_tickPair 119 = .ok (.iload_n 1, 1)) := by decide +kernel
theorem dX10_tickPair_98 : decode cX10_tickPair 98 = .ok (.aload_n 0, 1) := gdX10_tickPair_98.1
theorem dX10_tickPair_99 : decode cX10_tickPair 99 = .ok (.getfield 43, 3) := gdX10_tickPair_98.2.1
theorem dX10_tickPair_102 : decode cX10_tickPair 102 = .ok (.iload_n 1, 1) := gdX10_tickPair_98.2.2.1
theorem dX10_tickPair_103 : decode cX10_tickPair 103 = .ok (.iconst 0, 1) := gdX10_tickPair_98.2.2.2.1
theorem dX10_tickPair_104 : decode cX10_tickPair 104 = .ok (.iastore, 1) := gdX10_tickPair_98.2.2.2.2.1
theorem dX10_tickPair_105 : decode cX10_tickPair 105 = .ok (.aload_n 0, 1) := gdX10_tickPair_98.2.2.2.2.2.1
theorem dX10_tickPair_106 : decode cX10_tickPair 106 = .ok (.getfield 46, 3) := gdX10_tickPair_98.2.2.2.2.2.2.1
theorem dX10_tickPair_109 : decode cX10_tickPair 109 = .ok (.iload_n 1, 1) := gdX10_tickPair_98.2.2.2.2.2.2.2.1
theorem dX10_tickPair_110 : decode cX10_tickPair 110 = .ok (.dup2, 1) := gdX10_tickPair_98.2.2.2.2.2.2.2.2.1
theorem dX10_tickPair_111 : decode cX10_tickPair 111 = .ok (.iaload, 1) := gdX10_tickPair_98.2.2.2.2.2.2.2.2.2.1
theorem dX10_tickPair_112 : decode cX10_tickPair 112 = .ok (.iconst 1, 1) := gdX10_tickPair_98.2.2.2.2.2.2.2.2.2.2.1
theorem dX10_tickPair_113 : decode cX10_tickPair 113 = .ok (.iadd, 1) := gdX10_tickPair_98.2.2.2.2.2.2.2.2.2.2.2.1
theorem dX10_tickPair_114 : decode cX10_tickPair 114 = .ok (.iastore, 1) := gdX10_tickPair_98.2.2.2.2.2.2.2.2.2.2.2.2.1
theorem dX10_tickPair_115 : decode cX10_tickPair 115 = .ok (.aload_n 0, 1) := gdX10_tickPair_98.2.2.2.2.2.2.2.2.2.2.2.2.2.1
theorem dX10_tickPair_116 : decode cX10_tickPair 116 = .ok (.getfield 46, 3) := gdX10_tickPair_98.2.2.2.2.2.2.2.2.2.2.2.2.2.2.1
theorem dX10_tickPair_119 : decode cX10_tickPair 119 = .ok (.iload_n 1, 1) := gdX10_tickPair_98.2.2.2.2.2.2.2.2.2.2.2.2.2.2.2
theorem gdX10_tickPair_120 : (decode cX10_tickPair 120 = .ok (.iaload, 1)) ∧ (decode cX10_tickPair 121 = .ok (.aload_n 0, 1)) ∧ (decode cX10_tickPair 122 = .ok (.getfield 147, 3)) ∧ (decode cX10_tickPair 125 = .ok (.if_icmp .le 12, 3)) ∧ (decode cX10_tickPair 128 = .ok (.aload_n 0, 1)) ∧ (decode cX10_tickPair 129 = .ok (.iload_n 1, 1)) ∧ (decode cX10_tickPair 130 = .ok (.iconst 1, 1)) ∧ (decode cX10_tickPair 131 = .ok (.iconst 0, 1)) ∧ (decode cX10_tickPair 132 = .ok (.invokevirtual 221, 3)) ∧ (decode cX10_tickPair 135 = .ok (.iconst 1, 1)) ∧ (decode cX10_tickPair 136 = .ok (.ireturn, 1)) ∧ (decode cX10_tickPair 137 = .ok (.aload_n 0, 1)) ∧ (decode cX10_tickPair 138 = .ok (.getfield 37, 3)) ∧ (decode cX10_tickPair 141 = .ok (.iload_n 1, 1)) ∧ (decode cX10_tickPair 142 = .ok (.aload_n 0, 1)) ∧ (decode cX10_tickPair 143 = .ok (.getfield 34, 3)) := by decide +kernel
theorem dX10_tickPair_120 : decode cX10_tickPair 120 = .ok (.iaload, 1) := gdX10_tickPair_120.1
theorem dX10_tickPair_121 : decode cX10_tickPair 121 = .ok (.aload_n 0, 1) := gdX10_tickPair_120.2.1
theorem dX10_tickPair_122 : decode cX10_tickPair 122 = .ok (.getfield 147, 3) := gdX10_tickPair_120.2.2.1
theorem dX10_tickPair_125 : decode cX10_tickPair 125 = .ok (.if_icmp .le 12, 3) := gdX10_tickPair_120.2.2.2.1
theorem dX10_tickPair_128 : decode cX10_tickPair 128 = .ok (.aload_n 0, 1) := gdX10_tickPair_120.2.2.2.2.1
theorem dX10_tickPair_129 : decode cX10_tickPair 129 = .ok (.iload_n 1, 1) := gdX10_tickPair_120.2.2.2.2.2.1
theorem dX10_tickPair_130 : decode cX10_tickPair 130 = .ok (.iconst 1, 1) := gdX10_tickPair_120.2.2.2.2.2.2.1
theorem dX10_tickPair_131 : decode cX10_tickPair 131 = .ok (.iconst 0, 1) := gdX10_tickPair_120.2.2.2.2.2.2.2.1
theorem dX10_tickPair_132 : decode cX10_tickPair 132 = .ok (.invokevirtual 221, 3) := gdX10_tickPair_120.2.2.2.2.2.2.2.2.1
theorem dX10_tickPair_135 : decode cX10_tickPair 135 = .ok (.iconst 1, 1) := gdX10_tickPair_120.2.2.2.2.2.2.2.2.2.1
theorem dX10_tickPair_136 : decode cX10_tickPair 136 = .ok (.ireturn, 1) := gdX10_tickPair_120.2.2.2.2.2.2.2.2.2.2.1
theorem dX10_tickPair_137 : decode cX10_tickPair 137 = .ok (.aload_n 0, 1) := gdX10_tickPair_120.2.2.2.2.2.2.2.2.2.2.2.1
theorem dX10_tickPair_138 : decode cX10_tickPair 138 = .ok (.getfield 37, 3) := gdX10_tickPair_120.2.2.2.2.2.2.2.2.2.2.2.2.1
theorem dX10_tickPair_141 : decode cX10_tickPair 141 = .ok (.iload_n 1, 1) := gdX10_tickPair_120.2.2.2.2.2.2.2.2.2.2.2.2.2.1
theorem dX10_tickPair_142 : decode cX10_tickPair 142 = .ok (.aload_n 0, 1) := gdX10_tickPair_120.2.2.2.2.2.2.2.2.2.2.2.2.2.2.1
theorem dX10_tickPair_143 : decode cX10_tickPair 143 = .ok (.getfield 34, 3) := gdX10_tickPair_120.2.2.2.2.2.2.2.2.2.2.2.2.2.2.2
theorem gdX10_tickPair_146 : (decode cX10_tickPair 146 = .ok (.iload_n 1, 1)) ∧ (decode cX10_tickPair 147 = .ok (.iaload, 1)) ∧ (decode cX10_tickPair 148 = .ok (.iastore, 1)) ∧ (decode cX10_tickPair 149 = .ok (.iconst 0, 1)) ∧ (decode cX10_tickPair 150 = .ok (.ireturn, 1)) := by decide +kernel
theorem dX10_tickPair_146 : decode cX10_tickPair 146 = .ok (.iload_n 1, 1) := gdX10_tickPair_146.1
theorem dX10_tickPair_147 : decode cX10_tickPair 147 = .ok (.iaload, 1) := gdX10_tickPair_146.2.1
theorem dX10_tickPair_148 : decode cX10_tickPair 148 = .ok (.iastore, 1) := gdX10_tickPair_146.2.2.1
theorem dX10_tickPair_149 : decode cX10_tickPair 149 = .ok (.iconst 0, 1) := gdX10_tickPair_146.2.2.2.1
theorem dX10_tickPair_150 : decode cX10_tickPair 150 = .ok (.ireturn, 1) := gdX10_tickPair_146.2.2.2.2
set_option maxHeartbeats 8000000 in
set_option maxRecDepth 100000 in
theorem u_X10_tickPair (l : Launch) (E : EE) (z0 : Nat) (G : Nat → Nat) (hGz : ∀ q, G q ≠ 0 → z0 ≤ q) (h0 : Nat) (rf : Nat → Nat) (hR : MG G h0 rf) (t0 t1 t2 : Int32) (A : AA) (cd pk : Int32) (p0 : Int32) (hI3 : I3 (A 8)) (hI4 : I4 (A 10) (A 20) (A 29) (A 24) (A 11) (A 12) (A 13)) (hI8 : I8 (A 20) (A 30) (A 37) (A 36)) (hy0 : 0 ≤ p0.toInt ∧ p0.toInt ≤ 3) : Met l yX10_tickPair [Cond.code yX10_tickPair cX10_tickPair 2 (some .int)] ({ frames := 3, cells := 0, slots := 0, locals := 72 } : Room) (va_Pc [.ref h0, .int p0] (fun U => MH E h0 rf t0 t1 t2 A cd pk U.heap ∧ KS E z0 U)) (va_Qi (fun (r : Int32) (u : (Nat → Int32) × (Nat → Int32) × (Nat → Int32) × (Nat → Int32) × (Nat → Int32) × (Nat → Int32) × (Nat → Int32) × (Nat → Int32) × (Nat → Int32) × (Nat → Int32)) => (I3 (u.1)) ∧ (I4 (u.2.2.1) (u.2.2.2.2.2.2.2.1) (A 29) (A 24) (A 11) (A 12) (u.2.2.2.1)) ∧ (I8 (u.2.2.2.2.2.2.2.1) (u.2.2.2.2.2.2.2.2.1) (A 37) (u.2.2.2.2.2.2.2.2.2)) ∧ (D_X10_tickPair t0 t1 t2 A cd pk p0 (uA (uA (uA (uA (uA (uA (uA (uA (uA (uA A 8 (u.1)) 9 (u.2.1)) 10 (u.2.2.1)) 13 (u.2.2.2.1)) 15 (u.2.2.2.2.1)) 16 (u.2.2.2.2.2.1)) 18 (u.2.2.2.2.2.2.1)) 20 (u.2.2.2.2.2.2.2.1)) 30 (u.2.2.2.2.2.2.2.2.1)) 36 (u.2.2.2.2.2.2.2.2.2)) cd pk r)) (fun u t => MH E h0 rf t0 t1 t2 (uA (uA (uA (uA (uA (uA (uA (uA (uA (uA A 8 (u.1)) 9 (u.2.1)) 10 (u.2.2.1)) 13 (u.2.2.2.1)) 15 (u.2.2.2.2.1)) 16 (u.2.2.2.2.2.1)) 18 (u.2.2.2.2.2.2.1)) 20 (u.2.2.2.2.2.2.2.1)) 30 (u.2.2.2.2.2.2.2.2.1)) 36 (u.2.2.2.2.2.2.2.2.2)) cd pk t.heap) (fun q : Nat => G q ≠ 0)) 0 0 (fun q : Nat => G q ≠ 0) := by
  refine Met.ofW (cc := cX10_tickPair) (maxL := 2) (ret := (some .int)) (by decide) rfl ?_
  intro p e s m args below meth c s₁ B hml hv
  obtain ⟨rfl, hM, hK⟩ := hv
  have hx := B.exec
  have hb := B.bytes
  have hr := B.returns
  have hts : ∀ w ∈ TS, w.before ([.ref h0, .int p0] : List Value).toArray s = true := fun w hw => hK.2.1 w hw _
  have hown : s.vm.findClass RX10 = some m.cls := findClass_of_methodNamed B.named
  have hlocks := B.notSynchronized
  have hS : va_S (fun q : Nat => G q ≠ 0) s.heap s.heap [] := va_S.rf
  have hAz : ∀ q, (fun q : Nat => G q ≠ 0) q → z0 ≤ q := hGz
  have hl := lv_entry ([.ref h0, .int p0]) (n := 2) (Nat.le_of_ble_eq_true rfl)
  rw [lg_entry_eq]
  generalize (lg_sl ([.ref h0, .int p0]) ++ List.replicate (2 - (lg_sl ([.ref h0, .int p0])).length) Slot.unset).toArray = ls at hl ⊢
  have hl : lv_has ls 2 [(0, .ref h0), (1, .int p0)] := hl
  obtain ⟨n_1, hn_1, en_1⟩ := s_nat (x := p0) (by omega)
  refine lv_aload_n hx hb dX10_tickPair_0 rfl (lv_at hl 0 rfl) ?_
  refine va_get (D := DG E) (ci := 10) (v := .ref (rf 10)) (C := RX10) (T := TX10) (N := 49) hx hb hts iw_X10 hown hK.1 (va_one hM.1) 0 rfl rfl 10 (by decide) (hts _ fl_X10_28) (fun _ h9 => h9) rfl dX10_tickPair_1 ?_
  refine lv_iload_n hx hb dX10_tickPair_4 rfl (lv_at hl 1 rfl) ?_
  have hi_2 : vp_in p0 4 := vp_in_iff.mpr (by omega)
  have ha_3 : va_at (DG E) vwCl (rf 10, .inl (E.2.2 0, 4, .inl (A 10))) _ := hM.2 10 (by decide) (by decide) (by decide)
  refine va_iald (D := DG E) hx hb hK.1 (va_one ha_3) 0 0 rfl rfl hi_2 dX10_tickPair_5 ?_
  refine W.eq (g2 := F0 m 6 ls [.int ((A 10) n_1)]) (by rw [en_1]) ?_
  refine lv_iconst (v := 1) hx hb dX10_tickPair_6 (by decide) ?_
  refine lv_icmp_ne (tgt := 34) hx hb dX10_tickPair_7 (by decide) (fun c_4 => ?_) (fun c_4 => ?_)
  · simp only [lt_I, le_I, eq_I, i_0, i_1, i_2, i_3, i_4, i_5, i_6, i_7, i_8, i_10, i_12, i_16, i_20, i_23, i_24, i_31, i_32, i_63, i_64, i_m1, i_9, i_11, i_13, i_25, i_60, i_75, i_79, i_80, i_96, i_100] at c_4
    refine lv_iconst (v := 0) hx hb dX10_tickPair_34 (by decide) ?_
    exact W.iret (v := 0) hx hb hr (fun t ht hW => ⟨⟨0, ((A 8), (A 9), (A 10), (A 13), (A 15), (A 16), (A 18), (A 20), (A 30), (A 36)), rfl, ⟨hI3, hI4, hI8, (Or.inl ⟨n_1, hn_1, c_4, rfl, rfl, rfl, rfl⟩)⟩, (by show MH E h0 rf t0 t1 t2 (uA (uA (uA (uA (uA (uA (uA (uA (uA (uA A 8 (A 8)) 9 (A 9)) 10 (A 10)) 13 (A 13)) 15 (A 15)) 16 (A 16)) 18 (A 18)) 20 (A 20)) 30 (A 30)) 36 (A 36)) cd pk t.heap; rw [ht]; exact hM.cge (funext fun j => (cgj j 36 rfl (fun a0 => (cgj j 30 rfl (fun a1 => (cgj j 20 rfl (fun a2 => (cgj j 18 rfl (fun a3 => (cgj j 16 rfl (fun a4 => (cgj j 15 rfl (fun a5 => (cgj j 13 rfl (fun a6 => (cgj j 10 rfl (fun a7 => (cgj j 9 rfl (fun a8 => (cgj j 8 rfl (fun a9 => (by simp only [uA_n a0, uA_n a1, uA_n a2, uA_n a3, uA_n a4, uA_n a5, uA_n a6, uA_n a7, uA_n a8, uA_n a9])))))))))))))))))))))))⟩, hS.F ht⟩) hS.2.2 dX10_tickPair_35
  · simp only [lt_I, le_I, eq_I, i_0, i_1, i_2, i_3, i_4, i_5, i_6, i_7, i_8, i_10, i_12, i_16, i_20, i_23, i_24, i_31, i_32, i_63, i_64, i_m1, i_9, i_11, i_13, i_25, i_60, i_75, i_79, i_80, i_96, i_100] at c_4
    refine lv_aload_n hx hb dX10_tickPair_10 rfl (lv_at hl 0 rfl) ?_
    refine va_get (D := DG E) (ci := 10) (v := .ref (rf 13)) (C := RX10) (T := TX10) (N := 49) hx hb hts iw_X10 hown hK.1 (va_one hM.1) 0 rfl rfl 13 (by decide) (hts _ fl_X10_37) (fun _ h9 => h9) rfl dX10_tickPair_11 ?_
    refine lv_iload_n hx hb dX10_tickPair_14 rfl (lv_at hl 1 rfl) ?_
    have ha_5 : va_at (DG E) vwCl (rf 13, .inl (E.2.2 0, 4, .inl (A 13))) _ := hM.2 13 (by decide) (by decide) (by decide)
    refine va_iald (D := DG E) hx hb hK.1 (va_one ha_5) 0 0 rfl rfl hi_2 dX10_tickPair_15 ?_
    refine W.eq (g2 := F0 m 16 ls [.int ((A 13) n_1)]) (by rw [en_1]) ?_
    refine lv_aload_n hx hb dX10_tickPair_16 rfl (lv_at hl 0 rfl) ?_
    refine va_get (D := DG E) (ci := 10) (v := .ref (rf 12)) (C := RX10) (T := TX10) (N := 49) hx hb hts iw_X10 hown hK.1 (va_one hM.1) 0 rfl rfl 12 (by decide) (hts _ fl_X10_34) (fun _ h9 => h9) rfl dX10_tickPair_17 ?_
    refine lv_iload_n hx hb dX10_tickPair_20 rfl (lv_at hl 1 rfl) ?_
    have ha_6 : va_at (DG E) vwCl (rf 12, .inl (E.2.2 0, 4, .inl (A 12))) _ := hM.2 12 (by decide) (by decide) (by decide)
    refine va_iald (D := DG E) hx hb hK.1 (va_one ha_6) 0 0 rfl rfl hi_2 dX10_tickPair_21 ?_
    refine W.eq (g2 := F0 m 22 ls [.int ((A 12) n_1), .int ((A 13) n_1)]) (by rw [en_1]) ?_
    refine lv_icmp_ne (tgt := 36) hx hb dX10_tickPair_22 (by decide) (fun c_7 => ?_) (fun c_7 => ?_)
    · simp only [lt_I, le_I, eq_I, i_0, i_1, i_2, i_3, i_4, i_5, i_6, i_7, i_8, i_10, i_12, i_16, i_20, i_23, i_24, i_31, i_32, i_63, i_64, i_m1, i_9, i_11, i_13, i_25, i_60, i_75, i_79, i_80, i_96, i_100] at c_7
      have hst0 : ((A 10) n_1).toInt = 1 := by omega
      refine lv_aload_n hx hb dX10_tickPair_36 rfl (lv_at hl 0 rfl) ?_
      refine va_get (D := DG E) (ci := 10) (v := .ref (rf 15)) (C := RX10) (T := TX10) (N := 49) hx hb hts iw_X10 hown hK.1 (va_one hM.1) 0 rfl rfl 15 (by decide) (hts _ fl_X10_43) (fun _ h9 => h9) rfl dX10_tickPair_37 ?_
      refine lv_iload_n hx hb dX10_tickPair_40 rfl (lv_at hl 1 rfl) ?_
      refine lv_dup2_11 hx hb dX10_tickPair_41 rfl rfl ?_
      have ha_8 : va_at (DG E) vwCl (rf 15, .inl (E.2.2 0, 4, .inl (A 15))) _ := hM.2 15 (by decide) (by decide) (by decide)
      refine va_iald (D := DG E) hx hb hK.1 (va_one ha_8) 0 0 rfl rfl hi_2 dX10_tickPair_42 ?_
      refine W.eq (g2 := F0 m 43 ls [.int ((A 15) n_1), .int p0, .ref (rf 15)]) (by rw [en_1]) ?_
      refine lv_iconst (v := 1) hx hb dX10_tickPair_43 (by decide) ?_
      refine lv_iadd hx hb dX10_tickPair_44 ?_
      refine lv_topi (fun x_9 ex_9 => ?_)
      have ha_10 : va_at (DG E) vwCl (rf 15, .inl (E.2.2 0, 4, .inl (A 15))) _ := hM.2 15 (by decide) (by decide) (by decide)
      refine rr_iast (D := DG E) hx hb hK.1 0 ha_10 hS (by show G (rf 15) ≠ 0; rw [hR.2 15 (by decide) (by decide) (by decide)]; decide) rfl hi_2 dX10_tickPair_45 (fun H locs hn ho hz hS => ?_)
      rw [en_1] at hn
      obtain ⟨g_10, eg_10⟩ : ∃ z : Nat → Int32, z = upd (A 15) n_1 x_9 := ⟨_, rfl⟩
      have sg_10 : g_10 n_1 = x_9 := by rw [eg_10]; exact upd_s
      have ng_10 : ∀ k, k ≠ n_1 → g_10 k = (A 15) k := fun k hk => by rw [eg_10]; exact upd_n hk
      have hn : va_at (DG E) vwCl (rf 15, .inl (E.2.2 0, 4, .inl g_10)) H := by rw [eg_10]; exact hn
      have hM : MH E h0 rf t0 t1 t2 (uA A 15 g_10) cd pk H := hM.w hR 15 (by decide) (by decide) (by decide) hn ho
      refine lv_aload_n hx hb dX10_tickPair_46 rfl (lv_at hl 0 rfl) ?_
      refine va_get (D := DG E) (ci := 10) (v := .ref (rf 18)) (C := RX10) (T := TX10) (N := 49) hx hb hts iw_X10 hown hK.1 (va_one hM.1) 0 rfl rfl 18 (by decide) (hts _ fl_X10_52) (fun _ h9 => h9) rfl dX10_tickPair_47 ?_
      refine lv_iload_n hx hb dX10_tickPair_50 rfl (lv_at hl 1 rfl) ?_
      have ha_11 : va_at (DG E) vwCl (rf 18, .inl (E.2.2 1, 4, .inl (A 18))) _ := hM.2 18 (by decide) (by decide) (by decide)
      refine va_zald (D := DG E) hx hb hK.1 (va_one ha_11) 0 1 rfl rfl hi_2 dX10_tickPair_51 ?_
      refine W.eq (g2 := F0 m 52 ls [.int ((A 18) n_1)]) (by rw [en_1]) ?_
      refine lv_if_eq (tgt := 83) hx hb dX10_tickPair_52 (by decide) (fun c_12 => ?_) (fun c_12 => ?_)
      · simp only [lt_I, le_I, eq_I, i_0, i_1, i_2, i_3, i_4, i_5, i_6, i_7, i_8, i_10, i_12, i_16, i_20, i_23, i_24, i_31, i_32, i_63, i_64, i_m1, i_9, i_11, i_13, i_25, i_60, i_75, i_79, i_80, i_96, i_100] at c_12
        refine lv_aload_n hx hb dX10_tickPair_83 rfl (lv_at hl 0 rfl) ?_
        refine va_get (D := DG E) (ci := 10) (v := .ref (rf 15)) (C := RX10) (T := TX10) (N := 49) hx hb hts iw_X10 hown hK.1 (va_one hM.1) 0 rfl rfl 15 (by decide) (hts _ fl_X10_43) (fun _ h9 => h9) rfl dX10_tickPair_84 ?_
        refine lv_iload_n hx hb dX10_tickPair_87 rfl (lv_at hl 1 rfl) ?_
        have ha_13 : va_at (DG E) vwCl (rf 15, .inl (E.2.2 0, 4, .inl g_10)) _ := hM.2 15 (by decide) (by decide) (by decide)
        refine va_iald (D := DG E) hx hb hK.1 (va_one ha_13) 0 0 rfl rfl hi_2 dX10_tickPair_88 ?_
        refine W.eq (g2 := F0 m 89 ls [.int x_9]) (by rw [en_1, sg_10]) ?_
        refine lv_aload_n hx hb dX10_tickPair_89 rfl (lv_at hl 0 rfl) ?_
        refine va_get (D := DG E) (ci := 10) (v := .int t0) (C := RX10) (T := TX10) (N := 49) hx hb hts iw_X10 hown hK.1 (va_one hM.1) 0 rfl rfl 0 (by decide) (hts _ fl_X10_143) (fun _ h9 => h9) rfl dX10_tickPair_90 ?_
        refine lv_icmp_eq (tgt := 98) hx hb dX10_tickPair_93 (by decide) (fun c_14 => ?_) (fun c_14 => ?_)
        · simp only [lt_I, le_I, eq_I, i_0, i_1, i_2, i_3, i_4, i_5, i_6, i_7, i_8, i_10, i_12, i_16, i_20, i_23, i_24, i_31, i_32, i_63, i_64, i_m1, i_9, i_11, i_13, i_25, i_60, i_75, i_79, i_80, i_96, i_100] at c_14
          refine lv_aload_n hx hb dX10_tickPair_98 rfl (lv_at hl 0 rfl) ?_
          refine va_get (D := DG E) (ci := 10) (v := .ref (rf 15)) (C := RX10) (T := TX10) (N := 49) hx hb hts iw_X10 hown hK.1 (va_one hM.1) 0 rfl rfl 15 (by decide) (hts _ fl_X10_43) (fun _ h9 => h9) rfl dX10_tickPair_99 ?_
          refine lv_iload_n hx hb dX10_tickPair_102 rfl (lv_at hl 1 rfl) ?_
          refine lv_iconst (v := 0) hx hb dX10_tickPair_103 (by decide) ?_
          have ha_15 : va_at (DG E) vwCl (rf 15, .inl (E.2.2 0, 4, .inl g_10)) _ := hM.2 15 (by decide) (by decide) (by decide)
          refine rr_iast (D := DG E) hx hb hK.1 0 ha_15 hS (by show G (rf 15) ≠ 0; rw [hR.2 15 (by decide) (by decide) (by decide)]; decide) rfl hi_2 dX10_tickPair_104 (fun H locs hn ho hz hS => ?_)
          rw [en_1] at hn
          obtain ⟨g_15, eg_15⟩ : ∃ z : Nat → Int32, z = upd g_10 n_1 0 := ⟨_, rfl⟩
          have sg_15 : g_15 n_1 = 0 := by rw [eg_15]; exact upd_s
          have ng_15 : ∀ k, k ≠ n_1 → g_15 k = g_10 k := fun k hk => by rw [eg_15]; exact upd_n hk
          have hn : va_at (DG E) vwCl (rf 15, .inl (E.2.2 0, 4, .inl g_15)) H := by rw [eg_15]; exact hn
          have hM : MH E h0 rf t0 t1 t2 (uA (uA A 15 g_10) 15 g_15) cd pk H := hM.w hR 15 (by decide) (by decide) (by decide) hn ho
          refine lv_aload_n hx hb dX10_tickPair_105 rfl (lv_at hl 0 rfl) ?_
          refine va_get (D := DG E) (ci := 10) (v := .ref (rf 16)) (C := RX10) (T := TX10) (N := 49) hx hb hts iw_X10 hown hK.1 (va_one hM.1) 0 rfl rfl 16 (by decide) (hts _ fl_X10_46) (fun _ h9 => h9) rfl dX10_tickPair_106 ?_
          refine lv_iload_n hx hb dX10_tickPair_109 rfl (lv_at hl 1 rfl) ?_
          refine lv_dup2_11 hx hb dX10_tickPair_110 rfl rfl ?_
          have ha_16 : va_at (DG E) vwCl (rf 16, .inl (E.2.2 0, 4, .inl (A 16))) _ := hM.2 16 (by decide) (by decide) (by decide)
          refine va_iald (D := DG E) hx hb hK.1 (va_one ha_16) 0 0 rfl rfl hi_2 dX10_tickPair_111 ?_
          refine W.eq (g2 := F0 m 112 ls [.int ((A 16) n_1), .int p0, .ref (rf 16)]) (by rw [en_1]) ?_
          refine lv_iconst (v := 1) hx hb dX10_tickPair_112 (by decide) ?_
          refine lv_iadd hx hb dX10_tickPair_113 ?_
          refine lv_topi (fun x_17 ex_17 => ?_)
          have ha_18 : va_at (DG E) vwCl (rf 16, .inl (E.2.2 0, 4, .inl (A 16))) _ := hM.2 16 (by decide) (by decide) (by decide)
          refine rr_iast (D := DG E) hx hb hK.1 0 ha_18 hS (by show G (rf 16) ≠ 0; rw [hR.2 16 (by decide) (by decide) (by decide)]; decide) rfl hi_2 dX10_tickPair_114 (fun H locs hn ho hz hS => ?_)
          rw [en_1] at hn
          obtain ⟨g_18, eg_18⟩ : ∃ z : Nat → Int32, z = upd (A 16) n_1 x_17 := ⟨_, rfl⟩
          have sg_18 : g_18 n_1 = x_17 := by rw [eg_18]; exact upd_s
          have ng_18 : ∀ k, k ≠ n_1 → g_18 k = (A 16) k := fun k hk => by rw [eg_18]; exact upd_n hk
          have hn : va_at (DG E) vwCl (rf 16, .inl (E.2.2 0, 4, .inl g_18)) H := by rw [eg_18]; exact hn
          have hM : MH E h0 rf t0 t1 t2 (uA (uA (uA A 15 g_10) 15 g_15) 16 g_18) cd pk H := hM.w hR 16 (by decide) (by decide) (by decide) hn ho
          refine lv_aload_n hx hb dX10_tickPair_115 rfl (lv_at hl 0 rfl) ?_
          refine va_get (D := DG E) (ci := 10) (v := .ref (rf 16)) (C := RX10) (T := TX10) (N := 49) hx hb hts iw_X10 hown hK.1 (va_one hM.1) 0 rfl rfl 16 (by decide) (hts _ fl_X10_46) (fun _ h9 => h9) rfl dX10_tickPair_116 ?_
          refine lv_iload_n hx hb dX10_tickPair_119 rfl (lv_at hl 1 rfl) ?_
          have ha_19 : va_at (DG E) vwCl (rf 16, .inl (E.2.2 0, 4, .inl g_18)) _ := hM.2 16 (by decide) (by decide) (by decide)
          refine va_iald (D := DG E) hx hb hK.1 (va_one ha_19) 0 0 rfl rfl hi_2 dX10_tickPair_120 ?_
          refine W.eq (g2 := F0 m 121 ls [.int x_17]) (by rw [en_1, sg_18]) ?_
          refine lv_aload_n hx hb dX10_tickPair_121 rfl (lv_at hl 0 rfl) ?_
          refine va_get (D := DG E) (ci := 10) (v := .int t1) (C := RX10) (T := TX10) (N := 49) hx hb hts iw_X10 hown hK.1 (va_one hM.1) 0 rfl rfl 1 (by decide) (hts _ fl_X10_147) (fun _ h9 => h9) rfl dX10_tickPair_122 ?_
          refine lv_icmp_le (tgt := 137) hx hb dX10_tickPair_125 (by decide) (fun c_20 => ?_) (fun c_20 => ?_)
          · simp only [lt_I, le_I, eq_I, i_0, i_1, i_2, i_3, i_4, i_5, i_6, i_7, i_8, i_10, i_12, i_16, i_20, i_23, i_24, i_31, i_32, i_63, i_64, i_m1, i_9, i_11, i_13, i_25, i_60, i_75, i_79, i_80, i_96, i_100] at c_20
            refine lv_aload_n hx hb dX10_tickPair_137 rfl (lv_at hl 0 rfl) ?_
            refine va_get (D := DG E) (ci := 10) (v := .ref (rf 13)) (C := RX10) (T := TX10) (N := 49) hx hb hts iw_X10 hown hK.1 (va_one hM.1) 0 rfl rfl 13 (by decide) (hts _ fl_X10_37) (fun _ h9 => h9) rfl dX10_tickPair_138 ?_
            refine lv_iload_n hx hb dX10_tickPair_141 rfl (lv_at hl 1 rfl) ?_
            refine lv_aload_n hx hb dX10_tickPair_142 rfl (lv_at hl 0 rfl) ?_
            refine va_get (D := DG E) (ci := 10) (v := .ref (rf 12)) (C := RX10) (T := TX10) (N := 49) hx hb hts iw_X10 hown hK.1 (va_one hM.1) 0 rfl rfl 12 (by decide) (hts _ fl_X10_34) (fun _ h9 => h9) rfl dX10_tickPair_143 ?_
            refine lv_iload_n hx hb dX10_tickPair_146 rfl (lv_at hl 1 rfl) ?_
            have ha_21 : va_at (DG E) vwCl (rf 12, .inl (E.2.2 0, 4, .inl (A 12))) _ := hM.2 12 (by decide) (by decide) (by decide)
            refine va_iald (D := DG E) hx hb hK.1 (va_one ha_21) 0 0 rfl rfl hi_2 dX10_tickPair_147 ?_
            refine W.eq (g2 := F0 m 148 ls [.int ((A 12) n_1), .int p0, .ref (rf 13)]) (by rw [en_1]) ?_
            have ha_22 : va_at (DG E) vwCl (rf 13, .inl (E.2.2 0, 4, .inl (A 13))) _ := hM.2 13 (by decide) (by decide) (by decide)
            refine rr_iast (D := DG E) hx hb hK.1 0 ha_22 hS (by show G (rf 13) ≠ 0; rw [hR.2 13 (by decide) (by decide) (by decide)]; decide) rfl hi_2 dX10_tickPair_148 (fun H locs hn ho hz hS => ?_)
            rw [en_1] at hn
            obtain ⟨g_22, eg_22⟩ : ∃ z : Nat → Int32, z = upd (A 13) n_1 ((A 12) n_1) := ⟨_, rfl⟩
            have sg_22 : g_22 n_1 = ((A 12) n_1) := by rw [eg_22]; exact upd_s
            have ng_22 : ∀ k, k ≠ n_1 → g_22 k = (A 13) k := fun k hk => by rw [eg_22]; exact upd_n hk
            have hn : va_at (DG E) vwCl (rf 13, .inl (E.2.2 0, 4, .inl g_22)) H := by rw [eg_22]; exact hn
            have hM : MH E h0 rf t0 t1 t2 (uA (uA (uA (uA A 15 g_10) 15 g_15) 16 g_18) 13 g_22) cd pk H := hM.w hR 13 (by decide) (by decide) (by decide) hn ho
            refine lv_iconst (v := 0) hx hb dX10_tickPair_149 (by decide) ?_
            have hI4_23 : I4 (A 10) (A 20) (A 29) (A 24) (A 11) (A 12) g_22 := by
              intro k hk
              by_cases e : k = n_1
              · rw [e]
                exact ⟨fun _ => ((hI4 n_1 (by omega)).1 hst0).back sg_22, Or.inl hst0⟩
              · exact (hI4 k hk).cg rfl rfl (fun _ _ => rfl) (fun _ _ => rfl) rfl rfl (ng_22 k e)
            exact W.iret (v := 0) hx hb hr (fun t ht hW => ⟨⟨0, ((A 8), (A 9), (A 10), g_22, g_15, g_18, (A 18), (A 20), (A 30), (A 36)), rfl, ⟨hI3, hI4_23, hI8, (Or.inr (Or.inl ⟨n_1, hn_1, c_4, c_7, x_9, ex_9, g_10, eg_10, c_12, c_14, g_15, eg_15, x_17, ex_17, g_18, eg_18, c_20, g_22, eg_22, rfl, rfl, rfl, rfl⟩))⟩, (by show MH E h0 rf t0 t1 t2 (uA (uA (uA (uA (uA (uA (uA (uA (uA (uA A 8 (A 8)) 9 (A 9)) 10 (A 10)) 13 g_22) 15 g_15) 16 g_18) 18 (A 18)) 20 (A 20)) 30 (A 30)) 36 (A 36)) cd pk t.heap; rw [ht]; exact hM.cge (funext fun j => (cgj j 36 rfl (fun a0 => (cgj j 30 rfl (fun a1 => (cgj j 20 rfl (fun a2 => (cgj j 18 rfl (fun a3 => (cgj j 16 rfl (fun a4 => (cgj j 15 rfl (fun a5 => (cgj j 13 rfl (fun a6 => (cgj j 10 rfl (fun a7 => (cgj j 9 rfl (fun a8 => (cgj j 8 rfl (fun a9 => (by simp only [uA_n a0, uA_n a1, uA_n a2, uA_n a3, uA_n a4, uA_n a5, uA_n a6, uA_n a7, uA_n a8, uA_n a9])))))))))))))))))))))))⟩, hS.F ht⟩) hS.2.2 dX10_tickPair_150
          · simp only [lt_I, le_I, eq_I, i_0, i_1, i_2, i_3, i_4, i_5, i_6, i_7, i_8, i_10, i_12, i_16, i_20, i_23, i_24, i_31, i_32, i_63, i_64, i_m1, i_9, i_11, i_13, i_25, i_60, i_75, i_79, i_80, i_96, i_100] at c_20
            refine lv_aload_n hx hb dX10_tickPair_128 rfl (lv_at hl 0 rfl) ?_
            refine lv_iload_n hx hb dX10_tickPair_129 rfl (lv_at hl 1 rfl) ?_
            refine lv_iconst (v := 1) hx hb dX10_tickPair_130 (by decide) ?_
            refine lv_iconst (v := 0) hx hb dX10_tickPair_131 (by decide) ?_
            refine va_callv (rnV (fun H => MH E h0 rf t0 t1 t2 (uA (uA (uA A 15 g_10) 15 g_15) 16 g_18) cd pk H) (As := [.int p0, .int 1, .int 0]) (rest := []) ⟨hx, hb, hml, hown, hts⟩ (u_X10_failPair l E z0 G hGz h0 rf hR t0 t1 t2 (uA (uA (uA A 15 g_10) 15 g_15) 16 g_18) cd pk p0 1 0 hI3 hI4 hI8 (show 0 ≤ p0.toInt ∧ p0.toInt ≤ 3 from by have := i_0; have := i_1; first | decide | omega)) (cwV 3 hts (gdV ml_X10_221 im_X10_failPair se_X10_X10_failPair in_X10 co_X10_failPair rfl) rfl rfl rfl (by decide +kernel) ⟨Nat.le_of_ble_eq_true rfl, Nat.le_of_ble_eq_true rfl⟩) hM (fun U hU hW => hK.go hW hS hAz hU) (va_recv hK.1 (va_one hM.1) (ci := 10) (q0 := 0) rfl rfl) rfl rfl hl.1 rfl (lv_room (Nat.le_of_ble_eq_true rfl)) dX10_tickPair_132 ⟨Nat.le_of_ble_eq_true rfl, Nat.le_of_ble_eq_true rfl⟩) hS (fun q _ h => h) (fun q h => h) (fun ur_24 t H locs ht hvm hwr_24 hB hz hk hS => ?_)
            have hM : MH E h0 rf t0 t1 t2 (uA (uA (uA (uA (uA (uA (uA (uA (uA (uA A 15 g_10) 15 g_15) 16 g_18) 8 (ur_24.1)) 9 (ur_24.2.1)) 10 (ur_24.2.2.1)) 18 (ur_24.2.2.2.1)) 20 (ur_24.2.2.2.2.1)) 30 (ur_24.2.2.2.2.2.1)) 36 (ur_24.2.2.2.2.2.2)) cd pk H := by rw [ht] at hB; exact hB
            have hDr_24 : D_X10_failPair (uA (uA (uA A 15 g_10) 15 g_15) 16 g_18) cd pk p0 (1 : Int32) (0 : Int32) (uA (uA (uA (uA (uA (uA (uA (uA (uA (uA A 15 g_10) 15 g_15) 16 g_18) 8 (ur_24.1)) 9 (ur_24.2.1)) 10 (ur_24.2.2.1)) 18 (ur_24.2.2.2.1)) 20 (ur_24.2.2.2.2.1)) 30 (ur_24.2.2.2.2.2.1)) 36 (ur_24.2.2.2.2.2.2)) cd pk := hwr_24.2.2.2
            have hpr_24_0 : I3 (ur_24.1) := hwr_24.1
            have hpr_24_1 : I4 (ur_24.2.2.1) (ur_24.2.2.2.2.1) (A 29) (A 24) (A 11) (A 12) (A 13) := hwr_24.2.1
            have hpr_24_2 : I8 (ur_24.2.2.2.2.1) (ur_24.2.2.2.2.2.1) (A 37) (ur_24.2.2.2.2.2.2) := hwr_24.2.2.1
            have := i_0
            have := i_1
            refine lv_iconst (v := 1) hx hb dX10_tickPair_135 (by decide) ?_
            exact W.iret (v := 1) hx hb hr (fun t ht hW => ⟨⟨1, ((ur_24.1), (ur_24.2.1), (ur_24.2.2.1), (A 13), g_15, g_18, (ur_24.2.2.2.1), (ur_24.2.2.2.2.1), (ur_24.2.2.2.2.2.1), (ur_24.2.2.2.2.2.2)), rfl, ⟨hpr_24_0, hpr_24_1, hpr_24_2, (Or.inr (Or.inr (Or.inl ⟨n_1, hn_1, c_4, c_7, x_9, ex_9, g_10, eg_10, c_12, c_14, g_15, eg_15, x_17, ex_17, g_18, eg_18, c_20, ur_24, hDr_24, hpr_24_0, hpr_24_1, hpr_24_2, rfl, rfl, rfl, rfl⟩)))⟩, (by show MH E h0 rf t0 t1 t2 (uA (uA (uA (uA (uA (uA (uA (uA (uA (uA A 8 (ur_24.1)) 9 (ur_24.2.1)) 10 (ur_24.2.2.1)) 13 (A 13)) 15 g_15) 16 g_18) 18 (ur_24.2.2.2.1)) 20 (ur_24.2.2.2.2.1)) 30 (ur_24.2.2.2.2.2.1)) 36 (ur_24.2.2.2.2.2.2)) cd pk t.heap; rw [ht]; exact hM.cge (funext fun j => (cgj j 36 rfl (fun a0 => (cgj j 30 rfl (fun a1 => (cgj j 20 rfl (fun a2 => (cgj j 18 rfl (fun a3 => (cgj j 16 rfl (fun a4 => (cgj j 15 rfl (fun a5 => (cgj j 13 rfl (fun a6 => (cgj j 10 rfl (fun a7 => (cgj j 9 rfl (fun a8 => (cgj j 8 rfl (fun a9 => (by simp only [uA_n a0, uA_n a1, uA_n a2, uA_n a3, uA_n a4, uA_n a5, uA_n a6, uA_n a7, uA_n a8, uA_n a9])))))))))))))))))))))))⟩, hS.F ht⟩) hS.2.2 dX10_tickPair_136
        · simp only [lt_I, le_I, eq_I, i_0, i_1, i_2, i_3, i_4, i_5, i_6, i_7, i_8, i_10, i_12, i_16, i_20, i_23, i_24, i_31, i_32, i_63, i_64, i_m1, i_9, i_11, i_13, i_25, i_60, i_75, i_79, i_80, i_96, i_100] at c_14
          refine lv_iconst (v := 0) hx hb dX10_tickPair_96 (by decide) ?_
          exact W.iret (v := 0) hx hb hr (fun t ht hW => ⟨⟨0, ((A 8), (A 9), (A 10), (A 13), g_10, (A 16), (A 18), (A 20), (A 30), (A 36)), rfl, ⟨hI3, hI4, hI8, (Or.inr (Or.inr (Or.inr (Or.inl ⟨n_1, hn_1, c_4, c_7, x_9, ex_9, g_10, eg_10, c_12, c_14, rfl, rfl, rfl, rfl⟩))))⟩, (by show MH E h0 rf t0 t1 t2 (uA (uA (uA (uA (uA (uA (uA (uA (uA (uA A 8 (A 8)) 9 (A 9)) 10 (A 10)) 13 (A 13)) 15 g_10) 16 (A 16)) 18 (A 18)) 20 (A 20)) 30 (A 30)) 36 (A 36)) cd pk t.heap; rw [ht]; exact hM.cge (funext fun j => (cgj j 36 rfl (fun a0 => (cgj j 30 rfl (fun a1 => (cgj j 20 rfl (fun a2 => (cgj j 18 rfl (fun a3 => (cgj j 16 rfl (fun a4 => (cgj j 15 rfl (fun a5 => (cgj j 13 rfl (fun a6 => (cgj j 10 rfl (fun a7 => (cgj j 9 rfl (fun a8 => (cgj j 8 rfl (fun a9 => (by simp only [uA_n a0, uA_n a1, uA_n a2, uA_n a3, uA_n a4, uA_n a5, uA_n a6, uA_n a7, uA_n a8, uA_n a9])))))))))))))))))))))))⟩, hS.F ht⟩) hS.2.2 dX10_tickPair_97
      · simp only [lt_I, le_I, eq_I, i_0, i_1, i_2, i_3, i_4, i_5, i_6, i_7, i_8, i_10, i_12, i_16, i_20, i_23, i_24, i_31, i_32, i_63, i_64, i_m1, i_9, i_11, i_13, i_25, i_60, i_75, i_79, i_80, i_96, i_100] at c_12
        refine lv_aload_n hx hb dX10_tickPair_55 rfl (lv_at hl 0 rfl) ?_
        refine va_get (D := DG E) (ci := 10) (v := .ref (rf 15)) (C := RX10) (T := TX10) (N := 49) hx hb hts iw_X10 hown hK.1 (va_one hM.1) 0 rfl rfl 15 (by decide) (hts _ fl_X10_43) (fun _ h9 => h9) rfl dX10_tickPair_56 ?_
        refine lv_iload_n hx hb dX10_tickPair_59 rfl (lv_at hl 1 rfl) ?_
        have ha_25 : va_at (DG E) vwCl (rf 15, .inl (E.2.2 0, 4, .inl g_10)) _ := hM.2 15 (by decide) (by decide) (by decide)
        refine va_iald (D := DG E) hx hb hK.1 (va_one ha_25) 0 0 rfl rfl hi_2 dX10_tickPair_60 ?_
        refine W.eq (g2 := F0 m 61 ls [.int x_9]) (by rw [en_1, sg_10]) ?_
        refine lv_iconst (v := 3) hx hb dX10_tickPair_61 (by decide) ?_
        refine lv_icmp_ge (tgt := 67) hx hb dX10_tickPair_62 (by decide) (fun c_26 => ?_) (fun c_26 => ?_)
        · simp only [lt_I, le_I, eq_I, i_0, i_1, i_2, i_3, i_4, i_5, i_6, i_7, i_8, i_10, i_12, i_16, i_20, i_23, i_24, i_31, i_32, i_63, i_64, i_m1, i_9, i_11, i_13, i_25, i_60, i_75, i_79, i_80, i_96, i_100] at c_26
          refine lv_aload_n hx hb dX10_tickPair_67 rfl (lv_at hl 0 rfl) ?_
          refine va_get (D := DG E) (ci := 10) (v := .ref (rf 18)) (C := RX10) (T := TX10) (N := 49) hx hb hts iw_X10 hown hK.1 (va_one hM.1) 0 rfl rfl 18 (by decide) (hts _ fl_X10_52) (fun _ h9 => h9) rfl dX10_tickPair_68 ?_
          refine lv_iload_n hx hb dX10_tickPair_71 rfl (lv_at hl 1 rfl) ?_
          refine lv_iconst (v := 0) hx hb dX10_tickPair_72 (by decide) ?_
          have ha_27 : va_at (DG E) vwCl (rf 18, .inl (E.2.2 1, 4, .inl (A 18))) _ := hM.2 18 (by decide) (by decide) (by decide)
          refine rr_zast (D := DG E) hx hb hK.1 1 ha_27 hS (by show G (rf 18) ≠ 0; rw [hR.2 18 (by decide) (by decide) (by decide)]; decide) rfl hi_2 dX10_tickPair_73 (fun H locs hn ho hz hS => ?_)
          rw [en_1] at hn
          obtain ⟨g_27, eg_27⟩ : ∃ z : Nat → Int32, z = upd (A 18) n_1 0 := ⟨_, rfl⟩
          have sg_27 : g_27 n_1 = 0 := by rw [eg_27]; exact upd_s
          have ng_27 : ∀ k, k ≠ n_1 → g_27 k = (A 18) k := fun k hk => by rw [eg_27]; exact upd_n hk
          have hn : va_at (DG E) vwCl (rf 18, .inl (E.2.2 1, 4, .inl g_27)) H := by rw [eg_27]; exact hn
          have hM : MH E h0 rf t0 t1 t2 (uA (uA A 15 g_10) 18 g_27) cd pk H := hM.w hR 18 (by decide) (by decide) (by decide) hn ho
          refine lv_aload_n hx hb dX10_tickPair_74 rfl (lv_at hl 0 rfl) ?_
          refine va_get (D := DG E) (ci := 10) (v := .ref (rf 15)) (C := RX10) (T := TX10) (N := 49) hx hb hts iw_X10 hown hK.1 (va_one hM.1) 0 rfl rfl 15 (by decide) (hts _ fl_X10_43) (fun _ h9 => h9) rfl dX10_tickPair_75 ?_
          refine lv_iload_n hx hb dX10_tickPair_78 rfl (lv_at hl 1 rfl) ?_
          refine lv_iconst (v := 0) hx hb dX10_tickPair_79 (by decide) ?_
          have ha_28 : va_at (DG E) vwCl (rf 15, .inl (E.2.2 0, 4, .inl g_10)) _ := hM.2 15 (by decide) (by decide) (by decide)
          refine rr_iast (D := DG E) hx hb hK.1 0 ha_28 hS (by show G (rf 15) ≠ 0; rw [hR.2 15 (by decide) (by decide) (by decide)]; decide) rfl hi_2 dX10_tickPair_80 (fun H locs hn ho hz hS => ?_)
          rw [en_1] at hn
          obtain ⟨g_28, eg_28⟩ : ∃ z : Nat → Int32, z = upd g_10 n_1 0 := ⟨_, rfl⟩
          have sg_28 : g_28 n_1 = 0 := by rw [eg_28]; exact upd_s
          have ng_28 : ∀ k, k ≠ n_1 → g_28 k = g_10 k := fun k hk => by rw [eg_28]; exact upd_n hk
          have hn : va_at (DG E) vwCl (rf 15, .inl (E.2.2 0, 4, .inl g_28)) H := by rw [eg_28]; exact hn
          have hM : MH E h0 rf t0 t1 t2 (uA (uA (uA A 15 g_10) 18 g_27) 15 g_28) cd pk H := hM.w hR 15 (by decide) (by decide) (by decide) hn ho
          refine lv_iconst (v := 0) hx hb dX10_tickPair_81 (by decide) ?_
          exact W.iret (v := 0) hx hb hr (fun t ht hW => ⟨⟨0, ((A 8), (A 9), (A 10), (A 13), g_28, (A 16), g_27, (A 20), (A 30), (A 36)), rfl, ⟨hI3, hI4, hI8, (Or.inr (Or.inr (Or.inr (Or.inr (Or.inl ⟨n_1, hn_1, c_4, c_7, x_9, ex_9, g_10, eg_10, c_12, c_26, g_27, eg_27, g_28, eg_28, rfl, rfl, rfl, rfl⟩)))))⟩, (by show MH E h0 rf t0 t1 t2 (uA (uA (uA (uA (uA (uA (uA (uA (uA (uA A 8 (A 8)) 9 (A 9)) 10 (A 10)) 13 (A 13)) 15 g_28) 16 (A 16)) 18 g_27) 20 (A 20)) 30 (A 30)) 36 (A 36)) cd pk t.heap; rw [ht]; exact hM.cge (funext fun j => (cgj j 36 rfl (fun a0 => (cgj j 30 rfl (fun a1 => (cgj j 20 rfl (fun a2 => (cgj j 18 rfl (fun a3 => (cgj j 16 rfl (fun a4 => (cgj j 15 rfl (fun a5 => (cgj j 13 rfl (fun a6 => (cgj j 10 rfl (fun a7 => (cgj j 9 rfl (fun a8 => (cgj j 8 rfl (fun a9 => (by simp only [uA_n a0, uA_n a1, uA_n a2, uA_n a3, uA_n a4, uA_n a5, uA_n a6, uA_n a7, uA_n a8, uA_n a9])))))))))))))))))))))))⟩, hS.F ht⟩) hS.2.2 dX10_tickPair_82
        · simp only [lt_I, le_I, eq_I, i_0, i_1, i_2, i_3, i_4, i_5, i_6, i_7, i_8, i_10, i_12, i_16, i_20, i_23, i_24, i_31, i_32, i_63, i_64, i_m1, i_9, i_11, i_13, i_25, i_60, i_75, i_79, i_80, i_96, i_100] at c_26
          refine lv_iconst (v := 0) hx hb dX10_tickPair_65 (by decide) ?_
          exact W.iret (v := 0) hx hb hr (fun t ht hW => ⟨⟨0, ((A 8), (A 9), (A 10), (A 13), g_10, (A 16), (A 18), (A 20), (A 30), (A 36)), rfl, ⟨hI3, hI4, hI8, (Or.inr (Or.inr (Or.inr (Or.inr (Or.inr (Or.inl ⟨n_1, hn_1, c_4, c_7, x_9, ex_9, g_10, eg_10, c_12, c_26, rfl, rfl, rfl, rfl⟩))))))⟩, (by show MH E h0 rf t0 t1 t2 (uA (uA (uA (uA (uA (uA (uA (uA (uA (uA A 8 (A 8)) 9 (A 9)) 10 (A 10)) 13 (A 13)) 15 g_10) 16 (A 16)) 18 (A 18)) 20 (A 20)) 30 (A 30)) 36 (A 36)) cd pk t.heap; rw [ht]; exact hM.cge (funext fun j => (cgj j 36 rfl (fun a0 => (cgj j 30 rfl (fun a1 => (cgj j 20 rfl (fun a2 => (cgj j 18 rfl (fun a3 => (cgj j 16 rfl (fun a4 => (cgj j 15 rfl (fun a5 => (cgj j 13 rfl (fun a6 => (cgj j 10 rfl (fun a7 => (cgj j 9 rfl (fun a8 => (cgj j 8 rfl (fun a9 => (by simp only [uA_n a0, uA_n a1, uA_n a2, uA_n a3, uA_n a4, uA_n a5, uA_n a6, uA_n a7, uA_n a8, uA_n a9])))))))))))))))))))))))⟩, hS.F ht⟩) hS.2.2 dX10_tickPair_66
    · simp only [lt_I, le_I, eq_I, i_0, i_1, i_2, i_3, i_4, i_5, i_6, i_7, i_8, i_10, i_12, i_16, i_20, i_23, i_24, i_31, i_32, i_63, i_64, i_m1, i_9, i_11, i_13, i_25, i_60, i_75, i_79, i_80, i_96, i_100] at c_7
      refine lv_aload_n hx hb dX10_tickPair_25 rfl (lv_at hl 0 rfl) ?_
      refine va_get (D := DG E) (ci := 10) (v := .ref (rf 18)) (C := RX10) (T := TX10) (N := 49) hx hb hts iw_X10 hown hK.1 (va_one hM.1) 0 rfl rfl 18 (by decide) (hts _ fl_X10_52) (fun _ h9 => h9) rfl dX10_tickPair_26 ?_
      refine lv_iload_n hx hb dX10_tickPair_29 rfl (lv_at hl 1 rfl) ?_
      have ha_29 : va_at (DG E) vwCl (rf 18, .inl (E.2.2 1, 4, .inl (A 18))) _ := hM.2 18 (by decide) (by decide) (by decide)
      refine va_zald (D := DG E) hx hb hK.1 (va_one ha_29) 0 1 rfl rfl hi_2 dX10_tickPair_30 ?_
      refine W.eq (g2 := F0 m 31 ls [.int ((A 18) n_1)]) (by rw [en_1]) ?_
      refine lv_if_ne (tgt := 36) hx hb dX10_tickPair_31 (by decide) (fun c_30 => ?_) (fun c_30 => ?_)
      · simp only [lt_I, le_I, eq_I, i_0, i_1, i_2, i_3, i_4, i_5, i_6, i_7, i_8, i_10, i_12, i_16, i_20, i_23, i_24, i_31, i_32, i_63, i_64, i_m1, i_9, i_11, i_13, i_25, i_60, i_75, i_79, i_80, i_96, i_100] at c_30
        have hst0 : ((A 10) n_1).toInt = 1 := by omega
        refine lv_aload_n hx hb dX10_tickPair_36 rfl (lv_at hl 0 rfl) ?_
        refine va_get (D := DG E) (ci := 10) (v := .ref (rf 15)) (C := RX10) (T := TX10) (N := 49) hx hb hts iw_X10 hown hK.1 (va_one hM.1) 0 rfl rfl 15 (by decide) (hts _ fl_X10_43) (fun _ h9 => h9) rfl dX10_tickPair_37 ?_
        refine lv_iload_n hx hb dX10_tickPair_40 rfl (lv_at hl 1 rfl) ?_
        refine lv_dup2_11 hx hb dX10_tickPair_41 rfl rfl ?_
        have ha_31 : va_at (DG E) vwCl (rf 15, .inl (E.2.2 0, 4, .inl (A 15))) _ := hM.2 15 (by decide) (by decide) (by decide)
        refine va_iald (D := DG E) hx hb hK.1 (va_one ha_31) 0 0 rfl rfl hi_2 dX10_tickPair_42 ?_
        refine W.eq (g2 := F0 m 43 ls [.int ((A 15) n_1), .int p0, .ref (rf 15)]) (by rw [en_1]) ?_
        refine lv_iconst (v := 1) hx hb dX10_tickPair_43 (by decide) ?_
        refine lv_iadd hx hb dX10_tickPair_44 ?_
        refine lv_topi (fun x_32 ex_32 => ?_)
        have ha_33 : va_at (DG E) vwCl (rf 15, .inl (E.2.2 0, 4, .inl (A 15))) _ := hM.2 15 (by decide) (by decide) (by decide)
        refine rr_iast (D := DG E) hx hb hK.1 0 ha_33 hS (by show G (rf 15) ≠ 0; rw [hR.2 15 (by decide) (by decide) (by decide)]; decide) rfl hi_2 dX10_tickPair_45 (fun H locs hn ho hz hS => ?_)
        rw [en_1] at hn
        obtain ⟨g_33, eg_33⟩ : ∃ z : Nat → Int32, z = upd (A 15) n_1 x_32 := ⟨_, rfl⟩
        have sg_33 : g_33 n_1 = x_32 := by rw [eg_33]; exact upd_s
        have ng_33 : ∀ k, k ≠ n_1 → g_33 k = (A 15) k := fun k hk => by rw [eg_33]; exact upd_n hk
        have hn : va_at (DG E) vwCl (rf 15, .inl (E.2.2 0, 4, .inl g_33)) H := by rw [eg_33]; exact hn
        have hM : MH E h0 rf t0 t1 t2 (uA A 15 g_33) cd pk H := hM.w hR 15 (by decide) (by decide) (by decide) hn ho
        refine lv_aload_n hx hb dX10_tickPair_46 rfl (lv_at hl 0 rfl) ?_
        refine va_get (D := DG E) (ci := 10) (v := .ref (rf 18)) (C := RX10) (T := TX10) (N := 49) hx hb hts iw_X10 hown hK.1 (va_one hM.1) 0 rfl rfl 18 (by decide) (hts _ fl_X10_52) (fun _ h9 => h9) rfl dX10_tickPair_47 ?_
        refine lv_iload_n hx hb dX10_tickPair_50 rfl (lv_at hl 1 rfl) ?_
        have ha_34 : va_at (DG E) vwCl (rf 18, .inl (E.2.2 1, 4, .inl (A 18))) _ := hM.2 18 (by decide) (by decide) (by decide)
        refine va_zald (D := DG E) hx hb hK.1 (va_one ha_34) 0 1 rfl rfl hi_2 dX10_tickPair_51 ?_
        refine W.eq (g2 := F0 m 52 ls [.int ((A 18) n_1)]) (by rw [en_1]) ?_
        refine lv_if_eq (tgt := 83) hx hb dX10_tickPair_52 (by decide) (fun c_35 => ?_) (fun c_35 => ?_)
        · simp only [lt_I, le_I, eq_I, i_0, i_1, i_2, i_3, i_4, i_5, i_6, i_7, i_8, i_10, i_12, i_16, i_20, i_23, i_24, i_31, i_32, i_63, i_64, i_m1, i_9, i_11, i_13, i_25, i_60, i_75, i_79, i_80, i_96, i_100] at c_35
          refine lv_aload_n hx hb dX10_tickPair_83 rfl (lv_at hl 0 rfl) ?_
          refine va_get (D := DG E) (ci := 10) (v := .ref (rf 15)) (C := RX10) (T := TX10) (N := 49) hx hb hts iw_X10 hown hK.1 (va_one hM.1) 0 rfl rfl 15 (by decide) (hts _ fl_X10_43) (fun _ h9 => h9) rfl dX10_tickPair_84 ?_
          refine lv_iload_n hx hb dX10_tickPair_87 rfl (lv_at hl 1 rfl) ?_
          have ha_36 : va_at (DG E) vwCl (rf 15, .inl (E.2.2 0, 4, .inl g_33)) _ := hM.2 15 (by decide) (by decide) (by decide)
          refine va_iald (D := DG E) hx hb hK.1 (va_one ha_36) 0 0 rfl rfl hi_2 dX10_tickPair_88 ?_
          refine W.eq (g2 := F0 m 89 ls [.int x_32]) (by rw [en_1, sg_33]) ?_
          refine lv_aload_n hx hb dX10_tickPair_89 rfl (lv_at hl 0 rfl) ?_
          refine va_get (D := DG E) (ci := 10) (v := .int t0) (C := RX10) (T := TX10) (N := 49) hx hb hts iw_X10 hown hK.1 (va_one hM.1) 0 rfl rfl 0 (by decide) (hts _ fl_X10_143) (fun _ h9 => h9) rfl dX10_tickPair_90 ?_
          refine lv_icmp_eq (tgt := 98) hx hb dX10_tickPair_93 (by decide) (fun c_37 => ?_) (fun c_37 => ?_)
          · simp only [lt_I, le_I, eq_I, i_0, i_1, i_2, i_3, i_4, i_5, i_6, i_7, i_8, i_10, i_12, i_16, i_20, i_23, i_24, i_31, i_32, i_63, i_64, i_m1, i_9, i_11, i_13, i_25, i_60, i_75, i_79, i_80, i_96, i_100] at c_37
            refine lv_aload_n hx hb dX10_tickPair_98 rfl (lv_at hl 0 rfl) ?_
            refine va_get (D := DG E) (ci := 10) (v := .ref (rf 15)) (C := RX10) (T := TX10) (N := 49) hx hb hts iw_X10 hown hK.1 (va_one hM.1) 0 rfl rfl 15 (by decide) (hts _ fl_X10_43) (fun _ h9 => h9) rfl dX10_tickPair_99 ?_
            refine lv_iload_n hx hb dX10_tickPair_102 rfl (lv_at hl 1 rfl) ?_
            refine lv_iconst (v := 0) hx hb dX10_tickPair_103 (by decide) ?_
            have ha_38 : va_at (DG E) vwCl (rf 15, .inl (E.2.2 0, 4, .inl g_33)) _ := hM.2 15 (by decide) (by decide) (by decide)
            refine rr_iast (D := DG E) hx hb hK.1 0 ha_38 hS (by show G (rf 15) ≠ 0; rw [hR.2 15 (by decide) (by decide) (by decide)]; decide) rfl hi_2 dX10_tickPair_104 (fun H locs hn ho hz hS => ?_)
            rw [en_1] at hn
            obtain ⟨g_38, eg_38⟩ : ∃ z : Nat → Int32, z = upd g_33 n_1 0 := ⟨_, rfl⟩
            have sg_38 : g_38 n_1 = 0 := by rw [eg_38]; exact upd_s
            have ng_38 : ∀ k, k ≠ n_1 → g_38 k = g_33 k := fun k hk => by rw [eg_38]; exact upd_n hk
            have hn : va_at (DG E) vwCl (rf 15, .inl (E.2.2 0, 4, .inl g_38)) H := by rw [eg_38]; exact hn
            have hM : MH E h0 rf t0 t1 t2 (uA (uA A 15 g_33) 15 g_38) cd pk H := hM.w hR 15 (by decide) (by decide) (by decide) hn ho
            refine lv_aload_n hx hb dX10_tickPair_105 rfl (lv_at hl 0 rfl) ?_
            refine va_get (D := DG E) (ci := 10) (v := .ref (rf 16)) (C := RX10) (T := TX10) (N := 49) hx hb hts iw_X10 hown hK.1 (va_one hM.1) 0 rfl rfl 16 (by decide) (hts _ fl_X10_46) (fun _ h9 => h9) rfl dX10_tickPair_106 ?_
            refine lv_iload_n hx hb dX10_tickPair_109 rfl (lv_at hl 1 rfl) ?_
            refine lv_dup2_11 hx hb dX10_tickPair_110 rfl rfl ?_
            have ha_39 : va_at (DG E) vwCl (rf 16, .inl (E.2.2 0, 4, .inl (A 16))) _ := hM.2 16 (by decide) (by decide) (by decide)
            refine va_iald (D := DG E) hx hb hK.1 (va_one ha_39) 0 0 rfl rfl hi_2 dX10_tickPair_111 ?_
            refine W.eq (g2 := F0 m 112 ls [.int ((A 16) n_1), .int p0, .ref (rf 16)]) (by rw [en_1]) ?_
            refine lv_iconst (v := 1) hx hb dX10_tickPair_112 (by decide) ?_
            refine lv_iadd hx hb dX10_tickPair_113 ?_
            refine lv_topi (fun x_40 ex_40 => ?_)
            have ha_41 : va_at (DG E) vwCl (rf 16, .inl (E.2.2 0, 4, .inl (A 16))) _ := hM.2 16 (by decide) (by decide) (by decide)
            refine rr_iast (D := DG E) hx hb hK.1 0 ha_41 hS (by show G (rf 16) ≠ 0; rw [hR.2 16 (by decide) (by decide) (by decide)]; decide) rfl hi_2 dX10_tickPair_114 (fun H locs hn ho hz hS => ?_)
            rw [en_1] at hn
            obtain ⟨g_41, eg_41⟩ : ∃ z : Nat → Int32, z = upd (A 16) n_1 x_40 := ⟨_, rfl⟩
            have sg_41 : g_41 n_1 = x_40 := by rw [eg_41]; exact upd_s
            have ng_41 : ∀ k, k ≠ n_1 → g_41 k = (A 16) k := fun k hk => by rw [eg_41]; exact upd_n hk
            have hn : va_at (DG E) vwCl (rf 16, .inl (E.2.2 0, 4, .inl g_41)) H := by rw [eg_41]; exact hn
            have hM : MH E h0 rf t0 t1 t2 (uA (uA (uA A 15 g_33) 15 g_38) 16 g_41) cd pk H := hM.w hR 16 (by decide) (by decide) (by decide) hn ho
            refine lv_aload_n hx hb dX10_tickPair_115 rfl (lv_at hl 0 rfl) ?_
            refine va_get (D := DG E) (ci := 10) (v := .ref (rf 16)) (C := RX10) (T := TX10) (N := 49) hx hb hts iw_X10 hown hK.1 (va_one hM.1) 0 rfl rfl 16 (by decide) (hts _ fl_X10_46) (fun _ h9 => h9) rfl dX10_tickPair_116 ?_
            refine lv_iload_n hx hb dX10_tickPair_119 rfl (lv_at hl 1 rfl) ?_
            have ha_42 : va_at (DG E) vwCl (rf 16, .inl (E.2.2 0, 4, .inl g_41)) _ := hM.2 16 (by decide) (by decide) (by decide)
            refine va_iald (D := DG E) hx hb hK.1 (va_one ha_42) 0 0 rfl rfl hi_2 dX10_tickPair_120 ?_
            refine W.eq (g2 := F0 m 121 ls [.int x_40]) (by rw [en_1, sg_41]) ?_
            refine lv_aload_n hx hb dX10_tickPair_121 rfl (lv_at hl 0 rfl) ?_
            refine va_get (D := DG E) (ci := 10) (v := .int t1) (C := RX10) (T := TX10) (N := 49) hx hb hts iw_X10 hown hK.1 (va_one hM.1) 0 rfl rfl 1 (by decide) (hts _ fl_X10_147) (fun _ h9 => h9) rfl dX10_tickPair_122 ?_
            refine lv_icmp_le (tgt := 137) hx hb dX10_tickPair_125 (by decide) (fun c_43 => ?_) (fun c_43 => ?_)
            · simp only [lt_I, le_I, eq_I, i_0, i_1, i_2, i_3, i_4, i_5, i_6, i_7, i_8, i_10, i_12, i_16, i_20, i_23, i_24, i_31, i_32, i_63, i_64, i_m1, i_9, i_11, i_13, i_25, i_60, i_75, i_79, i_80, i_96, i_100] at c_43
              refine lv_aload_n hx hb dX10_tickPair_137 rfl (lv_at hl 0 rfl) ?_
              refine va_get (D := DG E) (ci := 10) (v := .ref (rf 13)) (C := RX10) (T := TX10) (N := 49) hx hb hts iw_X10 hown hK.1 (va_one hM.1) 0 rfl rfl 13 (by decide) (hts _ fl_X10_37) (fun _ h9 => h9) rfl dX10_tickPair_138 ?_
              refine lv_iload_n hx hb dX10_tickPair_141 rfl (lv_at hl 1 rfl) ?_
              refine lv_aload_n hx hb dX10_tickPair_142 rfl (lv_at hl 0 rfl) ?_
              refine va_get (D := DG E) (ci := 10) (v := .ref (rf 12)) (C := RX10) (T := TX10) (N := 49) hx hb hts iw_X10 hown hK.1 (va_one hM.1) 0 rfl rfl 12 (by decide) (hts _ fl_X10_34) (fun _ h9 => h9) rfl dX10_tickPair_143 ?_
              refine lv_iload_n hx hb dX10_tickPair_146 rfl (lv_at hl 1 rfl) ?_
              have ha_44 : va_at (DG E) vwCl (rf 12, .inl (E.2.2 0, 4, .inl (A 12))) _ := hM.2 12 (by decide) (by decide) (by decide)
              refine va_iald (D := DG E) hx hb hK.1 (va_one ha_44) 0 0 rfl rfl hi_2 dX10_tickPair_147 ?_
              refine W.eq (g2 := F0 m 148 ls [.int ((A 12) n_1), .int p0, .ref (rf 13)]) (by rw [en_1]) ?_
              have ha_45 : va_at (DG E) vwCl (rf 13, .inl (E.2.2 0, 4, .inl (A 13))) _ := hM.2 13 (by decide) (by decide) (by decide)
              refine rr_iast (D := DG E) hx hb hK.1 0 ha_45 hS (by show G (rf 13) ≠ 0; rw [hR.2 13 (by decide) (by decide) (by decide)]; decide) rfl hi_2 dX10_tickPair_148 (fun H locs hn ho hz hS => ?_)
              rw [en_1] at hn
              obtain ⟨g_45, eg_45⟩ : ∃ z : Nat → Int32, z = upd (A 13) n_1 ((A 12) n_1) := ⟨_, rfl⟩
              have sg_45 : g_45 n_1 = ((A 12) n_1) := by rw [eg_45]; exact upd_s
              have ng_45 : ∀ k, k ≠ n_1 → g_45 k = (A 13) k := fun k hk => by rw [eg_45]; exact upd_n hk
              have hn : va_at (DG E) vwCl (rf 13, .inl (E.2.2 0, 4, .inl g_45)) H := by rw [eg_45]; exact hn
              have hM : MH E h0 rf t0 t1 t2 (uA (uA (uA (uA A 15 g_33) 15 g_38) 16 g_41) 13 g_45) cd pk H := hM.w hR 13 (by decide) (by decide) (by decide) hn ho
              refine lv_iconst (v := 0) hx hb dX10_tickPair_149 (by decide) ?_
              have hI4_46 : I4 (A 10) (A 20) (A 29) (A 24) (A 11) (A 12) g_45 := by
                intro k hk
                by_cases e : k = n_1
                · rw [e]
                  exact ⟨fun _ => ((hI4 n_1 (by omega)).1 hst0).back sg_45, Or.inl hst0⟩
                · exact (hI4 k hk).cg rfl rfl (fun _ _ => rfl) (fun _ _ => rfl) rfl rfl (ng_45 k e)
              exact W.iret (v := 0) hx hb hr (fun t ht hW => ⟨⟨0, ((A 8), (A 9), (A 10), g_45, g_38, g_41, (A 18), (A 20), (A 30), (A 36)), rfl, ⟨hI3, hI4_46, hI8, (Or.inr (Or.inr (Or.inr (Or.inr (Or.inr (Or.inr (Or.inl ⟨n_1, hn_1, c_4, c_7, c_30, x_32, ex_32, g_33, eg_33, c_35, c_37, g_38, eg_38, x_40, ex_40, g_41, eg_41, c_43, g_45, eg_45, rfl, rfl, rfl, rfl⟩)))))))⟩, (by show MH E h0 rf t0 t1 t2 (uA (uA (uA (uA (uA (uA (uA (uA (uA (uA A 8 (A 8)) 9 (A 9)) 10 (A 10)) 13 g_45) 15 g_38) 16 g_41) 18 (A 18)) 20 (A 20)) 30 (A 30)) 36 (A 36)) cd pk t.heap; rw [ht]; exact hM.cge (funext fun j => (cgj j 36 rfl (fun a0 => (cgj j 30 rfl (fun a1 => (cgj j 20 rfl (fun a2 => (cgj j 18 rfl (fun a3 => (cgj j 16 rfl (fun a4 => (cgj j 15 rfl (fun a5 => (cgj j 13 rfl (fun a6 => (cgj j 10 rfl (fun a7 => (cgj j 9 rfl (fun a8 => (cgj j 8 rfl (fun a9 => (by simp only [uA_n a0, uA_n a1, uA_n a2, uA_n a3, uA_n a4, uA_n a5, uA_n a6, uA_n a7, uA_n a8, uA_n a9])))))))))))))))))))))))⟩, hS.F ht⟩) hS.2.2 dX10_tickPair_150
            · simp only [lt_I, le_I, eq_I, i_0, i_1, i_2, i_3, i_4, i_5, i_6, i_7, i_8, i_10, i_12, i_16, i_20, i_23, i_24, i_31, i_32, i_63, i_64, i_m1, i_9, i_11, i_13, i_25, i_60, i_75, i_79, i_80, i_96, i_100] at c_43
              refine lv_aload_n hx hb dX10_tickPair_128 rfl (lv_at hl 0 rfl) ?_
              refine lv_iload_n hx hb dX10_tickPair_129 rfl (lv_at hl 1 rfl) ?_
              refine lv_iconst (v := 1) hx hb dX10_tickPair_130 (by decide) ?_
              refine lv_iconst (v := 0) hx hb dX10_tickPair_131 (by decide) ?_
              refine va_callv (rnV (fun H => MH E h0 rf t0 t1 t2 (uA (uA (uA A 15 g_33) 15 g_38) 16 g_41) cd pk H) (As := [.int p0, .int 1, .int 0]) (rest := []) ⟨hx, hb, hml, hown, hts⟩ (u_X10_failPair l E z0 G hGz h0 rf hR t0 t1 t2 (uA (uA (uA A 15 g_33) 15 g_38) 16 g_41) cd pk p0 1 0 hI3 hI4 hI8 (show 0 ≤ p0.toInt ∧ p0.toInt ≤ 3 from by have := i_0; have := i_1; first | decide | omega)) (cwV 3 hts (gdV ml_X10_221 im_X10_failPair se_X10_X10_failPair in_X10 co_X10_failPair rfl) rfl rfl rfl (by decide +kernel) ⟨Nat.le_of_ble_eq_true rfl, Nat.le_of_ble_eq_true rfl⟩) hM (fun U hU hW => hK.go hW hS hAz hU) (va_recv hK.1 (va_one hM.1) (ci := 10) (q0 := 0) rfl rfl) rfl rfl hl.1 rfl (lv_room (Nat.le_of_ble_eq_true rfl)) dX10_tickPair_132 ⟨Nat.le_of_ble_eq_true rfl, Nat.le_of_ble_eq_true rfl⟩) hS (fun q _ h => h) (fun q h => h) (fun ur_47 t H locs ht hvm hwr_47 hB hz hk hS => ?_)
              have hM : MH E h0 rf t0 t1 t2 (uA (uA (uA (uA (uA (uA (uA (uA (uA (uA A 15 g_33) 15 g_38) 16 g_41) 8 (ur_47.1)) 9 (ur_47.2.1)) 10 (ur_47.2.2.1)) 18 (ur_47.2.2.2.1)) 20 (ur_47.2.2.2.2.1)) 30 (ur_47.2.2.2.2.2.1)) 36 (ur_47.2.2.2.2.2.2)) cd pk H := by rw [ht] at hB; exact hB
              have hDr_47 : D_X10_failPair (uA (uA (uA A 15 g_33) 15 g_38) 16 g_41) cd pk p0 (1 : Int32) (0 : Int32) (uA (uA (uA (uA (uA (uA (uA (uA (uA (uA A 15 g_33) 15 g_38) 16 g_41) 8 (ur_47.1)) 9 (ur_47.2.1)) 10 (ur_47.2.2.1)) 18 (ur_47.2.2.2.1)) 20 (ur_47.2.2.2.2.1)) 30 (ur_47.2.2.2.2.2.1)) 36 (ur_47.2.2.2.2.2.2)) cd pk := hwr_47.2.2.2
              have hpr_47_0 : I3 (ur_47.1) := hwr_47.1
              have hpr_47_1 : I4 (ur_47.2.2.1) (ur_47.2.2.2.2.1) (A 29) (A 24) (A 11) (A 12) (A 13) := hwr_47.2.1
              have hpr_47_2 : I8 (ur_47.2.2.2.2.1) (ur_47.2.2.2.2.2.1) (A 37) (ur_47.2.2.2.2.2.2) := hwr_47.2.2.1
              have := i_0
              have := i_1
              refine lv_iconst (v := 1) hx hb dX10_tickPair_135 (by decide) ?_
              exact W.iret (v := 1) hx hb hr (fun t ht hW => ⟨⟨1, ((ur_47.1), (ur_47.2.1), (ur_47.2.2.1), (A 13), g_38, g_41, (ur_47.2.2.2.1), (ur_47.2.2.2.2.1), (ur_47.2.2.2.2.2.1), (ur_47.2.2.2.2.2.2)), rfl, ⟨hpr_47_0, hpr_47_1, hpr_47_2, (Or.inr (Or.inr (Or.inr (Or.inr (Or.inr (Or.inr (Or.inr (Or.inl ⟨n_1, hn_1, c_4, c_7, c_30, x_32, ex_32, g_33, eg_33, c_35, c_37, g_38, eg_38, x_40, ex_40, g_41, eg_41, c_43, ur_47, hDr_47, hpr_47_0, hpr_47_1, hpr_47_2, rfl, rfl, rfl, rfl⟩))))))))⟩, (by show MH E h0 rf t0 t1 t2 (uA (uA (uA (uA (uA (uA (uA (uA (uA (uA A 8 (ur_47.1)) 9 (ur_47.2.1)) 10 (ur_47.2.2.1)) 13 (A 13)) 15 g_38) 16 g_41) 18 (ur_47.2.2.2.1)) 20 (ur_47.2.2.2.2.1)) 30 (ur_47.2.2.2.2.2.1)) 36 (ur_47.2.2.2.2.2.2)) cd pk t.heap; rw [ht]; exact hM.cge (funext fun j => (cgj j 36 rfl (fun a0 => (cgj j 30 rfl (fun a1 => (cgj j 20 rfl (fun a2 => (cgj j 18 rfl (fun a3 => (cgj j 16 rfl (fun a4 => (cgj j 15 rfl (fun a5 => (cgj j 13 rfl (fun a6 => (cgj j 10 rfl (fun a7 => (cgj j 9 rfl (fun a8 => (cgj j 8 rfl (fun a9 => (by simp only [uA_n a0, uA_n a1, uA_n a2, uA_n a3, uA_n a4, uA_n a5, uA_n a6, uA_n a7, uA_n a8, uA_n a9])))))))))))))))))))))))⟩, hS.F ht⟩) hS.2.2 dX10_tickPair_136
          · simp only [lt_I, le_I, eq_I, i_0, i_1, i_2, i_3, i_4, i_5, i_6, i_7, i_8, i_10, i_12, i_16, i_20, i_23, i_24, i_31, i_32, i_63, i_64, i_m1, i_9, i_11, i_13, i_25, i_60, i_75, i_79, i_80, i_96, i_100] at c_37
            refine lv_iconst (v := 0) hx hb dX10_tickPair_96 (by decide) ?_
            exact W.iret (v := 0) hx hb hr (fun t ht hW => ⟨⟨0, ((A 8), (A 9), (A 10), (A 13), g_33, (A 16), (A 18), (A 20), (A 30), (A 36)), rfl, ⟨hI3, hI4, hI8, (Or.inr (Or.inr (Or.inr (Or.inr (Or.inr (Or.inr (Or.inr (Or.inr (Or.inl ⟨n_1, hn_1, c_4, c_7, c_30, x_32, ex_32, g_33, eg_33, c_35, c_37, rfl, rfl, rfl, rfl⟩)))))))))⟩, (by show MH E h0 rf t0 t1 t2 (uA (uA (uA (uA (uA (uA (uA (uA (uA (uA A 8 (A 8)) 9 (A 9)) 10 (A 10)) 13 (A 13)) 15 g_33) 16 (A 16)) 18 (A 18)) 20 (A 20)) 30 (A 30)) 36 (A 36)) cd pk t.heap; rw [ht]; exact hM.cge (funext fun j => (cgj j 36 rfl (fun a0 => (cgj j 30 rfl (fun a1 => (cgj j 20 rfl (fun a2 => (cgj j 18 rfl (fun a3 => (cgj j 16 rfl (fun a4 => (cgj j 15 rfl (fun a5 => (cgj j 13 rfl (fun a6 => (cgj j 10 rfl (fun a7 => (cgj j 9 rfl (fun a8 => (cgj j 8 rfl (fun a9 => (by simp only [uA_n a0, uA_n a1, uA_n a2, uA_n a3, uA_n a4, uA_n a5, uA_n a6, uA_n a7, uA_n a8, uA_n a9])))))))))))))))))))))))⟩, hS.F ht⟩) hS.2.2 dX10_tickPair_97
        · simp only [lt_I, le_I, eq_I, i_0, i_1, i_2, i_3, i_4, i_5, i_6, i_7, i_8, i_10, i_12, i_16, i_20, i_23, i_24, i_31, i_32, i_63, i_64, i_m1, i_9, i_11, i_13, i_25, i_60, i_75, i_79, i_80, i_96, i_100] at c_35
          refine lv_aload_n hx hb dX10_tickPair_55 rfl (lv_at hl 0 rfl) ?_
          refine va_get (D := DG E) (ci := 10) (v := .ref (rf 15)) (C := RX10) (T := TX10) (N := 49) hx hb hts iw_X10 hown hK.1 (va_one hM.1) 0 rfl rfl 15 (by decide) (hts _ fl_X10_43) (fun _ h9 => h9) rfl dX10_tickPair_56 ?_
          refine lv_iload_n hx hb dX10_tickPair_59 rfl (lv_at hl 1 rfl) ?_
          have ha_48 : va_at (DG E) vwCl (rf 15, .inl (E.2.2 0, 4, .inl g_33)) _ := hM.2 15 (by decide) (by decide) (by decide)
          refine va_iald (D := DG E) hx hb hK.1 (va_one ha_48) 0 0 rfl rfl hi_2 dX10_tickPair_60 ?_
          refine W.eq (g2 := F0 m 61 ls [.int x_32]) (by rw [en_1, sg_33]) ?_
          refine lv_iconst (v := 3) hx hb dX10_tickPair_61 (by decide) ?_
          refine lv_icmp_ge (tgt := 67) hx hb dX10_tickPair_62 (by decide) (fun c_49 => ?_) (fun c_49 => ?_)
          · simp only [lt_I, le_I, eq_I, i_0, i_1, i_2, i_3, i_4, i_5, i_6, i_7, i_8, i_10, i_12, i_16, i_20, i_23, i_24, i_31, i_32, i_63, i_64, i_m1, i_9, i_11, i_13, i_25, i_60, i_75, i_79, i_80, i_96, i_100] at c_49
            refine lv_aload_n hx hb dX10_tickPair_67 rfl (lv_at hl 0 rfl) ?_
            refine va_get (D := DG E) (ci := 10) (v := .ref (rf 18)) (C := RX10) (T := TX10) (N := 49) hx hb hts iw_X10 hown hK.1 (va_one hM.1) 0 rfl rfl 18 (by decide) (hts _ fl_X10_52) (fun _ h9 => h9) rfl dX10_tickPair_68 ?_
            refine lv_iload_n hx hb dX10_tickPair_71 rfl (lv_at hl 1 rfl) ?_
            refine lv_iconst (v := 0) hx hb dX10_tickPair_72 (by decide) ?_
            have ha_50 : va_at (DG E) vwCl (rf 18, .inl (E.2.2 1, 4, .inl (A 18))) _ := hM.2 18 (by decide) (by decide) (by decide)
            refine rr_zast (D := DG E) hx hb hK.1 1 ha_50 hS (by show G (rf 18) ≠ 0; rw [hR.2 18 (by decide) (by decide) (by decide)]; decide) rfl hi_2 dX10_tickPair_73 (fun H locs hn ho hz hS => ?_)
            rw [en_1] at hn
            obtain ⟨g_50, eg_50⟩ : ∃ z : Nat → Int32, z = upd (A 18) n_1 0 := ⟨_, rfl⟩
            have sg_50 : g_50 n_1 = 0 := by rw [eg_50]; exact upd_s
            have ng_50 : ∀ k, k ≠ n_1 → g_50 k = (A 18) k := fun k hk => by rw [eg_50]; exact upd_n hk
            have hn : va_at (DG E) vwCl (rf 18, .inl (E.2.2 1, 4, .inl g_50)) H := by rw [eg_50]; exact hn
            have hM : MH E h0 rf t0 t1 t2 (uA (uA A 15 g_33) 18 g_50) cd pk H := hM.w hR 18 (by decide) (by decide) (by decide) hn ho
            refine lv_aload_n hx hb dX10_tickPair_74 rfl (lv_at hl 0 rfl) ?_
            refine va_get (D := DG E) (ci := 10) (v := .ref (rf 15)) (C := RX10) (T := TX10) (N := 49) hx hb hts iw_X10 hown hK.1 (va_one hM.1) 0 rfl rfl 15 (by decide) (hts _ fl_X10_43) (fun _ h9 => h9) rfl dX10_tickPair_75 ?_
            refine lv_iload_n hx hb dX10_tickPair_78 rfl (lv_at hl 1 rfl) ?_
            refine lv_iconst (v := 0) hx hb dX10_tickPair_79 (by decide) ?_
            have ha_51 : va_at (DG E) vwCl (rf 15, .inl (E.2.2 0, 4, .inl g_33)) _ := hM.2 15 (by decide) (by decide) (by decide)
            refine rr_iast (D := DG E) hx hb hK.1 0 ha_51 hS (by show G (rf 15) ≠ 0; rw [hR.2 15 (by decide) (by decide) (by decide)]; decide) rfl hi_2 dX10_tickPair_80 (fun H locs hn ho hz hS => ?_)
            rw [en_1] at hn
            obtain ⟨g_51, eg_51⟩ : ∃ z : Nat → Int32, z = upd g_33 n_1 0 := ⟨_, rfl⟩
            have sg_51 : g_51 n_1 = 0 := by rw [eg_51]; exact upd_s
            have ng_51 : ∀ k, k ≠ n_1 → g_51 k = g_33 k := fun k hk => by rw [eg_51]; exact upd_n hk
            have hn : va_at (DG E) vwCl (rf 15, .inl (E.2.2 0, 4, .inl g_51)) H := by rw [eg_51]; exact hn
            have hM : MH E h0 rf t0 t1 t2 (uA (uA (uA A 15 g_33) 18 g_50) 15 g_51) cd pk H := hM.w hR 15 (by decide) (by decide) (by decide) hn ho
            refine lv_iconst (v := 0) hx hb dX10_tickPair_81 (by decide) ?_
            exact W.iret (v := 0) hx hb hr (fun t ht hW => ⟨⟨0, ((A 8), (A 9), (A 10), (A 13), g_51, (A 16), g_50, (A 20), (A 30), (A 36)), rfl, ⟨hI3, hI4, hI8, (Or.inr (Or.inr (Or.inr (Or.inr (Or.inr (Or.inr (Or.inr (Or.inr (Or.inr (Or.inl ⟨n_1, hn_1, c_4, c_7, c_30, x_32, ex_32, g_33, eg_33, c_35, c_49, g_50, eg_50, g_51, eg_51, rfl, rfl, rfl, rfl⟩))))))))))⟩, (by show MH E h0 rf t0 t1 t2 (uA (uA (uA (uA (uA (uA (uA (uA (uA (uA A 8 (A 8)) 9 (A 9)) 10 (A 10)) 13 (A 13)) 15 g_51) 16 (A 16)) 18 g_50) 20 (A 20)) 30 (A 30)) 36 (A 36)) cd pk t.heap; rw [ht]; exact hM.cge (funext fun j => (cgj j 36 rfl (fun a0 => (cgj j 30 rfl (fun a1 => (cgj j 20 rfl (fun a2 => (cgj j 18 rfl (fun a3 => (cgj j 16 rfl (fun a4 => (cgj j 15 rfl (fun a5 => (cgj j 13 rfl (fun a6 => (cgj j 10 rfl (fun a7 => (cgj j 9 rfl (fun a8 => (cgj j 8 rfl (fun a9 => (by simp only [uA_n a0, uA_n a1, uA_n a2, uA_n a3, uA_n a4, uA_n a5, uA_n a6, uA_n a7, uA_n a8, uA_n a9])))))))))))))))))))))))⟩, hS.F ht⟩) hS.2.2 dX10_tickPair_82
          · simp only [lt_I, le_I, eq_I, i_0, i_1, i_2, i_3, i_4, i_5, i_6, i_7, i_8, i_10, i_12, i_16, i_20, i_23, i_24, i_31, i_32, i_63, i_64, i_m1, i_9, i_11, i_13, i_25, i_60, i_75, i_79, i_80, i_96, i_100] at c_49
            refine lv_iconst (v := 0) hx hb dX10_tickPair_65 (by decide) ?_
            exact W.iret (v := 0) hx hb hr (fun t ht hW => ⟨⟨0, ((A 8), (A 9), (A 10), (A 13), g_33, (A 16), (A 18), (A 20), (A 30), (A 36)), rfl, ⟨hI3, hI4, hI8, (Or.inr (Or.inr (Or.inr (Or.inr (Or.inr (Or.inr (Or.inr (Or.inr (Or.inr (Or.inr (Or.inl ⟨n_1, hn_1, c_4, c_7, c_30, x_32, ex_32, g_33, eg_33, c_35, c_49, rfl, rfl, rfl, rfl⟩)))))))))))⟩, (by show MH E h0 rf t0 t1 t2 (uA (uA (uA (uA (uA (uA (uA (uA (uA (uA A 8 (A 8)) 9 (A 9)) 10 (A 10)) 13 (A 13)) 15 g_33) 16 (A 16)) 18 (A 18)) 20 (A 20)) 30 (A 30)) 36 (A 36)) cd pk t.heap; rw [ht]; exact hM.cge (funext fun j => (cgj j 36 rfl (fun a0 => (cgj j 30 rfl (fun a1 => (cgj j 20 rfl (fun a2 => (cgj j 18 rfl (fun a3 => (cgj j 16 rfl (fun a4 => (cgj j 15 rfl (fun a5 => (cgj j 13 rfl (fun a6 => (cgj j 10 rfl (fun a7 => (cgj j 9 rfl (fun a8 => (cgj j 8 rfl (fun a9 => (by simp only [uA_n a0, uA_n a1, uA_n a2, uA_n a3, uA_n a4, uA_n a5, uA_n a6, uA_n a7, uA_n a8, uA_n a9])))))))))))))))))))))))⟩, hS.F ht⟩) hS.2.2 dX10_tickPair_66
      · simp only [lt_I, le_I, eq_I, i_0, i_1, i_2, i_3, i_4, i_5, i_6, i_7, i_8, i_10, i_12, i_16, i_20, i_23, i_24, i_31, i_32, i_63, i_64, i_m1, i_9, i_11, i_13, i_25, i_60, i_75, i_79, i_80, i_96, i_100] at c_30
        refine lv_iconst (v := 0) hx hb dX10_tickPair_34 (by decide) ?_
        exact W.iret (v := 0) hx hb hr (fun t ht hW => ⟨⟨0, ((A 8), (A 9), (A 10), (A 13), (A 15), (A 16), (A 18), (A 20), (A 30), (A 36)), rfl, ⟨hI3, hI4, hI8, (Or.inr (Or.inr (Or.inr (Or.inr (Or.inr (Or.inr (Or.inr (Or.inr (Or.inr (Or.inr (Or.inr ⟨n_1, hn_1, c_4, c_7, c_30, rfl, rfl, rfl, rfl⟩)))))))))))⟩, (by show MH E h0 rf t0 t1 t2 (uA (uA (uA (uA (uA (uA (uA (uA (uA (uA A 8 (A 8)) 9 (A 9)) 10 (A 10)) 13 (A 13)) 15 (A 15)) 16 (A 16)) 18 (A 18)) 20 (A 20)) 30 (A 30)) 36 (A 36)) cd pk t.heap; rw [ht]; exact hM.cge (funext fun j => (cgj j 36 rfl (fun a0 => (cgj j 30 rfl (fun a1 => (cgj j 20 rfl (fun a2 => (cgj j 18 rfl (fun a3 => (cgj j 16 rfl (fun a4 => (cgj j 15 rfl (fun a5 => (cgj j 13 rfl (fun a6 => (cgj j 10 rfl (fun a7 => (cgj j 9 rfl (fun a8 => (cgj j 8 rfl (fun a9 => (by simp only [uA_n a0, uA_n a1, uA_n a2, uA_n a3, uA_n a4, uA_n a5, uA_n a6, uA_n a7, uA_n a8, uA_n a9])))))))))))))))))))))))⟩, hS.F ht⟩) hS.2.2 dX10_tickPair_35
theorem dX10_tick_0 : decode cX10_tick 0 = .ok (.aload_n 0, 1) := by decide +kernel
theorem dX10_tick_1 : decode cX10_tick 1 = .ok (.iconst 0, 1) := by decide +kernel
theorem dX10_tick_2 : decode cX10_tick 2 = .ok (.putfield 153, 3) := by decide +kernel
theorem dX10_tick_5 : decode cX10_tick 5 = .ok (.iconst 0, 1) := by decide +kernel
theorem dX10_tick_6 : decode cX10_tick 6 = .ok (.istore_n 1, 1) := by decide +kernel
theorem dX10_tick_7 : decode cX10_tick 7 = .ok (.iconst 0, 1) := by decide +kernel
theorem dX10_tick_8 : decode cX10_tick 8 = .ok (.istore_n 2, 1) := by decide +kernel
theorem dX10_tick_9 : decode cX10_tick 9 = .ok (.iload_n 2, 1) := by decide +kernel
theorem dX10_tick_10 : decode cX10_tick 10 = .ok (.iconst 4, 1) := by decide +kernel
theorem dX10_tick_11 : decode cX10_tick 11 = .ok (.if_icmp .ge 17, 3) := by decide +kernel
theorem dX10_tick_14 : decode cX10_tick 14 = .ok (.iload_n 1, 1) := by decide +kernel
theorem dX10_tick_15 : decode cX10_tick 15 = .ok (.aload_n 0, 1) := by decide +kernel
theorem dX10_tick_16 : decode cX10_tick 16 = .ok (.iload_n 2, 1) := by decide +kernel
theorem dX10_tick_17 : decode cX10_tick 17 = .ok (.invokevirtual 277, 3) := by decide +kernel
theorem dX10_tick_20 : decode cX10_tick 20 = .ok (.iadd, 1) := by decide +kernel
theorem dX10_tick_21 : decode cX10_tick 21 = .ok (.istore_n 1, 1) := by decide +kernel
theorem dX10_tick_22 : decode cX10_tick 22 = .ok (.iinc 2 1, 3) := by decide +kernel
theorem dX10_tick_25 : decode cX10_tick 25 = .ok (.goto (-16), 3) := by decide +kernel
theorem dX10_tick_28 : decode cX10_tick 28 = .ok (.iload_n 1, 1) := by decide +kernel
theorem dX10_tick_29 : decode cX10_tick 29 = .ok (.ireturn, 1) := by decide +kernel
set_option maxHeartbeats 8000000 in
set_option maxRecDepth 100000 in
theorem u_X10_tick (l : Launch) (E : EE) (z0 : Nat) (G : Nat → Nat) (hGz : ∀ q, G q ≠ 0 → z0 ≤ q) (h0 : Nat) (rf : Nat → Nat) (hR : MG G h0 rf) (t0 t1 t2 : Int32) (A : AA) (cd pk : Int32) (hI3 : I3 (A 8)) (hI4 : I4 (A 10) (A 20) (A 29) (A 24) (A 11) (A 12) (A 13)) (hI8 : I8 (A 20) (A 30) (A 37) (A 36)) : Met l yX10_tick [Cond.code yX10_tick cX10_tick 3 (some .int)] ({ frames := 4, cells := 0, slots := 0, locals := 93 } : Room) (va_Pc [.ref h0] (fun U => MH E h0 rf t0 t1 t2 A cd pk U.heap ∧ KS E z0 U)) (va_Qi (fun (r : Int32) (u : (Nat → Int32) × (Nat → Int32) × (Nat → Int32) × (Nat → Int32) × (Nat → Int32) × (Nat → Int32) × (Nat → Int32) × (Nat → Int32) × (Nat → Int32) × (Nat → Int32) × Int32) => (I3 (u.1)) ∧ (I4 (u.2.2.1) (u.2.2.2.2.2.2.2.1) (A 29) (A 24) (A 11) (A 12) (u.2.2.2.1)) ∧ (I8 (u.2.2.2.2.2.2.2.1) (u.2.2.2.2.2.2.2.2.1) (A 37) (u.2.2.2.2.2.2.2.2.2.1)) ∧ (D_X10_tick t0 t1 t2 A cd pk (uA (uA (uA (uA (uA (uA (uA (uA (uA (uA A 8 (u.1)) 9 (u.2.1)) 10 (u.2.2.1)) 13 (u.2.2.2.1)) 15 (u.2.2.2.2.1)) 16 (u.2.2.2.2.2.1)) 18 (u.2.2.2.2.2.2.1)) 20 (u.2.2.2.2.2.2.2.1)) 30 (u.2.2.2.2.2.2.2.2.1)) 36 (u.2.2.2.2.2.2.2.2.2.1)) (u.2.2.2.2.2.2.2.2.2.2) pk r)) (fun u t => MH E h0 rf t0 t1 t2 (uA (uA (uA (uA (uA (uA (uA (uA (uA (uA A 8 (u.1)) 9 (u.2.1)) 10 (u.2.2.1)) 13 (u.2.2.2.1)) 15 (u.2.2.2.2.1)) 16 (u.2.2.2.2.2.1)) 18 (u.2.2.2.2.2.2.1)) 20 (u.2.2.2.2.2.2.2.1)) 30 (u.2.2.2.2.2.2.2.2.1)) 36 (u.2.2.2.2.2.2.2.2.2.1)) (u.2.2.2.2.2.2.2.2.2.2) pk t.heap) (fun q : Nat => G q ≠ 0)) 0 0 (fun q : Nat => G q ≠ 0) := by
  refine Met.ofW (cc := cX10_tick) (maxL := 3) (ret := (some .int)) (by decide) rfl ?_
  intro p e s m args below meth c s₁ B hml hv
  obtain ⟨rfl, hM, hK⟩ := hv
  have hx := B.exec
  have hb := B.bytes
  have hr := B.returns
  have hts : ∀ w ∈ TS, w.before ([.ref h0] : List Value).toArray s = true := fun w hw => hK.2.1 w hw _
  have hown : s.vm.findClass RX10 = some m.cls := findClass_of_methodNamed B.named
  have hlocks := B.notSynchronized
  have hS : va_S (fun q : Nat => G q ≠ 0) s.heap s.heap [] := va_S.rf
  have hAz : ∀ q, (fun q : Nat => G q ≠ 0) q → z0 ≤ q := hGz
  have hl := lv_entry ([.ref h0]) (n := 3) (Nat.le_of_ble_eq_true rfl)
  rw [lg_entry_eq]
  generalize (lg_sl ([.ref h0]) ++ List.replicate (3 - (lg_sl ([.ref h0])).length) Slot.unset).toArray = ls at hl ⊢
  have hl : lv_has ls 3 [(0, .ref h0)] := hl
  refine lv_aload_n hx hb dX10_tick_0 rfl (lv_at hl 0 rfl) ?_
  refine lv_iconst (v := 0) hx hb dX10_tick_1 (by decide) ?_
  refine rr_put (D := DG E) (ci := 10) (v := .int 0) (ty := .int) (C := RX10) (T := TX10) (N := 49) hx hb hts iw_X10 tyX10 tyX10_ok nmX10 hown hK.1 hM.1 hS (by show G h0 ≠ 0; rw [hR.1]; decide) rfl 3 (by decide) (hts _ fl_X10_153) (fun _ h9 => h9) rfl (by decide +kernel) rfl rfl (Nat.le_of_ble_eq_true rfl) dX10_tick_2 (fun H locs hn ho hz hS => ?_)
  have hM : MH E h0 rf t0 t1 t2 A 0 pk H := hM.sc hR hn ho
  refine lv_iconst (v := 0) hx hb dX10_tick_5 (by decide) ?_
  refine lv_istore_n (lv' := [(1, .int 0), (0, .ref h0)]) hx hb dX10_tick_6 rfl hl (by decide) rfl (fun ls hl => ?_)
  refine lv_iconst (v := 0) hx hb dX10_tick_7 (by decide) ?_
  refine lv_istore_n (lv' := [(2, .int 0), (1, .int 0), (0, .ref h0)]) hx hb dX10_tick_8 rfl hl (by decide) rfl (fun ls hl => ?_)
  refine lv_iload_n hx hb dX10_tick_9 rfl (lv_at hl 0 rfl) ?_
  refine lv_iconst (v := 4) hx hb dX10_tick_10 (by decide) ?_
  refine lv_icmp_ge (tgt := 28) hx hb dX10_tick_11 (by decide) (fun c_1 => absurd c_1 (by decide)) (fun c_1 => ?_)
  refine lv_iload_n hx hb dX10_tick_14 rfl (lv_at hl 1 rfl) ?_
  refine lv_aload_n hx hb dX10_tick_15 rfl (lv_at hl 2 rfl) ?_
  refine lv_iload_n hx hb dX10_tick_16 rfl (lv_at hl 0 rfl) ?_
  refine va_calli (rnV (fun H => MH E h0 rf t0 t1 t2 A 0 pk H) (As := [.int 0]) (rest := [.int 0]) ⟨hx, hb, hml, hown, hts⟩ (u_X10_tickPair l E z0 G hGz h0 rf hR t0 t1 t2 A 0 pk 0 hI3 hI4 hI8 (show 0 ≤ (0 : Int32).toInt ∧ (0 : Int32).toInt ≤ 3 from by have := i_0; first | decide | omega)) (cwV 1 hts (gdV ml_X10_277 im_X10_tickPair se_X10_X10_tickPair in_X10 co_X10_tickPair rfl) rfl rfl rfl (by decide +kernel) ⟨Nat.le_of_ble_eq_true rfl, Nat.le_of_ble_eq_true rfl⟩) hM (fun U hU hW => hK.go hW hS hAz hU) (va_recv hK.1 (va_one hM.1) (ci := 10) (q0 := 0) rfl rfl) rfl rfl hl.1 rfl (lv_room (Nat.le_of_ble_eq_true rfl)) dX10_tick_17 ⟨Nat.le_of_ble_eq_true rfl, Nat.le_of_ble_eq_true rfl⟩) hS (fun q _ h => h) (fun q h => h) (fun r_2 ur_2 t H locs ht hvm hwr_2 hB hz hk hS => ?_)
  have hM : MH E h0 rf t0 t1 t2 (uA (uA (uA (uA (uA (uA (uA (uA (uA (uA A 8 (ur_2.1)) 9 (ur_2.2.1)) 10 (ur_2.2.2.1)) 13 (ur_2.2.2.2.1)) 15 (ur_2.2.2.2.2.1)) 16 (ur_2.2.2.2.2.2.1)) 18 (ur_2.2.2.2.2.2.2.1)) 20 (ur_2.2.2.2.2.2.2.2.1)) 30 (ur_2.2.2.2.2.2.2.2.2.1)) 36 (ur_2.2.2.2.2.2.2.2.2.2)) 0 pk H := by rw [ht] at hB; exact hB
  have hDr_2 : D_X10_tickPair t0 t1 t2 A (0 : Int32) pk (0 : Int32) (uA (uA (uA (uA (uA (uA (uA (uA (uA (uA A 8 (ur_2.1)) 9 (ur_2.2.1)) 10 (ur_2.2.2.1)) 13 (ur_2.2.2.2.1)) 15 (ur_2.2.2.2.2.1)) 16 (ur_2.2.2.2.2.2.1)) 18 (ur_2.2.2.2.2.2.2.1)) 20 (ur_2.2.2.2.2.2.2.2.1)) 30 (ur_2.2.2.2.2.2.2.2.2.1)) 36 (ur_2.2.2.2.2.2.2.2.2.2)) (0 : Int32) pk r_2 := hwr_2.2.2.2
  have hpr_2_0 : I3 (ur_2.1) := hwr_2.1
  have hpr_2_1 : I4 (ur_2.2.2.1) (ur_2.2.2.2.2.2.2.2.1) (A 29) (A 24) (A 11) (A 12) (ur_2.2.2.2.1) := hwr_2.2.1
  have hpr_2_2 : I8 (ur_2.2.2.2.2.2.2.2.1) (ur_2.2.2.2.2.2.2.2.2.1) (A 37) (ur_2.2.2.2.2.2.2.2.2.2) := hwr_2.2.2.1
  have := i_0
  refine lv_iadd hx hb dX10_tick_20 ?_
  refine lv_topi (fun x_3 ex_3 => ?_)
  refine lv_istore_n (lv' := [(1, .int x_3), (2, .int 0), (0, .ref h0)]) hx hb dX10_tick_21 rfl hl (by decide) rfl (fun ls hl => ?_)
  refine lv_iinc (v := 1) (lv' := [(2, .int 1), (1, .int x_3), (0, .ref h0)]) hx hb dX10_tick_22 hl (k := 1) rfl (by decide) (by decide) rfl (fun ls hl => ?_)
  refine lv_goto (tgt := 9) hx hb dX10_tick_25 (by decide) ?_
  refine lv_iload_n hx hb dX10_tick_9 rfl (lv_at hl 0 rfl) ?_
  refine lv_iconst (v := 4) hx hb dX10_tick_10 (by decide) ?_
  refine lv_icmp_ge (tgt := 28) hx hb dX10_tick_11 (by decide) (fun c_4 => absurd c_4 (by decide)) (fun c_4 => ?_)
  refine lv_iload_n hx hb dX10_tick_14 rfl (lv_at hl 1 rfl) ?_
  refine lv_aload_n hx hb dX10_tick_15 rfl (lv_at hl 2 rfl) ?_
  refine lv_iload_n hx hb dX10_tick_16 rfl (lv_at hl 0 rfl) ?_
  refine va_calli (rnV (fun H => MH E h0 rf t0 t1 t2 (uA (uA (uA (uA (uA (uA (uA (uA (uA (uA A 8 (ur_2.1)) 9 (ur_2.2.1)) 10 (ur_2.2.2.1)) 13 (ur_2.2.2.2.1)) 15 (ur_2.2.2.2.2.1)) 16 (ur_2.2.2.2.2.2.1)) 18 (ur_2.2.2.2.2.2.2.1)) 20 (ur_2.2.2.2.2.2.2.2.1)) 30 (ur_2.2.2.2.2.2.2.2.2.1)) 36 (ur_2.2.2.2.2.2.2.2.2.2)) 0 pk H) (As := [.int 1]) (rest := [.int x_3]) ⟨hx, hb, hml, hown, hts⟩ (u_X10_tickPair l E z0 G hGz h0 rf hR t0 t1 t2 (uA (uA (uA (uA (uA (uA (uA (uA (uA (uA A 8 (ur_2.1)) 9 (ur_2.2.1)) 10 (ur_2.2.2.1)) 13 (ur_2.2.2.2.1)) 15 (ur_2.2.2.2.2.1)) 16 (ur_2.2.2.2.2.2.1)) 18 (ur_2.2.2.2.2.2.2.1)) 20 (ur_2.2.2.2.2.2.2.2.1)) 30 (ur_2.2.2.2.2.2.2.2.2.1)) 36 (ur_2.2.2.2.2.2.2.2.2.2)) 0 pk 1 hpr_2_0 hpr_2_1 hpr_2_2 (show 0 ≤ (1 : Int32).toInt ∧ (1 : Int32).toInt ≤ 3 from by have := i_1; first | decide | omega)) (cwV 1 hts (gdV ml_X10_277 im_X10_tickPair se_X10_X10_tickPair in_X10 co_X10_tickPair rfl) rfl rfl rfl (by decide +kernel) ⟨Nat.le_of_ble_eq_true rfl, Nat.le_of_ble_eq_true rfl⟩) hM (fun U hU hW => hK.go hW hS hAz hU) (va_recv hK.1 (va_one hM.1) (ci := 10) (q0 := 0) rfl rfl) rfl rfl hl.1 rfl (lv_room (Nat.le_of_ble_eq_true rfl)) dX10_tick_17 ⟨Nat.le_of_ble_eq_true rfl, Nat.le_of_ble_eq_true rfl⟩) hS (fun q _ h => h) (fun q h => h) (fun r_5 ur_5 t H locs ht hvm hwr_5 hB hz hk hS => ?_)
  have hM : MH E h0 rf t0 t1 t2 (uA (uA (uA (uA (uA (uA (uA (uA (uA (uA (uA (uA (uA (uA (uA (uA (uA (uA (uA (uA A 8 (ur_2.1)) 9 (ur_2.2.1)) 10 (ur_2.2.2.1)) 13 (ur_2.2.2.2.1)) 15 (ur_2.2.2.2.2.1)) 16 (ur_2.2.2.2.2.2.1)) 18 (ur_2.2.2.2.2.2.2.1)) 20 (ur_2.2.2.2.2.2.2.2.1)) 30 (ur_2.2.2.2.2.2.2.2.2.1)) 36 (ur_2.2.2.2.2.2.2.2.2.2)) 8 (ur_5.1)) 9 (ur_5.2.1)) 10 (ur_5.2.2.1)) 13 (ur_5.2.2.2.1)) 15 (ur_5.2.2.2.2.1)) 16 (ur_5.2.2.2.2.2.1)) 18 (ur_5.2.2.2.2.2.2.1)) 20 (ur_5.2.2.2.2.2.2.2.1)) 30 (ur_5.2.2.2.2.2.2.2.2.1)) 36 (ur_5.2.2.2.2.2.2.2.2.2)) 0 pk H := by rw [ht] at hB; exact hB
  have hDr_5 : D_X10_tickPair t0 t1 t2 (uA (uA (uA (uA (uA (uA (uA (uA (uA (uA A 8 (ur_2.1)) 9 (ur_2.2.1)) 10 (ur_2.2.2.1)) 13 (ur_2.2.2.2.1)) 15 (ur_2.2.2.2.2.1)) 16 (ur_2.2.2.2.2.2.1)) 18 (ur_2.2.2.2.2.2.2.1)) 20 (ur_2.2.2.2.2.2.2.2.1)) 30 (ur_2.2.2.2.2.2.2.2.2.1)) 36 (ur_2.2.2.2.2.2.2.2.2.2)) (0 : Int32) pk (1 : Int32) (uA (uA (uA (uA (uA (uA (uA (uA (uA (uA (uA (uA (uA (uA (uA (uA (uA (uA (uA (uA A 8 (ur_2.1)) 9 (ur_2.2.1)) 10 (ur_2.2.2.1)) 13 (ur_2.2.2.2.1)) 15 (ur_2.2.2.2.2.1)) 16 (ur_2.2.2.2.2.2.1)) 18 (ur_2.2.2.2.2.2.2.1)) 20 (ur_2.2.2.2.2.2.2.2.1)) 30 (ur_2.2.2.2.2.2.2.2.2.1)) 36 (ur_2.2.2.2.2.2.2.2.2.2)) 8 (ur_5.1)) 9 (ur_5.2.1)) 10 (ur_5.2.2.1)) 13 (ur_5.2.2.2.1)) 15 (ur_5.2.2.2.2.1)) 16 (ur_5.2.2.2.2.2.1)) 18 (ur_5.2.2.2.2.2.2.1)) 20 (ur_5.2.2.2.2.2.2.2.1)) 30 (ur_5.2.2.2.2.2.2.2.2.1)) 36 (ur_5.2.2.2.2.2.2.2.2.2)) (0 : Int32) pk r_5 := hwr_5.2.2.2
  have hpr_5_0 : I3 (ur_5.1) := hwr_5.1
  have hpr_5_1 : I4 (ur_5.2.2.1) (ur_5.2.2.2.2.2.2.2.1) (A 29) (A 24) (A 11) (A 12) (ur_5.2.2.2.1) := hwr_5.2.1
  have hpr_5_2 : I8 (ur_5.2.2.2.2.2.2.2.1) (ur_5.2.2.2.2.2.2.2.2.1) (A 37) (ur_5.2.2.2.2.2.2.2.2.2) := hwr_5.2.2.1
  have := i_1
  refine lv_iadd hx hb dX10_tick_20 ?_
  refine lv_topi (fun x_6 ex_6 => ?_)
  refine lv_istore_n (lv' := [(1, .int x_6), (2, .int 1), (0, .ref h0)]) hx hb dX10_tick_21 rfl hl (by decide) rfl (fun ls hl => ?_)
  refine lv_iinc (v := 2) (lv' := [(2, .int 2), (1, .int x_6), (0, .ref h0)]) hx hb dX10_tick_22 hl (k := 1) rfl (by decide) (by decide) rfl (fun ls hl => ?_)
  refine lv_goto (tgt := 9) hx hb dX10_tick_25 (by decide) ?_
  refine lv_iload_n hx hb dX10_tick_9 rfl (lv_at hl 0 rfl) ?_
  refine lv_iconst (v := 4) hx hb dX10_tick_10 (by decide) ?_
  refine lv_icmp_ge (tgt := 28) hx hb dX10_tick_11 (by decide) (fun c_7 => absurd c_7 (by decide)) (fun c_7 => ?_)
  refine lv_iload_n hx hb dX10_tick_14 rfl (lv_at hl 1 rfl) ?_
  refine lv_aload_n hx hb dX10_tick_15 rfl (lv_at hl 2 rfl) ?_
  refine lv_iload_n hx hb dX10_tick_16 rfl (lv_at hl 0 rfl) ?_
  refine va_calli (rnV (fun H => MH E h0 rf t0 t1 t2 (uA (uA (uA (uA (uA (uA (uA (uA (uA (uA (uA (uA (uA (uA (uA (uA (uA (uA (uA (uA A 8 (ur_2.1)) 9 (ur_2.2.1)) 10 (ur_2.2.2.1)) 13 (ur_2.2.2.2.1)) 15 (ur_2.2.2.2.2.1)) 16 (ur_2.2.2.2.2.2.1)) 18 (ur_2.2.2.2.2.2.2.1)) 20 (ur_2.2.2.2.2.2.2.2.1)) 30 (ur_2.2.2.2.2.2.2.2.2.1)) 36 (ur_2.2.2.2.2.2.2.2.2.2)) 8 (ur_5.1)) 9 (ur_5.2.1)) 10 (ur_5.2.2.1)) 13 (ur_5.2.2.2.1)) 15 (ur_5.2.2.2.2.1)) 16 (ur_5.2.2.2.2.2.1)) 18 (ur_5.2.2.2.2.2.2.1)) 20 (ur_5.2.2.2.2.2.2.2.1)) 30 (ur_5.2.2.2.2.2.2.2.2.1)) 36 (ur_5.2.2.2.2.2.2.2.2.2)) 0 pk H) (As := [.int 2]) (rest := [.int x_6]) ⟨hx, hb, hml, hown, hts⟩ (u_X10_tickPair l E z0 G hGz h0 rf hR t0 t1 t2 (uA (uA (uA (uA (uA (uA (uA (uA (uA (uA (uA (uA (uA (uA (uA (uA (uA (uA (uA (uA A 8 (ur_2.1)) 9 (ur_2.2.1)) 10 (ur_2.2.2.1)) 13 (ur_2.2.2.2.1)) 15 (ur_2.2.2.2.2.1)) 16 (ur_2.2.2.2.2.2.1)) 18 (ur_2.2.2.2.2.2.2.1)) 20 (ur_2.2.2.2.2.2.2.2.1)) 30 (ur_2.2.2.2.2.2.2.2.2.1)) 36 (ur_2.2.2.2.2.2.2.2.2.2)) 8 (ur_5.1)) 9 (ur_5.2.1)) 10 (ur_5.2.2.1)) 13 (ur_5.2.2.2.1)) 15 (ur_5.2.2.2.2.1)) 16 (ur_5.2.2.2.2.2.1)) 18 (ur_5.2.2.2.2.2.2.1)) 20 (ur_5.2.2.2.2.2.2.2.1)) 30 (ur_5.2.2.2.2.2.2.2.2.1)) 36 (ur_5.2.2.2.2.2.2.2.2.2)) 0 pk 2 hpr_5_0 hpr_5_1 hpr_5_2 (show 0 ≤ (2 : Int32).toInt ∧ (2 : Int32).toInt ≤ 3 from by have := i_2; first | decide | omega)) (cwV 1 hts (gdV ml_X10_277 im_X10_tickPair se_X10_X10_tickPair in_X10 co_X10_tickPair rfl) rfl rfl rfl (by decide +kernel) ⟨Nat.le_of_ble_eq_true rfl, Nat.le_of_ble_eq_true rfl⟩) hM (fun U hU hW => hK.go hW hS hAz hU) (va_recv hK.1 (va_one hM.1) (ci := 10) (q0 := 0) rfl rfl) rfl rfl hl.1 rfl (lv_room (Nat.le_of_ble_eq_true rfl)) dX10_tick_17 ⟨Nat.le_of_ble_eq_true rfl, Nat.le_of_ble_eq_true rfl⟩) hS (fun q _ h => h) (fun q h => h) (fun r_8 ur_8 t H locs ht hvm hwr_8 hB hz hk hS => ?_)
  have hM : MH E h0 rf t0 t1 t2 (uA (uA (uA (uA (uA (uA (uA (uA (uA (uA (uA (uA (uA (uA (uA (uA (uA (uA (uA (uA (uA (uA (uA (uA (uA (uA (uA (uA (uA (uA A 8 (ur_2.1)) 9 (ur_2.2.1)) 10 (ur_2.2.2.1)) 13 (ur_2.2.2.2.1)) 15 (ur_2.2.2.2.2.1)) 16 (ur_2.2.2.2.2.2.1)) 18 (ur_2.2.2.2.2.2.2.1)) 20 (ur_2.2.2.2.2.2.2.2.1)) 30 (ur_2.2.2.2.2.2.2.2.2.1)) 36 (ur_2.2.2.2.2.2.2.2.2.2)) 8 (ur_5.1)) 9 (ur_5.2.1)) 10 (ur_5.2.2.1)) 13 (ur_5.2.2.2.1)) 15 (ur_5.2.2.2.2.1)) 16 (ur_5.2.2.2.2.2.1)) 18 (ur_5.2.2.2.2.2.2.1)) 20 (ur_5.2.2.2.2.2.2.2.1)) 30 (ur_5.2.2.2.2.2.2.2.2.1)) 36 (ur_5.2.2.2.2.2.2.2.2.2)) 8 (ur_8.1)) 9 (ur_8.2.1)) 10 (ur_8.2.2.1)) 13 (ur_8.2.2.2.1)) 15 (ur_8.2.2.2.2.1)) 16 (ur_8.2.2.2.2.2.1)) 18 (ur_8.2.2.2.2.2.2.1)) 20 (ur_8.2.2.2.2.2.2.2.1)) 30 (ur_8.2.2.2.2.2.2.2.2.1)) 36 (ur_8.2.2.2.2.2.2.2.2.2)) 0 pk H := by rw [ht] at hB; exact hB
  have hDr_8 : D_X10_tickPair t0 t1 t2 (uA (uA (uA (uA (uA (uA (uA (uA (uA (uA (uA (uA (uA (uA (uA (uA (uA (uA (uA (uA A 8 (ur_2.1)) 9 (ur_2.2.1)) 10 (ur_2.2.2.1)) 13 (ur_2.2.2.2.1)) 15 (ur_2.2.2.2.2.1)) 16 (ur_2.2.2.2.2.2.1)) 18 (ur_2.2.2.2.2.2.2.1)) 20 (ur_2.2.2.2.2.2.2.2.1)) 30 (ur_2.2.2.2.2.2.2.2.2.1)) 36 (ur_2.2.2.2.2.2.2.2.2.2)) 8 (ur_5.1)) 9 (ur_5.2.1)) 10 (ur_5.2.2.1)) 13 (ur_5.2.2.2.1)) 15 (ur_5.2.2.2.2.1)) 16 (ur_5.2.2.2.2.2.1)) 18 (ur_5.2.2.2.2.2.2.1)) 20 (ur_5.2.2.2.2.2.2.2.1)) 30 (ur_5.2.2.2.2.2.2.2.2.1)) 36 (ur_5.2.2.2.2.2.2.2.2.2)) (0 : Int32) pk (2 : Int32) (uA (uA (uA (uA (uA (uA (uA (uA (uA (uA (uA (uA (uA (uA (uA (uA (uA (uA (uA (uA (uA (uA (uA (uA (uA (uA (uA (uA (uA (uA A 8 (ur_2.1)) 9 (ur_2.2.1)) 10 (ur_2.2.2.1)) 13 (ur_2.2.2.2.1)) 15 (ur_2.2.2.2.2.1)) 16 (ur_2.2.2.2.2.2.1)) 18 (ur_2.2.2.2.2.2.2.1)) 20 (ur_2.2.2.2.2.2.2.2.1)) 30 (ur_2.2.2.2.2.2.2.2.2.1)) 36 (ur_2.2.2.2.2.2.2.2.2.2)) 8 (ur_5.1)) 9 (ur_5.2.1)) 10 (ur_5.2.2.1)) 13 (ur_5.2.2.2.1)) 15 (ur_5.2.2.2.2.1)) 16 (ur_5.2.2.2.2.2.1)) 18 (ur_5.2.2.2.2.2.2.1)) 20 (ur_5.2.2.2.2.2.2.2.1)) 30 (ur_5.2.2.2.2.2.2.2.2.1)) 36 (ur_5.2.2.2.2.2.2.2.2.2)) 8 (ur_8.1)) 9 (ur_8.2.1)) 10 (ur_8.2.2.1)) 13 (ur_8.2.2.2.1)) 15 (ur_8.2.2.2.2.1)) 16 (ur_8.2.2.2.2.2.1)) 18 (ur_8.2.2.2.2.2.2.1)) 20 (ur_8.2.2.2.2.2.2.2.1)) 30 (ur_8.2.2.2.2.2.2.2.2.1)) 36 (ur_8.2.2.2.2.2.2.2.2.2)) (0 : Int32) pk r_8 := hwr_8.2.2.2
  have hpr_8_0 : I3 (ur_8.1) := hwr_8.1
  have hpr_8_1 : I4 (ur_8.2.2.1) (ur_8.2.2.2.2.2.2.2.1) (A 29) (A 24) (A 11) (A 12) (ur_8.2.2.2.1) := hwr_8.2.1
  have hpr_8_2 : I8 (ur_8.2.2.2.2.2.2.2.1) (ur_8.2.2.2.2.2.2.2.2.1) (A 37) (ur_8.2.2.2.2.2.2.2.2.2) := hwr_8.2.2.1
  have := i_2
  refine lv_iadd hx hb dX10_tick_20 ?_
  refine lv_topi (fun x_9 ex_9 => ?_)
  refine lv_istore_n (lv' := [(1, .int x_9), (2, .int 2), (0, .ref h0)]) hx hb dX10_tick_21 rfl hl (by decide) rfl (fun ls hl => ?_)
  refine lv_iinc (v := 3) (lv' := [(2, .int 3), (1, .int x_9), (0, .ref h0)]) hx hb dX10_tick_22 hl (k := 1) rfl (by decide) (by decide) rfl (fun ls hl => ?_)
  refine lv_goto (tgt := 9) hx hb dX10_tick_25 (by decide) ?_
  refine lv_iload_n hx hb dX10_tick_9 rfl (lv_at hl 0 rfl) ?_
  refine lv_iconst (v := 4) hx hb dX10_tick_10 (by decide) ?_
  refine lv_icmp_ge (tgt := 28) hx hb dX10_tick_11 (by decide) (fun c_10 => absurd c_10 (by decide)) (fun c_10 => ?_)
  refine lv_iload_n hx hb dX10_tick_14 rfl (lv_at hl 1 rfl) ?_
  refine lv_aload_n hx hb dX10_tick_15 rfl (lv_at hl 2 rfl) ?_
  refine lv_iload_n hx hb dX10_tick_16 rfl (lv_at hl 0 rfl) ?_
  refine va_calli (rnV (fun H => MH E h0 rf t0 t1 t2 (uA (uA (uA (uA (uA (uA (uA (uA (uA (uA (uA (uA (uA (uA (uA (uA (uA (uA (uA (uA (uA (uA (uA (uA (uA (uA (uA (uA (uA (uA A 8 (ur_2.1)) 9 (ur_2.2.1)) 10 (ur_2.2.2.1)) 13 (ur_2.2.2.2.1)) 15 (ur_2.2.2.2.2.1)) 16 (ur_2.2.2.2.2.2.1)) 18 (ur_2.2.2.2.2.2.2.1)) 20 (ur_2.2.2.2.2.2.2.2.1)) 30 (ur_2.2.2.2.2.2.2.2.2.1)) 36 (ur_2.2.2.2.2.2.2.2.2.2)) 8 (ur_5.1)) 9 (ur_5.2.1)) 10 (ur_5.2.2.1)) 13 (ur_5.2.2.2.1)) 15 (ur_5.2.2.2.2.1)) 16 (ur_5.2.2.2.2.2.1)) 18 (ur_5.2.2.2.2.2.2.1)) 20 (ur_5.2.2.2.2.2.2.2.1)) 30 (ur_5.2.2.2.2.2.2.2.2.1)) 36 (ur_5.2.2.2.2.2.2.2.2.2)) 8 (ur_8.1)) 9 (ur_8.2.1)) 10 (ur_8.2.2.1)) 13 (ur_8.2.2.2.1)) 15 (ur_8.2.2.2.2.1)) 16 (ur_8.2.2.2.2.2.1)) 18 (ur_8.2.2.2.2.2.2.1)) 20 (ur_8.2.2.2.2.2.2.2.1)) 30 (ur_8.2.2.2.2.2.2.2.2.1)) 36 (ur_8.2.2.2.2.2.2.2.2.2)) 0 pk H) (As := [.int 3]) (rest := [.int x_9]) ⟨hx, hb, hml, hown, hts⟩ (u_X10_tickPair l E z0 G hGz h0 rf hR t0 t1 t2 (uA (uA (uA (uA (uA (uA (uA (uA (uA (uA (uA (uA (uA (uA (uA (uA (uA (uA (uA (uA (uA (uA (uA (uA (uA (uA (uA (uA (uA (uA A 8 (ur_2.1)) 9 (ur_2.2.1)) 10 (ur_2.2.2.1)) 13 (ur_2.2.2.2.1)) 15 (ur_2.2.2.2.2.1)) 16 (ur_2.2.2.2.2.2.1)) 18 (ur_2.2.2.2.2.2.2.1)) 20 (ur_2.2.2.2.2.2.2.2.1)) 30 (ur_2.2.2.2.2.2.2.2.2.1)) 36 (ur_2.2.2.2.2.2.2.2.2.2)) 8 (ur_5.1)) 9 (ur_5.2.1)) 10 (ur_5.2.2.1)) 13 (ur_5.2.2.2.1)) 15 (ur_5.2.2.2.2.1)) 16 (ur_5.2.2.2.2.2.1)) 18 (ur_5.2.2.2.2.2.2.1)) 20 (ur_5.2.2.2.2.2.2.2.1)) 30 (ur_5.2.2.2.2.2.2.2.2.1)) 36 (ur_5.2.2.2.2.2.2.2.2.2)) 8 (ur_8.1)) 9 (ur_8.2.1)) 10 (ur_8.2.2.1)) 13 (ur_8.2.2.2.1)) 15 (ur_8.2.2.2.2.1)) 16 (ur_8.2.2.2.2.2.1)) 18 (ur_8.2.2.2.2.2.2.1)) 20 (ur_8.2.2.2.2.2.2.2.1)) 30 (ur_8.2.2.2.2.2.2.2.2.1)) 36 (ur_8.2.2.2.2.2.2.2.2.2)) 0 pk 3 hpr_8_0 hpr_8_1 hpr_8_2 (show 0 ≤ (3 : Int32).toInt ∧ (3 : Int32).toInt ≤ 3 from by have := i_3; first | decide | omega)) (cwV 1 hts (gdV ml_X10_277 im_X10_tickPair se_X10_X10_tickPair in_X10 co_X10_tickPair rfl) rfl rfl rfl (by decide +kernel) ⟨Nat.le_of_ble_eq_true rfl, Nat.le_of_ble_eq_true rfl⟩) hM (fun U hU hW => hK.go hW hS hAz hU) (va_recv hK.1 (va_one hM.1) (ci := 10) (q0 := 0) rfl rfl) rfl rfl hl.1 rfl (lv_room (Nat.le_of_ble_eq_true rfl)) dX10_tick_17 ⟨Nat.le_of_ble_eq_true rfl, Nat.le_of_ble_eq_true rfl⟩) hS (fun q _ h => h) (fun q h => h) (fun r_11 ur_11 t H locs ht hvm hwr_11 hB hz hk hS => ?_)
  have hM : MH E h0 rf t0 t1 t2 (uA (uA (uA (uA (uA (uA (uA (uA (uA (uA (uA (uA (uA (uA (uA (uA (uA (uA (uA (uA (uA (uA (uA (uA (uA (uA (uA (uA (uA (uA (uA (uA (uA (uA (uA (uA (uA (uA (uA (uA A 8 (ur_2.1)) 9 (ur_2.2.1)) 10 (ur_2.2.2.1)) 13 (ur_2.2.2.2.1)) 15 (ur_2.2.2.2.2.1)) 16 (ur_2.2.2.2.2.2.1)) 18 (ur_2.2.2.2.2.2.2.1)) 20 (ur_2.2.2.2.2.2.2.2.1)) 30 (ur_2.2.2.2.2.2.2.2.2.1)) 36 (ur_2.2.2.2.2.2.2.2.2.2)) 8 (ur_5.1)) 9 (ur_5.2.1)) 10 (ur_5.2.2.1)) 13 (ur_5.2.2.2.1)) 15 (ur_5.2.2.2.2.1)) 16 (ur_5.2.2.2.2.2.1)) 18 (ur_5.2.2.2.2.2.2.1)) 20 (ur_5.2.2.2.2.2.2.2.1)) 30 (ur_5.2.2.2.2.2.2.2.2.1)) 36 (ur_5.2.2.2.2.2.2.2.2.2)) 8 (ur_8.1)) 9 (ur_8.2.1)) 10 (ur_8.2.2.1)) 13 (ur_8.2.2.2.1)) 15 (ur_8.2.2.2.2.1)) 16 (ur_8.2.2.2.2.2.1)) 18 (ur_8.2.2.2.2.2.2.1)) 20 (ur_8.2.2.2.2.2.2.2.1)) 30 (ur_8.2.2.2.2.2.2.2.2.1)) 36 (ur_8.2.2.2.2.2.2.2.2.2)) 8 (ur_11.1)) 9 (ur_11.2.1)) 10 (ur_11.2.2.1)) 13 (ur_11.2.2.2.1)) 15 (ur_11.2.2.2.2.1)) 16 (ur_11.2.2.2.2.2.1)) 18 (ur_11.2.2.2.2.2.2.1)) 20 (ur_11.2.2.2.2.2.2.2.1)) 30 (ur_11.2.2.2.2.2.2.2.2.1)) 36 (ur_11.2.2.2.2.2.2.2.2.2)) 0 pk H := by rw [ht] at hB; exact hB
  have hDr_11 : D_X10_tickPair t0 t1 t2 (uA (uA (uA (uA (uA (uA (uA (uA (uA (uA (uA (uA (uA (uA (uA (uA (uA (uA (uA (uA (uA (uA (uA (uA (uA (uA (uA (uA (uA (uA A 8 (ur_2.1)) 9 (ur_2.2.1)) 10 (ur_2.2.2.1)) 13 (ur_2.2.2.2.1)) 15 (ur_2.2.2.2.2.1)) 16 (ur_2.2.2.2.2.2.1)) 18 (ur_2.2.2.2.2.2.2.1)) 20 (ur_2.2.2.2.2.2.2.2.1)) 30 (ur_2.2.2.2.2.2.2.2.2.1)) 36 (ur_2.2.2.2.2.2.2.2.2.2)) 8 (ur_5.1)) 9 (ur_5.2.1)) 10 (ur_5.2.2.1)) 13 (ur_5.2.2.2.1)) 15 (ur_5.2.2.2.2.1)) 16 (ur_5.2.2.2.2.2.1)) 18 (ur_5.2.2.2.2.2.2.1)) 20 (ur_5.2.2.2.2.2.2.2.1)) 30 (ur_5.2.2.2.2.2.2.2.2.1)) 36 (ur_5.2.2.2.2.2.2.2.2.2)) 8 (ur_8.1)) 9 (ur_8.2.1)) 10 (ur_8.2.2.1)) 13 (ur_8.2.2.2.1)) 15 (ur_8.2.2.2.2.1)) 16 (ur_8.2.2.2.2.2.1)) 18 (ur_8.2.2.2.2.2.2.1)) 20 (ur_8.2.2.2.2.2.2.2.1)) 30 (ur_8.2.2.2.2.2.2.2.2.1)) 36 (ur_8.2.2.2.2.2.2.2.2.2)) (0 : Int32) pk (3 : Int32) (uA (uA (uA (uA (uA (uA (uA (uA (uA (uA (uA (uA (uA (uA (uA (uA (uA (uA (uA (uA (uA (uA (uA (uA (uA (uA (uA (uA (uA (uA (uA (uA (uA (uA (uA (uA (uA (uA (uA (uA A 8 (ur_2.1)) 9 (ur_2.2.1)) 10 (ur_2.2.2.1)) 13 (ur_2.2.2.2.1)) 15 (ur_2.2.2.2.2.1)) 16 (ur_2.2.2.2.2.2.1)) 18 (ur_2.2.2.2.2.2.2.1)) 20 (ur_2.2.2.2.2.2.2.2.1)) 30 (ur_2.2.2.2.2.2.2.2.2.1)) 36 (ur_2.2.2.2.2.2.2.2.2.2)) 8 (ur_5.1)) 9 (ur_5.2.1)) 10 (ur_5.2.2.1)) 13 (ur_5.2.2.2.1)) 15 (ur_5.2.2.2.2.1)) 16 (ur_5.2.2.2.2.2.1)) 18 (ur_5.2.2.2.2.2.2.1)) 20 (ur_5.2.2.2.2.2.2.2.1)) 30 (ur_5.2.2.2.2.2.2.2.2.1)) 36 (ur_5.2.2.2.2.2.2.2.2.2)) 8 (ur_8.1)) 9 (ur_8.2.1)) 10 (ur_8.2.2.1)) 13 (ur_8.2.2.2.1)) 15 (ur_8.2.2.2.2.1)) 16 (ur_8.2.2.2.2.2.1)) 18 (ur_8.2.2.2.2.2.2.1)) 20 (ur_8.2.2.2.2.2.2.2.1)) 30 (ur_8.2.2.2.2.2.2.2.2.1)) 36 (ur_8.2.2.2.2.2.2.2.2.2)) 8 (ur_11.1)) 9 (ur_11.2.1)) 10 (ur_11.2.2.1)) 13 (ur_11.2.2.2.1)) 15 (ur_11.2.2.2.2.1)) 16 (ur_11.2.2.2.2.2.1)) 18 (ur_11.2.2.2.2.2.2.1)) 20 (ur_11.2.2.2.2.2.2.2.1)) 30 (ur_11.2.2.2.2.2.2.2.2.1)) 36 (ur_11.2.2.2.2.2.2.2.2.2)) (0 : Int32) pk r_11 := hwr_11.2.2.2
  have hpr_11_0 : I3 (ur_11.1) := hwr_11.1
  have hpr_11_1 : I4 (ur_11.2.2.1) (ur_11.2.2.2.2.2.2.2.1) (A 29) (A 24) (A 11) (A 12) (ur_11.2.2.2.1) := hwr_11.2.1
  have hpr_11_2 : I8 (ur_11.2.2.2.2.2.2.2.1) (ur_11.2.2.2.2.2.2.2.2.1) (A 37) (ur_11.2.2.2.2.2.2.2.2.2) := hwr_11.2.2.1
  have := i_3
  refine lv_iadd hx hb dX10_tick_20 ?_
  refine lv_topi (fun x_12 ex_12 => ?_)
  refine lv_istore_n (lv' := [(1, .int x_12), (2, .int 3), (0, .ref h0)]) hx hb dX10_tick_21 rfl hl (by decide) rfl (fun ls hl => ?_)
  refine lv_iinc (v := 4) (lv' := [(2, .int 4), (1, .int x_12), (0, .ref h0)]) hx hb dX10_tick_22 hl (k := 1) rfl (by decide) (by decide) rfl (fun ls hl => ?_)
  refine lv_goto (tgt := 9) hx hb dX10_tick_25 (by decide) ?_
  refine lv_iload_n hx hb dX10_tick_9 rfl (lv_at hl 0 rfl) ?_
  refine lv_iconst (v := 4) hx hb dX10_tick_10 (by decide) ?_
  refine lv_icmp_ge (tgt := 28) hx hb dX10_tick_11 (by decide) (fun c_13 => ?_) (fun c_13 => absurd c_13 (by decide))
  refine lv_iload_n hx hb dX10_tick_28 rfl (lv_at hl 1 rfl) ?_
  exact W.iret (v := x_12) hx hb hr (fun t ht hW => ⟨⟨x_12, ((ur_11.1), (ur_11.2.1), (ur_11.2.2.1), (ur_11.2.2.2.1), (ur_11.2.2.2.2.1), (ur_11.2.2.2.2.2.1), (ur_11.2.2.2.2.2.2.1), (ur_11.2.2.2.2.2.2.2.1), (ur_11.2.2.2.2.2.2.2.2.1), (ur_11.2.2.2.2.2.2.2.2.2), 0), rfl, ⟨hpr_11_0, hpr_11_1, hpr_11_2, ⟨ur_2, r_2, hDr_2, hpr_2_0, hpr_2_1, hpr_2_2, x_3, ex_3, ur_5, r_5, hDr_5, hpr_5_0, hpr_5_1, hpr_5_2, x_6, ex_6, ur_8, r_8, hDr_8, hpr_8_0, hpr_8_1, hpr_8_2, x_9, ex_9, ur_11, r_11, hDr_11, hpr_11_0, hpr_11_1, hpr_11_2, x_12, ex_12, rfl, rfl, rfl, rfl⟩⟩, (by show MH E h0 rf t0 t1 t2 (uA (uA (uA (uA (uA (uA (uA (uA (uA (uA A 8 (ur_11.1)) 9 (ur_11.2.1)) 10 (ur_11.2.2.1)) 13 (ur_11.2.2.2.1)) 15 (ur_11.2.2.2.2.1)) 16 (ur_11.2.2.2.2.2.1)) 18 (ur_11.2.2.2.2.2.2.1)) 20 (ur_11.2.2.2.2.2.2.2.1)) 30 (ur_11.2.2.2.2.2.2.2.2.1)) 36 (ur_11.2.2.2.2.2.2.2.2.2)) 0 pk t.heap; rw [ht]; exact hM.cge (funext fun j => (cgj j 36 rfl (fun a0 => (cgj j 30 rfl (fun a1 => (cgj j 20 rfl (fun a2 => (cgj j 18 rfl (fun a3 => (cgj j 16 rfl (fun a4 => (cgj j 15 rfl (fun a5 => (cgj j 13 rfl (fun a6 => (cgj j 10 rfl (fun a7 => (cgj j 9 rfl (fun a8 => (cgj j 8 rfl (fun a9 => (by simp only [uA_n a0, uA_n a1, uA_n a2, uA_n a3, uA_n a4, uA_n a5, uA_n a6, uA_n a7, uA_n a8, uA_n a9])))))))))))))))))))))))⟩, hS.F ht⟩) hS.2.2 dX10_tick_29
theorem gdX10_deliver_0 : (decode cX10_deliver 0 = .ok (.aload_n 0, 1)) ∧ (decode cX10_deliver 1 = .ok (.iconst 0, 1)) ∧ (decode cX10_deliver 2 = .ok (.putfield 153, 3)) ∧ (decode cX10_deliver 5 = .ok (.iload_n 1, 1)) ∧ (decode cX10_deliver 6 = .ok (.ifCond .lt 11, 3)) ∧ (decode cX10_deliver 9 = .ok (.iload_n 1, 1)) ∧ (decode cX10_deliver 10 = .ok (.aload_n 0, 1)) ∧ (decode cX10_deliver 11 = .ok (.getfield 164, 3)) ∧ (decode cX10_deliver 14 = .ok (.if_icmp .lt 5, 3)) ∧ (decode cX10_deliver 17 = .ok (.iconst 0, 1)) ∧ (decode cX10_deliver 18 = .ok (.ireturn, 1)) ∧ (decode cX10_deliver 19 = .ok (.aload_n 0, 1)) ∧ (decode cX10_deliver 20 = .ok (.iload_n 1, 1)) ∧ (decode cX10_deliver 21 = .ok (.bipush 24, 2)) ∧ (decode cX10_deliver 23 = .ok (.invokevirtual 170, 3)) ∧ (decode cX10_deliver 26 = .ok (.aload_n 0, 1)) := by decide +kernel
theorem dX10_deliver_0 : decode cX10_deliver 0 = .ok (.aload_n 0, 1) := gdX10_deliver_0.1
theorem dX10_deliver_1 : decode cX10_deliver 1 = .ok (.iconst 0, 1) := gdX10_deliver_0.2.1
theorem dX10_deliver_2 : decode cX10_deliver 2 = .ok (.putfield 153, 3) := gdX10_deliver_0.2.2.1
theorem dX10_deliver_5 : decode cX10_deliver 5 = .ok (.iload_n 1, 1) := gdX10_deliver_0.2.2.2.1
theorem dX10_deliver_6 : decode cX10_deliver 6 = .ok (.ifCond .lt 11, 3) := gdX10_deliver_0.2.2.2.2.1
theorem dX10_deliver_9 : decode cX10_deliver 9 = .ok (.iload_n 1, 1) := gdX10_deliver_0.2.2.2.2.2.1
theorem dX10_deliver_10 : decode cX10_deliver 10 = .ok (.aload_n 0, 1) := gdX10_deliver_0.2.2.2.2.2.2.1
theorem dX10_deliver_11 : decode cX10_deliver 11 = .ok (.getfield 164, 3) := gdX10_deliver_0.2.2.2.2.2.2.2.1
theorem dX10_deliver_14 : decode cX10_deliver 14 = .ok (.if_icmp .lt 5, 3) := gdX10_deliver_0.2.2.2.2.2.2.2.2.1
theorem dX10_deliver_17 : decode cX10_deliver 17 = .ok (.iconst 0, 1) := gdX10_deliver_0.2.2.2.2.2.2.2.2.2.1
theorem dX10_deliver_18 : decode cX10_deliver 18 = .ok (.ireturn, 1) := gdX10_deliver_0.2.2.2.2.2.2.2.2.2.2.1
theorem dX10_deliver_19 : decode cX10_deliver 19 = .ok (.aload_n 0, 1) := gdX10_deliver_0.2.2.2.2.2.2.2.2.2.2.2.1
theorem dX10_deliver_20 : decode cX10_deliver 20 = .ok (.iload_n 1, 1) := gdX10_deliver_0.2.2.2.2.2.2.2.2.2.2.2.2.1
theorem dX10_deliver_21 : decode cX10_deliver 21 = .ok (.bipush 24, 2) := gdX10_deliver_0.2.2.2.2.2.2.2.2.2.2.2.2.2.1
theorem dX10_deliver_23 : decode cX10_deliver 23 = .ok (.invokevirtual 170, 3) := gdX10_deliver_0.2.2.2.2.2.2.2.2.2.2.2.2.2.2.1
theorem dX10_deliver_26 : decode cX10_deliver 26 = .ok (.aload_n 0, 1) := gdX10_deliver_0.2.2.2.2.2.2.2.2.2.2.2.2.2.2.2
theorem gdX10_deliver_27 : (decode cX10_deliver 27 = .ok (.iload_n 1, 1)) ∧ (decode cX10_deliver 28 = .ok (.invokevirtual 265, 3)) ∧ (decode cX10_deliver 31 = .ok (.aload_n 0, 1)) ∧ (decode cX10_deliver 32 = .ok (.getfield 119, 3)) ∧ (decode cX10_deliver 35 = .ok (.bipush 24, 2)) ∧ (decode cX10_deliver 37 = .ok (.iaload, 1)) ∧ (decode cX10_deliver 38 = .ok (.istore_n 2, 1)) ∧ (decode cX10_deliver 39 = .ok (.aload_n 0, 1)) ∧ (decode cX10_deliver 40 = .ok (.getfield 28, 3)) ∧ (decode cX10_deliver 43 = .ok (.iload_n 2, 1)) ∧ (decode cX10_deliver 44 = .ok (.iaload, 1)) ∧ (decode cX10_deliver 45 = .ok (.iconst 1, 1)) ∧ (decode cX10_deliver 46 = .ok (.if_icmp .eq 5, 3)) ∧ (decode cX10_deliver 49 = .ok (.iconst 1, 1)) ∧ (decode cX10_deliver 50 = .ok (.ireturn, 1)) ∧ (decode cX10_deliver 51 = .ok (.aload_n 0, 1)) := by decide +kernel
theorem dX10_deliver_27 : decode cX10_deliver 27 = .ok (.iload_n 1, 1) := gdX10_deliver_27.1
theorem dX10_deliver_28 : decode cX10_deliver 28 = .ok (.invokevirtual 265, 3) := gdX10_deliver_27.2.1
theorem dX10_deliver_31 : decode cX10_deliver 31 = .ok (.aload_n 0, 1) := gdX10_deliver_27.2.2.1
theorem dX10_deliver_32 : decode cX10_deliver 32 = .ok (.getfield 119, 3) := gdX10_deliver_27.2.2.2.1
theorem dX10_deliver_35 : decode cX10_deliver 35 = .ok (.bipush 24, 2) := gdX10_deliver_27.2.2.2.2.1
theorem dX10_deliver_37 : decode cX10_deliver 37 = .ok (.iaload, 1) := gdX10_deliver_27.2.2.2.2.2.1
theorem dX10_deliver_38 : decode cX10_deliver 38 = .ok (.istore_n 2, 1) := gdX10_deliver_27.2.2.2.2.2.2.1
theorem dX10_deliver_39 : decode cX10_deliver 39 = .ok (.aload_n 0, 1) := gdX10_deliver_27.2.2.2.2.2.2.2.1
theorem dX10_deliver_40 : decode cX10_deliver 40 = .ok (.getfield 28, 3) := gdX10_deliver_27.2.2.2.2.2.2.2.2.1
theorem dX10_deliver_43 : decode cX10_deliver 43 = .ok (.iload_n 2, 1) := gdX10_deliver_27.2.2.2.2.2.2.2.2.2.1
theorem dX10_deliver_44 : decode cX10_deliver 44 = .ok (.iaload, 1) := gdX10_deliver_27.2.2.2.2.2.2.2.2.2.2.1
theorem dX10_deliver_45 : decode cX10_deliver 45 = .ok (.iconst 1, 1) := gdX10_deliver_27.2.2.2.2.2.2.2.2.2.2.2.1
theorem dX10_deliver_46 : decode cX10_deliver 46 = .ok (.if_icmp .eq 5, 3) := gdX10_deliver_27.2.2.2.2.2.2.2.2.2.2.2.2.1
theorem dX10_deliver_49 : decode cX10_deliver 49 = .ok (.iconst 1, 1) := gdX10_deliver_27.2.2.2.2.2.2.2.2.2.2.2.2.2.1
theorem dX10_deliver_50 : decode cX10_deliver 50 = .ok (.ireturn, 1) := gdX10_deliver_27.2.2.2.2.2.2.2.2.2.2.2.2.2.2.1
theorem dX10_deliver_51 : decode cX10_deliver 51 = .ok (.aload_n 0, 1) := gdX10_deliver_27.2.2.2.2.2.2.2.2.2.2.2.2.2.2.2
theorem gdX10_deliver_52 : (decode cX10_deliver 52 = .ok (.getfield 122, 3)) ∧ (decode cX10_deliver 55 = .ok (.bipush 24, 2)) ∧ (decode cX10_deliver 57 = .ok (.iaload, 1)) ∧ (decode cX10_deliver 58 = .ok (.iconst 4, 1)) ∧ (decode cX10_deliver 59 = .ok (.if_icmp .ge 11, 3)) ∧ (decode cX10_deliver 62 = .ok (.aload_n 0, 1)) ∧ (decode cX10_deliver 63 = .ok (.iload_n 2, 1)) ∧ (decode cX10_deliver 64 = .ok (.invokevirtual 268, 3)) ∧ (decode cX10_deliver 67 = .ok (.goto 64, 3)) ∧ (decode cX10_deliver 70 = .ok (.aload_n 0, 1)) ∧ (decode cX10_deliver 71 = .ok (.getfield 122, 3)) ∧ (decode cX10_deliver 74 = .ok (.bipush 24, 2)) ∧ (decode cX10_deliver 76 = .ok (.iaload, 1)) ∧ (decode cX10_deliver 77 = .ok (.iconst 4, 1)) ∧ (decode cX10_deliver 78 = .ok (.if_icmp .ne 11, 3)) ∧ (decode cX10_deliver 81 = .ok (.aload_n 0, 1)) := by decide +kernel
theorem dX10_deliver_52 : decode cX10_deliver 52 = .ok (.getfield 122, 3) := gdX10_deliver_52.1
theorem dX10_deliver_55 : decode cX10_deliver 55 = .ok (.bipush 24, 2) := gdX10_deliver_52.2.1
theorem dX10_deliver_57 : decode cX10_deliver 57 = .ok (.iaload, 1) := gdX10_deliver_52.2.2.1
theorem dX10_deliver_58 : decode cX10_deliver 58 = .ok (.iconst 4, 1) := gdX10_deliver_52.2.2.2.1
theorem dX10_deliver_59 : decode cX10_deliver 59 = .ok (.if_icmp .ge 11, 3) := gdX10_deliver_52.2.2.2.2.1
theorem dX10_deliver_62 : decode cX10_deliver 62 = .ok (.aload_n 0, 1) := gdX10_deliver_52.2.2.2.2.2.1
theorem dX10_deliver_63 : decode cX10_deliver 63 = .ok (.iload_n 2, 1) := gdX10_deliver_52.2.2.2.2.2.2.1
theorem dX10_deliver_64 : decode cX10_deliver 64 = .ok (.invokevirtual 268, 3) := gdX10_deliver_52.2.2.2.2.2.2.2.1
theorem dX10_deliver_67 : decode cX10_deliver 67 = .ok (.goto 64, 3) := gdX10_deliver_52.2.2.2.2.2.2.2.2.1
theorem dX10_deliver_70 : decode cX10_deliver 70 = .ok (.aload_n 0, 1) := gdX10_deliver_52.2.2.2.2.2.2.2.2.2.1
theorem dX10_deliver_71 : decode cX10_deliver 71 = .ok (.getfield 122, 3) := gdX10_deliver_52.2.2.2.2.2.2.2.2.2.2.1
theorem dX10_deliver_74 : decode cX10_deliver 74 = .ok (.bipush 24, 2) := gdX10_deliver_52.2.2.2.2.2.2.2.2.2.2.2.1
theorem dX10_deliver_76 : decode cX10_deliver 76 = .ok (.iaload, 1) := gdX10_deliver_52.2.2.2.2.2.2.2.2.2.2.2.2.1
theorem dX10_deliver_77 : decode cX10_deliver 77 = .ok (.iconst 4, 1) := gdX10_deliver_52.2.2.2.2.2.2.2.2.2.2.2.2.2.1
theorem dX10_deliver_78 : decode cX10_deliver 78 = .ok (.if_icmp .ne 11, 3) := gdX10_deliver_52.2.2.2.2.2.2.2.2.2.2.2.2.2.2.1
theorem dX10_deliver_81 : decode cX10_deliver 81 = .ok (.aload_n 0, 1) := gdX10_deliver_52.2.2.2.2.2.2.2.2.2.2.2.2.2.2.2
theorem gdX10_deliver_82 : (decode cX10_deliver 82 = .ok (.iload_n 2, 1)) ∧ (decode cX10_deliver 83 = .ok (.invokevirtual 271, 3)) ∧ (decode cX10_deliver 86 = .ok (.goto 45, 3)) ∧ (decode cX10_deliver 89 = .ok (.aload_n 0, 1)) ∧ (decode cX10_deliver 90 = .ok (.getfield 122, 3)) ∧ (decode cX10_deliver 93 = .ok (.bipush 24, 2)) ∧ (decode cX10_deliver 95 = .ok (.iaload, 1)) ∧ (decode cX10_deliver 96 = .ok (.iconst 5, 1)) ∧ (decode cX10_deliver 97 = .ok (.if_icmp .ne 29, 3)) ∧ (decode cX10_deliver 100 = .ok (.aload_n 0, 1)) ∧ (decode cX10_deliver 101 = .ok (.iload_n 2, 1)) ∧ (decode cX10_deliver 102 = .ok (.aload_n 0, 1)) ∧ (decode cX10_deliver 103 = .ok (.getfield 34, 3)) ∧ (decode cX10_deliver 106 = .ok (.iload_n 2, 1)) ∧ (decode cX10_deliver 107 = .ok (.iaload, 1)) ∧ (decode cX10_deliver 108 = .ok (.aload_n 0, 1)) := by decide +kernel
theorem dX10_deliver_82 : decode cX10_deliver 82 = .ok (.iload_n 2, 1) := gdX10_deliver_82.1
theorem dX10_deliver_83 : decode cX10_deliver 83 = .ok (.invokevirtual 271, 3) := gdX10_deliver_82.2.1
theorem dX10_deliver_86 : decode cX10_deliver 86 = .ok (.goto 45, 3) := gdX10_deliver_82.2.2.1
theorem dX10_deliver_89 : decode cX10_deliver 89 = .ok (.aload_n 0, 1) := gdX10_deliver_82.2.2.2.1
theorem dX10_deliver_90 : decode cX10_deliver 90 = .ok (.getfield 122, 3) := gdX10_deliver_82.2.2.2.2.1
theorem dX10_deliver_93 : decode cX10_deliver 93 = .ok (.bipush 24, 2) := gdX10_deliver_82.2.2.2.2.2.1
theorem dX10_deliver_95 : decode cX10_deliver 95 = .ok (.iaload, 1) := gdX10_deliver_82.2.2.2.2.2.2.1
theorem dX10_deliver_96 : decode cX10_deliver 96 = .ok (.iconst 5, 1) := gdX10_deliver_82.2.2.2.2.2.2.2.1
theorem dX10_deliver_97 : decode cX10_deliver 97 = .ok (.if_icmp .ne 29, 3) := gdX10_deliver_82.2.2.2.2.2.2.2.2.1
theorem dX10_deliver_100 : decode cX10_deliver 100 = .ok (.aload_n 0, 1) := gdX10_deliver_82.2.2.2.2.2.2.2.2.2.1
theorem dX10_deliver_101 : decode cX10_deliver 101 = .ok (.iload_n 2, 1) := gdX10_deliver_82.2.2.2.2.2.2.2.2.2.2.1
theorem dX10_deliver_102 : decode cX10_deliver 102 = .ok (.aload_n 0, 1) := gdX10_deliver_82.2.2.2.2.2.2.2.2.2.2.2.1
theorem dX10_deliver_103 : decode cX10_deliver 103 = .ok (.getfield 34, 3) := gdX10_deliver_82.2.2.2.2.2.2.2.2.2.2.2.2.1
theorem dX10_deliver_106 : decode cX10_deliver 106 = .ok (.iload_n 2, 1) := gdX10_deliver_82.2.2.2.2.2.2.2.2.2.2.2.2.2.1
theorem dX10_deliver_107 : decode cX10_deliver 107 = .ok (.iaload, 1) := gdX10_deliver_82.2.2.2.2.2.2.2.2.2.2.2.2.2.2.1
theorem dX10_deliver_108 : decode cX10_deliver 108 = .ok (.aload_n 0, 1) := gdX10_deliver_82.2.2.2.2.2.2.2.2.2.2.2.2.2.2.2
theorem gdX10_deliver_109 : (decode cX10_deliver 109 = .ok (.getfield 125, 3)) ∧ (decode cX10_deliver 112 = .ok (.bipush 24, 2)) ∧ (decode cX10_deliver 114 = .ok (.iaload, 1)) ∧ (decode cX10_deliver 115 = .ok (.invokestatic 174, 3)) ∧ (decode cX10_deliver 118 = .ok (.iconst 1, 1)) ∧ (decode cX10_deliver 119 = .ok (.iadd, 1)) ∧ (decode cX10_deliver 120 = .ok (.invokevirtual 262, 3)) ∧ (decode cX10_deliver 123 = .ok (.goto 8, 3)) ∧ (decode cX10_deliver 126 = .ok (.aload_n 0, 1)) ∧ (decode cX10_deliver 127 = .ok (.iload_n 2, 1)) ∧ (decode cX10_deliver 128 = .ok (.invokevirtual 274, 3)) ∧ (decode cX10_deliver 131 = .ok (.iconst 1, 1)) ∧ (decode cX10_deliver 132 = .ok (.ireturn, 1)) := by decide +kernel
theorem dX10_deliver_109 : decode cX10_deliver 109 = .ok (.getfield 125, 3) := gdX10_deliver_109.1
theorem dX10_deliver_112 : decode cX10_deliver 112 = .ok (.bipush 24, 2) := gdX10_deliver_109.2.1
theorem dX10_deliver_114 : decode cX10_deliver 114 = .ok (.iaload, 1) := gdX10_deliver_109.2.2.1
theorem dX10_deliver_115 : decode cX10_deliver 115 = .ok (.invokestatic 174, 3) := gdX10_deliver_109.2.2.2.1
theorem dX10_deliver_118 : decode cX10_deliver 118 = .ok (.iconst 1, 1) := gdX10_deliver_109.2.2.2.2.1
theorem dX10_deliver_119 : decode cX10_deliver 119 = .ok (.iadd, 1) := gdX10_deliver_109.2.2.2.2.2.1
theorem dX10_deliver_120 : decode cX10_deliver 120 = .ok (.invokevirtual 262, 3) := gdX10_deliver_109.2.2.2.2.2.2.1
theorem dX10_deliver_123 : decode cX10_deliver 123 = .ok (.goto 8, 3) := gdX10_deliver_109.2.2.2.2.2.2.2.1
theorem dX10_deliver_126 : decode cX10_deliver 126 = .ok (.aload_n 0, 1) := gdX10_deliver_109.2.2.2.2.2.2.2.2.1
theorem dX10_deliver_127 : decode cX10_deliver 127 = .ok (.iload_n 2, 1) := gdX10_deliver_109.2.2.2.2.2.2.2.2.2.1
theorem dX10_deliver_128 : decode cX10_deliver 128 = .ok (.invokevirtual 274, 3) := gdX10_deliver_109.2.2.2.2.2.2.2.2.2.2.1
theorem dX10_deliver_131 : decode cX10_deliver 131 = .ok (.iconst 1, 1) := gdX10_deliver_109.2.2.2.2.2.2.2.2.2.2.2.1
theorem dX10_deliver_132 : decode cX10_deliver 132 = .ok (.ireturn, 1) := gdX10_deliver_109.2.2.2.2.2.2.2.2.2.2.2.2
set_option maxHeartbeats 8000000 in
set_option maxRecDepth 100000 in
theorem u_X10_deliver (l : Launch) (E : EE) (z0 : Nat) (G : Nat → Nat) (hGz : ∀ q, G q ≠ 0 → z0 ≤ q) (h0 : Nat) (rf : Nat → Nat) (hR : MG G h0 rf) (t0 t1 t2 : Int32) (A : AA) (cd pk : Int32) (p0 : Int32) (hI2 : I2 (A 5) (A 6)) (hI3 : I3 (A 8)) (hI4 : I4 (A 10) (A 20) (A 29) (A 24) (A 11) (A 12) (A 13)) (hI5 : I5 (A 32) (A 33) (A 35)) (hI6 : I6 (A 22) (A 23) (A 24) (A 25) (A 26)) (hI7 : I7 (A 41) (A 42) (A 44) (A 45) (A 46)) (hI8 : I8 (A 20) (A 30) (A 37) (A 36)) (hy0 : 0 ≤ pk.toInt ∧ pk.toInt ≤ 24) : Met l yX10_deliver [Cond.code yX10_deliver cX10_deliver 3 (some .boolean)] ({ frames := 7, cells := 0, slots := 0, locals := 164 } : Room) (va_Pc [.ref h0, .int p0] (fun U => MH E h0 rf t0 t1 t2 A cd pk U.heap ∧ KS E z0 U)) (va_Qi (fun (r : Int32) (u : AA × Int32 × Int32) => (I2 (u.1 5) (u.1 6)) ∧ (I3 (u.1 8)) ∧ (I4 (u.1 10) (u.1 20) (u.1 29) (u.1 24) (u.1 11) (u.1 12) (u.1 13)) ∧ (I5 (u.1 32) (u.1 33) (u.1 35)) ∧ (I6 (u.1 22) (u.1 23) (u.1 24) (u.1 25) (u.1 26)) ∧ (I7 (u.1 41) (u.1 42) (u.1 44) (u.1 45) (u.1 46)) ∧ (I8 (u.1 20) (u.1 30) (u.1 37) (u.1 36)) ∧ (0 ≤ u.2.2.toInt ∧ u.2.2.toInt ≤ 24) ∧ (D_X10_deliver t0 t1 t2 A cd pk p0 u.1 u.2.1 u.2.2 r)) (fun u t => MH E h0 rf t0 t1 t2 u.1 u.2.1 u.2.2 t.heap) (fun q : Nat => G q ≠ 0)) 0 0 (fun q : Nat => G q ≠ 0) := by
  refine Met.ofW (cc := cX10_deliver) (maxL := 3) (ret := (some .boolean)) (by decide) rfl ?_
  intro p e s m args below meth c s₁ B hml hv
  obtain ⟨rfl, hM, hK⟩ := hv
  have hx := B.exec
  have hb := B.bytes
  have hr := B.returns
  have hts : ∀ w ∈ TS, w.before ([.ref h0, .int p0] : List Value).toArray s = true := fun w hw => hK.2.1 w hw _
  have hown : s.vm.findClass RX10 = some m.cls := findClass_of_methodNamed B.named
  have hlocks := B.notSynchronized
  have hS : va_S (fun q : Nat => G q ≠ 0) s.heap s.heap [] := va_S.rf
  have hAz : ∀ q, (fun q : Nat => G q ≠ 0) q → z0 ≤ q := hGz
  have hl := lv_entry ([.ref h0, .int p0]) (n := 3) (Nat.le_of_ble_eq_true rfl)
  rw [lg_entry_eq]
  generalize (lg_sl ([.ref h0, .int p0]) ++ List.replicate (3 - (lg_sl ([.ref h0, .int p0])).length) Slot.unset).toArray = ls at hl ⊢
  have hl : lv_has ls 3 [(0, .ref h0), (1, .int p0)] := hl
  refine lv_aload_n hx hb dX10_deliver_0 rfl (lv_at hl 0 rfl) ?_
  refine lv_iconst (v := 0) hx hb dX10_deliver_1 (by decide) ?_
  refine rr_put (D := DG E) (ci := 10) (v := .int 0) (ty := .int) (C := RX10) (T := TX10) (N := 49) hx hb hts iw_X10 tyX10 tyX10_ok nmX10 hown hK.1 hM.1 hS (by show G h0 ≠ 0; rw [hR.1]; decide) rfl 3 (by decide) (hts _ fl_X10_153) (fun _ h9 => h9) rfl (by decide +kernel) rfl rfl (Nat.le_of_ble_eq_true rfl) dX10_deliver_2 (fun H locs hn ho hz hS => ?_)
  have hM : MH E h0 rf t0 t1 t2 A 0 pk H := hM.sc hR hn ho
  refine lv_iload_n hx hb dX10_deliver_5 rfl (lv_at hl 1 rfl) ?_
  refine lv_if_lt (tgt := 17) hx hb dX10_deliver_6 (by decide) (fun c_1 => ?_) (fun c_1 => ?_)
  · simp only [lt_I, le_I, eq_I, i_0, i_1, i_2, i_3, i_4, i_5, i_6, i_7, i_8, i_10, i_12, i_16, i_20, i_23, i_24, i_31, i_32, i_63, i_64, i_m1, i_9, i_11, i_13, i_25, i_60, i_75, i_79, i_80, i_96, i_100] at c_1
    refine lv_iconst (v := 0) hx hb dX10_deliver_17 (by decide) ?_
    exact W.zret (v := 0) (ty := .boolean) hx hb hr rfl (fun t ht hW => ⟨⟨0, (A, 0, pk), rfl, ⟨hI2, hI3, hI4, hI5, hI6, hI7, hI8, (by show 0 ≤ pk.toInt ∧ pk.toInt ≤ 24; have := i_0; omega), (Or.inl ⟨c_1, rfl, rfl, rfl, rfl⟩)⟩, (by show MH E h0 rf t0 t1 t2 A 0 pk t.heap; rw [ht]; exact hM)⟩, hS.F ht⟩) hS.2.2 dX10_deliver_18
  · simp only [lt_I, le_I, eq_I, i_0, i_1, i_2, i_3, i_4, i_5, i_6, i_7, i_8, i_10, i_12, i_16, i_20, i_23, i_24, i_31, i_32, i_63, i_64, i_m1, i_9, i_11, i_13, i_25, i_60, i_75, i_79, i_80, i_96, i_100] at c_1
    refine lv_iload_n hx hb dX10_deliver_9 rfl (lv_at hl 1 rfl) ?_
    refine lv_aload_n hx hb dX10_deliver_10 rfl (lv_at hl 0 rfl) ?_
    refine va_get (D := DG E) (ci := 10) (v := .int pk) (C := RX10) (T := TX10) (N := 49) hx hb hts iw_X10 hown hK.1 (va_one hM.1) 0 rfl rfl 40 (by decide) (hts _ fl_X10_164) (fun _ h9 => h9) rfl dX10_deliver_11 ?_
    refine lv_icmp_lt (tgt := 19) hx hb dX10_deliver_14 (by decide) (fun c_2 => ?_) (fun c_2 => ?_)
    · simp only [lt_I, le_I, eq_I, i_0, i_1, i_2, i_3, i_4, i_5, i_6, i_7, i_8, i_10, i_12, i_16, i_20, i_23, i_24, i_31, i_32, i_63, i_64, i_m1, i_9, i_11, i_13, i_25, i_60, i_75, i_79, i_80, i_96, i_100] at c_2
      refine lv_aload_n hx hb dX10_deliver_19 rfl (lv_at hl 0 rfl) ?_
      refine lv_iload_n hx hb dX10_deliver_20 rfl (lv_at hl 1 rfl) ?_
      refine lv_bipush (v := 24) hx hb dX10_deliver_21 (by decide) ?_
      refine va_callv (rnV (fun H => MH E h0 rf t0 t1 t2 A 0 pk H) (As := [.int p0, .int 24]) (rest := []) ⟨hx, hb, hml, hown, hts⟩ (u_X10_move1 l E z0 G hGz h0 rf hR t0 t1 t2 A 0 pk p0 24 hI7 (show 0 ≤ p0.toInt ∧ p0.toInt ≤ 24 from by have := i_24; first | decide | omega) (show 0 ≤ (24 : Int32).toInt ∧ (24 : Int32).toInt ≤ 24 from by have := i_24; first | decide | omega)) (cwV 2 hts (gdV ml_X10_170 im_X10_move1 se_X10_X10_move1 in_X10 co_X10_move1 rfl) rfl rfl rfl (by decide +kernel) ⟨Nat.le_of_ble_eq_true rfl, Nat.le_of_ble_eq_true rfl⟩) hM (fun U hU hW => hK.go hW hS hAz hU) (va_recv hK.1 (va_one hM.1) (ci := 10) (q0 := 0) rfl rfl) rfl rfl hl.1 rfl (lv_room (Nat.le_of_ble_eq_true rfl)) dX10_deliver_23 ⟨Nat.le_of_ble_eq_true rfl, Nat.le_of_ble_eq_true rfl⟩) hS (fun q _ h => h) (fun q h => h) (fun ur_3 t H locs ht hvm hwr_3 hB hz hk hS => ?_)
      have hM : MH E h0 rf t0 t1 t2 (uA (uA (uA (uA (uA (uA (uA (uA A 41 (ur_3.1)) 42 (ur_3.2.1)) 43 (ur_3.2.2.1)) 44 (ur_3.2.2.2.1)) 45 (ur_3.2.2.2.2.1)) 46 (ur_3.2.2.2.2.2.1)) 47 (ur_3.2.2.2.2.2.2.1)) 48 (ur_3.2.2.2.2.2.2.2)) 0 pk H := by rw [ht] at hB; exact hB
      have hDr_3 : D_X10_move1 A (0 : Int32) pk p0 (24 : Int32) (uA (uA (uA (uA (uA (uA (uA (uA A 41 (ur_3.1)) 42 (ur_3.2.1)) 43 (ur_3.2.2.1)) 44 (ur_3.2.2.2.1)) 45 (ur_3.2.2.2.2.1)) 46 (ur_3.2.2.2.2.2.1)) 47 (ur_3.2.2.2.2.2.2.1)) 48 (ur_3.2.2.2.2.2.2.2)) (0 : Int32) pk := hwr_3.2
      have hpr_3_0 : I7 (ur_3.1) (ur_3.2.1) (ur_3.2.2.2.1) (ur_3.2.2.2.2.1) (ur_3.2.2.2.2.2.1) := hwr_3.1
      have := i_24
      refine lv_aload_n hx hb dX10_deliver_26 rfl (lv_at hl 0 rfl) ?_
      refine lv_iload_n hx hb dX10_deliver_27 rfl (lv_at hl 1 rfl) ?_
      refine va_callv (rnV (fun H => MH E h0 rf t0 t1 t2 (uA (uA (uA (uA (uA (uA (uA (uA A 41 (ur_3.1)) 42 (ur_3.2.1)) 43 (ur_3.2.2.1)) 44 (ur_3.2.2.2.1)) 45 (ur_3.2.2.2.2.1)) 46 (ur_3.2.2.2.2.2.1)) 47 (ur_3.2.2.2.2.2.2.1)) 48 (ur_3.2.2.2.2.2.2.2)) 0 pk H) (As := [.int p0]) (rest := []) ⟨hx, hb, hml, hown, hts⟩ (u_X10_drop l E z0 G hGz h0 rf hR t0 t1 t2 (uA (uA (uA (uA (uA (uA (uA (uA A 41 (ur_3.1)) 42 (ur_3.2.1)) 43 (ur_3.2.2.1)) 44 (ur_3.2.2.2.1)) 45 (ur_3.2.2.2.2.1)) 46 (ur_3.2.2.2.2.2.1)) 47 (ur_3.2.2.2.2.2.2.1)) 48 (ur_3.2.2.2.2.2.2.2)) 0 pk p0 hpr_3_0 (show 0 ≤ p0.toInt ∧ p0.toInt ≤ 23 from by first | decide | omega) (show 0 ≤ pk.toInt ∧ pk.toInt ≤ 24 from by first | decide | omega) (show p0.toInt < pk.toInt from by first | decide | omega)) (cwV 1 hts (gdV ml_X10_265 im_X10_drop se_X10_X10_drop in_X10 co_X10_drop rfl) rfl rfl rfl (by decide +kernel) ⟨Nat.le_of_ble_eq_true rfl, Nat.le_of_ble_eq_true rfl⟩) hM (fun U hU hW => hK.go hW hS hAz hU) (va_recv hK.1 (va_one hM.1) (ci := 10) (q0 := 0) rfl rfl) rfl rfl hl.1 rfl (lv_room (Nat.le_of_ble_eq_true rfl)) dX10_deliver_28 ⟨Nat.le_of_ble_eq_true rfl, Nat.le_of_ble_eq_true rfl⟩) hS (fun q _ h => h) (fun q h => h) (fun ur_4 t H locs ht hvm hwr_4 hB hz hk hS => ?_)
      have hM : MH E h0 rf t0 t1 t2 (uA (uA (uA (uA (uA (uA (uA (uA (uA (uA (uA (uA (uA (uA (uA (uA A 41 (ur_3.1)) 42 (ur_3.2.1)) 43 (ur_3.2.2.1)) 44 (ur_3.2.2.2.1)) 45 (ur_3.2.2.2.2.1)) 46 (ur_3.2.2.2.2.2.1)) 47 (ur_3.2.2.2.2.2.2.1)) 48 (ur_3.2.2.2.2.2.2.2)) 41 (ur_4.1)) 42 (ur_4.2.1)) 43 (ur_4.2.2.1)) 44 (ur_4.2.2.2.1)) 45 (ur_4.2.2.2.2.1)) 46 (ur_4.2.2.2.2.2.1)) 47 (ur_4.2.2.2.2.2.2.1)) 48 (ur_4.2.2.2.2.2.2.2.1)) 0 ur_4.2.2.2.2.2.2.2.2 H := by rw [ht] at hB; exact hB
      have hDr_4 : D_X10_drop (uA (uA (uA (uA (uA (uA (uA (uA A 41 (ur_3.1)) 42 (ur_3.2.1)) 43 (ur_3.2.2.1)) 44 (ur_3.2.2.2.1)) 45 (ur_3.2.2.2.2.1)) 46 (ur_3.2.2.2.2.2.1)) 47 (ur_3.2.2.2.2.2.2.1)) 48 (ur_3.2.2.2.2.2.2.2)) (0 : Int32) pk p0 (uA (uA (uA (uA (uA (uA (uA (uA (uA (uA (uA (uA (uA (uA (uA (uA A 41 (ur_3.1)) 42 (ur_3.2.1)) 43 (ur_3.2.2.1)) 44 (ur_3.2.2.2.1)) 45 (ur_3.2.2.2.2.1)) 46 (ur_3.2.2.2.2.2.1)) 47 (ur_3.2.2.2.2.2.2.1)) 48 (ur_3.2.2.2.2.2.2.2)) 41 (ur_4.1)) 42 (ur_4.2.1)) 43 (ur_4.2.2.1)) 44 (ur_4.2.2.2.1)) 45 (ur_4.2.2.2.2.1)) 46 (ur_4.2.2.2.2.2.1)) 47 (ur_4.2.2.2.2.2.2.1)) 48 (ur_4.2.2.2.2.2.2.2.1)) (0 : Int32) (ur_4.2.2.2.2.2.2.2.2) := hwr_4.2.2
      have hpr_4_0 : I7 (ur_4.1) (ur_4.2.1) (ur_4.2.2.2.1) (ur_4.2.2.2.2.1) (ur_4.2.2.2.2.2.1) := hwr_4.1
      have hpr_4_1 : 0 ≤ ur_4.2.2.2.2.2.2.2.2.toInt ∧ ur_4.2.2.2.2.2.2.2.2.toInt ≤ 24 := hwr_4.2.1
      refine lv_aload_n hx hb dX10_deliver_31 rfl (lv_at hl 0 rfl) ?_
      refine va_get (D := DG E) (ci := 10) (v := .ref (rf 41)) (C := RX10) (T := TX10) (N := 49) hx hb hts iw_X10 hown hK.1 (va_one hM.1) 0 rfl rfl 41 (by decide) (hts _ fl_X10_119) (fun _ h9 => h9) rfl dX10_deliver_32 ?_
      refine lv_bipush (v := 24) hx hb dX10_deliver_35 (by decide) ?_
      have ha_5 : va_at (DG E) vwCl (rf 41, .inl (E.2.2 0, 25, .inl (ur_4.1))) _ := hM.2 41 (by decide) (by decide) (by decide)
      refine va_iald (D := DG E) hx hb hK.1 (va_one ha_5) 0 0 rfl rfl (show vp_in (24) 25 from vp_in_iff.mpr ⟨by decide, by decide⟩) dX10_deliver_37 ?_
      refine W.eq (g2 := F0 m 38 ls [.int ((ur_4.1) 24)]) (by rfl) ?_
      have q_6 : 0 ≤ ((ur_4.1) 24).toInt := (hpr_4_0 24 (by decide)).1
      have q_7 : ((ur_4.1) 24).toInt ≤ 3 := (hpr_4_0 24 (by decide)).2.1
      refine lv_istore_n (lv' := [(2, .int ((ur_4.1) 24)), (0, .ref h0), (1, .int p0)]) hx hb dX10_deliver_38 rfl hl (by decide) rfl (fun ls hl => ?_)
      refine lv_aload_n hx hb dX10_deliver_39 rfl (lv_at hl 1 rfl) ?_
      refine va_get (D := DG E) (ci := 10) (v := .ref (rf 10)) (C := RX10) (T := TX10) (N := 49) hx hb hts iw_X10 hown hK.1 (va_one hM.1) 0 rfl rfl 10 (by decide) (hts _ fl_X10_28) (fun _ h9 => h9) rfl dX10_deliver_40 ?_
      refine lv_iload_n hx hb dX10_deliver_43 rfl (lv_at hl 0 rfl) ?_
      have hi_8 : vp_in ((ur_4.1) 24) 4 := vp_in_iff.mpr (by omega)
      have ha_9 : va_at (DG E) vwCl (rf 10, .inl (E.2.2 0, 4, .inl (A 10))) _ := hM.2 10 (by decide) (by decide) (by decide)
      obtain ⟨n_10, hn_10, en_10⟩ := s_nat (x := ((ur_4.1) 24)) (by omega)
      refine va_iald (D := DG E) hx hb hK.1 (va_one ha_9) 0 0 rfl rfl hi_8 dX10_deliver_44 ?_
      refine W.eq (g2 := F0 m 45 ls [.int ((A 10) n_10)]) (by rw [en_10]) ?_
      refine lv_iconst (v := 1) hx hb dX10_deliver_45 (by decide) ?_
      refine lv_icmp_eq (tgt := 51) hx hb dX10_deliver_46 (by decide) (fun c_11 => ?_) (fun c_11 => ?_)
      · simp only [lt_I, le_I, eq_I, i_0, i_1, i_2, i_3, i_4, i_5, i_6, i_7, i_8, i_10, i_12, i_16, i_20, i_23, i_24, i_31, i_32, i_63, i_64, i_m1, i_9, i_11, i_13, i_25, i_60, i_75, i_79, i_80, i_96, i_100] at c_11
        refine lv_aload_n hx hb dX10_deliver_51 rfl (lv_at hl 1 rfl) ?_
        refine va_get (D := DG E) (ci := 10) (v := .ref (rf 42)) (C := RX10) (T := TX10) (N := 49) hx hb hts iw_X10 hown hK.1 (va_one hM.1) 0 rfl rfl 42 (by decide) (hts _ fl_X10_122) (fun _ h9 => h9) rfl dX10_deliver_52 ?_
        refine lv_bipush (v := 24) hx hb dX10_deliver_55 (by decide) ?_
        have ha_12 : va_at (DG E) vwCl (rf 42, .inl (E.2.2 0, 25, .inl (ur_4.2.1))) _ := hM.2 42 (by decide) (by decide) (by decide)
        refine va_iald (D := DG E) hx hb hK.1 (va_one ha_12) 0 0 rfl rfl (show vp_in (24) 25 from vp_in_iff.mpr ⟨by decide, by decide⟩) dX10_deliver_57 ?_
        refine W.eq (g2 := F0 m 58 ls [.int ((ur_4.2.1) 24)]) (by rfl) ?_
        have q_13 : 0 ≤ ((ur_4.2.1) 24).toInt := (hpr_4_0 24 (by decide)).2.2.2.2.2.2.2.2
        refine lv_iconst (v := 4) hx hb dX10_deliver_58 (by decide) ?_
        refine lv_icmp_ge (tgt := 70) hx hb dX10_deliver_59 (by decide) (fun c_14 => ?_) (fun c_14 => ?_)
        · simp only [lt_I, le_I, eq_I, i_0, i_1, i_2, i_3, i_4, i_5, i_6, i_7, i_8, i_10, i_12, i_16, i_20, i_23, i_24, i_31, i_32, i_63, i_64, i_m1, i_9, i_11, i_13, i_25, i_60, i_75, i_79, i_80, i_96, i_100] at c_14
          refine lv_aload_n hx hb dX10_deliver_70 rfl (lv_at hl 1 rfl) ?_
          refine va_get (D := DG E) (ci := 10) (v := .ref (rf 42)) (C := RX10) (T := TX10) (N := 49) hx hb hts iw_X10 hown hK.1 (va_one hM.1) 0 rfl rfl 42 (by decide) (hts _ fl_X10_122) (fun _ h9 => h9) rfl dX10_deliver_71 ?_
          refine lv_bipush (v := 24) hx hb dX10_deliver_74 (by decide) ?_
          have ha_15 : va_at (DG E) vwCl (rf 42, .inl (E.2.2 0, 25, .inl (ur_4.2.1))) _ := hM.2 42 (by decide) (by decide) (by decide)
          refine va_iald (D := DG E) hx hb hK.1 (va_one ha_15) 0 0 rfl rfl (show vp_in (24) 25 from vp_in_iff.mpr ⟨by decide, by decide⟩) dX10_deliver_76 ?_
          refine W.eq (g2 := F0 m 77 ls [.int ((ur_4.2.1) 24)]) (by rfl) ?_
          refine lv_iconst (v := 4) hx hb dX10_deliver_77 (by decide) ?_
          refine lv_icmp_ne (tgt := 89) hx hb dX10_deliver_78 (by decide) (fun c_16 => ?_) (fun c_16 => ?_)
          · simp only [lt_I, le_I, eq_I, i_0, i_1, i_2, i_3, i_4, i_5, i_6, i_7, i_8, i_10, i_12, i_16, i_20, i_23, i_24, i_31, i_32, i_63, i_64, i_m1, i_9, i_11, i_13, i_25, i_60, i_75, i_79, i_80, i_96, i_100] at c_16
            refine lv_aload_n hx hb dX10_deliver_89 rfl (lv_at hl 1 rfl) ?_
            refine va_get (D := DG E) (ci := 10) (v := .ref (rf 42)) (C := RX10) (T := TX10) (N := 49) hx hb hts iw_X10 hown hK.1 (va_one hM.1) 0 rfl rfl 42 (by decide) (hts _ fl_X10_122) (fun _ h9 => h9) rfl dX10_deliver_90 ?_
            refine lv_bipush (v := 24) hx hb dX10_deliver_93 (by decide) ?_
            have ha_17 : va_at (DG E) vwCl (rf 42, .inl (E.2.2 0, 25, .inl (ur_4.2.1))) _ := hM.2 42 (by decide) (by decide) (by decide)
            refine va_iald (D := DG E) hx hb hK.1 (va_one ha_17) 0 0 rfl rfl (show vp_in (24) 25 from vp_in_iff.mpr ⟨by decide, by decide⟩) dX10_deliver_95 ?_
            refine W.eq (g2 := F0 m 96 ls [.int ((ur_4.2.1) 24)]) (by rfl) ?_
            refine lv_iconst (v := 5) hx hb dX10_deliver_96 (by decide) ?_
            refine lv_icmp_ne (tgt := 126) hx hb dX10_deliver_97 (by decide) (fun c_18 => ?_) (fun c_18 => ?_)
            · simp only [lt_I, le_I, eq_I, i_0, i_1, i_2, i_3, i_4, i_5, i_6, i_7, i_8, i_10, i_12, i_16, i_20, i_23, i_24, i_31, i_32, i_63, i_64, i_m1, i_9, i_11, i_13, i_25, i_60, i_75, i_79, i_80, i_96, i_100] at c_18
              refine lv_aload_n hx hb dX10_deliver_126 rfl (lv_at hl 1 rfl) ?_
              refine lv_iload_n hx hb dX10_deliver_127 rfl (lv_at hl 0 rfl) ?_
              refine va_callv (rnV (fun H => MH E h0 rf t0 t1 t2 (uA (uA (uA (uA (uA (uA (uA (uA (uA (uA (uA (uA (uA (uA (uA (uA A 41 (ur_3.1)) 42 (ur_3.2.1)) 43 (ur_3.2.2.1)) 44 (ur_3.2.2.2.1)) 45 (ur_3.2.2.2.2.1)) 46 (ur_3.2.2.2.2.2.1)) 47 (ur_3.2.2.2.2.2.2.1)) 48 (ur_3.2.2.2.2.2.2.2)) 41 (ur_4.1)) 42 (ur_4.2.1)) 43 (ur_4.2.2.1)) 44 (ur_4.2.2.2.1)) 45 (ur_4.2.2.2.2.1)) 46 (ur_4.2.2.2.2.2.1)) 47 (ur_4.2.2.2.2.2.2.1)) 48 (ur_4.2.2.2.2.2.2.2.1)) 0 ur_4.2.2.2.2.2.2.2.2 H) (As := [.int ((ur_4.1) 24)]) (rest := []) ⟨hx, hb, hml, hown, hts⟩ (u_X10_refused l E z0 G hGz h0 rf hR t0 t1 t2 (uA (uA (uA (uA (uA (uA (uA (uA (uA (uA (uA (uA (uA (uA (uA (uA A 41 (ur_3.1)) 42 (ur_3.2.1)) 43 (ur_3.2.2.1)) 44 (ur_3.2.2.2.1)) 45 (ur_3.2.2.2.2.1)) 46 (ur_3.2.2.2.2.2.1)) 47 (ur_3.2.2.2.2.2.2.1)) 48 (ur_3.2.2.2.2.2.2.2)) 41 (ur_4.1)) 42 (ur_4.2.1)) 43 (ur_4.2.2.1)) 44 (ur_4.2.2.2.1)) 45 (ur_4.2.2.2.2.1)) 46 (ur_4.2.2.2.2.2.1)) 47 (ur_4.2.2.2.2.2.2.1)) 48 (ur_4.2.2.2.2.2.2.2.1)) 0 ur_4.2.2.2.2.2.2.2.2 ((ur_4.1) 24) hI2 hI3 hI4 hI5 hI6 hpr_4_0 hI8 (show 0 ≤ ((ur_4.1) 24).toInt ∧ ((ur_4.1) 24).toInt ≤ 3 from by first | decide | omega) (show ∀ n : Nat, (n : Int) = ((ur_4.1) 24).toInt → ((A 10) n).toInt = 1 from (fun n hn => by
        obtain rfl : n_10 = n := by omega
        first | exact hst0 | omega)) (show 0 ≤ ur_4.2.2.2.2.2.2.2.2.toInt ∧ ur_4.2.2.2.2.2.2.2.2.toInt ≤ 24 from by first | decide | omega)) (cwV 1 hts (gdV ml_X10_274 im_X10_refused se_X10_X10_refused in_X10 co_X10_refused rfl) rfl rfl rfl (by decide +kernel) ⟨Nat.le_of_ble_eq_true rfl, Nat.le_of_ble_eq_true rfl⟩) hM (fun U hU hW => hK.go hW hS hAz hU) (va_recv hK.1 (va_one hM.1) (ci := 10) (q0 := 0) rfl rfl) rfl rfl hl.1 rfl (lv_room (Nat.le_of_ble_eq_true rfl)) dX10_deliver_128 ⟨Nat.le_of_ble_eq_true rfl, Nat.le_of_ble_eq_true rfl⟩) hS (fun q _ h => h) (fun q h => h) (fun ur_19 t H locs ht hvm hwr_19 hB hz hk hS => ?_)
              have hM : MH E h0 rf t0 t1 t2 ur_19.1 ur_19.2.1 ur_19.2.2 H := by rw [ht] at hB; exact hB
              have hDr_19 : D_X10_refused t0 t1 t2 (uA (uA (uA (uA (uA (uA (uA (uA (uA (uA (uA (uA (uA (uA (uA (uA A 41 (ur_3.1)) 42 (ur_3.2.1)) 43 (ur_3.2.2.1)) 44 (ur_3.2.2.2.1)) 45 (ur_3.2.2.2.2.1)) 46 (ur_3.2.2.2.2.2.1)) 47 (ur_3.2.2.2.2.2.2.1)) 48 (ur_3.2.2.2.2.2.2.2)) 41 (ur_4.1)) 42 (ur_4.2.1)) 43 (ur_4.2.2.1)) 44 (ur_4.2.2.2.1)) 45 (ur_4.2.2.2.2.1)) 46 (ur_4.2.2.2.2.2.1)) 47 (ur_4.2.2.2.2.2.2.1)) 48 (ur_4.2.2.2.2.2.2.2.1)) (0 : Int32) (ur_4.2.2.2.2.2.2.2.2) ((ur_4.1) 24) ur_19.1 (ur_19.2.1) (ur_19.2.2) := hwr_19.2.2.2.2.2.2.2.2
              have hpr_19_0 : I2 (ur_19.1 5) (ur_19.1 6) := hwr_19.1
              have hpr_19_1 : I3 (ur_19.1 8) := hwr_19.2.1
              have hpr_19_2 : I4 (ur_19.1 10) (ur_19.1 20) (ur_19.1 29) (ur_19.1 24) (ur_19.1 11) (ur_19.1 12) (ur_19.1 13) := hwr_19.2.2.1
              have hpr_19_3 : I5 (ur_19.1 32) (ur_19.1 33) (ur_19.1 35) := hwr_19.2.2.2.1
              have hpr_19_4 : I6 (ur_19.1 22) (ur_19.1 23) (ur_19.1 24) (ur_19.1 25) (ur_19.1 26) := hwr_19.2.2.2.2.1
              have hpr_19_5 : I7 (ur_19.1 41) (ur_19.1 42) (ur_19.1 44) (ur_19.1 45) (ur_19.1 46) := hwr_19.2.2.2.2.2.1
              have hpr_19_6 : I8 (ur_19.1 20) (ur_19.1 30) (ur_19.1 37) (ur_19.1 36) := hwr_19.2.2.2.2.2.2.1
              have hpr_19_7 : 0 ≤ ur_19.2.2.toInt ∧ ur_19.2.2.toInt ≤ 24 := hwr_19.2.2.2.2.2.2.2.1
              refine lv_iconst (v := 1) hx hb dX10_deliver_131 (by decide) ?_
              exact W.zret (v := 1) (ty := .boolean) hx hb hr rfl (fun t ht hW => ⟨⟨1, (ur_19.1, ur_19.2.1, ur_19.2.2), rfl, ⟨hpr_19_0, hpr_19_1, hpr_19_2, hpr_19_3, hpr_19_4, hpr_19_5, hpr_19_6, (by show 0 ≤ ur_19.2.2.toInt ∧ ur_19.2.2.toInt ≤ 24; have := i_1; omega), (Or.inr (Or.inl ⟨c_1, c_2, ur_3, hDr_3, hpr_3_0, ur_4, hDr_4, hpr_4_0, hpr_4_1, n_10, hn_10, c_11, c_14, c_16, c_18, ur_19, hDr_19, hpr_19_0, hpr_19_1, hpr_19_2, hpr_19_3, hpr_19_4, hpr_19_5, hpr_19_6, hpr_19_7, rfl, rfl, rfl, rfl⟩))⟩, (by show MH E h0 rf t0 t1 t2 ur_19.1 ur_19.2.1 ur_19.2.2 t.heap; rw [ht]; exact hM)⟩, hS.F ht⟩) hS.2.2 dX10_deliver_132
            · simp only [lt_I, le_I, eq_I, i_0, i_1, i_2, i_3, i_4, i_5, i_6, i_7, i_8, i_10, i_12, i_16, i_20, i_23, i_24, i_31, i_32, i_63, i_64, i_m1, i_9, i_11, i_13, i_25, i_60, i_75, i_79, i_80, i_96, i_100] at c_18
              refine lv_aload_n hx hb dX10_deliver_100 rfl (lv_at hl 1 rfl) ?_
              refine lv_iload_n hx hb dX10_deliver_101 rfl (lv_at hl 0 rfl) ?_
              refine lv_aload_n hx hb dX10_deliver_102 rfl (lv_at hl 1 rfl) ?_
              refine va_get (D := DG E) (ci := 10) (v := .ref (rf 12)) (C := RX10) (T := TX10) (N := 49) hx hb hts iw_X10 hown hK.1 (va_one hM.1) 0 rfl rfl 12 (by decide) (hts _ fl_X10_34) (fun _ h9 => h9) rfl dX10_deliver_103 ?_
              refine lv_iload_n hx hb dX10_deliver_106 rfl (lv_at hl 0 rfl) ?_
              have ha_20 : va_at (DG E) vwCl (rf 12, .inl (E.2.2 0, 4, .inl (A 12))) _ := hM.2 12 (by decide) (by decide) (by decide)
              refine va_iald (D := DG E) hx hb hK.1 (va_one ha_20) 0 0 rfl rfl hi_8 dX10_deliver_107 ?_
              refine W.eq (g2 := F0 m 108 ls [.int ((A 12) n_10), .int ((ur_4.1) 24), .ref h0]) (by rw [en_10]) ?_
              refine lv_aload_n hx hb dX10_deliver_108 rfl (lv_at hl 1 rfl) ?_
              refine va_get (D := DG E) (ci := 10) (v := .ref (rf 43)) (C := RX10) (T := TX10) (N := 49) hx hb hts iw_X10 hown hK.1 (va_one hM.1) 0 rfl rfl 43 (by decide) (hts _ fl_X10_125) (fun _ h9 => h9) rfl dX10_deliver_109 ?_
              refine lv_bipush (v := 24) hx hb dX10_deliver_112 (by decide) ?_
              have ha_21 : va_at (DG E) vwCl (rf 43, .inl (E.2.2 0, 25, .inl (ur_4.2.2.1))) _ := hM.2 43 (by decide) (by decide) (by decide)
              refine va_iald (D := DG E) hx hb hK.1 (va_one ha_21) 0 0 rfl rfl (show vp_in (24) 25 from vp_in_iff.mpr ⟨by decide, by decide⟩) dX10_deliver_114 ?_
              refine W.eq (g2 := F0 m 115 ls [.int ((ur_4.2.2.1) 24), .int ((A 12) n_10), .int ((ur_4.1) 24), .ref h0]) (by rfl) ?_
              refine W.callR (W.runS (As := [.int ((A 12) n_10), .int ((ur_4.2.2.1) 24)]) (rest := [.int ((ur_4.1) 24), .ref h0]) ⟨hx, hb, hml, hown, hts⟩ (c_X10_far l (((A 12) n_10)) (((ur_4.2.2.1) 24))) (cwS 2 hts (gdS ml_X10_174 st_X10_far in_X10 co_X10_far rfl) rfl rfl rfl (by decide +kernel) ⟨Nat.le_of_ble_eq_true rfl, Nat.le_of_ble_eq_true rfl⟩) preEq rfl rfl hl.1 rfl (lv_room (Nat.le_of_ble_eq_true rfl)) dX10_deliver_115 ⟨Nat.le_of_ble_eq_true rfl, Nat.le_of_ble_eq_true rfl⟩) ?_
              refine W.eq (g2 := F0 m 118 ls [.int (((((ur_4.2.2.1) 24) - ((A 12) n_10)) + 64) - ((((ur_4.2.2.1) 24) - ((A 12) n_10)) + 64) / 64 * 64), .int ((ur_4.1) 24), .ref h0]) (by rfl) ?_
              refine lv_topi (fun x_22 ex_22 => ?_)
              have kx_22 : x_22.toInt = (farI ((A 12) n_10) ((ur_4.2.2.1) 24)).toInt := by rw [ex_22]; rfl
              refine lv_iconst (v := 1) hx hb dX10_deliver_118 (by decide) ?_
              refine lv_iadd hx hb dX10_deliver_119 ?_
              refine lv_topi (fun x_23 ex_23 => ?_)
              refine va_callv (rnV (fun H => MH E h0 rf t0 t1 t2 (uA (uA (uA (uA (uA (uA (uA (uA (uA (uA (uA (uA (uA (uA (uA (uA A 41 (ur_3.1)) 42 (ur_3.2.1)) 43 (ur_3.2.2.1)) 44 (ur_3.2.2.2.1)) 45 (ur_3.2.2.2.2.1)) 46 (ur_3.2.2.2.2.2.1)) 47 (ur_3.2.2.2.2.2.2.1)) 48 (ur_3.2.2.2.2.2.2.2)) 41 (ur_4.1)) 42 (ur_4.2.1)) 43 (ur_4.2.2.1)) 44 (ur_4.2.2.2.1)) 45 (ur_4.2.2.2.2.1)) 46 (ur_4.2.2.2.2.2.1)) 47 (ur_4.2.2.2.2.2.2.1)) 48 (ur_4.2.2.2.2.2.2.2.1)) 0 ur_4.2.2.2.2.2.2.2.2 H) (As := [.int ((ur_4.1) 24), .int x_23]) (rest := []) ⟨hx, hb, hml, hown, hts⟩ (u_X10_answerSome l E z0 G hGz h0 rf hR t0 t1 t2 (uA (uA (uA (uA (uA (uA (uA (uA (uA (uA (uA (uA (uA (uA (uA (uA A 41 (ur_3.1)) 42 (ur_3.2.1)) 43 (ur_3.2.2.1)) 44 (ur_3.2.2.2.1)) 45 (ur_3.2.2.2.2.1)) 46 (ur_3.2.2.2.2.2.1)) 47 (ur_3.2.2.2.2.2.2.1)) 48 (ur_3.2.2.2.2.2.2.2)) 41 (ur_4.1)) 42 (ur_4.2.1)) 43 (ur_4.2.2.1)) 44 (ur_4.2.2.2.1)) 45 (ur_4.2.2.2.2.1)) 46 (ur_4.2.2.2.2.2.1)) 47 (ur_4.2.2.2.2.2.2.1)) 48 (ur_4.2.2.2.2.2.2.2.1)) 0 ur_4.2.2.2.2.2.2.2.2 ((ur_4.1) 24) x_23 hI3 hI4 hI6 hI8 (show 0 ≤ ((ur_4.1) 24).toInt ∧ ((ur_4.1) 24).toInt ≤ 3 from by first | decide | omega) (show ∀ n : Nat, (n : Int) = ((ur_4.1) 24).toInt → ((A 10) n).toInt = 1 from (fun n hn => by
        obtain rfl : n_10 = n := by omega
        first | exact hst0 | omega))) (cwV 2 hts (gdV ml_X10_262 im_X10_answerSome se_X10_X10_answerSome in_X10 co_X10_answerSome rfl) rfl rfl rfl (by decide +kernel) ⟨Nat.le_of_ble_eq_true rfl, Nat.le_of_ble_eq_true rfl⟩) hM (fun U hU hW => hK.go hW hS hAz hU) (va_recv hK.1 (va_one hM.1) (ci := 10) (q0 := 0) rfl rfl) rfl rfl hl.1 rfl (lv_room (Nat.le_of_ble_eq_true rfl)) dX10_deliver_120 ⟨Nat.le_of_ble_eq_true rfl, Nat.le_of_ble_eq_true rfl⟩) hS (fun q _ h => h) (fun q h => h) (fun ur_24 t H locs ht hvm hwr_24 hB hz hk hS => ?_)
              have hM : MH E h0 rf t0 t1 t2 (uA (uA (uA (uA (uA (uA (uA (uA (uA (uA (uA (uA (uA (uA (uA (uA (uA (uA (uA (uA (uA (uA (uA (uA (uA (uA (uA (uA (uA (uA (uA (uA A 41 (ur_3.1)) 42 (ur_3.2.1)) 43 (ur_3.2.2.1)) 44 (ur_3.2.2.2.1)) 45 (ur_3.2.2.2.2.1)) 46 (ur_3.2.2.2.2.2.1)) 47 (ur_3.2.2.2.2.2.2.1)) 48 (ur_3.2.2.2.2.2.2.2)) 41 (ur_4.1)) 42 (ur_4.2.1)) 43 (ur_4.2.2.1)) 44 (ur_4.2.2.2.1)) 45 (ur_4.2.2.2.2.1)) 46 (ur_4.2.2.2.2.2.1)) 47 (ur_4.2.2.2.2.2.2.1)) 48 (ur_4.2.2.2.2.2.2.2.1)) 8 (ur_24.1)) 9 (ur_24.2.1)) 12 (ur_24.2.2.1)) 15 (ur_24.2.2.2.1)) 16 (ur_24.2.2.2.2.1)) 17 (ur_24.2.2.2.2.2.1)) 18 (ur_24.2.2.2.2.2.2.1)) 20 (ur_24.2.2.2.2.2.2.2.1)) 22 (ur_24.2.2.2.2.2.2.2.2.1)) 23 (ur_24.2.2.2.2.2.2.2.2.2.1)) 24 (ur_24.2.2.2.2.2.2.2.2.2.2.1)) 25 (ur_24.2.2.2.2.2.2.2.2.2.2.2.1)) 26 (ur_24.2.2.2.2.2.2.2.2.2.2.2.2.1)) 27 (ur_24.2.2.2.2.2.2.2.2.2.2.2.2.2.1)) 28 (ur_24.2.2.2.2.2.2.2.2.2.2.2.2.2.2.1)) 29 (ur_24.2.2.2.2.2.2.2.2.2.2.2.2.2.2.2)) 0 ur_4.2.2.2.2.2.2.2.2 H := by rw [ht] at hB; exact hB
              have hDr_24 : D_X10_answerSome (uA (uA (uA (uA (uA (uA (uA (uA (uA (uA (uA (uA (uA (uA (uA (uA A 41 (ur_3.1)) 42 (ur_3.2.1)) 43 (ur_3.2.2.1)) 44 (ur_3.2.2.2.1)) 45 (ur_3.2.2.2.2.1)) 46 (ur_3.2.2.2.2.2.1)) 47 (ur_3.2.2.2.2.2.2.1)) 48 (ur_3.2.2.2.2.2.2.2)) 41 (ur_4.1)) 42 (ur_4.2.1)) 43 (ur_4.2.2.1)) 44 (ur_4.2.2.2.1)) 45 (ur_4.2.2.2.2.1)) 46 (ur_4.2.2.2.2.2.1)) 47 (ur_4.2.2.2.2.2.2.1)) 48 (ur_4.2.2.2.2.2.2.2.1)) (0 : Int32) (ur_4.2.2.2.2.2.2.2.2) ((ur_4.1) 24) x_23 (uA (uA (uA (uA (uA (uA (uA (uA (uA (uA (uA (uA (uA (uA (uA (uA (uA (uA (uA (uA (uA (uA (uA (uA (uA (uA (uA (uA (uA (uA (uA (uA A 41 (ur_3.1)) 42 (ur_3.2.1)) 43 (ur_3.2.2.1)) 44 (ur_3.2.2.2.1)) 45 (ur_3.2.2.2.2.1)) 46 (ur_3.2.2.2.2.2.1)) 47 (ur_3.2.2.2.2.2.2.1)) 48 (ur_3.2.2.2.2.2.2.2)) 41 (ur_4.1)) 42 (ur_4.2.1)) 43 (ur_4.2.2.1)) 44 (ur_4.2.2.2.1)) 45 (ur_4.2.2.2.2.1)) 46 (ur_4.2.2.2.2.2.1)) 47 (ur_4.2.2.2.2.2.2.1)) 48 (ur_4.2.2.2.2.2.2.2.1)) 8 (ur_24.1)) 9 (ur_24.2.1)) 12 (ur_24.2.2.1)) 15 (ur_24.2.2.2.1)) 16 (ur_24.2.2.2.2.1)) 17 (ur_24.2.2.2.2.2.1)) 18 (ur_24.2.2.2.2.2.2.1)) 20 (ur_24.2.2.2.2.2.2.2.1)) 22 (ur_24.2.2.2.2.2.2.2.2.1)) 23 (ur_24.2.2.2.2.2.2.2.2.2.1)) 24 (ur_24.2.2.2.2.2.2.2.2.2.2.1)) 25 (ur_24.2.2.2.2.2.2.2.2.2.2.2.1)) 26 (ur_24.2.2.2.2.2.2.2.2.2.2.2.2.1)) 27 (ur_24.2.2.2.2.2.2.2.2.2.2.2.2.2.1)) 28 (ur_24.2.2.2.2.2.2.2.2.2.2.2.2.2.2.1)) 29 (ur_24.2.2.2.2.2.2.2.2.2.2.2.2.2.2.2)) (0 : Int32) (ur_4.2.2.2.2.2.2.2.2) := hwr_24.2.2.2.2
              have hpr_24_0 : I3 (ur_24.1) := hwr_24.1
              have hpr_24_1 : I4 (A 10) (ur_24.2.2.2.2.2.2.2.1) (ur_24.2.2.2.2.2.2.2.2.2.2.2.2.2.2.2) (ur_24.2.2.2.2.2.2.2.2.2.2.1) (A 11) (ur_24.2.2.1) (A 13) := hwr_24.2.1
              have hpr_24_2 : I6 (ur_24.2.2.2.2.2.2.2.2.1) (ur_24.2.2.2.2.2.2.2.2.2.1) (ur_24.2.2.2.2.2.2.2.2.2.2.1) (ur_24.2.2.2.2.2.2.2.2.2.2.2.1) (ur_24.2.2.2.2.2.2.2.2.2.2.2.2.1) := hwr_24.2.2.1
              have hpr_24_3 : I8 (ur_24.2.2.2.2.2.2.2.1) (A 30) (A 37) (A 36) := hwr_24.2.2.2.1
              refine lv_goto (tgt := 131) hx hb dX10_deliver_123 (by decide) ?_
              refine lv_iconst (v := 1) hx hb dX10_deliver_131 (by decide) ?_
              exact W.zret (v := 1) (ty := .boolean) hx hb hr rfl (fun t ht hW => ⟨⟨1, ((uA (uA (uA (uA (uA (uA (uA (uA (uA (uA (uA (uA (uA (uA (uA (uA (uA (uA (uA (uA (uA (uA (uA (uA (uA (uA (uA (uA (uA (uA (uA (uA A 41 (ur_3.1)) 42 (ur_3.2.1)) 43 (ur_3.2.2.1)) 44 (ur_3.2.2.2.1)) 45 (ur_3.2.2.2.2.1)) 46 (ur_3.2.2.2.2.2.1)) 47 (ur_3.2.2.2.2.2.2.1)) 48 (ur_3.2.2.2.2.2.2.2)) 41 (ur_4.1)) 42 (ur_4.2.1)) 43 (ur_4.2.2.1)) 44 (ur_4.2.2.2.1)) 45 (ur_4.2.2.2.2.1)) 46 (ur_4.2.2.2.2.2.1)) 47 (ur_4.2.2.2.2.2.2.1)) 48 (ur_4.2.2.2.2.2.2.2.1)) 8 (ur_24.1)) 9 (ur_24.2.1)) 12 (ur_24.2.2.1)) 15 (ur_24.2.2.2.1)) 16 (ur_24.2.2.2.2.1)) 17 (ur_24.2.2.2.2.2.1)) 18 (ur_24.2.2.2.2.2.2.1)) 20 (ur_24.2.2.2.2.2.2.2.1)) 22 (ur_24.2.2.2.2.2.2.2.2.1)) 23 (ur_24.2.2.2.2.2.2.2.2.2.1)) 24 (ur_24.2.2.2.2.2.2.2.2.2.2.1)) 25 (ur_24.2.2.2.2.2.2.2.2.2.2.2.1)) 26 (ur_24.2.2.2.2.2.2.2.2.2.2.2.2.1)) 27 (ur_24.2.2.2.2.2.2.2.2.2.2.2.2.2.1)) 28 (ur_24.2.2.2.2.2.2.2.2.2.2.2.2.2.2.1)) 29 (ur_24.2.2.2.2.2.2.2.2.2.2.2.2.2.2.2)), 0, ur_4.2.2.2.2.2.2.2.2), rfl, ⟨hI2, hpr_24_0, hpr_24_1, hI5, hpr_24_2, hpr_4_0, hpr_24_3, (by show 0 ≤ ur_4.2.2.2.2.2.2.2.2.toInt ∧ ur_4.2.2.2.2.2.2.2.2.toInt ≤ 24; have := i_1; omega), (Or.inr (Or.inr (Or.inl ⟨c_1, c_2, ur_3, hDr_3, hpr_3_0, ur_4, hDr_4, hpr_4_0, hpr_4_1, n_10, hn_10, c_11, c_14, c_16, c_18, x_22, ex_22, x_23, ex_23, ur_24, hDr_24, hpr_24_0, hpr_24_1, hpr_24_2, hpr_24_3, rfl, rfl, rfl, rfl⟩)))⟩, (by show MH E h0 rf t0 t1 t2 (uA (uA (uA (uA (uA (uA (uA (uA (uA (uA (uA (uA (uA (uA (uA (uA (uA (uA (uA (uA (uA (uA (uA (uA (uA (uA (uA (uA (uA (uA (uA (uA A 41 (ur_3.1)) 42 (ur_3.2.1)) 43 (ur_3.2.2.1)) 44 (ur_3.2.2.2.1)) 45 (ur_3.2.2.2.2.1)) 46 (ur_3.2.2.2.2.2.1)) 47 (ur_3.2.2.2.2.2.2.1)) 48 (ur_3.2.2.2.2.2.2.2)) 41 (ur_4.1)) 42 (ur_4.2.1)) 43 (ur_4.2.2.1)) 44 (ur_4.2.2.2.1)) 45 (ur_4.2.2.2.2.1)) 46 (ur_4.2.2.2.2.2.1)) 47 (ur_4.2.2.2.2.2.2.1)) 48 (ur_4.2.2.2.2.2.2.2.1)) 8 (ur_24.1)) 9 (ur_24.2.1)) 12 (ur_24.2.2.1)) 15 (ur_24.2.2.2.1)) 16 (ur_24.2.2.2.2.1)) 17 (ur_24.2.2.2.2.2.1)) 18 (ur_24.2.2.2.2.2.2.1)) 20 (ur_24.2.2.2.2.2.2.2.1)) 22 (ur_24.2.2.2.2.2.2.2.2.1)) 23 (ur_24.2.2.2.2.2.2.2.2.2.1)) 24 (ur_24.2.2.2.2.2.2.2.2.2.2.1)) 25 (ur_24.2.2.2.2.2.2.2.2.2.2.2.1)) 26 (ur_24.2.2.2.2.2.2.2.2.2.2.2.2.1)) 27 (ur_24.2.2.2.2.2.2.2.2.2.2.2.2.2.1)) 28 (ur_24.2.2.2.2.2.2.2.2.2.2.2.2.2.2.1)) 29 (ur_24.2.2.2.2.2.2.2.2.2.2.2.2.2.2.2)) 0 ur_4.2.2.2.2.2.2.2.2 t.heap; rw [ht]; exact hM)⟩, hS.F ht⟩) hS.2.2 dX10_deliver_132
          · simp only [lt_I, le_I, eq_I, i_0, i_1, i_2, i_3, i_4, i_5, i_6, i_7, i_8, i_10, i_12, i_16, i_20, i_23, i_24, i_31, i_32, i_63, i_64, i_m1, i_9, i_11, i_13, i_25, i_60, i_75, i_79, i_80, i_96, i_100] at c_16
            refine lv_aload_n hx hb dX10_deliver_81 rfl (lv_at hl 1 rfl) ?_
            refine lv_iload_n hx hb dX10_deliver_82 rfl (lv_at hl 0 rfl) ?_
            refine va_callv (rnV (fun H => MH E h0 rf t0 t1 t2 (uA (uA (uA (uA (uA (uA (uA (uA (uA (uA (uA (uA (uA (uA (uA (uA A 41 (ur_3.1)) 42 (ur_3.2.1)) 43 (ur_3.2.2.1)) 44 (ur_3.2.2.2.1)) 45 (ur_3.2.2.2.2.1)) 46 (ur_3.2.2.2.2.2.1)) 47 (ur_3.2.2.2.2.2.2.1)) 48 (ur_3.2.2.2.2.2.2.2)) 41 (ur_4.1)) 42 (ur_4.2.1)) 43 (ur_4.2.2.1)) 44 (ur_4.2.2.2.1)) 45 (ur_4.2.2.2.2.1)) 46 (ur_4.2.2.2.2.2.1)) 47 (ur_4.2.2.2.2.2.2.1)) 48 (ur_4.2.2.2.2.2.2.2.1)) 0 ur_4.2.2.2.2.2.2.2.2 H) (As := [.int ((ur_4.1) 24)]) (rest := []) ⟨hx, hb, hml, hown, hts⟩ (u_X10_replied l E z0 G hGz h0 rf hR t0 t1 t2 (uA (uA (uA (uA (uA (uA (uA (uA (uA (uA (uA (uA (uA (uA (uA (uA A 41 (ur_3.1)) 42 (ur_3.2.1)) 43 (ur_3.2.2.1)) 44 (ur_3.2.2.2.1)) 45 (ur_3.2.2.2.2.1)) 46 (ur_3.2.2.2.2.2.1)) 47 (ur_3.2.2.2.2.2.2.1)) 48 (ur_3.2.2.2.2.2.2.2)) 41 (ur_4.1)) 42 (ur_4.2.1)) 43 (ur_4.2.2.1)) 44 (ur_4.2.2.2.1)) 45 (ur_4.2.2.2.2.1)) 46 (ur_4.2.2.2.2.2.1)) 47 (ur_4.2.2.2.2.2.2.1)) 48 (ur_4.2.2.2.2.2.2.2.1)) 0 ur_4.2.2.2.2.2.2.2.2 ((ur_4.1) 24) hI3 hI4 hI6 hpr_4_0 hI8 (show 0 ≤ ((ur_4.1) 24).toInt ∧ ((ur_4.1) 24).toInt ≤ 3 from by first | decide | omega) (show ∀ n : Nat, (n : Int) = ((ur_4.1) 24).toInt → ((A 10) n).toInt = 1 from (fun n hn => by
        obtain rfl : n_10 = n := by omega
        first | exact hst0 | omega)) (show ((ur_4.2.1) 24).toInt = 4 from by first | decide | omega)) (cwV 1 hts (gdV ml_X10_271 im_X10_replied se_X10_X10_replied in_X10 co_X10_replied rfl) rfl rfl rfl (by decide +kernel) ⟨Nat.le_of_ble_eq_true rfl, Nat.le_of_ble_eq_true rfl⟩) hM (fun U hU hW => hK.go hW hS hAz hU) (va_recv hK.1 (va_one hM.1) (ci := 10) (q0 := 0) rfl rfl) rfl rfl hl.1 rfl (lv_room (Nat.le_of_ble_eq_true rfl)) dX10_deliver_83 ⟨Nat.le_of_ble_eq_true rfl, Nat.le_of_ble_eq_true rfl⟩) hS (fun q _ h => h) (fun q h => h) (fun ur_25 t H locs ht hvm hwr_25 hB hz hk hS => ?_)
            have hM : MH E h0 rf t0 t1 t2 (uA (uA (uA (uA (uA (uA (uA (uA (uA (uA (uA (uA (uA (uA (uA (uA (uA (uA (uA (uA (uA (uA (uA (uA (uA (uA (uA (uA (uA (uA (uA (uA (uA A 41 (ur_3.1)) 42 (ur_3.2.1)) 43 (ur_3.2.2.1)) 44 (ur_3.2.2.2.1)) 45 (ur_3.2.2.2.2.1)) 46 (ur_3.2.2.2.2.2.1)) 47 (ur_3.2.2.2.2.2.2.1)) 48 (ur_3.2.2.2.2.2.2.2)) 41 (ur_4.1)) 42 (ur_4.2.1)) 43 (ur_4.2.2.1)) 44 (ur_4.2.2.2.1)) 45 (ur_4.2.2.2.2.1)) 46 (ur_4.2.2.2.2.2.1)) 47 (ur_4.2.2.2.2.2.2.1)) 48 (ur_4.2.2.2.2.2.2.2.1)) 4 (ur_25.1)) 8 (ur_25.2.1)) 9 (ur_25.2.2.1)) 12 (ur_25.2.2.2.1)) 15 (ur_25.2.2.2.2.1)) 16 (ur_25.2.2.2.2.2.1)) 17 (ur_25.2.2.2.2.2.2.1)) 18 (ur_25.2.2.2.2.2.2.2.1)) 20 (ur_25.2.2.2.2.2.2.2.2.1)) 22 (ur_25.2.2.2.2.2.2.2.2.2.1)) 23 (ur_25.2.2.2.2.2.2.2.2.2.2.1)) 24 (ur_25.2.2.2.2.2.2.2.2.2.2.2.1)) 25 (ur_25.2.2.2.2.2.2.2.2.2.2.2.2.1)) 26 (ur_25.2.2.2.2.2.2.2.2.2.2.2.2.2.1)) 27 (ur_25.2.2.2.2.2.2.2.2.2.2.2.2.2.2.1)) 28 (ur_25.2.2.2.2.2.2.2.2.2.2.2.2.2.2.2.1)) 29 (ur_25.2.2.2.2.2.2.2.2.2.2.2.2.2.2.2.2)) 0 ur_4.2.2.2.2.2.2.2.2 H := by rw [ht] at hB; exact hB
            have hDr_25 : D_X10_replied (uA (uA (uA (uA (uA (uA (uA (uA (uA (uA (uA (uA (uA (uA (uA (uA A 41 (ur_3.1)) 42 (ur_3.2.1)) 43 (ur_3.2.2.1)) 44 (ur_3.2.2.2.1)) 45 (ur_3.2.2.2.2.1)) 46 (ur_3.2.2.2.2.2.1)) 47 (ur_3.2.2.2.2.2.2.1)) 48 (ur_3.2.2.2.2.2.2.2)) 41 (ur_4.1)) 42 (ur_4.2.1)) 43 (ur_4.2.2.1)) 44 (ur_4.2.2.2.1)) 45 (ur_4.2.2.2.2.1)) 46 (ur_4.2.2.2.2.2.1)) 47 (ur_4.2.2.2.2.2.2.1)) 48 (ur_4.2.2.2.2.2.2.2.1)) (0 : Int32) (ur_4.2.2.2.2.2.2.2.2) ((ur_4.1) 24) (uA (uA (uA (uA (uA (uA (uA (uA (uA (uA (uA (uA (uA (uA (uA (uA (uA (uA (uA (uA (uA (uA (uA (uA (uA (uA (uA (uA (uA (uA (uA (uA (uA A 41 (ur_3.1)) 42 (ur_3.2.1)) 43 (ur_3.2.2.1)) 44 (ur_3.2.2.2.1)) 45 (ur_3.2.2.2.2.1)) 46 (ur_3.2.2.2.2.2.1)) 47 (ur_3.2.2.2.2.2.2.1)) 48 (ur_3.2.2.2.2.2.2.2)) 41 (ur_4.1)) 42 (ur_4.2.1)) 43 (ur_4.2.2.1)) 44 (ur_4.2.2.2.1)) 45 (ur_4.2.2.2.2.1)) 46 (ur_4.2.2.2.2.2.1)) 47 (ur_4.2.2.2.2.2.2.1)) 48 (ur_4.2.2.2.2.2.2.2.1)) 4 (ur_25.1)) 8 (ur_25.2.1)) 9 (ur_25.2.2.1)) 12 (ur_25.2.2.2.1)) 15 (ur_25.2.2.2.2.1)) 16 (ur_25.2.2.2.2.2.1)) 17 (ur_25.2.2.2.2.2.2.1)) 18 (ur_25.2.2.2.2.2.2.2.1)) 20 (ur_25.2.2.2.2.2.2.2.2.1)) 22 (ur_25.2.2.2.2.2.2.2.2.2.1)) 23 (ur_25.2.2.2.2.2.2.2.2.2.2.1)) 24 (ur_25.2.2.2.2.2.2.2.2.2.2.2.1)) 25 (ur_25.2.2.2.2.2.2.2.2.2.2.2.2.1)) 26 (ur_25.2.2.2.2.2.2.2.2.2.2.2.2.2.1)) 27 (ur_25.2.2.2.2.2.2.2.2.2.2.2.2.2.2.1)) 28 (ur_25.2.2.2.2.2.2.2.2.2.2.2.2.2.2.2.1)) 29 (ur_25.2.2.2.2.2.2.2.2.2.2.2.2.2.2.2.2)) (0 : Int32) (ur_4.2.2.2.2.2.2.2.2) := hwr_25.2.2.2.2
            have hpr_25_0 : I3 (ur_25.2.1) := hwr_25.1
            have hpr_25_1 : I4 (A 10) (ur_25.2.2.2.2.2.2.2.2.1) (ur_25.2.2.2.2.2.2.2.2.2.2.2.2.2.2.2.2) (ur_25.2.2.2.2.2.2.2.2.2.2.2.1) (A 11) (ur_25.2.2.2.1) (A 13) := hwr_25.2.1
            have hpr_25_2 : I6 (ur_25.2.2.2.2.2.2.2.2.2.1) (ur_25.2.2.2.2.2.2.2.2.2.2.1) (ur_25.2.2.2.2.2.2.2.2.2.2.2.1) (ur_25.2.2.2.2.2.2.2.2.2.2.2.2.1) (ur_25.2.2.2.2.2.2.2.2.2.2.2.2.2.1) := hwr_25.2.2.1
            have hpr_25_3 : I8 (ur_25.2.2.2.2.2.2.2.2.1) (A 30) (A 37) (A 36) := hwr_25.2.2.2.1
            refine lv_goto (tgt := 131) hx hb dX10_deliver_86 (by decide) ?_
            refine lv_iconst (v := 1) hx hb dX10_deliver_131 (by decide) ?_
            exact W.zret (v := 1) (ty := .boolean) hx hb hr rfl (fun t ht hW => ⟨⟨1, ((uA (uA (uA (uA (uA (uA (uA (uA (uA (uA (uA (uA (uA (uA (uA (uA (uA (uA (uA (uA (uA (uA (uA (uA (uA (uA (uA (uA (uA (uA (uA (uA (uA A 41 (ur_3.1)) 42 (ur_3.2.1)) 43 (ur_3.2.2.1)) 44 (ur_3.2.2.2.1)) 45 (ur_3.2.2.2.2.1)) 46 (ur_3.2.2.2.2.2.1)) 47 (ur_3.2.2.2.2.2.2.1)) 48 (ur_3.2.2.2.2.2.2.2)) 41 (ur_4.1)) 42 (ur_4.2.1)) 43 (ur_4.2.2.1)) 44 (ur_4.2.2.2.1)) 45 (ur_4.2.2.2.2.1)) 46 (ur_4.2.2.2.2.2.1)) 47 (ur_4.2.2.2.2.2.2.1)) 48 (ur_4.2.2.2.2.2.2.2.1)) 4 (ur_25.1)) 8 (ur_25.2.1)) 9 (ur_25.2.2.1)) 12 (ur_25.2.2.2.1)) 15 (ur_25.2.2.2.2.1)) 16 (ur_25.2.2.2.2.2.1)) 17 (ur_25.2.2.2.2.2.2.1)) 18 (ur_25.2.2.2.2.2.2.2.1)) 20 (ur_25.2.2.2.2.2.2.2.2.1)) 22 (ur_25.2.2.2.2.2.2.2.2.2.1)) 23 (ur_25.2.2.2.2.2.2.2.2.2.2.1)) 24 (ur_25.2.2.2.2.2.2.2.2.2.2.2.1)) 25 (ur_25.2.2.2.2.2.2.2.2.2.2.2.2.1)) 26 (ur_25.2.2.2.2.2.2.2.2.2.2.2.2.2.1)) 27 (ur_25.2.2.2.2.2.2.2.2.2.2.2.2.2.2.1)) 28 (ur_25.2.2.2.2.2.2.2.2.2.2.2.2.2.2.2.1)) 29 (ur_25.2.2.2.2.2.2.2.2.2.2.2.2.2.2.2.2)), 0, ur_4.2.2.2.2.2.2.2.2), rfl, ⟨hI2, hpr_25_0, hpr_25_1, hI5, hpr_25_2, hpr_4_0, hpr_25_3, (by show 0 ≤ ur_4.2.2.2.2.2.2.2.2.toInt ∧ ur_4.2.2.2.2.2.2.2.2.toInt ≤ 24; have := i_1; omega), (Or.inr (Or.inr (Or.inr (Or.inl ⟨c_1, c_2, ur_3, hDr_3, hpr_3_0, ur_4, hDr_4, hpr_4_0, hpr_4_1, n_10, hn_10, c_11, c_14, c_16, ur_25, hDr_25, hpr_25_0, hpr_25_1, hpr_25_2, hpr_25_3, rfl, rfl, rfl, rfl⟩))))⟩, (by show MH E h0 rf t0 t1 t2 (uA (uA (uA (uA (uA (uA (uA (uA (uA (uA (uA (uA (uA (uA (uA (uA (uA (uA (uA (uA (uA (uA (uA (uA (uA (uA (uA (uA (uA (uA (uA (uA (uA A 41 (ur_3.1)) 42 (ur_3.2.1)) 43 (ur_3.2.2.1)) 44 (ur_3.2.2.2.1)) 45 (ur_3.2.2.2.2.1)) 46 (ur_3.2.2.2.2.2.1)) 47 (ur_3.2.2.2.2.2.2.1)) 48 (ur_3.2.2.2.2.2.2.2)) 41 (ur_4.1)) 42 (ur_4.2.1)) 43 (ur_4.2.2.1)) 44 (ur_4.2.2.2.1)) 45 (ur_4.2.2.2.2.1)) 46 (ur_4.2.2.2.2.2.1)) 47 (ur_4.2.2.2.2.2.2.1)) 48 (ur_4.2.2.2.2.2.2.2.1)) 4 (ur_25.1)) 8 (ur_25.2.1)) 9 (ur_25.2.2.1)) 12 (ur_25.2.2.2.1)) 15 (ur_25.2.2.2.2.1)) 16 (ur_25.2.2.2.2.2.1)) 17 (ur_25.2.2.2.2.2.2.1)) 18 (ur_25.2.2.2.2.2.2.2.1)) 20 (ur_25.2.2.2.2.2.2.2.2.1)) 22 (ur_25.2.2.2.2.2.2.2.2.2.1)) 23 (ur_25.2.2.2.2.2.2.2.2.2.2.1)) 24 (ur_25.2.2.2.2.2.2.2.2.2.2.2.1)) 25 (ur_25.2.2.2.2.2.2.2.2.2.2.2.2.1)) 26 (ur_25.2.2.2.2.2.2.2.2.2.2.2.2.2.1)) 27 (ur_25.2.2.2.2.2.2.2.2.2.2.2.2.2.2.1)) 28 (ur_25.2.2.2.2.2.2.2.2.2.2.2.2.2.2.2.1)) 29 (ur_25.2.2.2.2.2.2.2.2.2.2.2.2.2.2.2.2)) 0 ur_4.2.2.2.2.2.2.2.2 t.heap; rw [ht]; exact hM)⟩, hS.F ht⟩) hS.2.2 dX10_deliver_132
        · simp only [lt_I, le_I, eq_I, i_0, i_1, i_2, i_3, i_4, i_5, i_6, i_7, i_8, i_10, i_12, i_16, i_20, i_23, i_24, i_31, i_32, i_63, i_64, i_m1, i_9, i_11, i_13, i_25, i_60, i_75, i_79, i_80, i_96, i_100] at c_14
          refine lv_aload_n hx hb dX10_deliver_62 rfl (lv_at hl 1 rfl) ?_
          refine lv_iload_n hx hb dX10_deliver_63 rfl (lv_at hl 0 rfl) ?_
          refine va_callv (rnV (fun H => MH E h0 rf t0 t1 t2 (uA (uA (uA (uA (uA (uA (uA (uA (uA (uA (uA (uA (uA (uA (uA (uA A 41 (ur_3.1)) 42 (ur_3.2.1)) 43 (ur_3.2.2.1)) 44 (ur_3.2.2.2.1)) 45 (ur_3.2.2.2.2.1)) 46 (ur_3.2.2.2.2.2.1)) 47 (ur_3.2.2.2.2.2.2.1)) 48 (ur_3.2.2.2.2.2.2.2)) 41 (ur_4.1)) 42 (ur_4.2.1)) 43 (ur_4.2.2.1)) 44 (ur_4.2.2.2.1)) 45 (ur_4.2.2.2.2.1)) 46 (ur_4.2.2.2.2.2.1)) 47 (ur_4.2.2.2.2.2.2.1)) 48 (ur_4.2.2.2.2.2.2.2.1)) 0 ur_4.2.2.2.2.2.2.2.2 H) (As := [.int ((ur_4.1) 24)]) (rest := []) ⟨hx, hb, hml, hown, hts⟩ (u_X10_asked l E z0 G hGz h0 rf hR t0 t1 t2 (uA (uA (uA (uA (uA (uA (uA (uA (uA (uA (uA (uA (uA (uA (uA (uA A 41 (ur_3.1)) 42 (ur_3.2.1)) 43 (ur_3.2.2.1)) 44 (ur_3.2.2.2.1)) 45 (ur_3.2.2.2.2.1)) 46 (ur_3.2.2.2.2.2.1)) 47 (ur_3.2.2.2.2.2.2.1)) 48 (ur_3.2.2.2.2.2.2.2)) 41 (ur_4.1)) 42 (ur_4.2.1)) 43 (ur_4.2.2.1)) 44 (ur_4.2.2.2.1)) 45 (ur_4.2.2.2.2.1)) 46 (ur_4.2.2.2.2.2.1)) 47 (ur_4.2.2.2.2.2.2.1)) 48 (ur_4.2.2.2.2.2.2.2.1)) 0 ur_4.2.2.2.2.2.2.2.2 ((ur_4.1) 24) hI2 hI3 hI4 hI5 hI6 hpr_4_0 hI8 (show 0 ≤ ((ur_4.1) 24).toInt ∧ ((ur_4.1) 24).toInt ≤ 3 from by first | decide | omega) (show ((ur_4.2.1) 24).toInt ≤ 3 from by first | decide | omega) (show 0 ≤ ur_4.2.2.2.2.2.2.2.2.toInt ∧ ur_4.2.2.2.2.2.2.2.2.toInt ≤ 24 from by first | decide | omega)) (cwV 1 hts (gdV ml_X10_268 im_X10_asked se_X10_X10_asked in_X10 co_X10_asked rfl) rfl rfl rfl (by decide +kernel) ⟨Nat.le_of_ble_eq_true rfl, Nat.le_of_ble_eq_true rfl⟩) hM (fun U hU hW => hK.go hW hS hAz hU) (va_recv hK.1 (va_one hM.1) (ci := 10) (q0 := 0) rfl rfl) rfl rfl hl.1 rfl (lv_room (Nat.le_of_ble_eq_true rfl)) dX10_deliver_64 ⟨Nat.le_of_ble_eq_true rfl, Nat.le_of_ble_eq_true rfl⟩) hS (fun q _ h => h) (fun q h => h) (fun ur_26 t H locs ht hvm hwr_26 hB hz hk hS => ?_)
          have hM : MH E h0 rf t0 t1 t2 ur_26.1 ur_26.2.1 ur_26.2.2 H := by rw [ht] at hB; exact hB
          have hDr_26 : D_X10_asked (uA (uA (uA (uA (uA (uA (uA (uA (uA (uA (uA (uA (uA (uA (uA (uA A 41 (ur_3.1)) 42 (ur_3.2.1)) 43 (ur_3.2.2.1)) 44 (ur_3.2.2.2.1)) 45 (ur_3.2.2.2.2.1)) 46 (ur_3.2.2.2.2.2.1)) 47 (ur_3.2.2.2.2.2.2.1)) 48 (ur_3.2.2.2.2.2.2.2)) 41 (ur_4.1)) 42 (ur_4.2.1)) 43 (ur_4.2.2.1)) 44 (ur_4.2.2.2.1)) 45 (ur_4.2.2.2.2.1)) 46 (ur_4.2.2.2.2.2.1)) 47 (ur_4.2.2.2.2.2.2.1)) 48 (ur_4.2.2.2.2.2.2.2.1)) (0 : Int32) (ur_4.2.2.2.2.2.2.2.2) ((ur_4.1) 24) ur_26.1 (ur_26.2.1) (ur_26.2.2) := hwr_26.2.2.2.2.2.2.2.2
          have hpr_26_0 : I2 (ur_26.1 5) (ur_26.1 6) := hwr_26.1
          have hpr_26_1 : I3 (ur_26.1 8) := hwr_26.2.1
          have hpr_26_2 : I4 (ur_26.1 10) (ur_26.1 20) (ur_26.1 29) (ur_26.1 24) (ur_26.1 11) (ur_26.1 12) (ur_26.1 13) := hwr_26.2.2.1
          have hpr_26_3 : I5 (ur_26.1 32) (ur_26.1 33) (ur_26.1 35) := hwr_26.2.2.2.1
          have hpr_26_4 : I6 (ur_26.1 22) (ur_26.1 23) (ur_26.1 24) (ur_26.1 25) (ur_26.1 26) := hwr_26.2.2.2.2.1
          have hpr_26_5 : I7 (ur_26.1 41) (ur_26.1 42) (ur_26.1 44) (ur_26.1 45) (ur_26.1 46) := hwr_26.2.2.2.2.2.1
          have hpr_26_6 : I8 (ur_26.1 20) (ur_26.1 30) (ur_26.1 37) (ur_26.1 36) := hwr_26.2.2.2.2.2.2.1
          have hpr_26_7 : 0 ≤ ur_26.2.2.toInt ∧ ur_26.2.2.toInt ≤ 24 := hwr_26.2.2.2.2.2.2.2.1
          refine lv_goto (tgt := 131) hx hb dX10_deliver_67 (by decide) ?_
          refine lv_iconst (v := 1) hx hb dX10_deliver_131 (by decide) ?_
          exact W.zret (v := 1) (ty := .boolean) hx hb hr rfl (fun t ht hW => ⟨⟨1, (ur_26.1, ur_26.2.1, ur_26.2.2), rfl, ⟨hpr_26_0, hpr_26_1, hpr_26_2, hpr_26_3, hpr_26_4, hpr_26_5, hpr_26_6, (by show 0 ≤ ur_26.2.2.toInt ∧ ur_26.2.2.toInt ≤ 24; have := i_1; omega), (Or.inr (Or.inr (Or.inr (Or.inr (Or.inl ⟨c_1, c_2, ur_3, hDr_3, hpr_3_0, ur_4, hDr_4, hpr_4_0, hpr_4_1, n_10, hn_10, c_11, c_14, ur_26, hDr_26, hpr_26_0, hpr_26_1, hpr_26_2, hpr_26_3, hpr_26_4, hpr_26_5, hpr_26_6, hpr_26_7, rfl, rfl, rfl, rfl⟩)))))⟩, (by show MH E h0 rf t0 t1 t2 ur_26.1 ur_26.2.1 ur_26.2.2 t.heap; rw [ht]; exact hM)⟩, hS.F ht⟩) hS.2.2 dX10_deliver_132
      · simp only [lt_I, le_I, eq_I, i_0, i_1, i_2, i_3, i_4, i_5, i_6, i_7, i_8, i_10, i_12, i_16, i_20, i_23, i_24, i_31, i_32, i_63, i_64, i_m1, i_9, i_11, i_13, i_25, i_60, i_75, i_79, i_80, i_96, i_100] at c_11
        refine lv_iconst (v := 1) hx hb dX10_deliver_49 (by decide) ?_
        exact W.zret (v := 1) (ty := .boolean) hx hb hr rfl (fun t ht hW => ⟨⟨1, ((uA (uA (uA (uA (uA (uA (uA (uA (uA (uA (uA (uA (uA (uA (uA (uA A 41 (ur_3.1)) 42 (ur_3.2.1)) 43 (ur_3.2.2.1)) 44 (ur_3.2.2.2.1)) 45 (ur_3.2.2.2.2.1)) 46 (ur_3.2.2.2.2.2.1)) 47 (ur_3.2.2.2.2.2.2.1)) 48 (ur_3.2.2.2.2.2.2.2)) 41 (ur_4.1)) 42 (ur_4.2.1)) 43 (ur_4.2.2.1)) 44 (ur_4.2.2.2.1)) 45 (ur_4.2.2.2.2.1)) 46 (ur_4.2.2.2.2.2.1)) 47 (ur_4.2.2.2.2.2.2.1)) 48 (ur_4.2.2.2.2.2.2.2.1)), 0, ur_4.2.2.2.2.2.2.2.2), rfl, ⟨hI2, hI3, hI4, hI5, hI6, hpr_4_0, hI8, (by show 0 ≤ ur_4.2.2.2.2.2.2.2.2.toInt ∧ ur_4.2.2.2.2.2.2.2.2.toInt ≤ 24; have := i_1; omega), (Or.inr (Or.inr (Or.inr (Or.inr (Or.inr (Or.inl ⟨c_1, c_2, ur_3, hDr_3, hpr_3_0, ur_4, hDr_4, hpr_4_0, hpr_4_1, n_10, hn_10, c_11, rfl, rfl, rfl, rfl⟩))))))⟩, (by show MH E h0 rf t0 t1 t2 (uA (uA (uA (uA (uA (uA (uA (uA (uA (uA (uA (uA (uA (uA (uA (uA A 41 (ur_3.1)) 42 (ur_3.2.1)) 43 (ur_3.2.2.1)) 44 (ur_3.2.2.2.1)) 45 (ur_3.2.2.2.2.1)) 46 (ur_3.2.2.2.2.2.1)) 47 (ur_3.2.2.2.2.2.2.1)) 48 (ur_3.2.2.2.2.2.2.2)) 41 (ur_4.1)) 42 (ur_4.2.1)) 43 (ur_4.2.2.1)) 44 (ur_4.2.2.2.1)) 45 (ur_4.2.2.2.2.1)) 46 (ur_4.2.2.2.2.2.1)) 47 (ur_4.2.2.2.2.2.2.1)) 48 (ur_4.2.2.2.2.2.2.2.1)) 0 ur_4.2.2.2.2.2.2.2.2 t.heap; rw [ht]; exact hM)⟩, hS.F ht⟩) hS.2.2 dX10_deliver_50
    · simp only [lt_I, le_I, eq_I, i_0, i_1, i_2, i_3, i_4, i_5, i_6, i_7, i_8, i_10, i_12, i_16, i_20, i_23, i_24, i_31, i_32, i_63, i_64, i_m1, i_9, i_11, i_13, i_25, i_60, i_75, i_79, i_80, i_96, i_100] at c_2
      refine lv_iconst (v := 0) hx hb dX10_deliver_17 (by decide) ?_
      exact W.zret (v := 0) (ty := .boolean) hx hb hr rfl (fun t ht hW => ⟨⟨0, (A, 0, pk), rfl, ⟨hI2, hI3, hI4, hI5, hI6, hI7, hI8, (by show 0 ≤ pk.toInt ∧ pk.toInt ≤ 24; have := i_0; omega), (Or.inr (Or.inr (Or.inr (Or.inr (Or.inr (Or.inr ⟨c_1, c_2, rfl, rfl, rfl, rfl⟩))))))⟩, (by show MH E h0 rf t0 t1 t2 A 0 pk t.heap; rw [ht]; exact hM)⟩, hS.F ht⟩) hS.2.2 dX10_deliver_18
theorem gdX10_spoil_0 : (decode cX10_spoil 0 = .ok (.aload_n 0, 1)) ∧ (decode cX10_spoil 1 = .ok (.iconst 0, 1)) ∧ (decode cX10_spoil 2 = .ok (.putfield 153, 3)) ∧ (decode cX10_spoil 5 = .ok (.iload_n 1, 1)) ∧ (decode cX10_spoil 6 = .ok (.ifCond .lt 24, 3)) ∧ (decode cX10_spoil 9 = .ok (.iload_n 1, 1)) ∧ (decode cX10_spoil 10 = .ok (.aload_n 0, 1)) ∧ (decode cX10_spoil 11 = .ok (.getfield 164, 3)) ∧ (decode cX10_spoil 14 = .ok (.if_icmp .ge 16, 3)) ∧ (decode cX10_spoil 17 = .ok (.iload_n 2, 1)) ∧ (decode cX10_spoil 18 = .ok (.ifCond .eq 14, 3)) ∧ (decode cX10_spoil 21 = .ok (.aload_n 0, 1)) ∧ (decode cX10_spoil 22 = .ok (.getfield 164, 3)) ∧ (decode cX10_spoil 25 = .ok (.bipush 24, 2)) ∧ (decode cX10_spoil 27 = .ok (.if_icmp .ne 5, 3)) ∧ (decode cX10_spoil 30 = .ok (.iconst 0, 1)) := by decide +kernel
theorem dX10_spoil_0 : decode cX10_spoil 0 = .ok (.aload_n 0, 1) := gdX10_spoil_0.1
theorem dX10_spoil_1 : decode cX10_spoil 1 = .ok (.iconst 0, 1) := gdX10_spoil_0.2.1
theorem dX10_spoil_2 : decode cX10_spoil 2 = .ok (.putfield 153, 3) := gdX10_spoil_0.2.2.1
theorem dX10_spoil_5 : decode cX10_spoil 5 = .ok (.iload_n 1, 1) := gdX10_spoil_0.2.2.2.1
theorem dX10_spoil_6 : decode cX10_spoil 6 = .ok (.ifCond .lt 24, 3) := gdX10_spoil_0.2.2.2.2.1
theorem dX10_spoil_9 : decode cX10_spoil 9 = .ok (.iload_n 1, 1) := gdX10_spoil_0.2.2.2.2.2.1
theorem dX10_spoil_10 : decode cX10_spoil 10 = .ok (.aload_n 0, 1) := gdX10_spoil_0.2.2.2.2.2.2.1
theorem dX10_spoil_11 : decode cX10_spoil 11 = .ok (.getfield 164, 3) := gdX10_spoil_0.2.2.2.2.2.2.2.1
theorem dX10_spoil_14 : decode cX10_spoil 14 = .ok (.if_icmp .ge 16, 3) := gdX10_spoil_0.2.2.2.2.2.2.2.2.1
theorem dX10_spoil_17 : decode cX10_spoil 17 = .ok (.iload_n 2, 1) := gdX10_spoil_0.2.2.2.2.2.2.2.2.2.1
theorem dX10_spoil_18 : decode cX10_spoil 18 = .ok (.ifCond .eq 14, 3) := gdX10_spoil_0.2.2.2.2.2.2.2.2.2.2.1
theorem dX10_spoil_21 : decode cX10_spoil 21 = .ok (.aload_n 0, 1) := gdX10_spoil_0.2.2.2.2.2.2.2.2.2.2.2.1
theorem dX10_spoil_22 : decode cX10_spoil 22 = .ok (.getfield 164, 3) := gdX10_spoil_0.2.2.2.2.2.2.2.2.2.2.2.2.1
theorem dX10_spoil_25 : decode cX10_spoil 25 = .ok (.bipush 24, 2) := gdX10_spoil_0.2.2.2.2.2.2.2.2.2.2.2.2.2.1
theorem dX10_spoil_27 : decode cX10_spoil 27 = .ok (.if_icmp .ne 5, 3) := gdX10_spoil_0.2.2.2.2.2.2.2.2.2.2.2.2.2.2.1
theorem dX10_spoil_30 : decode cX10_spoil 30 = .ok (.iconst 0, 1) := gdX10_spoil_0.2.2.2.2.2.2.2.2.2.2.2.2.2.2.2
theorem gdX10_spoil_31 : (decode cX10_spoil 31 = .ok (.ireturn, 1)) ∧ (decode cX10_spoil 32 = .ok (.iload_n 2, 1)) ∧ (decode cX10_spoil 33 = .ok (.ifCond .eq 25, 3)) ∧ (decode cX10_spoil 36 = .ok (.aload_n 0, 1)) ∧ (decode cX10_spoil 37 = .ok (.iload_n 1, 1)) ∧ (decode cX10_spoil 38 = .ok (.aload_n 0, 1)) ∧ (decode cX10_spoil 39 = .ok (.getfield 164, 3)) ∧ (decode cX10_spoil 42 = .ok (.invokevirtual 170, 3)) ∧ (decode cX10_spoil 45 = .ok (.aload_n 0, 1)) ∧ (decode cX10_spoil 46 = .ok (.dup, 1)) ∧ (decode cX10_spoil 47 = .ok (.getfield 164, 3)) ∧ (decode cX10_spoil 50 = .ok (.iconst 1, 1)) ∧ (decode cX10_spoil 51 = .ok (.iadd, 1)) ∧ (decode cX10_spoil 52 = .ok (.putfield 164, 3)) ∧ (decode cX10_spoil 55 = .ok (.goto 8, 3)) ∧ (decode cX10_spoil 58 = .ok (.aload_n 0, 1)) := by decide +kernel
theorem dX10_spoil_31 : decode cX10_spoil 31 = .ok (.ireturn, 1) := gdX10_spoil_31.1
theorem dX10_spoil_32 : decode cX10_spoil 32 = .ok (.iload_n 2, 1) := gdX10_spoil_31.2.1
theorem dX10_spoil_33 : decode cX10_spoil 33 = .ok (.ifCond .eq 25, 3) := gdX10_spoil_31.2.2.1
theorem dX10_spoil_36 : decode cX10_spoil 36 = .ok (.aload_n 0, 1) := gdX10_spoil_31.2.2.2.1
theorem dX10_spoil_37 : decode cX10_spoil 37 = .ok (.iload_n 1, 1) := gdX10_spoil_31.2.2.2.2.1
theorem dX10_spoil_38 : decode cX10_spoil 38 = .ok (.aload_n 0, 1) := gdX10_spoil_31.2.2.2.2.2.1
theorem dX10_spoil_39 : decode cX10_spoil 39 = .ok (.getfield 164, 3) := gdX10_spoil_31.2.2.2.2.2.2.1
theorem dX10_spoil_42 : decode cX10_spoil 42 = .ok (.invokevirtual 170, 3) := gdX10_spoil_31.2.2.2.2.2.2.2.1
theorem dX10_spoil_45 : decode cX10_spoil 45 = .ok (.aload_n 0, 1) := gdX10_spoil_31.2.2.2.2.2.2.2.2.1
theorem dX10_spoil_46 : decode cX10_spoil 46 = .ok (.dup, 1) := gdX10_spoil_31.2.2.2.2.2.2.2.2.2.1
theorem dX10_spoil_47 : decode cX10_spoil 47 = .ok (.getfield 164, 3) := gdX10_spoil_31.2.2.2.2.2.2.2.2.2.2.1
theorem dX10_spoil_50 : decode cX10_spoil 50 = .ok (.iconst 1, 1) := gdX10_spoil_31.2.2.2.2.2.2.2.2.2.2.2.1
theorem dX10_spoil_51 : decode cX10_spoil 51 = .ok (.iadd, 1) := gdX10_spoil_31.2.2.2.2.2.2.2.2.2.2.2.2.1
theorem dX10_spoil_52 : decode cX10_spoil 52 = .ok (.putfield 164, 3) := gdX10_spoil_31.2.2.2.2.2.2.2.2.2.2.2.2.2.1
theorem dX10_spoil_55 : decode cX10_spoil 55 = .ok (.goto 8, 3) := gdX10_spoil_31.2.2.2.2.2.2.2.2.2.2.2.2.2.2.1
theorem dX10_spoil_58 : decode cX10_spoil 58 = .ok (.aload_n 0, 1) := gdX10_spoil_31.2.2.2.2.2.2.2.2.2.2.2.2.2.2.2
theorem gdX10_spoil_59 : (decode cX10_spoil 59 = .ok (.iload_n 1, 1)) ∧ (decode cX10_spoil 60 = .ok (.invokevirtual 265, 3)) ∧ (decode cX10_spoil 63 = .ok (.iconst 1, 1)) ∧ (decode cX10_spoil 64 = .ok (.ireturn, 1)) := by decide +kernel
theorem dX10_spoil_59 : decode cX10_spoil 59 = .ok (.iload_n 1, 1) := gdX10_spoil_59.1
theorem dX10_spoil_60 : decode cX10_spoil 60 = .ok (.invokevirtual 265, 3) := gdX10_spoil_59.2.1
theorem dX10_spoil_63 : decode cX10_spoil 63 = .ok (.iconst 1, 1) := gdX10_spoil_59.2.2.1
theorem dX10_spoil_64 : decode cX10_spoil 64 = .ok (.ireturn, 1) := gdX10_spoil_59.2.2.2
set_option maxHeartbeats 8000000 in
set_option maxRecDepth 100000 in
theorem u_X10_spoil (l : Launch) (E : EE) (z0 : Nat) (G : Nat → Nat) (hGz : ∀ q, G q ≠ 0 → z0 ≤ q) (h0 : Nat) (rf : Nat → Nat) (hR : MG G h0 rf) (t0 t1 t2 : Int32) (A : AA) (cd pk : Int32) (p0 : Int32) (p1 : Int32) (hI7 : I7 (A 41) (A 42) (A 44) (A 45) (A 46)) (hy0 : 0 ≤ pk.toInt ∧ pk.toInt ≤ 24) : Met l yX10_spoil [Cond.code yX10_spoil cX10_spoil 3 (some .boolean)] ({ frames := 2, cells := 0, slots := 0, locals := 45 } : Room) (va_Pc [.ref h0, .int p0, .int p1] (fun U => MH E h0 rf t0 t1 t2 A cd pk U.heap ∧ KS E z0 U)) (va_Qi (fun (r : Int32) (u : (Nat → Int32) × (Nat → Int32) × (Nat → Int32) × (Nat → Int32) × (Nat → Int32) × (Nat → Int32) × (Nat → Int32) × (Nat → Int32) × Int32 × Int32) => (I7 (u.1) (u.2.1) (u.2.2.2.1) (u.2.2.2.2.1) (u.2.2.2.2.2.1)) ∧ (0 ≤ (u.2.2.2.2.2.2.2.2.1).toInt ∧ (u.2.2.2.2.2.2.2.2.1).toInt ≤ 24) ∧ (D_X10_spoil A cd pk p0 p1 (uA (uA (uA (uA (uA (uA (uA (uA A 41 (u.1)) 42 (u.2.1)) 43 (u.2.2.1)) 44 (u.2.2.2.1)) 45 (u.2.2.2.2.1)) 46 (u.2.2.2.2.2.1)) 47 (u.2.2.2.2.2.2.1)) 48 (u.2.2.2.2.2.2.2.1)) (u.2.2.2.2.2.2.2.2.2) (u.2.2.2.2.2.2.2.2.1) r)) (fun u t => MH E h0 rf t0 t1 t2 (uA (uA (uA (uA (uA (uA (uA (uA A 41 (u.1)) 42 (u.2.1)) 43 (u.2.2.1)) 44 (u.2.2.2.1)) 45 (u.2.2.2.2.1)) 46 (u.2.2.2.2.2.1)) 47 (u.2.2.2.2.2.2.1)) 48 (u.2.2.2.2.2.2.2.1)) (u.2.2.2.2.2.2.2.2.2) (u.2.2.2.2.2.2.2.2.1) t.heap) (fun q : Nat => G q ≠ 0)) 0 0 (fun q : Nat => G q ≠ 0) := by
  refine Met.ofW (cc := cX10_spoil) (maxL := 3) (ret := (some .boolean)) (by decide) rfl ?_
  intro p e s m args below meth c s₁ B hml hv
  obtain ⟨rfl, hM, hK⟩ := hv
  have hx := B.exec
  have hb := B.bytes
  have hr := B.returns
  have hts : ∀ w ∈ TS, w.before ([.ref h0, .int p0, .int p1] : List Value).toArray s = true := fun w hw => hK.2.1 w hw _
  have hown : s.vm.findClass RX10 = some m.cls := findClass_of_methodNamed B.named
  have hlocks := B.notSynchronized
  have hS : va_S (fun q : Nat => G q ≠ 0) s.heap s.heap [] := va_S.rf
  have hAz : ∀ q, (fun q : Nat => G q ≠ 0) q → z0 ≤ q := hGz
  have hl := lv_entry ([.ref h0, .int p0, .int p1]) (n := 3) (Nat.le_of_ble_eq_true rfl)
  rw [lg_entry_eq]
  generalize (lg_sl ([.ref h0, .int p0, .int p1]) ++ List.replicate (3 - (lg_sl ([.ref h0, .int p0, .int p1])).length) Slot.unset).toArray = ls at hl ⊢
  have hl : lv_has ls 3 [(0, .ref h0), (1, .int p0), (2, .int p1)] := hl
  refine lv_aload_n hx hb dX10_spoil_0 rfl (lv_at hl 0 rfl) ?_
  refine lv_iconst (v := 0) hx hb dX10_spoil_1 (by decide) ?_
  refine rr_put (D := DG E) (ci := 10) (v := .int 0) (ty := .int) (C := RX10) (T := TX10) (N := 49) hx hb hts iw_X10 tyX10 tyX10_ok nmX10 hown hK.1 hM.1 hS (by show G h0 ≠ 0; rw [hR.1]; decide) rfl 3 (by decide) (hts _ fl_X10_153) (fun _ h9 => h9) rfl (by decide +kernel) rfl rfl (Nat.le_of_ble_eq_true rfl) dX10_spoil_2 (fun H locs hn ho hz hS => ?_)
  have hM : MH E h0 rf t0 t1 t2 A 0 pk H := hM.sc hR hn ho
  refine lv_iload_n hx hb dX10_spoil_5 rfl (lv_at hl 1 rfl) ?_
  refine lv_if_lt (tgt := 30) hx hb dX10_spoil_6 (by decide) (fun c_1 => ?_) (fun c_1 => ?_)
  · simp only [lt_I, le_I, eq_I, i_0, i_1, i_2, i_3, i_4, i_5, i_6, i_7, i_8, i_10, i_12, i_16, i_20, i_23, i_24, i_31, i_32, i_63, i_64, i_m1, i_9, i_11, i_13, i_25, i_60, i_75, i_79, i_80, i_96, i_100] at c_1
    refine lv_iconst (v := 0) hx hb dX10_spoil_30 (by decide) ?_
    exact W.zret (v := 0) (ty := .boolean) hx hb hr rfl (fun t ht hW => ⟨⟨0, ((A 41), (A 42), (A 43), (A 44), (A 45), (A 46), (A 47), (A 48), pk, 0), rfl, ⟨hI7, (by show 0 ≤ pk.toInt ∧ pk.toInt ≤ 24; have := i_0; omega), (Or.inl ⟨c_1, rfl, rfl, rfl, rfl⟩)⟩, (by show MH E h0 rf t0 t1 t2 (uA (uA (uA (uA (uA (uA (uA (uA A 41 (A 41)) 42 (A 42)) 43 (A 43)) 44 (A 44)) 45 (A 45)) 46 (A 46)) 47 (A 47)) 48 (A 48)) 0 pk t.heap; rw [ht]; exact hM.cge (funext fun j => (cgj j 48 rfl (fun a0 => (cgj j 47 rfl (fun a1 => (cgj j 46 rfl (fun a2 => (cgj j 45 rfl (fun a3 => (cgj j 44 rfl (fun a4 => (cgj j 43 rfl (fun a5 => (cgj j 42 rfl (fun a6 => (cgj j 41 rfl (fun a7 => (by simp only [uA_n a0, uA_n a1, uA_n a2, uA_n a3, uA_n a4, uA_n a5, uA_n a6, uA_n a7])))))))))))))))))))⟩, hS.F ht⟩) hS.2.2 dX10_spoil_31
  · simp only [lt_I, le_I, eq_I, i_0, i_1, i_2, i_3, i_4, i_5, i_6, i_7, i_8, i_10, i_12, i_16, i_20, i_23, i_24, i_31, i_32, i_63, i_64, i_m1, i_9, i_11, i_13, i_25, i_60, i_75, i_79, i_80, i_96, i_100] at c_1
    refine lv_iload_n hx hb dX10_spoil_9 rfl (lv_at hl 1 rfl) ?_
    refine lv_aload_n hx hb dX10_spoil_10 rfl (lv_at hl 0 rfl) ?_
    refine va_get (D := DG E) (ci := 10) (v := .int pk) (C := RX10) (T := TX10) (N := 49) hx hb hts iw_X10 hown hK.1 (va_one hM.1) 0 rfl rfl 40 (by decide) (hts _ fl_X10_164) (fun _ h9 => h9) rfl dX10_spoil_11 ?_
    refine lv_icmp_ge (tgt := 30) hx hb dX10_spoil_14 (by decide) (fun c_2 => ?_) (fun c_2 => ?_)
    · simp only [lt_I, le_I, eq_I, i_0, i_1, i_2, i_3, i_4, i_5, i_6, i_7, i_8, i_10, i_12, i_16, i_20, i_23, i_24, i_31, i_32, i_63, i_64, i_m1, i_9, i_11, i_13, i_25, i_60, i_75, i_79, i_80, i_96, i_100] at c_2
      refine lv_iconst (v := 0) hx hb dX10_spoil_30 (by decide) ?_
      exact W.zret (v := 0) (ty := .boolean) hx hb hr rfl (fun t ht hW => ⟨⟨0, ((A 41), (A 42), (A 43), (A 44), (A 45), (A 46), (A 47), (A 48), pk, 0), rfl, ⟨hI7, (by show 0 ≤ pk.toInt ∧ pk.toInt ≤ 24; have := i_0; omega), (Or.inr (Or.inl ⟨c_1, c_2, rfl, rfl, rfl, rfl⟩))⟩, (by show MH E h0 rf t0 t1 t2 (uA (uA (uA (uA (uA (uA (uA (uA A 41 (A 41)) 42 (A 42)) 43 (A 43)) 44 (A 44)) 45 (A 45)) 46 (A 46)) 47 (A 47)) 48 (A 48)) 0 pk t.heap; rw [ht]; exact hM.cge (funext fun j => (cgj j 48 rfl (fun a0 => (cgj j 47 rfl (fun a1 => (cgj j 46 rfl (fun a2 => (cgj j 45 rfl (fun a3 => (cgj j 44 rfl (fun a4 => (cgj j 43 rfl (fun a5 => (cgj j 42 rfl (fun a6 => (cgj j 41 rfl (fun a7 => (by simp only [uA_n a0, uA_n a1, uA_n a2, uA_n a3, uA_n a4, uA_n a5, uA_n a6, uA_n a7])))))))))))))))))))⟩, hS.F ht⟩) hS.2.2 dX10_spoil_31
    · simp only [lt_I, le_I, eq_I, i_0, i_1, i_2, i_3, i_4, i_5, i_6, i_7, i_8, i_10, i_12, i_16, i_20, i_23, i_24, i_31, i_32, i_63, i_64, i_m1, i_9, i_11, i_13, i_25, i_60, i_75, i_79, i_80, i_96, i_100] at c_2
      refine lv_iload_n hx hb dX10_spoil_17 rfl (lv_at hl 2 rfl) ?_
      refine lv_if_eq (tgt := 32) hx hb dX10_spoil_18 (by decide) (fun c_3 => ?_) (fun c_3 => ?_)
      · simp only [lt_I, le_I, eq_I, i_0, i_1, i_2, i_3, i_4, i_5, i_6, i_7, i_8, i_10, i_12, i_16, i_20, i_23, i_24, i_31, i_32, i_63, i_64, i_m1, i_9, i_11, i_13, i_25, i_60, i_75, i_79, i_80, i_96, i_100] at c_3
        refine lv_iload_n hx hb dX10_spoil_32 rfl (lv_at hl 2 rfl) ?_
        refine lv_if_eq (tgt := 58) hx hb dX10_spoil_33 (by decide) (fun c_4 => ?_) (fun c_4 => ?_)
        · simp only [lt_I, le_I, eq_I, i_0, i_1, i_2, i_3, i_4, i_5, i_6, i_7, i_8, i_10, i_12, i_16, i_20, i_23, i_24, i_31, i_32, i_63, i_64, i_m1, i_9, i_11, i_13, i_25, i_60, i_75, i_79, i_80, i_96, i_100] at c_4
          refine lv_aload_n hx hb dX10_spoil_58 rfl (lv_at hl 0 rfl) ?_
          refine lv_iload_n hx hb dX10_spoil_59 rfl (lv_at hl 1 rfl) ?_
          refine va_callv (rnV (fun H => MH E h0 rf t0 t1 t2 A 0 pk H) (As := [.int p0]) (rest := []) ⟨hx, hb, hml, hown, hts⟩ (u_X10_drop l E z0 G hGz h0 rf hR t0 t1 t2 A 0 pk p0 hI7 (show 0 ≤ p0.toInt ∧ p0.toInt ≤ 23 from by first | decide | omega) (show 0 ≤ pk.toInt ∧ pk.toInt ≤ 24 from by first | decide | omega) (show p0.toInt < pk.toInt from by first | decide | omega)) (cwV 1 hts (gdV ml_X10_265 im_X10_drop se_X10_X10_drop in_X10 co_X10_drop rfl) rfl rfl rfl (by decide +kernel) ⟨Nat.le_of_ble_eq_true rfl, Nat.le_of_ble_eq_true rfl⟩) hM (fun U hU hW => hK.go hW hS hAz hU) (va_recv hK.1 (va_one hM.1) (ci := 10) (q0 := 0) rfl rfl) rfl rfl hl.1 rfl (lv_room (Nat.le_of_ble_eq_true rfl)) dX10_spoil_60 ⟨Nat.le_of_ble_eq_true rfl, Nat.le_of_ble_eq_true rfl⟩) hS (fun q _ h => h) (fun q h => h) (fun ur_5 t H locs ht hvm hwr_5 hB hz hk hS => ?_)
          have hM : MH E h0 rf t0 t1 t2 (uA (uA (uA (uA (uA (uA (uA (uA A 41 (ur_5.1)) 42 (ur_5.2.1)) 43 (ur_5.2.2.1)) 44 (ur_5.2.2.2.1)) 45 (ur_5.2.2.2.2.1)) 46 (ur_5.2.2.2.2.2.1)) 47 (ur_5.2.2.2.2.2.2.1)) 48 (ur_5.2.2.2.2.2.2.2.1)) 0 ur_5.2.2.2.2.2.2.2.2 H := by rw [ht] at hB; exact hB
          have hDr_5 : D_X10_drop A (0 : Int32) pk p0 (uA (uA (uA (uA (uA (uA (uA (uA A 41 (ur_5.1)) 42 (ur_5.2.1)) 43 (ur_5.2.2.1)) 44 (ur_5.2.2.2.1)) 45 (ur_5.2.2.2.2.1)) 46 (ur_5.2.2.2.2.2.1)) 47 (ur_5.2.2.2.2.2.2.1)) 48 (ur_5.2.2.2.2.2.2.2.1)) (0 : Int32) (ur_5.2.2.2.2.2.2.2.2) := hwr_5.2.2
          have hpr_5_0 : I7 (ur_5.1) (ur_5.2.1) (ur_5.2.2.2.1) (ur_5.2.2.2.2.1) (ur_5.2.2.2.2.2.1) := hwr_5.1
          have hpr_5_1 : 0 ≤ ur_5.2.2.2.2.2.2.2.2.toInt ∧ ur_5.2.2.2.2.2.2.2.2.toInt ≤ 24 := hwr_5.2.1
          refine lv_iconst (v := 1) hx hb dX10_spoil_63 (by decide) ?_
          exact W.zret (v := 1) (ty := .boolean) hx hb hr rfl (fun t ht hW => ⟨⟨1, ((ur_5.1), (ur_5.2.1), (ur_5.2.2.1), (ur_5.2.2.2.1), (ur_5.2.2.2.2.1), (ur_5.2.2.2.2.2.1), (ur_5.2.2.2.2.2.2.1), (ur_5.2.2.2.2.2.2.2.1), ur_5.2.2.2.2.2.2.2.2, 0), rfl, ⟨hpr_5_0, (by show 0 ≤ ur_5.2.2.2.2.2.2.2.2.toInt ∧ ur_5.2.2.2.2.2.2.2.2.toInt ≤ 24; have := i_1; omega), (Or.inr (Or.inr (Or.inl ⟨c_1, c_2, c_3, c_4, ur_5, hDr_5, hpr_5_0, hpr_5_1, rfl, rfl, rfl, rfl⟩)))⟩, (by show MH E h0 rf t0 t1 t2 (uA (uA (uA (uA (uA (uA (uA (uA A 41 (ur_5.1)) 42 (ur_5.2.1)) 43 (ur_5.2.2.1)) 44 (ur_5.2.2.2.1)) 45 (ur_5.2.2.2.2.1)) 46 (ur_5.2.2.2.2.2.1)) 47 (ur_5.2.2.2.2.2.2.1)) 48 (ur_5.2.2.2.2.2.2.2.1)) 0 ur_5.2.2.2.2.2.2.2.2 t.heap; rw [ht]; exact hM)⟩, hS.F ht⟩) hS.2.2 dX10_spoil_64
        · simp only [lt_I, le_I, eq_I, i_0, i_1, i_2, i_3, i_4, i_5, i_6, i_7, i_8, i_10, i_12, i_16, i_20, i_23, i_24, i_31, i_32, i_63, i_64, i_m1, i_9, i_11, i_13, i_25, i_60, i_75, i_79, i_80, i_96, i_100] at c_4
          refine lv_aload_n hx hb dX10_spoil_36 rfl (lv_at hl 0 rfl) ?_
          refine lv_iload_n hx hb dX10_spoil_37 rfl (lv_at hl 1 rfl) ?_
          refine lv_aload_n hx hb dX10_spoil_38 rfl (lv_at hl 0 rfl) ?_
          refine va_get (D := DG E) (ci := 10) (v := .int pk) (C := RX10) (T := TX10) (N := 49) hx hb hts iw_X10 hown hK.1 (va_one hM.1) 0 rfl rfl 40 (by decide) (hts _ fl_X10_164) (fun _ h9 => h9) rfl dX10_spoil_39 ?_
          refine va_callv (rnV (fun H => MH E h0 rf t0 t1 t2 A 0 pk H) (As := [.int p0, .int pk]) (rest := []) ⟨hx, hb, hml, hown, hts⟩ (u_X10_move1 l E z0 G hGz h0 rf hR t0 t1 t2 A 0 pk p0 pk hI7 (show 0 ≤ p0.toInt ∧ p0.toInt ≤ 24 from by first | decide | omega) (show 0 ≤ pk.toInt ∧ pk.toInt ≤ 24 from by first | decide | omega)) (cwV 2 hts (gdV ml_X10_170 im_X10_move1 se_X10_X10_move1 in_X10 co_X10_move1 rfl) rfl rfl rfl (by decide +kernel) ⟨Nat.le_of_ble_eq_true rfl, Nat.le_of_ble_eq_true rfl⟩) hM (fun U hU hW => hK.go hW hS hAz hU) (va_recv hK.1 (va_one hM.1) (ci := 10) (q0 := 0) rfl rfl) rfl rfl hl.1 rfl (lv_room (Nat.le_of_ble_eq_true rfl)) dX10_spoil_42 ⟨Nat.le_of_ble_eq_true rfl, Nat.le_of_ble_eq_true rfl⟩) hS (fun q _ h => h) (fun q h => h) (fun ur_6 t H locs ht hvm hwr_6 hB hz hk hS => ?_)
          have hM : MH E h0 rf t0 t1 t2 (uA (uA (uA (uA (uA (uA (uA (uA A 41 (ur_6.1)) 42 (ur_6.2.1)) 43 (ur_6.2.2.1)) 44 (ur_6.2.2.2.1)) 45 (ur_6.2.2.2.2.1)) 46 (ur_6.2.2.2.2.2.1)) 47 (ur_6.2.2.2.2.2.2.1)) 48 (ur_6.2.2.2.2.2.2.2)) 0 pk H := by rw [ht] at hB; exact hB
          have hDr_6 : D_X10_move1 A (0 : Int32) pk p0 pk (uA (uA (uA (uA (uA (uA (uA (uA A 41 (ur_6.1)) 42 (ur_6.2.1)) 43 (ur_6.2.2.1)) 44 (ur_6.2.2.2.1)) 45 (ur_6.2.2.2.2.1)) 46 (ur_6.2.2.2.2.2.1)) 47 (ur_6.2.2.2.2.2.2.1)) 48 (ur_6.2.2.2.2.2.2.2)) (0 : Int32) pk := hwr_6.2
          have hpr_6_0 : I7 (ur_6.1) (ur_6.2.1) (ur_6.2.2.2.1) (ur_6.2.2.2.2.1) (ur_6.2.2.2.2.2.1) := hwr_6.1
          refine lv_aload_n hx hb dX10_spoil_45 rfl (lv_at hl 0 rfl) ?_
          refine lv_dup hx hb dX10_spoil_46 rfl ?_
          refine va_get (D := DG E) (ci := 10) (v := .int pk) (C := RX10) (T := TX10) (N := 49) hx hb hts iw_X10 hown hK.1 (va_one hM.1) 0 rfl rfl 40 (by decide) (hts _ fl_X10_164) (fun _ h9 => h9) rfl dX10_spoil_47 ?_
          refine lv_iconst (v := 1) hx hb dX10_spoil_50 (by decide) ?_
          refine lv_iadd hx hb dX10_spoil_51 ?_
          refine lv_topi (fun x_7 ex_7 => ?_)
          have fx_7 : x_7.toInt = pk.toInt + 1 := by have h9 := s_add (x := pk) (y := 1) (by rw [i_1]; omega) (by rw [i_1]; omega); rw [i_1] at h9; rw [ex_7]; exact h9
          refine rr_put (D := DG E) (ci := 10) (v := .int x_7) (ty := .int) (C := RX10) (T := TX10) (N := 49) hx hb hts iw_X10 tyX10 tyX10_ok nmX10 hown hK.1 hM.1 hS (by show G h0 ≠ 0; rw [hR.1]; decide) rfl 40 (by decide) (hts _ fl_X10_164) (fun _ h9 => h9) rfl (by decide +kernel) rfl rfl (Nat.le_of_ble_eq_true rfl) dX10_spoil_52 (fun H locs hn ho hz hS => ?_)
          rw [mfs_set40] at hn
          have hM : MH E h0 rf t0 t1 t2 (uA (uA (uA (uA (uA (uA (uA (uA A 41 (ur_6.1)) 42 (ur_6.2.1)) 43 (ur_6.2.2.1)) 44 (ur_6.2.2.2.1)) 45 (ur_6.2.2.2.2.1)) 46 (ur_6.2.2.2.2.2.1)) 47 (ur_6.2.2.2.2.2.2.1)) 48 (ur_6.2.2.2.2.2.2.2)) 0 x_7 H := hM.sc hR hn ho
          refine lv_goto (tgt := 63) hx hb dX10_spoil_55 (by decide) ?_
          refine lv_iconst (v := 1) hx hb dX10_spoil_63 (by decide) ?_
          exact W.zret (v := 1) (ty := .boolean) hx hb hr rfl (fun t ht hW => ⟨⟨1, ((ur_6.1), (ur_6.2.1), (ur_6.2.2.1), (ur_6.2.2.2.1), (ur_6.2.2.2.2.1), (ur_6.2.2.2.2.2.1), (ur_6.2.2.2.2.2.2.1), (ur_6.2.2.2.2.2.2.2), x_7, 0), rfl, ⟨hpr_6_0, (by show 0 ≤ x_7.toInt ∧ x_7.toInt ≤ 24; have := i_1; omega), (Or.inr (Or.inr (Or.inr (Or.inl ⟨c_1, c_2, c_3, c_4, ur_6, hDr_6, hpr_6_0, x_7, ex_7, fx_7, rfl, rfl, rfl, rfl⟩))))⟩, (by show MH E h0 rf t0 t1 t2 (uA (uA (uA (uA (uA (uA (uA (uA A 41 (ur_6.1)) 42 (ur_6.2.1)) 43 (ur_6.2.2.1)) 44 (ur_6.2.2.2.1)) 45 (ur_6.2.2.2.2.1)) 46 (ur_6.2.2.2.2.2.1)) 47 (ur_6.2.2.2.2.2.2.1)) 48 (ur_6.2.2.2.2.2.2.2)) 0 x_7 t.heap; rw [ht]; exact hM)⟩, hS.F ht⟩) hS.2.2 dX10_spoil_64
      · simp only [lt_I, le_I, eq_I, i_0, i_1, i_2, i_3, i_4, i_5, i_6, i_7, i_8, i_10, i_12, i_16, i_20, i_23, i_24, i_31, i_32, i_63, i_64, i_m1, i_9, i_11, i_13, i_25, i_60, i_75, i_79, i_80, i_96, i_100] at c_3
        refine lv_aload_n hx hb dX10_spoil_21 rfl (lv_at hl 0 rfl) ?_
        refine va_get (D := DG E) (ci := 10) (v := .int pk) (C := RX10) (T := TX10) (N := 49) hx hb hts iw_X10 hown hK.1 (va_one hM.1) 0 rfl rfl 40 (by decide) (hts _ fl_X10_164) (fun _ h9 => h9) rfl dX10_spoil_22 ?_
        refine lv_bipush (v := 24) hx hb dX10_spoil_25 (by decide) ?_
        refine lv_icmp_ne (tgt := 32) hx hb dX10_spoil_27 (by decide) (fun c_8 => ?_) (fun c_8 => ?_)
        · simp only [lt_I, le_I, eq_I, i_0, i_1, i_2, i_3, i_4, i_5, i_6, i_7, i_8, i_10, i_12, i_16, i_20, i_23, i_24, i_31, i_32, i_63, i_64, i_m1, i_9, i_11, i_13, i_25, i_60, i_75, i_79, i_80, i_96, i_100] at c_8
          refine lv_iload_n hx hb dX10_spoil_32 rfl (lv_at hl 2 rfl) ?_
          refine lv_if_eq (tgt := 58) hx hb dX10_spoil_33 (by decide) (fun c_9 => ?_) (fun c_9 => ?_)
          · simp only [lt_I, le_I, eq_I, i_0, i_1, i_2, i_3, i_4, i_5, i_6, i_7, i_8, i_10, i_12, i_16, i_20, i_23, i_24, i_31, i_32, i_63, i_64, i_m1, i_9, i_11, i_13, i_25, i_60, i_75, i_79, i_80, i_96, i_100] at c_9
            refine lv_aload_n hx hb dX10_spoil_58 rfl (lv_at hl 0 rfl) ?_
            refine lv_iload_n hx hb dX10_spoil_59 rfl (lv_at hl 1 rfl) ?_
            refine va_callv (rnV (fun H => MH E h0 rf t0 t1 t2 A 0 pk H) (As := [.int p0]) (rest := []) ⟨hx, hb, hml, hown, hts⟩ (u_X10_drop l E z0 G hGz h0 rf hR t0 t1 t2 A 0 pk p0 hI7 (show 0 ≤ p0.toInt ∧ p0.toInt ≤ 23 from by first | decide | omega) (show 0 ≤ pk.toInt ∧ pk.toInt ≤ 24 from by first | decide | omega) (show p0.toInt < pk.toInt from by first | decide | omega)) (cwV 1 hts (gdV ml_X10_265 im_X10_drop se_X10_X10_drop in_X10 co_X10_drop rfl) rfl rfl rfl (by decide +kernel) ⟨Nat.le_of_ble_eq_true rfl, Nat.le_of_ble_eq_true rfl⟩) hM (fun U hU hW => hK.go hW hS hAz hU) (va_recv hK.1 (va_one hM.1) (ci := 10) (q0 := 0) rfl rfl) rfl rfl hl.1 rfl (lv_room (Nat.le_of_ble_eq_true rfl)) dX10_spoil_60 ⟨Nat.le_of_ble_eq_true rfl, Nat.le_of_ble_eq_true rfl⟩) hS (fun q _ h => h) (fun q h => h) (fun ur_10 t H locs ht hvm hwr_10 hB hz hk hS => ?_)
            have hM : MH E h0 rf t0 t1 t2 (uA (uA (uA (uA (uA (uA (uA (uA A 41 (ur_10.1)) 42 (ur_10.2.1)) 43 (ur_10.2.2.1)) 44 (ur_10.2.2.2.1)) 45 (ur_10.2.2.2.2.1)) 46 (ur_10.2.2.2.2.2.1)) 47 (ur_10.2.2.2.2.2.2.1)) 48 (ur_10.2.2.2.2.2.2.2.1)) 0 ur_10.2.2.2.2.2.2.2.2 H := by rw [ht] at hB; exact hB
            have hDr_10 : D_X10_drop A (0 : Int32) pk p0 (uA (uA (uA (uA (uA (uA (uA (uA A 41 (ur_10.1)) 42 (ur_10.2.1)) 43 (ur_10.2.2.1)) 44 (ur_10.2.2.2.1)) 45 (ur_10.2.2.2.2.1)) 46 (ur_10.2.2.2.2.2.1)) 47 (ur_10.2.2.2.2.2.2.1)) 48 (ur_10.2.2.2.2.2.2.2.1)) (0 : Int32) (ur_10.2.2.2.2.2.2.2.2) := hwr_10.2.2
            have hpr_10_0 : I7 (ur_10.1) (ur_10.2.1) (ur_10.2.2.2.1) (ur_10.2.2.2.2.1) (ur_10.2.2.2.2.2.1) := hwr_10.1
            have hpr_10_1 : 0 ≤ ur_10.2.2.2.2.2.2.2.2.toInt ∧ ur_10.2.2.2.2.2.2.2.2.toInt ≤ 24 := hwr_10.2.1
            refine lv_iconst (v := 1) hx hb dX10_spoil_63 (by decide) ?_
            exact W.zret (v := 1) (ty := .boolean) hx hb hr rfl (fun t ht hW => ⟨⟨1, ((ur_10.1), (ur_10.2.1), (ur_10.2.2.1), (ur_10.2.2.2.1), (ur_10.2.2.2.2.1), (ur_10.2.2.2.2.2.1), (ur_10.2.2.2.2.2.2.1), (ur_10.2.2.2.2.2.2.2.1), ur_10.2.2.2.2.2.2.2.2, 0), rfl, ⟨hpr_10_0, (by show 0 ≤ ur_10.2.2.2.2.2.2.2.2.toInt ∧ ur_10.2.2.2.2.2.2.2.2.toInt ≤ 24; have := i_1; omega), (Or.inr (Or.inr (Or.inr (Or.inr (Or.inl ⟨c_1, c_2, c_3, c_8, c_9, ur_10, hDr_10, hpr_10_0, hpr_10_1, rfl, rfl, rfl, rfl⟩)))))⟩, (by show MH E h0 rf t0 t1 t2 (uA (uA (uA (uA (uA (uA (uA (uA A 41 (ur_10.1)) 42 (ur_10.2.1)) 43 (ur_10.2.2.1)) 44 (ur_10.2.2.2.1)) 45 (ur_10.2.2.2.2.1)) 46 (ur_10.2.2.2.2.2.1)) 47 (ur_10.2.2.2.2.2.2.1)) 48 (ur_10.2.2.2.2.2.2.2.1)) 0 ur_10.2.2.2.2.2.2.2.2 t.heap; rw [ht]; exact hM)⟩, hS.F ht⟩) hS.2.2 dX10_spoil_64
          · simp only [lt_I, le_I, eq_I, i_0, i_1, i_2, i_3, i_4, i_5, i_6, i_7, i_8, i_10, i_12, i_16, i_20, i_23, i_24, i_31, i_32, i_63, i_64, i_m1, i_9, i_11, i_13, i_25, i_60, i_75, i_79, i_80, i_96, i_100] at c_9
            refine lv_aload_n hx hb dX10_spoil_36 rfl (lv_at hl 0 rfl) ?_
            refine lv_iload_n hx hb dX10_spoil_37 rfl (lv_at hl 1 rfl) ?_
            refine lv_aload_n hx hb dX10_spoil_38 rfl (lv_at hl 0 rfl) ?_
            refine va_get (D := DG E) (ci := 10) (v := .int pk) (C := RX10) (T := TX10) (N := 49) hx hb hts iw_X10 hown hK.1 (va_one hM.1) 0 rfl rfl 40 (by decide) (hts _ fl_X10_164) (fun _ h9 => h9) rfl dX10_spoil_39 ?_
            refine va_callv (rnV (fun H => MH E h0 rf t0 t1 t2 A 0 pk H) (As := [.int p0, .int pk]) (rest := []) ⟨hx, hb, hml, hown, hts⟩ (u_X10_move1 l E z0 G hGz h0 rf hR t0 t1 t2 A 0 pk p0 pk hI7 (show 0 ≤ p0.toInt ∧ p0.toInt ≤ 24 from by first | decide | omega) (show 0 ≤ pk.toInt ∧ pk.toInt ≤ 24 from by first | decide | omega)) (cwV 2 hts (gdV ml_X10_170 im_X10_move1 se_X10_X10_move1 in_X10 co_X10_move1 rfl) rfl rfl rfl (by decide +kernel) ⟨Nat.le_of_ble_eq_true rfl, Nat.le_of_ble_eq_true rfl⟩) hM (fun U hU hW => hK.go hW hS hAz hU) (va_recv hK.1 (va_one hM.1) (ci := 10) (q0 := 0) rfl rfl) rfl rfl hl.1 rfl (lv_room (Nat.le_of_ble_eq_true rfl)) dX10_spoil_42 ⟨Nat.le_of_ble_eq_true rfl, Nat.le_of_ble_eq_true rfl⟩) hS (fun q _ h => h) (fun q h => h) (fun ur_11 t H locs ht hvm hwr_11 hB hz hk hS => ?_)
            have hM : MH E h0 rf t0 t1 t2 (uA (uA (uA (uA (uA (uA (uA (uA A 41 (ur_11.1)) 42 (ur_11.2.1)) 43 (ur_11.2.2.1)) 44 (ur_11.2.2.2.1)) 45 (ur_11.2.2.2.2.1)) 46 (ur_11.2.2.2.2.2.1)) 47 (ur_11.2.2.2.2.2.2.1)) 48 (ur_11.2.2.2.2.2.2.2)) 0 pk H := by rw [ht] at hB; exact hB
            have hDr_11 : D_X10_move1 A (0 : Int32) pk p0 pk (uA (uA (uA (uA (uA (uA (uA (uA A 41 (ur_11.1)) 42 (ur_11.2.1)) 43 (ur_11.2.2.1)) 44 (ur_11.2.2.2.1)) 45 (ur_11.2.2.2.2.1)) 46 (ur_11.2.2.2.2.2.1)) 47 (ur_11.2.2.2.2.2.2.1)) 48 (ur_11.2.2.2.2.2.2.2)) (0 : Int32) pk := hwr_11.2
            have hpr_11_0 : I7 (ur_11.1) (ur_11.2.1) (ur_11.2.2.2.1) (ur_11.2.2.2.2.1) (ur_11.2.2.2.2.2.1) := hwr_11.1
            refine lv_aload_n hx hb dX10_spoil_45 rfl (lv_at hl 0 rfl) ?_
            refine lv_dup hx hb dX10_spoil_46 rfl ?_
            refine va_get (D := DG E) (ci := 10) (v := .int pk) (C := RX10) (T := TX10) (N := 49) hx hb hts iw_X10 hown hK.1 (va_one hM.1) 0 rfl rfl 40 (by decide) (hts _ fl_X10_164) (fun _ h9 => h9) rfl dX10_spoil_47 ?_
            refine lv_iconst (v := 1) hx hb dX10_spoil_50 (by decide) ?_
            refine lv_iadd hx hb dX10_spoil_51 ?_
            refine lv_topi (fun x_12 ex_12 => ?_)
            have fx_12 : x_12.toInt = pk.toInt + 1 := by have h9 := s_add (x := pk) (y := 1) (by rw [i_1]; omega) (by rw [i_1]; omega); rw [i_1] at h9; rw [ex_12]; exact h9
            refine rr_put (D := DG E) (ci := 10) (v := .int x_12) (ty := .int) (C := RX10) (T := TX10) (N := 49) hx hb hts iw_X10 tyX10 tyX10_ok nmX10 hown hK.1 hM.1 hS (by show G h0 ≠ 0; rw [hR.1]; decide) rfl 40 (by decide) (hts _ fl_X10_164) (fun _ h9 => h9) rfl (by decide +kernel) rfl rfl (Nat.le_of_ble_eq_true rfl) dX10_spoil_52 (fun H locs hn ho hz hS => ?_)
            rw [mfs_set40] at hn
            have hM : MH E h0 rf t0 t1 t2 (uA (uA (uA (uA (uA (uA (uA (uA A 41 (ur_11.1)) 42 (ur_11.2.1)) 43 (ur_11.2.2.1)) 44 (ur_11.2.2.2.1)) 45 (ur_11.2.2.2.2.1)) 46 (ur_11.2.2.2.2.2.1)) 47 (ur_11.2.2.2.2.2.2.1)) 48 (ur_11.2.2.2.2.2.2.2)) 0 x_12 H := hM.sc hR hn ho
            refine lv_goto (tgt := 63) hx hb dX10_spoil_55 (by decide) ?_
            refine lv_iconst (v := 1) hx hb dX10_spoil_63 (by decide) ?_
            exact W.zret (v := 1) (ty := .boolean) hx hb hr rfl (fun t ht hW => ⟨⟨1, ((ur_11.1), (ur_11.2.1), (ur_11.2.2.1), (ur_11.2.2.2.1), (ur_11.2.2.2.2.1), (ur_11.2.2.2.2.2.1), (ur_11.2.2.2.2.2.2.1), (ur_11.2.2.2.2.2.2.2), x_12, 0), rfl, ⟨hpr_11_0, (by show 0 ≤ x_12.toInt ∧ x_12.toInt ≤ 24; have := i_1; omega), (Or.inr (Or.inr (Or.inr (Or.inr (Or.inr (Or.inl ⟨c_1, c_2, c_3, c_8, c_9, ur_11, hDr_11, hpr_11_0, x_12, ex_12, fx_12, rfl, rfl, rfl, rfl⟩))))))⟩, (by show MH E h0 rf t0 t1 t2 (uA (uA (uA (uA (uA (uA (uA (uA A 41 (ur_11.1)) 42 (ur_11.2.1)) 43 (ur_11.2.2.1)) 44 (ur_11.2.2.2.1)) 45 (ur_11.2.2.2.2.1)) 46 (ur_11.2.2.2.2.2.1)) 47 (ur_11.2.2.2.2.2.2.1)) 48 (ur_11.2.2.2.2.2.2.2)) 0 x_12 t.heap; rw [ht]; exact hM)⟩, hS.F ht⟩) hS.2.2 dX10_spoil_64
        · simp only [lt_I, le_I, eq_I, i_0, i_1, i_2, i_3, i_4, i_5, i_6, i_7, i_8, i_10, i_12, i_16, i_20, i_23, i_24, i_31, i_32, i_63, i_64, i_m1, i_9, i_11, i_13, i_25, i_60, i_75, i_79, i_80, i_96, i_100] at c_8
          refine lv_iconst (v := 0) hx hb dX10_spoil_30 (by decide) ?_
          exact W.zret (v := 0) (ty := .boolean) hx hb hr rfl (fun t ht hW => ⟨⟨0, ((A 41), (A 42), (A 43), (A 44), (A 45), (A 46), (A 47), (A 48), pk, 0), rfl, ⟨hI7, (by show 0 ≤ pk.toInt ∧ pk.toInt ≤ 24; have := i_0; omega), (Or.inr (Or.inr (Or.inr (Or.inr (Or.inr (Or.inr ⟨c_1, c_2, c_3, c_8, rfl, rfl, rfl, rfl⟩))))))⟩, (by show MH E h0 rf t0 t1 t2 (uA (uA (uA (uA (uA (uA (uA (uA A 41 (A 41)) 42 (A 42)) 43 (A 43)) 44 (A 44)) 45 (A 45)) 46 (A 46)) 47 (A 47)) 48 (A 48)) 0 pk t.heap; rw [ht]; exact hM.cge (funext fun j => (cgj j 48 rfl (fun a0 => (cgj j 47 rfl (fun a1 => (cgj j 46 rfl (fun a2 => (cgj j 45 rfl (fun a3 => (cgj j 44 rfl (fun a4 => (cgj j 43 rfl (fun a5 => (cgj j 42 rfl (fun a6 => (cgj j 41 rfl (fun a7 => (by simp only [uA_n a0, uA_n a1, uA_n a2, uA_n a3, uA_n a4, uA_n a5, uA_n a6, uA_n a7])))))))))))))))))))⟩, hS.F ht⟩) hS.2.2 dX10_spoil_31
end
