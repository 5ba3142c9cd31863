section
set_option maxHeartbeats 8000000 in
set_option maxRecDepth 100000 in
theorem x_X8_forgetAdds (l : Launch) (E : EE) (z0 : Nat) (G : Nat → Nat) (hGz : ∀ q, G q ≠ 0 → z0 ≤ q) (B : AA) (R : RR) (hW : TW G B R) (h0 : Nat) (hG : G h0 = 10) : Met l yX8_forgetAdds [Cond.code yX8_forgetAdds cX8_forgetAdds 2 none] ({ frames := 0, cells := 0, slots := 0, locals := 0 } : Room) (va_Pc [.ref h0] (fun U => TX E G B R U.heap ∧ KS E z0 U)) (va_Qv (fun (u : AA) => (TW G u R) ∧ (Fr G ([16, 17] : List Nat) B u) ∧ (C_X8_forgetAdds G B R h0 u)) (fun u t => TX E G u R t.heap) (fun q : Nat => G q ∈ ([16, 17] : List Nat))) 0 0 (fun q : Nat => G q ∈ ([16, 17] : List Nat)) := by
  refine Met.ofW (cc := cX8_forgetAdds) (maxL := 2) (ret := none) (by decide) rfl ?_
  intro p e s m args below meth c s₁ B9 hml hv
  obtain ⟨rfl, hT, hK⟩ := hv
  have hx := B9.exec
  have hb := B9.bytes
  have hr := B9.returns
  have hts : ∀ w ∈ TS, w.before ([.ref h0] : List Value).toArray s = true := fun w hw => hK.2.1 w hw _
  have hown : s.vm.findClass RX8 = some m.cls := findClass_of_methodNamed B9.named
  have hlocks := B9.notSynchronized
  have hS : va_S (fun q : Nat => G q ∈ ([16, 17] : List Nat)) s.heap s.heap [] := va_S.rf
  have hAz : ∀ q, (fun q : Nat => G q ∈ ([16, 17] : List Nat)) q → z0 ≤ q := zL hGz (by decide)
  have hW_0 := hW
  have hl := lv_entry ([.ref h0]) (n := 2) (Nat.le_of_ble_eq_true rfl)
  rw [lg_entry_eq]
  generalize (lg_sl ([.ref h0]) ++ List.replicate (2 - (lg_sl ([.ref h0])).length) Slot.unset).toArray = ls at hl ⊢
  have hl : lv_has ls 2 [(0, .ref h0)] := hl
  refine lv_iconst (v := 0) hx hb dX8_forgetAdds_0 (by decide) ?_
  refine lv_istore_n (lv' := [(1, .int 0), (0, .ref h0)]) hx hb dX8_forgetAdds_1 rfl hl (by decide) rfl (fun ls hl => ?_)
  refine lv_iload_n hx hb dX8_forgetAdds_2 rfl (lv_at hl 0 rfl) ?_
  refine lv_iconst (v := 2) hx hb dX8_forgetAdds_3 (by decide) ?_
  refine lv_icmp_ge (tgt := 27) hx hb dX8_forgetAdds_4 (by decide) (fun c_1 => absurd c_1 (by decide)) (fun c_1 => ?_)
  refine lv_aload_n hx hb dX8_forgetAdds_7 rfl (lv_at hl 1 rfl) ?_
  have ha_2 := tx_10 hT hG
  have hg_3 : G (R h0 7) = 16 := (tw_10 hW hG).2.2.2.2.1
  refine va_get (D := DG E) (ci := 8) (v := .ref (R h0 7)) (C := RX8) (T := TX8) (N := 9) hx hb hts iw_X8 hown hK.1 (va_one ha_2) 0 rfl rfl 7 (by decide) (hts _ fl_X8_9) (fun _ h9 => h9) rfl dX8_forgetAdds_8 ?_
  refine lv_iload_n hx hb dX8_forgetAdds_11 rfl (lv_at hl 0 rfl) ?_
  refine lv_iconst (v := (-1)) hx hb dX8_forgetAdds_12 (by decide) ?_
  have ha_4 := tx_16 hT hg_3
  refine rr_iast (D := DG E) hx hb hK.1 0 ha_4 hS (by show G (R h0 7) ∈ ([16, 17] : List Nat); rw [hg_3]; decide) rfl (show vp_in (0) 2 from vp_in_iff.mpr ⟨by decide, by decide⟩) dX8_forgetAdds_13 (fun H locs hn ho hz hS => ?_)
  obtain ⟨B_5, eB_5⟩ : ∃ z : AA, z = uA B (R h0 7) (upd (B (R h0 7)) 0 (-1)) := ⟨_, rfl⟩
  have sB_5 : B_5 (R h0 7) 0 = (-1) := by rw [eB_5, uA_s]; exact upd_s
  have nB_5 : ∀ k, k ≠ 0 → B_5 (R h0 7) k = B (R h0 7) k := fun k hk => by rw [eB_5, uA_s]; exact upd_n hk
  have fB_5 : ∀ c, G c ≠ 16 → B_5 c = B c := fun c hc => by rw [eB_5]; exact uA_n (fun e => hc (by rw [e]; exact hg_3))
  have hT : TX E G B_5 R H := by rw [eB_5]; exact hT.w (by rw [hg_3]; exact hn) ho
  have hWB_5 : TW G B_5 R := by rw [eB_5]; exact hW_0.w (by rw [hg_3]; exact trivial)
  have hW := hWB_5
  refine lv_aload_n hx hb dX8_forgetAdds_14 rfl (lv_at hl 1 rfl) ?_
  have ha_6 := tx_10 hT hG
  have hg_7 : G (R h0 8) = 17 := (tw_10 hW hG).2.2.2.2.2
  refine va_get (D := DG E) (ci := 8) (v := .ref (R h0 8)) (C := RX8) (T := TX8) (N := 9) hx hb hts iw_X8 hown hK.1 (va_one ha_6) 0 rfl rfl 8 (by decide) (hts _ fl_X8_15) (fun _ h9 => h9) rfl dX8_forgetAdds_15 ?_
  refine lv_iload_n hx hb dX8_forgetAdds_18 rfl (lv_at hl 0 rfl) ?_
  refine lv_iconst (v := 0) hx hb dX8_forgetAdds_19 (by decide) ?_
  have ha_8 := tx_17 hT hg_7
  refine rr_iast (D := DG E) hx hb hK.1 0 ha_8 hS (by show G (R h0 8) ∈ ([16, 17] : List Nat); rw [hg_7]; decide) rfl (show vp_in (0) 2 from vp_in_iff.mpr ⟨by decide, by decide⟩) dX8_forgetAdds_20 (fun H locs hn ho hz hS => ?_)
  obtain ⟨B_9, eB_9⟩ : ∃ z : AA, z = uA B_5 (R h0 8) (upd (B_5 (R h0 8)) 0 0) := ⟨_, rfl⟩
  have sB_9 : B_9 (R h0 8) 0 = 0 := by rw [eB_9, uA_s]; exact upd_s
  have nB_9 : ∀ k, k ≠ 0 → B_9 (R h0 8) k = B_5 (R h0 8) k := fun k hk => by rw [eB_9, uA_s]; exact upd_n hk
  have fB_9 : ∀ c, G c ≠ 17 → B_9 c = B_5 c := fun c hc => by rw [eB_9]; exact uA_n (fun e => hc (by rw [e]; exact hg_7))
  have hT : TX E G B_9 R H := by rw [eB_9]; exact hT.w (by rw [hg_7]; exact hn) ho
  have hWB_9 : TW G B_9 R := by rw [eB_9]; exact hWB_5.w (by rw [hg_7]; exact trivial)
  have hW := hWB_9
  refine lv_iinc (v := 1) (lv' := [(1, .int 1), (0, .ref h0)]) hx hb dX8_forgetAdds_21 hl (k := 0) rfl (by decide) (by decide) rfl (fun ls hl => ?_)
  refine lv_goto (tgt := 2) hx hb dX8_forgetAdds_24 (by decide) ?_
  refine lv_iload_n hx hb dX8_forgetAdds_2 rfl (lv_at hl 0 rfl) ?_
  refine lv_iconst (v := 2) hx hb dX8_forgetAdds_3 (by decide) ?_
  refine lv_icmp_ge (tgt := 27) hx hb dX8_forgetAdds_4 (by decide) (fun c_10 => absurd c_10 (by decide)) (fun c_10 => ?_)
  refine lv_aload_n hx hb dX8_forgetAdds_7 rfl (lv_at hl 1 rfl) ?_
  have ha_11 := tx_10 hT hG
  refine va_get (D := DG E) (ci := 8) (v := .ref (R h0 7)) (C := RX8) (T := TX8) (N := 9) hx hb hts iw_X8 hown hK.1 (va_one ha_11) 0 rfl rfl 7 (by decide) (hts _ fl_X8_9) (fun _ h9 => h9) rfl dX8_forgetAdds_8 ?_
  refine lv_iload_n hx hb dX8_forgetAdds_11 rfl (lv_at hl 0 rfl) ?_
  refine lv_iconst (v := (-1)) hx hb dX8_forgetAdds_12 (by decide) ?_
  have ha_12 := tx_16 hT hg_3
  refine rr_iast (D := DG E) hx hb hK.1 0 ha_12 hS (by show G (R h0 7) ∈ ([16, 17] : List Nat); rw [hg_3]; decide) rfl (show vp_in (1) 2 from vp_in_iff.mpr ⟨by decide, by decide⟩) dX8_forgetAdds_13 (fun H locs hn ho hz hS => ?_)
  obtain ⟨B_13, eB_13⟩ : ∃ z : AA, z = uA B_9 (R h0 7) (upd (B_9 (R h0 7)) 1 (-1)) := ⟨_, rfl⟩
  have sB_13 : B_13 (R h0 7) 1 = (-1) := by rw [eB_13, uA_s]; exact upd_s
  have nB_13 : ∀ k, k ≠ 1 → B_13 (R h0 7) k = B_9 (R h0 7) k := fun k hk => by rw [eB_13, uA_s]; exact upd_n hk
  have fB_13 : ∀ c, G c ≠ 16 → B_13 c = B_9 c := fun c hc => by rw [eB_13]; exact uA_n (fun e => hc (by rw [e]; exact hg_3))
  have hT : TX E G B_13 R H := by rw [eB_13]; exact hT.w (by rw [hg_3]; exact hn) ho
  have hWB_13 : TW G B_13 R := by rw [eB_13]; exact hWB_9.w (by rw [hg_3]; exact trivial)
  have hW := hWB_13
  refine lv_aload_n hx hb dX8_forgetAdds_14 rfl (lv_at hl 1 rfl) ?_
  have ha_14 := tx_10 hT hG
  refine va_get (D := DG E) (ci := 8) (v := .ref (R h0 8)) (C := RX8) (T := TX8) (N := 9) hx hb hts iw_X8 hown hK.1 (va_one ha_14) 0 rfl rfl 8 (by decide) (hts _ fl_X8_15) (fun _ h9 => h9) rfl dX8_forgetAdds_15 ?_
  refine lv_iload_n hx hb dX8_forgetAdds_18 rfl (lv_at hl 0 rfl) ?_
  refine lv_iconst (v := 0) hx hb dX8_forgetAdds_19 (by decide) ?_
  have ha_15 := tx_17 hT hg_7
  refine rr_iast (D := DG E) hx hb hK.1 0 ha_15 hS (by show G (R h0 8) ∈ ([16, 17] : List Nat); rw [hg_7]; decide) rfl (show vp_in (1) 2 from vp_in_iff.mpr ⟨by decide, by decide⟩) dX8_forgetAdds_20 (fun H locs hn ho hz hS => ?_)
  obtain ⟨B_16, eB_16⟩ : ∃ z : AA, z = uA B_13 (R h0 8) (upd (B_13 (R h0 8)) 1 0) := ⟨_, rfl⟩
  have sB_16 : B_16 (R h0 8) 1 = 0 := by rw [eB_16, uA_s]; exact upd_s
  have nB_16 : ∀ k, k ≠ 1 → B_16 (R h0 8) k = B_13 (R h0 8) k := fun k hk => by rw [eB_16, uA_s]; exact upd_n hk
  have fB_16 : ∀ c, G c ≠ 17 → B_16 c = B_13 c := fun c hc => by rw [eB_16]; exact uA_n (fun e => hc (by rw [e]; exact hg_7))
  have hT : TX E G B_16 R H := by rw [eB_16]; exact hT.w (by rw [hg_7]; exact hn) ho
  have hWB_16 : TW G B_16 R := by rw [eB_16]; exact hWB_13.w (by rw [hg_7]; exact trivial)
  have hW := hWB_16
  refine lv_iinc (v := 2) (lv' := [(1, .int 2), (0, .ref h0)]) hx hb dX8_forgetAdds_21 hl (k := 0) rfl (by decide) (by decide) rfl (fun ls hl => ?_)
  refine lv_goto (tgt := 2) hx hb dX8_forgetAdds_24 (by decide) ?_
  refine lv_iload_n hx hb dX8_forgetAdds_2 rfl (lv_at hl 0 rfl) ?_
  refine lv_iconst (v := 2) hx hb dX8_forgetAdds_3 (by decide) ?_
  refine lv_icmp_ge (tgt := 27) hx hb dX8_forgetAdds_4 (by decide) (fun c_17 => ?_) (fun c_17 => absurd c_17 (by decide))
  exact W.vret hx hb hr (fun t ht hW9 => ⟨⟨B_16, rfl, ⟨hW, (Fr.w (Fr.w (Fr.w (Fr.w Fr.rf hg_3 (by decide) eB_5) hg_7 (by decide) eB_9) hg_3 (by decide) eB_13) hg_7 (by decide) eB_16), ⟨B_5, eB_5, B_9, eB_9, B_13, eB_13, B_16, eB_16, rfl⟩⟩, (by show TX E G B_16 R t.heap; rw [ht]; exact hT)⟩, hS.F ht⟩) hS.2.2 dX8_forgetAdds_27
theorem dX8_clear_0 : decode cX8_clear 0 = .ok (.aload_n 0, 1) := by decide +kernel
theorem dX8_clear_1 : decode cX8_clear 1 = .ok (.getfield 39, 3) := by decide +kernel
theorem dX8_clear_4 : decode cX8_clear 4 = .ok (.invokevirtual 46, 3) := by decide +kernel
theorem dX8_clear_7 : decode cX8_clear 7 = .ok (.aload_n 0, 1) := by decide +kernel
theorem dX8_clear_8 : decode cX8_clear 8 = .ok (.iconst 0, 1) := by decide +kernel
theorem dX8_clear_9 : decode cX8_clear 9 = .ok (.putfield 49, 3) := by decide +kernel
theorem dX8_clear_12 : decode cX8_clear 12 = .ok (.aload_n 0, 1) := by decide +kernel
theorem dX8_clear_13 : decode cX8_clear 13 = .ok (.iconst 0, 1) := by decide +kernel
theorem dX8_clear_14 : decode cX8_clear 14 = .ok (.putfield 52, 3) := by decide +kernel
theorem dX8_clear_17 : decode cX8_clear 17 = .ok (.aload_n 0, 1) := by decide +kernel
theorem dX8_clear_18 : decode cX8_clear 18 = .ok (.iconst 0, 1) := by decide +kernel
theorem dX8_clear_19 : decode cX8_clear 19 = .ok (.putfield 56, 3) := by decide +kernel
theorem dX8_clear_22 : decode cX8_clear 22 = .ok (.aload_n 0, 1) := by decide +kernel
theorem dX8_clear_23 : decode cX8_clear 23 = .ok (.invokevirtual 43, 3) := by decide +kernel
theorem dX8_clear_26 : decode cX8_clear 26 = .ok (.return_, 1) := by decide +kernel
set_option maxHeartbeats 8000000 in
set_option maxRecDepth 100000 in
theorem x_X8_clear (l : Launch) (E : EE) (z0 : Nat) (G : Nat → Nat) (hGz : ∀ q, G q ≠ 0 → z0 ≤ q) (B : AA) (R : RR) (hW : TW G B R) (h0 : Nat) (hG : G h0 = 10) : Met l yX8_clear [Cond.code yX8_clear cX8_clear 1 none] ({ frames := 1, cells := 0, slots := 0, locals := 21 } : Room) (va_Pc [.ref h0] (fun U => TX E G B R U.heap ∧ KS E z0 U)) (va_Qv (fun (u : AA) => (TW G u R) ∧ (Fr G ([10, 11, 16, 17] : List Nat) B u) ∧ (C_X8_clear G B R h0 u)) (fun u t => TX E G u R t.heap) (fun q : Nat => G q ∈ ([10, 11, 16, 17] : List Nat))) 0 0 (fun q : Nat => G q ∈ ([10, 11, 16, 17] : List Nat)) := by
  refine Met.ofW (cc := cX8_clear) (maxL := 1) (ret := none) (by decide) rfl ?_
  intro p e s m args below meth c s₁ B9 hml hv
  obtain ⟨rfl, hT, hK⟩ := hv
  have hx := B9.exec
  have hb := B9.bytes
  have hr := B9.returns
  have hts : ∀ w ∈ TS, w.before ([.ref h0] : List Value).toArray s = true := fun w hw => hK.2.1 w hw _
  have hown : s.vm.findClass RX8 = some m.cls := findClass_of_methodNamed B9.named
  have hlocks := B9.notSynchronized
  have hS : va_S (fun q : Nat => G q ∈ ([10, 11, 16, 17] : List Nat)) s.heap s.heap [] := va_S.rf
  have hAz : ∀ q, (fun q : Nat => G q ∈ ([10, 11, 16, 17] : List Nat)) q → z0 ≤ q := zL hGz (by decide)
  have hW_0 := hW
  have hl := lv_entry ([.ref h0]) (n := 1) (Nat.le_of_ble_eq_true rfl)
  rw [lg_entry_eq]
  generalize (lg_sl ([.ref h0]) ++ List.replicate (1 - (lg_sl ([.ref h0])).length) Slot.unset).toArray = ls at hl ⊢
  have hl : lv_has ls 1 [(0, .ref h0)] := hl
  refine lv_aload_n hx hb dX8_clear_0 rfl (lv_at hl 0 rfl) ?_
  have ha_1 := tx_10 hT hG
  have hg_2 : G (R h0 3) = 11 := (tw_10 hW hG).2.2.2.1
  refine va_get (D := DG E) (ci := 8) (v := .ref (R h0 3)) (C := RX8) (T := TX8) (N := 9) hx hb hts iw_X8 hown hK.1 (va_one ha_1) 0 rfl rfl 3 (by decide) (hts _ fl_X8_39) (fun _ h9 => h9) rfl dX8_clear_1 ?_
  have ha_3 := tx_11 hT hg_2
  refine va_callv (rnV (fun H => TX E G B R H) (As := []) (rest := []) ⟨hx, hb, hml, hown, hts⟩ (x_X5_clear l E z0 G hGz B R hW (R h0 3) hg_2) (cwV 0 hts (gdV ml_X8_46 im_X5_clear se_X5_X5_clear in_X5 co_X5_clear rfl) rfl rfl rfl (by decide +kernel) ⟨Nat.le_of_ble_eq_true rfl, Nat.le_of_ble_eq_true rfl⟩) hT (fun U hU hW => hK.go hW hS hAz hU) (va_recv hK.1 (va_one ha_3) (ci := 5) (q0 := 0) rfl rfl) rfl rfl hl.1 rfl (lv_room (Nat.le_of_ble_eq_true rfl)) dX8_clear_4 ⟨Nat.le_of_ble_eq_true rfl, Nat.le_of_ble_eq_true rfl⟩) hS (fun q _ h => mL (L' := [11]) (L := [10, 11, 16, 17]) (by decide) h) (fun q h => mL (L' := [11]) (L := [10, 11, 16, 17]) (by decide) h) (fun U_5 t H locs ht hvm hwr_4 hB hz hk hS => ?_)
  have hT : TX E G U_5 R H := by rw [ht] at hB; exact hB
  have hWr_4 : TW G U_5 R := hwr_4.1
  have hW := hWr_4
  have hFr_4 : Fr G [11] B U_5 := hwr_4.2.1
  have hCr_4 : C_X5_clear G B R (R h0 3) U_5 := hwr_4.2.2
  refine lv_aload_n hx hb dX8_clear_7 rfl (lv_at hl 0 rfl) ?_
  refine lv_iconst (v := 0) hx hb dX8_clear_8 (by decide) ?_
  have ha_6 := tx_10 hT hG
  refine rr_put (D := DG E) (ci := 8) (v := .int 0) (ty := .int) (C := RX8) (T := TX8) (N := 9) hx hb hts iw_X8 tyX8 tyX8_ok nmX8 hown hK.1 ha_6 hS (by show G h0 ∈ ([10, 11, 16, 17] : List Nat); rw [hG]; decide) rfl 4 (by decide) (hts _ fl_X8_49) (fun _ h9 => h9) rfl (by decide +kernel) rfl rfl (Nat.le_of_ble_eq_true rfl) dX8_clear_9 (fun H locs hn ho hz hS => ?_)
  obtain ⟨B_7, eB_7⟩ : ∃ z : AA, z = uA U_5 h0 (upd (U_5 h0) 4 0) := ⟨_, rfl⟩
  have sB_7 : B_7 h0 4 = 0 := by rw [eB_7, uA_s]; exact upd_s
  have nB_7 : ∀ k, k ≠ 4 → B_7 h0 k = U_5 h0 k := fun k hk => by rw [eB_7, uA_s]; exact upd_n hk
  have fB_7 : ∀ c, G c ≠ 10 → B_7 c = U_5 c := fun c hc => by rw [eB_7]; exact uA_n (fun e => hc (by rw [e]; exact hG))
  have hT : TX E G B_7 R H := by rw [eB_7]; exact hT.w (by rw [hG]; exact hn) ho
  have hWB_7 : TW G B_7 R := by rw [eB_7]; exact hWr_4.w (by rw [hG]; exact tw_10 hWr_4 hG)
  have hW := hWB_7
  refine lv_aload_n hx hb dX8_clear_12 rfl (lv_at hl 0 rfl) ?_
  refine lv_iconst (v := 0) hx hb dX8_clear_13 (by decide) ?_
  have ha_8 := tx_10 hT hG
  refine rr_put (D := DG E) (ci := 8) (v := .int 0) (ty := .boolean) (C := RX8) (T := TX8) (N := 9) hx hb hts iw_X8 tyX8 tyX8_ok nmX8 hown hK.1 ha_8 hS (by show G h0 ∈ ([10, 11, 16, 17] : List Nat); rw [hG]; decide) rfl 5 (by decide) (hts _ fl_X8_52) (fun _ h9 => h9) rfl (by decide +kernel) rfl rfl (Nat.le_of_ble_eq_true rfl) dX8_clear_14 (fun H locs hn ho hz hS => ?_)
  obtain ⟨B_9, eB_9⟩ : ∃ z : AA, z = uA B_7 h0 (upd (B_7 h0) 5 0) := ⟨_, rfl⟩
  have sB_9 : B_9 h0 5 = 0 := by rw [eB_9, uA_s]; exact upd_s
  have nB_9 : ∀ k, k ≠ 5 → B_9 h0 k = B_7 h0 k := fun k hk => by rw [eB_9, uA_s]; exact upd_n hk
  have fB_9 : ∀ c, G c ≠ 10 → B_9 c = B_7 c := fun c hc => by rw [eB_9]; exact uA_n (fun e => hc (by rw [e]; exact hG))
  have hT : TX E G B_9 R H := by rw [eB_9]; exact hT.w (by rw [hG]; exact hn) ho
  have hWB_9 : TW G B_9 R := by rw [eB_9]; exact hWB_7.w (by rw [hG]; exact tw_10 hWB_7 hG)
  have hW := hWB_9
  refine lv_aload_n hx hb dX8_clear_17 rfl (lv_at hl 0 rfl) ?_
  refine lv_iconst (v := 0) hx hb dX8_clear_18 (by decide) ?_
  have ha_10 := tx_10 hT hG
  refine rr_put (D := DG E) (ci := 8) (v := .int 0) (ty := .boolean) (C := RX8) (T := TX8) (N := 9) hx hb hts iw_X8 tyX8 tyX8_ok nmX8 hown hK.1 ha_10 hS (by show G h0 ∈ ([10, 11, 16, 17] : List Nat); rw [hG]; decide) rfl 6 (by decide) (hts _ fl_X8_56) (fun _ h9 => h9) rfl (by decide +kernel) rfl rfl (Nat.le_of_ble_eq_true rfl) dX8_clear_19 (fun H locs hn ho hz hS => ?_)
  obtain ⟨B_11, eB_11⟩ : ∃ z : AA, z = uA B_9 h0 (upd (B_9 h0) 6 0) := ⟨_, rfl⟩
  have sB_11 : B_11 h0 6 = 0 := by rw [eB_11, uA_s]; exact upd_s
  have nB_11 : ∀ k, k ≠ 6 → B_11 h0 k = B_9 h0 k := fun k hk => by rw [eB_11, uA_s]; exact upd_n hk
  have fB_11 : ∀ c, G c ≠ 10 → B_11 c = B_9 c := fun c hc => by rw [eB_11]; exact uA_n (fun e => hc (by rw [e]; exact hG))
  have hT : TX E G B_11 R H := by rw [eB_11]; exact hT.w (by rw [hG]; exact hn) ho
  have hWB_11 : TW G B_11 R := by rw [eB_11]; exact hWB_9.w (by rw [hG]; exact tw_10 hWB_9 hG)
  have hW := hWB_11
  refine lv_aload_n hx hb dX8_clear_22 rfl (lv_at hl 0 rfl) ?_
  have ha_12 := tx_10 hT hG
  refine va_callv (rnV (fun H => TX E G B_11 R H) (As := []) (rest := []) ⟨hx, hb, hml, hown, hts⟩ (x_X8_forgetAdds l E z0 G hGz B_11 R hW h0 hG) (cwV 0 hts (gdV ml_X8_43 im_X8_forgetAdds se_X8_X8_forgetAdds in_X8 co_X8_forgetAdds rfl) rfl rfl rfl (by decide +kernel) ⟨Nat.le_of_ble_eq_true rfl, Nat.le_of_ble_eq_true rfl⟩) hT (fun U hU hW => hK.go hW hS hAz hU) (va_recv hK.1 (va_one ha_12) (ci := 8) (q0 := 0) rfl rfl) rfl rfl hl.1 rfl (lv_room (Nat.le_of_ble_eq_true rfl)) dX8_clear_23 ⟨Nat.le_of_ble_eq_true rfl, Nat.le_of_ble_eq_true rfl⟩) hS (fun q _ h => mL (L' := [16, 17]) (L := [10, 11, 16, 17]) (by decide) h) (fun q h => mL (L' := [16, 17]) (L := [10, 11, 16, 17]) (by decide) h) (fun U_14 t H locs ht hvm hwr_13 hB hz hk hS => ?_)
  have hT : TX E G U_14 R H := by rw [ht] at hB; exact hB
  have hWr_13 : TW G U_14 R := hwr_13.1
  have hW := hWr_13
  have hFr_13 : Fr G [16, 17] B_11 U_14 := hwr_13.2.1
  have hCr_13 : C_X8_forgetAdds G B_11 R h0 U_14 := hwr_13.2.2
  exact W.vret hx hb hr (fun t ht hW9 => ⟨⟨U_14, rfl, ⟨hW, (Fr.c (Fr.w (Fr.w (Fr.w (Fr.c Fr.rf hFr_4 (by decide)) hG (by decide) eB_7) hG (by decide) eB_9) hG (by decide) eB_11) hFr_13 (by decide)), ⟨U_5, hFr_4, hCr_4, B_7, eB_7, B_9, eB_9, B_11, eB_11, U_14, hFr_13, hCr_13, rfl⟩⟩, (by show TX E G U_14 R t.heap; rw [ht]; exact hT)⟩, hS.F ht⟩) hS.2.2 dX8_clear_26
theorem dX8_refuse_0 : decode cX8_refuse 0 = .ok (.aload_n 0, 1) := by decide +kernel
theorem dX8_refuse_1 : decode cX8_refuse 1 = .ok (.getfield 30, 3) := by decide +kernel
theorem dX8_refuse_4 : decode cX8_refuse 4 = .ok (.aload_n 0, 1) := by decide +kernel
theorem dX8_refuse_5 : decode cX8_refuse 5 = .ok (.getfield 22, 3) := by decide +kernel
theorem dX8_refuse_8 : decode cX8_refuse 8 = .ok (.bipush 6, 2) := by decide +kernel
theorem dX8_refuse_10 : decode cX8_refuse 10 = .ok (.iload_n 1, 1) := by decide +kernel
theorem dX8_refuse_11 : decode cX8_refuse 11 = .ok (.invokevirtual 167, 3) := by decide +kernel
theorem dX8_refuse_14 : decode cX8_refuse 14 = .ok (.iload_n 2, 1) := by decide +kernel
theorem dX8_refuse_15 : decode cX8_refuse 15 = .ok (.putfield 179, 3) := by decide +kernel
theorem dX8_refuse_18 : decode cX8_refuse 18 = .ok (.return_, 1) := by decide +kernel
set_option maxHeartbeats 8000000 in
set_option maxRecDepth 100000 in
theorem x_X8_refuse (l : Launch) (E : EE) (z0 : Nat) (G : Nat → Nat) (hGz : ∀ q, G q ≠ 0 → z0 ≤ q) (B : AA) (R : RR) (hW : TW G B R) (h0 : Nat) (p0 : Int32) (p1 : Int32) (hG : G h0 = 10) : Met l yX8_refuse [Cond.code yX8_refuse cX8_refuse 3 none] ({ frames := 2, cells := 0, slots := 0, locals := 47 } : Room) (va_Pc [.ref h0, .int p0, .int p1] (fun U => TX E G B R U.heap ∧ KS E z0 U)) (va_Qv (fun (u : AA) => (TW G u R) ∧ (Fr G ([4, 31] : List Nat) B u) ∧ (C_X8_refuse G B R h0 p0 p1 u)) (fun u t => TX E G u R t.heap) (fun q : Nat => G q ∈ ([4, 31] : List Nat))) 0 0 (fun q : Nat => G q ∈ ([4, 31] : List Nat)) := by
  refine Met.ofW (cc := cX8_refuse) (maxL := 3) (ret := none) (by decide) rfl ?_
  intro p e s m args below meth c s₁ B9 hml hv
  obtain ⟨rfl, hT, hK⟩ := hv
  have hx := B9.exec
  have hb := B9.bytes
  have hr := B9.returns
  have hts : ∀ w ∈ TS, w.before ([.ref h0, .int p0, .int p1] : List Value).toArray s = true := fun w hw => hK.2.1 w hw _
  have hown : s.vm.findClass RX8 = some m.cls := findClass_of_methodNamed B9.named
  have hlocks := B9.notSynchronized
  have hS : va_S (fun q : Nat => G q ∈ ([4, 31] : List Nat)) s.heap s.heap [] := va_S.rf
  have hAz : ∀ q, (fun q : Nat => G q ∈ ([4, 31] : List Nat)) q → z0 ≤ q := zL hGz (by decide)
  have hW_0 := hW
  have hl := lv_entry ([.ref h0, .int p0, .int p1]) (n := 3) (Nat.le_of_ble_eq_true rfl)
  rw [lg_entry_eq]
  generalize (lg_sl ([.ref h0, .int p0, .int p1]) ++ List.replicate (3 - (lg_sl ([.ref h0, .int p0, .int p1])).length) Slot.unset).toArray = ls at hl ⊢
  have hl : lv_has ls 3 [(0, .ref h0), (1, .int p0), (2, .int p1)] := hl
  refine lv_aload_n hx hb dX8_refuse_0 rfl (lv_at hl 0 rfl) ?_
  have ha_1 := tx_10 hT hG
  have hg_2 : G (R h0 2) = 4 := (tw_10 hW hG).2.2.1
  refine va_get (D := DG E) (ci := 8) (v := .ref (R h0 2)) (C := RX8) (T := TX8) (N := 9) hx hb hts iw_X8 hown hK.1 (va_one ha_1) 0 rfl rfl 2 (by decide) (hts _ fl_X8_30) (fun _ h9 => h9) rfl dX8_refuse_1 ?_
  refine lv_aload_n hx hb dX8_refuse_4 rfl (lv_at hl 0 rfl) ?_
  have hb_3 := (tw_10 hW_0 hG).1
  refine va_get (D := DG E) (ci := 8) (v := .int (B h0 0)) (C := RX8) (T := TX8) (N := 9) hx hb hts iw_X8 hown hK.1 (va_one ha_1) 0 rfl rfl 0 (by decide) (hts _ fl_X8_22) (fun _ h9 => h9) rfl dX8_refuse_5 ?_
  refine lv_bipush (v := 6) hx hb dX8_refuse_8 (by decide) ?_
  refine lv_iload_n hx hb dX8_refuse_10 rfl (lv_at hl 1 rfl) ?_
  have ha_4 := tx_4 hT hg_2
  refine va_callr (rnV (fun H => TX E G B R H) (As := [.int (B h0 0), .int 6, .int p0]) (rest := []) ⟨hx, hb, hml, hown, hts⟩ (x_X0_carry l E z0 G hGz B R hW (R h0 2) (B h0 0) (6 : Int32) p0 hg_2 (show 0 ≤ (B h0 0).toInt ∧ (B h0 0).toInt ≤ 3 from by have := i_6; first | decide | omega)) (cwV 3 hts (gdV ml_X8_167 im_X0_carry se_X0_X0_carry in_X0 co_X0_carry rfl) rfl rfl rfl (by decide +kernel) ⟨Nat.le_of_ble_eq_true rfl, Nat.le_of_ble_eq_true rfl⟩) hT (fun U hU hW => hK.go hW hS hAz hU) (va_recv hK.1 (va_one ha_4) (ci := 0) (q0 := 0) rfl rfl) rfl rfl hl.1 rfl (lv_room (Nat.le_of_ble_eq_true rfl)) dX8_refuse_11 ⟨Nat.le_of_ble_eq_true rfl, Nat.le_of_ble_eq_true rfl⟩) hS (fun q _ h => mL (L' := [4, 31]) (L := [4, 31]) (by decide) h) (fun q h => mL (L' := [4, 31]) (L := [4, 31]) (by decide) h) (fun U_6 r_5 t H locs ht hvm hwr_5 hB hz hk hS => ?_)
  have hRr_5 := hB.1
  have hB := hB.2
  have hT : TX E G U_6 R H := by rw [ht] at hB; exact hB
  have hgr_5 : G r_5 = 31 := hRr_5.1
  have hWr_5 : TW G U_6 R := hRr_5.2.1
  have hW := hWr_5
  have hFr_5 : Fr G [4, 31] B U_6 := hRr_5.2.2.1
  have hCr_5 : C_X0_carry G B R (R h0 2) (B h0 0) (6 : Int32) p0 U_6 r_5 := hRr_5.2.2.2
  refine lv_iload_n hx hb dX8_refuse_14 rfl (lv_at hl 2 rfl) ?_
  have ha_7 := tx_31 hT hgr_5
  refine rr_put (D := DG E) (ci := 2) (v := .int p1) (ty := .int) (C := RX2) (T := TX2) (N := 8) hx hb hts iw_X2 tyX2 tyX2_ok nmX2 hown hK.1 ha_7 hS (by show G r_5 ∈ ([4, 31] : List Nat); rw [hgr_5]; decide) rfl 4 (by decide) (hts _ fl_X8_179) (fun _ h9 => h9) rfl (by decide +kernel) rfl rfl (Nat.le_of_ble_eq_true rfl) dX8_refuse_15 (fun H locs hn ho hz hS => ?_)
  obtain ⟨B_8, eB_8⟩ : ∃ z : AA, z = uA U_6 r_5 (upd (U_6 r_5) 4 p1) := ⟨_, rfl⟩
  have sB_8 : B_8 r_5 4 = p1 := by rw [eB_8, uA_s]; exact upd_s
  have nB_8 : ∀ k, k ≠ 4 → B_8 r_5 k = U_6 r_5 k := fun k hk => by rw [eB_8, uA_s]; exact upd_n hk
  have fB_8 : ∀ c, G c ≠ 31 → B_8 c = U_6 c := fun c hc => by rw [eB_8]; exact uA_n (fun e => hc (by rw [e]; exact hgr_5))
  have hT : TX E G B_8 R H := by rw [eB_8]; exact hT.w (by rw [hgr_5]; exact hn) ho
  have hWB_8 : TW G B_8 R := by rw [eB_8]; exact hWr_5.w (by rw [hgr_5]; exact tw_31 hWr_5 hgr_5)
  have hW := hWB_8
  exact W.vret hx hb hr (fun t ht hW9 => ⟨⟨B_8, rfl, ⟨hW, (Fr.w (Fr.c Fr.rf hFr_5 (by decide)) hgr_5 (by decide) eB_8), ⟨r_5, U_6, hFr_5, hCr_5, B_8, eB_8, rfl⟩⟩, (by show TX E G B_8 R t.heap; rw [ht]; exact hT)⟩, hS.F ht⟩) hS.2.2 dX8_refuse_18
theorem dX8_acknowledge_0 : decode cX8_acknowledge 0 = .ok (.aload_n 0, 1) := by decide +kernel
theorem dX8_acknowledge_1 : decode cX8_acknowledge 1 = .ok (.getfield 30, 3) := by decide +kernel
theorem dX8_acknowledge_4 : decode cX8_acknowledge 4 = .ok (.aload_n 0, 1) := by decide +kernel
theorem dX8_acknowledge_5 : decode cX8_acknowledge 5 = .ok (.getfield 22, 3) := by decide +kernel
theorem dX8_acknowledge_8 : decode cX8_acknowledge 8 = .ok (.iconst 5, 1) := by decide +kernel
theorem dX8_acknowledge_9 : decode cX8_acknowledge 9 = .ok (.iload_n 1, 1) := by decide +kernel
theorem dX8_acknowledge_10 : decode cX8_acknowledge 10 = .ok (.invokevirtual 167, 3) := by decide +kernel
theorem dX8_acknowledge_13 : decode cX8_acknowledge 13 = .ok (.pop, 1) := by decide +kernel
theorem dX8_acknowledge_14 : decode cX8_acknowledge 14 = .ok (.return_, 1) := by decide +kernel
set_option maxHeartbeats 8000000 in
set_option maxRecDepth 100000 in
theorem x_X8_acknowledge (l : Launch) (E : EE) (z0 : Nat) (G : Nat → Nat) (hGz : ∀ q, G q ≠ 0 → z0 ≤ q) (B : AA) (R : RR) (hW : TW G B R) (h0 : Nat) (p0 : Int32) (hG : G h0 = 10) : Met l yX8_acknowledge [Cond.code yX8_acknowledge cX8_acknowledge 2 none] ({ frames := 2, cells := 0, slots := 0, locals := 47 } : Room) (va_Pc [.ref h0, .int p0] (fun U => TX E G B R U.heap ∧ KS E z0 U)) (va_Qv (fun (u : AA) => (TW G u R) ∧ (Fr G ([4, 31] : List Nat) B u) ∧ (C_X8_acknowledge G B R h0 p0 u)) (fun u t => TX E G u R t.heap) (fun q : Nat => G q ∈ ([4, 31] : List Nat))) 0 0 (fun q : Nat => G q ∈ ([4, 31] : List Nat)) := by
  refine Met.ofW (cc := cX8_acknowledge) (maxL := 2) (ret := none) (by decide) rfl ?_
  intro p e s m args below meth c s₁ B9 hml hv
  obtain ⟨rfl, hT, hK⟩ := hv
  have hx := B9.exec
  have hb := B9.bytes
  have hr := B9.returns
  have hts : ∀ w ∈ TS, w.before ([.ref h0, .int p0] : List Value).toArray s = true := fun w hw => hK.2.1 w hw _
  have hown : s.vm.findClass RX8 = some m.cls := findClass_of_methodNamed B9.named
  have hlocks := B9.notSynchronized
  have hS : va_S (fun q : Nat => G q ∈ ([4, 31] : List Nat)) s.heap s.heap [] := va_S.rf
  have hAz : ∀ q, (fun q : Nat => G q ∈ ([4, 31] : List Nat)) q → z0 ≤ q := zL hGz (by decide)
  have hW_0 := hW
  have hl := lv_entry ([.ref h0, .int p0]) (n := 2) (Nat.le_of_ble_eq_true rfl)
  rw [lg_entry_eq]
  generalize (lg_sl ([.ref h0, .int p0]) ++ List.replicate (2 - (lg_sl ([.ref h0, .int p0])).length) Slot.unset).toArray = ls at hl ⊢
  have hl : lv_has ls 2 [(0, .ref h0), (1, .int p0)] := hl
  refine lv_aload_n hx hb dX8_acknowledge_0 rfl (lv_at hl 0 rfl) ?_
  have ha_1 := tx_10 hT hG
  have hg_2 : G (R h0 2) = 4 := (tw_10 hW hG).2.2.1
  refine va_get (D := DG E) (ci := 8) (v := .ref (R h0 2)) (C := RX8) (T := TX8) (N := 9) hx hb hts iw_X8 hown hK.1 (va_one ha_1) 0 rfl rfl 2 (by decide) (hts _ fl_X8_30) (fun _ h9 => h9) rfl dX8_acknowledge_1 ?_
  refine lv_aload_n hx hb dX8_acknowledge_4 rfl (lv_at hl 0 rfl) ?_
  have hb_3 := (tw_10 hW_0 hG).1
  refine va_get (D := DG E) (ci := 8) (v := .int (B h0 0)) (C := RX8) (T := TX8) (N := 9) hx hb hts iw_X8 hown hK.1 (va_one ha_1) 0 rfl rfl 0 (by decide) (hts _ fl_X8_22) (fun _ h9 => h9) rfl dX8_acknowledge_5 ?_
  refine lv_iconst (v := 5) hx hb dX8_acknowledge_8 (by decide) ?_
  refine lv_iload_n hx hb dX8_acknowledge_9 rfl (lv_at hl 1 rfl) ?_
  have ha_4 := tx_4 hT hg_2
  refine va_callr (rnV (fun H => TX E G B R H) (As := [.int (B h0 0), .int 5, .int p0]) (rest := []) ⟨hx, hb, hml, hown, hts⟩ (x_X0_carry l E z0 G hGz B R hW (R h0 2) (B h0 0) (5 : Int32) p0 hg_2 (show 0 ≤ (B h0 0).toInt ∧ (B h0 0).toInt ≤ 3 from by have := i_5; first | decide | omega)) (cwV 3 hts (gdV ml_X8_167 im_X0_carry se_X0_X0_carry in_X0 co_X0_carry rfl) rfl rfl rfl (by decide +kernel) ⟨Nat.le_of_ble_eq_true rfl, Nat.le_of_ble_eq_true rfl⟩) hT (fun U hU hW => hK.go hW hS hAz hU) (va_recv hK.1 (va_one ha_4) (ci := 0) (q0 := 0) rfl rfl) rfl rfl hl.1 rfl (lv_room (Nat.le_of_ble_eq_true rfl)) dX8_acknowledge_10 ⟨Nat.le_of_ble_eq_true rfl, Nat.le_of_ble_eq_true rfl⟩) hS (fun q _ h => mL (L' := [4, 31]) (L := [4, 31]) (by decide) h) (fun q h => mL (L' := [4, 31]) (L := [4, 31]) (by decide) h) (fun U_6 r_5 t H locs ht hvm hwr_5 hB hz hk hS => ?_)
  have hRr_5 := hB.1
  have hB := hB.2
  have hT : TX E G U_6 R H := by rw [ht] at hB; exact hB
  have hgr_5 : G r_5 = 31 := hRr_5.1
  have hWr_5 : TW G U_6 R := hRr_5.2.1
  have hW := hWr_5
  have hFr_5 : Fr G [4, 31] B U_6 := hRr_5.2.2.1
  have hCr_5 : C_X0_carry G B R (R h0 2) (B h0 0) (5 : Int32) p0 U_6 r_5 := hRr_5.2.2.2
  refine lv_pop hx hb dX8_acknowledge_13 rfl ?_
  exact W.vret hx hb hr (fun t ht hW9 => ⟨⟨U_6, rfl, ⟨hW, (Fr.c Fr.rf hFr_5 (by decide)), ⟨r_5, U_6, hFr_5, hCr_5, rfl⟩⟩, (by show TX E G U_6 R t.heap; rw [ht]; exact hT)⟩, hS.F ht⟩) hS.2.2 dX8_acknowledge_14
theorem dX8_tellSequence_0 : decode cX8_tellSequence 0 = .ok (.aload_n 0, 1) := by decide +kernel
theorem dX8_tellSequence_1 : decode cX8_tellSequence 1 = .ok (.getfield 56, 3) := by decide +kernel
theorem dX8_tellSequence_4 : decode cX8_tellSequence 4 = .ok (.ifCond .ne 17, 3) := by decide +kernel
theorem dX8_tellSequence_7 : decode cX8_tellSequence 7 = .ok (.aload_n 0, 1) := by decide +kernel
theorem dX8_tellSequence_8 : decode cX8_tellSequence 8 = .ok (.aload_n 0, 1) := by decide +kernel
theorem dX8_tellSequence_9 : decode cX8_tellSequence 9 = .ok (.getfield 49, 3) := by decide +kernel
theorem dX8_tellSequence_12 : decode cX8_tellSequence 12 = .ok (.iconst 1, 1) := by decide +kernel
theorem dX8_tellSequence_13 : decode cX8_tellSequence 13 = .ok (.invokevirtual 85, 3) := by decide +kernel
theorem dX8_tellSequence_16 : decode cX8_tellSequence 16 = .ok (.aload_n 0, 1) := by decide +kernel
theorem dX8_tellSequence_17 : decode cX8_tellSequence 17 = .ok (.iconst 1, 1) := by decide +kernel
theorem dX8_tellSequence_18 : decode cX8_tellSequence 18 = .ok (.putfield 56, 3) := by decide +kernel
theorem dX8_tellSequence_21 : decode cX8_tellSequence 21 = .ok (.return_, 1) := by decide +kernel
set_option maxHeartbeats 8000000 in
set_option maxRecDepth 100000 in
theorem x_X8_tellSequence (l : Launch) (E : EE) (z0 : Nat) (G : Nat → Nat) (hGz : ∀ q, G q ≠ 0 → z0 ≤ q) (B : AA) (R : RR) (hW : TW G B R) (h0 : Nat) (hG : G h0 = 10) : Met l yX8_tellSequence [Cond.code yX8_tellSequence cX8_tellSequence 1 none] ({ frames := 3, cells := 0, slots := 0, locals := 69 } : Room) (va_Pc [.ref h0] (fun U => TX E G B R U.heap ∧ KS E z0 U)) (va_Qv (fun (u : AA) => (TW G u R) ∧ (Fr G ([10, 4, 31] : List Nat) B u) ∧ (C_X8_tellSequence G B R h0 u)) (fun u t => TX E G u R t.heap) (fun q : Nat => G q ∈ ([10, 4, 31] : List Nat))) 0 0 (fun q : Nat => G q ∈ ([10, 4, 31] : List Nat)) := by
  refine Met.ofW (cc := cX8_tellSequence) (maxL := 1) (ret := none) (by decide) rfl ?_
  intro p e s m args below meth c s₁ B9 hml hv
  obtain ⟨rfl, hT, hK⟩ := hv
  have hx := B9.exec
  have hb := B9.bytes
  have hr := B9.returns
  have hts : ∀ w ∈ TS, w.before ([.ref h0] : List Value).toArray s = true := fun w hw => hK.2.1 w hw _
  have hown : s.vm.findClass RX8 = some m.cls := findClass_of_methodNamed B9.named
  have hlocks := B9.notSynchronized
  have hS : va_S (fun q : Nat => G q ∈ ([10, 4, 31] : List Nat)) s.heap s.heap [] := va_S.rf
  have hAz : ∀ q, (fun q : Nat => G q ∈ ([10, 4, 31] : List Nat)) q → z0 ≤ q := zL hGz (by decide)
  have hW_0 := hW
  have hl := lv_entry ([.ref h0]) (n := 1) (Nat.le_of_ble_eq_true rfl)
  rw [lg_entry_eq]
  generalize (lg_sl ([.ref h0]) ++ List.replicate (1 - (lg_sl ([.ref h0])).length) Slot.unset).toArray = ls at hl ⊢
  have hl : lv_has ls 1 [(0, .ref h0)] := hl
  refine lv_aload_n hx hb dX8_tellSequence_0 rfl (lv_at hl 0 rfl) ?_
  have ha_1 := tx_10 hT hG
  refine va_get (D := DG E) (ci := 8) (v := .int (B h0 6)) (C := RX8) (T := TX8) (N := 9) hx hb hts iw_X8 hown hK.1 (va_one ha_1) 0 rfl rfl 6 (by decide) (hts _ fl_X8_56) (fun _ h9 => h9) rfl dX8_tellSequence_1 ?_
  refine lv_if_ne (tgt := 21) hx hb dX8_tellSequence_4 (by decide) (fun c_2 => ?_) (fun c_2 => ?_)
  · simp only [lt_I, le_I, eq_I, i_0, i_1, i_2, i_3, i_4, i_5, i_6, i_7, i_8, i_10, i_12, i_16, i_20, i_23, i_24, i_31, i_32, i_63, i_64, i_m1] at c_2
    exact W.vret hx hb hr (fun t ht hW9 => ⟨⟨B, rfl, ⟨hW, Fr.rf, (Or.inl ⟨c_2, rfl⟩)⟩, (by show TX E G B R t.heap; rw [ht]; exact hT)⟩, hS.F ht⟩) hS.2.2 dX8_tellSequence_21
  · simp only [lt_I, le_I, eq_I, i_0, i_1, i_2, i_3, i_4, i_5, i_6, i_7, i_8, i_10, i_12, i_16, i_20, i_23, i_24, i_31, i_32, i_63, i_64, i_m1] at c_2
    refine lv_aload_n hx hb dX8_tellSequence_7 rfl (lv_at hl 0 rfl) ?_
    refine lv_aload_n hx hb dX8_tellSequence_8 rfl (lv_at hl 0 rfl) ?_
    refine va_get (D := DG E) (ci := 8) (v := .int (B h0 4)) (C := RX8) (T := TX8) (N := 9) hx hb hts iw_X8 hown hK.1 (va_one ha_1) 0 rfl rfl 4 (by decide) (hts _ fl_X8_49) (fun _ h9 => h9) rfl dX8_tellSequence_9 ?_
    refine lv_iconst (v := 1) hx hb dX8_tellSequence_12 (by decide) ?_
    refine va_callv (rnV (fun H => TX E G B R H) (As := [.int (B h0 4), .int 1]) (rest := []) ⟨hx, hb, hml, hown, hts⟩ (x_X8_refuse l E z0 G hGz B R hW h0 (B h0 4) (1 : Int32) hG) (cwV 2 hts (gdV ml_X8_85 im_X8_refuse se_X8_X8_refuse in_X8 co_X8_refuse rfl) rfl rfl rfl (by decide +kernel) ⟨Nat.le_of_ble_eq_true rfl, Nat.le_of_ble_eq_true rfl⟩) hT (fun U hU hW => hK.go hW hS hAz hU) (va_recv hK.1 (va_one ha_1) (ci := 8) (q0 := 0) rfl rfl) rfl rfl hl.1 rfl (lv_room (Nat.le_of_ble_eq_true rfl)) dX8_tellSequence_13 ⟨Nat.le_of_ble_eq_true rfl, Nat.le_of_ble_eq_true rfl⟩) hS (fun q _ h => mL (L' := [4, 31]) (L := [10, 4, 31]) (by decide) h) (fun q h => mL (L' := [4, 31]) (L := [10, 4, 31]) (by decide) h) (fun U_4 t H locs ht hvm hwr_3 hB hz hk hS => ?_)
    have hT : TX E G U_4 R H := by rw [ht] at hB; exact hB
    have hWr_3 : TW G U_4 R := hwr_3.1
    have hW := hWr_3
    have hFr_3 : Fr G [4, 31] B U_4 := hwr_3.2.1
    have hCr_3 : C_X8_refuse G B R h0 (B h0 4) (1 : Int32) U_4 := hwr_3.2.2
    refine lv_aload_n hx hb dX8_tellSequence_16 rfl (lv_at hl 0 rfl) ?_
    refine lv_iconst (v := 1) hx hb dX8_tellSequence_17 (by decide) ?_
    have ha_5 := tx_10 hT hG
    refine rr_put (D := DG E) (ci := 8) (v := .int 1) (ty := .boolean) (C := RX8) (T := TX8) (N := 9) hx hb hts iw_X8 tyX8 tyX8_ok nmX8 hown hK.1 ha_5 hS (by show G h0 ∈ ([10, 4, 31] : List Nat); rw [hG]; decide) rfl 6 (by decide) (hts _ fl_X8_56) (fun _ h9 => h9) rfl (by decide +kernel) rfl rfl (Nat.le_of_ble_eq_true rfl) dX8_tellSequence_18 (fun H locs hn ho hz hS => ?_)
    obtain ⟨B_6, eB_6⟩ : ∃ z : AA, z = uA U_4 h0 (upd (U_4 h0) 6 1) := ⟨_, rfl⟩
    have sB_6 : B_6 h0 6 = 1 := by rw [eB_6, uA_s]; exact upd_s
    have nB_6 : ∀ k, k ≠ 6 → B_6 h0 k = U_4 h0 k := fun k hk => by rw [eB_6, uA_s]; exact upd_n hk
    have fB_6 : ∀ c, G c ≠ 10 → B_6 c = U_4 c := fun c hc => by rw [eB_6]; exact uA_n (fun e => hc (by rw [e]; exact hG))
    have hT : TX E G B_6 R H := by rw [eB_6]; exact hT.w (by rw [hG]; exact hn) ho
    have hWB_6 : TW G B_6 R := by rw [eB_6]; exact hWr_3.w (by rw [hG]; exact tw_10 hWr_3 hG)
    have hW := hWB_6
    exact W.vret hx hb hr (fun t ht hW9 => ⟨⟨B_6, rfl, ⟨hW, (Fr.w (Fr.c Fr.rf hFr_3 (by decide)) hG (by decide) eB_6), (Or.inr ⟨c_2, U_4, hFr_3, hCr_3, B_6, eB_6, rfl⟩)⟩, (by show TX E G B_6 R t.heap; rw [ht]; exact hT)⟩, hS.F ht⟩) hS.2.2 dX8_tellSequence_21
theorem dX8_replyOne_0 : decode cX8_replyOne 0 = .ok (.aload_n 0, 1) := by decide +kernel
theorem dX8_replyOne_1 : decode cX8_replyOne 1 = .ok (.getfield 30, 3) := by decide +kernel
theorem dX8_replyOne_4 : decode cX8_replyOne 4 = .ok (.aload_n 0, 1) := by decide +kernel
theorem dX8_replyOne_5 : decode cX8_replyOne 5 = .ok (.getfield 22, 3) := by decide +kernel
theorem dX8_replyOne_8 : decode cX8_replyOne 8 = .ok (.iconst 4, 1) := by decide +kernel
theorem dX8_replyOne_9 : decode cX8_replyOne 9 = .ok (.iload_n 1, 1) := by decide +kernel
theorem dX8_replyOne_10 : decode cX8_replyOne 10 = .ok (.invokevirtual 167, 3) := by decide +kernel
theorem dX8_replyOne_13 : decode cX8_replyOne 13 = .ok (.astore_n 3, 1) := by decide +kernel
theorem dX8_replyOne_14 : decode cX8_replyOne 14 = .ok (.aload_n 3, 1) := by decide +kernel
theorem dX8_replyOne_15 : decode cX8_replyOne 15 = .ok (.iconst 1, 1) := by decide +kernel
theorem dX8_replyOne_16 : decode cX8_replyOne 16 = .ok (.putfield 128, 3) := by decide +kernel
theorem dX8_replyOne_19 : decode cX8_replyOne 19 = .ok (.aload_n 3, 1) := by decide +kernel
theorem dX8_replyOne_20 : decode cX8_replyOne 20 = .ok (.getfield 176, 3) := by decide +kernel
theorem dX8_replyOne_23 : decode cX8_replyOne 23 = .ok (.iconst 0, 1) := by decide +kernel
theorem dX8_replyOne_24 : decode cX8_replyOne 24 = .ok (.iload_n 2, 1) := by decide +kernel
theorem dX8_replyOne_25 : decode cX8_replyOne 25 = .ok (.iastore, 1) := by decide +kernel
theorem dX8_replyOne_26 : decode cX8_replyOne 26 = .ok (.return_, 1) := by decide +kernel
set_option maxHeartbeats 8000000 in
set_option maxRecDepth 100000 in
theorem x_X8_replyOne (l : Launch) (E : EE) (z0 : Nat) (G : Nat → Nat) (hGz : ∀ q, G q ≠ 0 → z0 ≤ q) (B : AA) (R : RR) (hW : TW G B R) (h0 : Nat) (p0 : Int32) (p1 : Int32) (hG : G h0 = 10) : Met l yX8_replyOne [Cond.code yX8_replyOne cX8_replyOne 4 none] ({ frames := 2, cells := 0, slots := 0, locals := 47 } : Room) (va_Pc [.ref h0, .int p0, .int p1] (fun U => TX E G B R U.heap ∧ KS E z0 U)) (va_Qv (fun (u : AA) => (TW G u R) ∧ (Fr G ([4, 31, 32] : List Nat) B u) ∧ (C_X8_replyOne G B R h0 p0 p1 u)) (fun u t => TX E G u R t.heap) (fun q : Nat => G q ∈ ([4, 31, 32] : List Nat))) 0 0 (fun q : Nat => G q ∈ ([4, 31, 32] : List Nat)) := by
  refine Met.ofW (cc := cX8_replyOne) (maxL := 4) (ret := none) (by decide) rfl ?_
  intro p e s m args below meth c s₁ B9 hml hv
  obtain ⟨rfl, hT, hK⟩ := hv
  have hx := B9.exec
  have hb := B9.bytes
  have hr := B9.returns
  have hts : ∀ w ∈ TS, w.before ([.ref h0, .int p0, .int p1] : List Value).toArray s = true := fun w hw => hK.2.1 w hw _
  have hown : s.vm.findClass RX8 = some m.cls := findClass_of_methodNamed B9.named
  have hlocks := B9.notSynchronized
  have hS : va_S (fun q : Nat => G q ∈ ([4, 31, 32] : List Nat)) s.heap s.heap [] := va_S.rf
  have hAz : ∀ q, (fun q : Nat => G q ∈ ([4, 31, 32] : List Nat)) q → z0 ≤ q := zL hGz (by decide)
  have hW_0 := hW
  have hl := lv_entry ([.ref h0, .int p0, .int p1]) (n := 4) (Nat.le_of_ble_eq_true rfl)
  rw [lg_entry_eq]
  generalize (lg_sl ([.ref h0, .int p0, .int p1]) ++ List.replicate (4 - (lg_sl ([.ref h0, .int p0, .int p1])).length) Slot.unset).toArray = ls at hl ⊢
  have hl : lv_has ls 4 [(0, .ref h0), (1, .int p0), (2, .int p1)] := hl
  refine lv_aload_n hx hb dX8_replyOne_0 rfl (lv_at hl 0 rfl) ?_
  have ha_1 := tx_10 hT hG
  have hg_2 : G (R h0 2) = 4 := (tw_10 hW hG).2.2.1
  refine va_get (D := DG E) (ci := 8) (v := .ref (R h0 2)) (C := RX8) (T := TX8) (N := 9) hx hb hts iw_X8 hown hK.1 (va_one ha_1) 0 rfl rfl 2 (by decide) (hts _ fl_X8_30) (fun _ h9 => h9) rfl dX8_replyOne_1 ?_
  refine lv_aload_n hx hb dX8_replyOne_4 rfl (lv_at hl 0 rfl) ?_
  have hb_3 := (tw_10 hW_0 hG).1
  refine va_get (D := DG E) (ci := 8) (v := .int (B h0 0)) (C := RX8) (T := TX8) (N := 9) hx hb hts iw_X8 hown hK.1 (va_one ha_1) 0 rfl rfl 0 (by decide) (hts _ fl_X8_22) (fun _ h9 => h9) rfl dX8_replyOne_5 ?_
  refine lv_iconst (v := 4) hx hb dX8_replyOne_8 (by decide) ?_
  refine lv_iload_n hx hb dX8_replyOne_9 rfl (lv_at hl 1 rfl) ?_
  have ha_4 := tx_4 hT hg_2
  refine va_callr (rnV (fun H => TX E G B R H) (As := [.int (B h0 0), .int 4, .int p0]) (rest := []) ⟨hx, hb, hml, hown, hts⟩ (x_X0_carry l E z0 G hGz B R hW (R h0 2) (B h0 0) (4 : Int32) p0 hg_2 (show 0 ≤ (B h0 0).toInt ∧ (B h0 0).toInt ≤ 3 from by have := i_4; first | decide | omega)) (cwV 3 hts (gdV ml_X8_167 im_X0_carry se_X0_X0_carry in_X0 co_X0_carry rfl) rfl rfl rfl (by decide +kernel) ⟨Nat.le_of_ble_eq_true rfl, Nat.le_of_ble_eq_true rfl⟩) hT (fun U hU hW => hK.go hW hS hAz hU) (va_recv hK.1 (va_one ha_4) (ci := 0) (q0 := 0) rfl rfl) rfl rfl hl.1 rfl (lv_room (Nat.le_of_ble_eq_true rfl)) dX8_replyOne_10 ⟨Nat.le_of_ble_eq_true rfl, Nat.le_of_ble_eq_true rfl⟩) hS (fun q _ h => mL (L' := [4, 31]) (L := [4, 31, 32]) (by decide) h) (fun q h => mL (L' := [4, 31]) (L := [4, 31, 32]) (by decide) h) (fun U_6 r_5 t H locs ht hvm hwr_5 hB hz hk hS => ?_)
  have hRr_5 := hB.1
  have hB := hB.2
  have hT : TX E G U_6 R H := by rw [ht] at hB; exact hB
  have hgr_5 : G r_5 = 31 := hRr_5.1
  have hWr_5 : TW G U_6 R := hRr_5.2.1
  have hW := hWr_5
  have hFr_5 : Fr G [4, 31] B U_6 := hRr_5.2.2.1
  have hCr_5 : C_X0_carry G B R (R h0 2) (B h0 0) (4 : Int32) p0 U_6 r_5 := hRr_5.2.2.2
  refine lv_astore_n (lv' := [(3, .ref r_5), (0, .ref h0), (1, .int p0), (2, .int p1)]) hx hb dX8_replyOne_13 rfl hl (by decide) rfl (fun ls hl => ?_)
  refine lv_aload_n hx hb dX8_replyOne_14 rfl (lv_at hl 0 rfl) ?_
  refine lv_iconst (v := 1) hx hb dX8_replyOne_15 (by decide) ?_
  have ha_7 := tx_31 hT hgr_5
  have h9_8 := tw_31 hWr_5 hgr_5
  refine rr_put (D := DG E) (ci := 2) (v := .int 1) (ty := .int) (C := RX2) (T := TX2) (N := 8) hx hb hts iw_X2 tyX2 tyX2_ok nmX2 hown hK.1 ha_7 hS (by show G r_5 ∈ ([4, 31, 32] : List Nat); rw [hgr_5]; decide) rfl 3 (by decide) (hts _ fl_X8_128) (fun _ h9 => h9) rfl (by decide +kernel) rfl rfl (Nat.le_of_ble_eq_true rfl) dX8_replyOne_16 (fun H locs hn ho hz hS => ?_)
  obtain ⟨B_9, eB_9⟩ : ∃ z : AA, z = uA U_6 r_5 (upd (U_6 r_5) 3 1) := ⟨_, rfl⟩
  have sB_9 : B_9 r_5 3 = 1 := by rw [eB_9, uA_s]; exact upd_s
  have nB_9 : ∀ k, k ≠ 3 → B_9 r_5 k = U_6 r_5 k := fun k hk => by rw [eB_9, uA_s]; exact upd_n hk
  have fB_9 : ∀ c, G c ≠ 31 → B_9 c = U_6 c := fun c hc => by rw [eB_9]; exact uA_n (fun e => hc (by rw [e]; exact hgr_5))
  have hT : TX E G B_9 R H := by rw [eB_9]; exact hT.w (by rw [hgr_5]; exact hn) ho
  have hWB_9 : TW G B_9 R := by rw [eB_9]; exact hWr_5.w (by rw [hgr_5]; exact ⟨h9_8.1, (show (1 : Int32).toInt ≤ 12 from by decide), h9_8.2.2⟩)
  have hW := hWB_9
  refine lv_aload_n hx hb dX8_replyOne_19 rfl (lv_at hl 0 rfl) ?_
  have ha_10 := tx_31 hT hgr_5
  have hg_11 : G (R r_5 7) = 32 := (tw_31 hW hgr_5).2.2
  refine va_get (D := DG E) (ci := 2) (v := .ref (R r_5 7)) (C := RX2) (T := TX2) (N := 8) hx hb hts iw_X2 hown hK.1 (va_one ha_10) 0 rfl rfl 7 (by decide) (hts _ fl_X8_176) (fun _ h9 => h9) rfl dX8_replyOne_20 ?_
  refine lv_iconst (v := 0) hx hb dX8_replyOne_23 (by decide) ?_
  refine lv_iload_n hx hb dX8_replyOne_24 rfl (lv_at hl 3 rfl) ?_
  have ha_12 := tx_32 hT hg_11
  refine rr_iast (D := DG E) hx hb hK.1 0 ha_12 hS (by show G (R r_5 7) ∈ ([4, 31, 32] : List Nat); rw [hg_11]; decide) rfl (show vp_in (0) 4 from vp_in_iff.mpr ⟨by decide, by decide⟩) dX8_replyOne_25 (fun H locs hn ho hz hS => ?_)
  obtain ⟨B_13, eB_13⟩ : ∃ z : AA, z = uA B_9 (R r_5 7) (upd (B_9 (R r_5 7)) 0 p1) := ⟨_, rfl⟩
  have sB_13 : B_13 (R r_5 7) 0 = p1 := by rw [eB_13, uA_s]; exact upd_s
  have nB_13 : ∀ k, k ≠ 0 → B_13 (R r_5 7) k = B_9 (R r_5 7) k := fun k hk => by rw [eB_13, uA_s]; exact upd_n hk
  have fB_13 : ∀ c, G c ≠ 32 → B_13 c = B_9 c := fun c hc => by rw [eB_13]; exact uA_n (fun e => hc (by rw [e]; exact hg_11))
  have hT : TX E G B_13 R H := by rw [eB_13]; exact hT.w (by rw [hg_11]; exact hn) ho
  have hWB_13 : TW G B_13 R := by rw [eB_13]; exact hWB_9.w (by rw [hg_11]; exact trivial)
  have hW := hWB_13
  exact W.vret hx hb hr (fun t ht hW9 => ⟨⟨B_13, rfl, ⟨hW, (Fr.w (Fr.w (Fr.c Fr.rf hFr_5 (by decide)) hgr_5 (by decide) eB_9) hg_11 (by decide) eB_13), ⟨r_5, U_6, hFr_5, hCr_5, B_9, eB_9, B_13, eB_13, rfl⟩⟩, (by show TX E G B_13 R t.heap; rw [ht]; exact hT)⟩, hS.F ht⟩) hS.2.2 dX8_replyOne_26
theorem dX8_replyCells_0 : decode cX8_replyCells 0 = .ok (.iconst 0, 1) := by decide +kernel
theorem dX8_replyCells_1 : decode cX8_replyCells 1 = .ok (.istore_n 2, 1) := by decide +kernel
theorem dX8_replyCells_2 : decode cX8_replyCells 2 = .ok (.iload_n 2, 1) := by decide +kernel
theorem dX8_replyCells_3 : decode cX8_replyCells 3 = .ok (.aload_n 1, 1) := by decide +kernel
theorem dX8_replyCells_4 : decode cX8_replyCells 4 = .ok (.getfield 128, 3) := by decide +kernel
theorem dX8_replyCells_7 : decode cX8_replyCells 7 = .ok (.if_icmp .ge 52, 3) := by decide +kernel
theorem dX8_replyCells_10 : decode cX8_replyCells 10 = .ok (.aload_n 1, 1) := by decide +kernel
theorem dX8_replyCells_11 : decode cX8_replyCells 11 = .ok (.getfield 59, 3) := by decide +kernel
theorem dX8_replyCells_14 : decode cX8_replyCells 14 = .ok (.iload_n 2, 1) := by decide +kernel
theorem dX8_replyCells_15 : decode cX8_replyCells 15 = .ok (.iconst 4, 1) := by decide +kernel
theorem dX8_replyCells_16 : decode cX8_replyCells 16 = .ok (.idiv, 1) := by decide +kernel
theorem dX8_replyCells_17 : decode cX8_replyCells 17 = .ok (.invokestatic 164, 3) := by decide +kernel
theorem dX8_replyCells_20 : decode cX8_replyCells 20 = .ok (.istore_n 3, 1) := by decide +kernel
theorem dX8_replyCells_21 : decode cX8_replyCells 21 = .ok (.aload_n 0, 1) := by decide +kernel
theorem dX8_replyCells_22 : decode cX8_replyCells 22 = .ok (.getfield 30, 3) := by decide +kernel
theorem dX8_replyCells_25 : decode cX8_replyCells 25 = .ok (.aload_n 0, 1) := by decide +kernel
theorem dX8_replyCells_26 : decode cX8_replyCells 26 = .ok (.getfield 22, 3) := by decide +kernel
theorem dX8_replyCells_29 : decode cX8_replyCells 29 = .ok (.iconst 4, 1) := by decide +kernel
theorem dX8_replyCells_30 : decode cX8_replyCells 30 = .ok (.iload_n 3, 1) := by decide +kernel
theorem dX8_replyCells_31 : decode cX8_replyCells 31 = .ok (.invokevirtual 167, 3) := by decide +kernel
theorem dX8_replyCells_34 : decode cX8_replyCells 34 = .ok (.aload_n 0, 1) := by decide +kernel
theorem dX8_replyCells_35 : decode cX8_replyCells 35 = .ok (.getfield 26, 3) := by decide +kernel
theorem dX8_replyCells_38 : decode cX8_replyCells 38 = .ok (.aload_n 1, 1) := by decide +kernel
theorem dX8_replyCells_39 : decode cX8_replyCells 39 = .ok (.getfield 151, 3) := by decide +kernel
theorem dX8_replyCells_42 : decode cX8_replyCells 42 = .ok (.iload_n 2, 1) := by decide +kernel
theorem dX8_replyCells_43 : decode cX8_replyCells 43 = .ok (.iadd, 1) := by decide +kernel
theorem dX8_replyCells_44 : decode cX8_replyCells 44 = .ok (.aload_n 1, 1) := by decide +kernel
theorem dX8_replyCells_45 : decode cX8_replyCells 45 = .ok (.getfield 128, 3) := by decide +kernel
theorem dX8_replyCells_48 : decode cX8_replyCells 48 = .ok (.iload_n 2, 1) := by decide +kernel
theorem dX8_replyCells_49 : decode cX8_replyCells 49 = .ok (.isub, 1) := by decide +kernel
theorem dX8_replyCells_50 : decode cX8_replyCells 50 = .ok (.invokevirtual 173, 3) := by decide +kernel
theorem dX8_replyCells_53 : decode cX8_replyCells 53 = .ok (.iinc 2 4, 3) := by decide +kernel
theorem dX8_replyCells_56 : decode cX8_replyCells 56 = .ok (.goto (-54), 3) := by decide +kernel
theorem dX8_replyCells_59 : decode cX8_replyCells 59 = .ok (.return_, 1) := by decide +kernel
set_option maxHeartbeats 8000000 in
set_option maxRecDepth 100000 in
theorem x_X8_replyCells (l : Launch) (E : EE) (z0 : Nat) (G : Nat → Nat) (hGz : ∀ q, G q ≠ 0 → z0 ≤ q) (B : AA) (R : RR) (hW : TW G B R) (h0 : Nat) (p0 : Nat) (hG : G h0 = 10) (hG0 : G p0 = 31) : Met l yX8_replyCells [Cond.code yX8_replyCells cX8_replyCells 4 none] ({ frames := 3, cells := 0, slots := 0, locals := 65 } : Room) (va_Pc [.ref h0, .ref p0] (fun U => TX E G B R U.heap ∧ KS E z0 U)) (va_Qv (fun (u : AA) => (TW G u R) ∧ (Fr G ([4, 31, 32] : List Nat) B u) ∧ (C_X8_replyCells G B R h0 p0 u)) (fun u t => TX E G u R t.heap) (fun q : Nat => G q ∈ ([4, 31, 32] : List Nat))) 0 0 (fun q : Nat => G q ∈ ([4, 31, 32] : List Nat)) := by
  refine Met.ofW (cc := cX8_replyCells) (maxL := 4) (ret := none) (by decide) rfl ?_
  intro p e s m args below meth c s₁ B9 hml hv
  obtain ⟨rfl, hT, hK⟩ := hv
  have hx := B9.exec
  have hb := B9.bytes
  have hr := B9.returns
  have hts : ∀ w ∈ TS, w.before ([.ref h0, .ref p0] : List Value).toArray s = true := fun w hw => hK.2.1 w hw _
  have hown : s.vm.findClass RX8 = some m.cls := findClass_of_methodNamed B9.named
  have hlocks := B9.notSynchronized
  have hS : va_S (fun q : Nat => G q ∈ ([4, 31, 32] : List Nat)) s.heap s.heap [] := va_S.rf
  have hAz : ∀ q, (fun q : Nat => G q ∈ ([4, 31, 32] : List Nat)) q → z0 ≤ q := zL hGz (by decide)
  have hW_0 := hW
  have hl := lv_entry ([.ref h0, .ref p0]) (n := 4) (Nat.le_of_ble_eq_true rfl)
  rw [lg_entry_eq]
  generalize (lg_sl ([.ref h0, .ref p0]) ++ List.replicate (4 - (lg_sl ([.ref h0, .ref p0])).length) Slot.unset).toArray = ls at hl ⊢
  have hl : lv_has ls 4 [(0, .ref h0), (1, .ref p0)] := hl
  refine lv_iconst (v := 0) hx hb dX8_replyCells_0 (by decide) ?_
  refine lv_istore_n (lv' := [(2, .int 0), (0, .ref h0), (1, .ref p0)]) hx hb dX8_replyCells_1 rfl hl (by decide) rfl (fun ls hl => ?_)
  refine lv_iload_n hx hb dX8_replyCells_2 rfl (lv_at hl 0 rfl) ?_
  refine lv_aload_n hx hb dX8_replyCells_3 rfl (lv_at hl 2 rfl) ?_
  have ha_1 := tx_31 hT hG0
  have hb_2 := (tw_31 hW_0 hG0).2.1
  refine va_get (D := DG E) (ci := 2) (v := .int (B p0 3)) (C := RX2) (T := TX2) (N := 8) hx hb hts iw_X2 hown hK.1 (va_one ha_1) 0 rfl rfl 3 (by decide) (hts _ fl_X8_128) (fun _ h9 => h9) rfl dX8_replyCells_4 ?_
  refine lv_icmp_ge (tgt := 59) hx hb dX8_replyCells_7 (by decide) (fun c_3 => ?_) (fun c_3 => ?_)
  · simp only [lt_I, le_I, eq_I, i_0, i_1, i_2, i_3, i_4, i_5, i_6, i_7, i_8, i_10, i_12, i_16, i_20, i_23, i_24, i_31, i_32, i_63, i_64, i_m1] at c_3
    exact W.vret hx hb hr (fun t ht hW9 => ⟨⟨B, rfl, ⟨hW, Fr.rf, (Or.inl ⟨c_3, rfl⟩)⟩, (by show TX E G B R t.heap; rw [ht]; exact hT)⟩, hS.F ht⟩) hS.2.2 dX8_replyCells_59
  · simp only [lt_I, le_I, eq_I, i_0, i_1, i_2, i_3, i_4, i_5, i_6, i_7, i_8, i_10, i_12, i_16, i_20, i_23, i_24, i_31, i_32, i_63, i_64, i_m1] at c_3
    refine lv_aload_n hx hb dX8_replyCells_10 rfl (lv_at hl 2 rfl) ?_
    refine va_get (D := DG E) (ci := 2) (v := .int (B p0 2)) (C := RX2) (T := TX2) (N := 8) hx hb hts iw_X2 hown hK.1 (va_one ha_1) 0 rfl rfl 2 (by decide) (hts _ fl_X8_59) (fun _ h9 => h9) rfl dX8_replyCells_11 ?_
    refine lv_iload_n hx hb dX8_replyCells_14 rfl (lv_at hl 0 rfl) ?_
    refine lv_iconst (v := 4) hx hb dX8_replyCells_15 (by decide) ?_
    refine lv_idiv hx hb dX8_replyCells_16 (by decide) ?_
    refine W.eq (g2 := F0 m 17 ls [.int 0, .int (B p0 2)]) (by rfl) ?_
    refine rnSN (As := [.int (B p0 2), .int 0]) (rest := []) ⟨hx, hb, hml, hown, hts⟩ (c_X9_after l ((B p0 2)) 0) ⟨va_cnB (host := RX9) 2 hts (gd1 co_X9_after rfl) rfl rfl rfl (hK.2.1 _ mn_X8_164 #[]) (hts _ in_X9) (by decide +kernel) ⟨Nat.le_of_ble_eq_true rfl, Nat.le_of_ble_eq_true rfl⟩, hts _ st_X9_after, trivial⟩ rfl rfl hl.1 rfl (lv_room (Nat.le_of_ble_eq_true rfl)) dX8_replyCells_17 ⟨Nat.le_of_ble_eq_true rfl, Nat.le_of_ble_eq_true rfl⟩ ?_
    refine W.eq (g2 := F0 m 20 ls [.int (((B p0 2) + 0) &&& 63)]) (by rfl) ?_
    refine lv_topi (fun x_4 ex_4 => ?_)
    have fx_4 := s_and63 ((B p0 2) + 0); rw [← ex_4] at fx_4
    refine lv_istore_n (lv' := [(3, .int x_4), (2, .int 0), (0, .ref h0), (1, .ref p0)]) hx hb dX8_replyCells_20 rfl hl (by decide) rfl (fun ls hl => ?_)
    refine lv_aload_n hx hb dX8_replyCells_21 rfl (lv_at hl 2 rfl) ?_
    have ha_5 := tx_10 hT hG
    have hg_6 : G (R h0 2) = 4 := (tw_10 hW hG).2.2.1
    refine va_get (D := DG E) (ci := 8) (v := .ref (R h0 2)) (C := RX8) (T := TX8) (N := 9) hx hb hts iw_X8 hown hK.1 (va_one ha_5) 0 rfl rfl 2 (by decide) (hts _ fl_X8_30) (fun _ h9 => h9) rfl dX8_replyCells_22 ?_
    refine lv_aload_n hx hb dX8_replyCells_25 rfl (lv_at hl 2 rfl) ?_
    have hb_7 := (tw_10 hW_0 hG).1
    refine va_get (D := DG E) (ci := 8) (v := .int (B h0 0)) (C := RX8) (T := TX8) (N := 9) hx hb hts iw_X8 hown hK.1 (va_one ha_5) 0 rfl rfl 0 (by decide) (hts _ fl_X8_22) (fun _ h9 => h9) rfl dX8_replyCells_26 ?_
    refine lv_iconst (v := 4) hx hb dX8_replyCells_29 (by decide) ?_
    refine lv_iload_n hx hb dX8_replyCells_30 rfl (lv_at hl 0 rfl) ?_
    have ha_8 := tx_4 hT hg_6
    refine va_callr (rnV (fun H => TX E G B R H) (As := [.int (B h0 0), .int 4, .int x_4]) (rest := []) ⟨hx, hb, hml, hown, hts⟩ (x_X0_carry l E z0 G hGz B R hW (R h0 2) (B h0 0) (4 : Int32) x_4 hg_6 (show 0 ≤ (B h0 0).toInt ∧ (B h0 0).toInt ≤ 3 from by have := i_4; first | decide | omega)) (cwV 3 hts (gdV ml_X8_167 im_X0_carry se_X0_X0_carry in_X0 co_X0_carry rfl) rfl rfl rfl (by decide +kernel) ⟨Nat.le_of_ble_eq_true rfl, Nat.le_of_ble_eq_true rfl⟩) hT (fun U hU hW => hK.go hW hS hAz hU) (va_recv hK.1 (va_one ha_8) (ci := 0) (q0 := 0) rfl rfl) rfl rfl hl.1 rfl (lv_room (Nat.le_of_ble_eq_true rfl)) dX8_replyCells_31 ⟨Nat.le_of_ble_eq_true rfl, Nat.le_of_ble_eq_true rfl⟩) hS (fun q _ h => mL (L' := [4, 31]) (L := [4, 31, 32]) (by decide) h) (fun q h => mL (L' := [4, 31]) (L := [4, 31, 32]) (by decide) h) (fun U_10 r_9 t H locs ht hvm hwr_9 hB hz hk hS => ?_)
    have hRr_9 := hB.1
    have hB := hB.2
    have hT : TX E G U_10 R H := by rw [ht] at hB; exact hB
    have hgr_9 : G r_9 = 31 := hRr_9.1
    have hWr_9 : TW G U_10 R := hRr_9.2.1
    have hW := hWr_9
    have hFr_9 : Fr G [4, 31] B U_10 := hRr_9.2.2.1
    have hCr_9 : C_X0_carry G B R (R h0 2) (B h0 0) (4 : Int32) x_4 U_10 r_9 := hRr_9.2.2.2
    refine lv_aload_n hx hb dX8_replyCells_34 rfl (lv_at hl 2 rfl) ?_
    have ha_11 := tx_10 hT hG
    have hg_12 : G (R h0 1) = 5 := (tw_10 hW hG).2.1
    refine va_get (D := DG E) (ci := 8) (v := .ref (R h0 1)) (C := RX8) (T := TX8) (N := 9) hx hb hts iw_X8 hown hK.1 (va_one ha_11) 0 rfl rfl 1 (by decide) (hts _ fl_X8_26) (fun _ h9 => h9) rfl dX8_replyCells_35 ?_
    refine lv_aload_n hx hb dX8_replyCells_38 rfl (lv_at hl 3 rfl) ?_
    have ha_13 := tx_31 hT hG0
    refine va_get (D := DG E) (ci := 2) (v := .int (U_10 p0 5)) (C := RX2) (T := TX2) (N := 8) hx hb hts iw_X2 hown hK.1 (va_one ha_13) 0 rfl rfl 5 (by decide) (hts _ fl_X8_151) (fun _ h9 => h9) rfl dX8_replyCells_39 ?_
    refine lv_iload_n hx hb dX8_replyCells_42 rfl (lv_at hl 1 rfl) ?_
    refine lv_iadd hx hb dX8_replyCells_43 ?_
    refine lv_topi (fun x_14 ex_14 => ?_)
    refine lv_aload_n hx hb dX8_replyCells_44 rfl (lv_at hl 3 rfl) ?_
    have hb_15 := (tw_31 hWr_9 hG0).2.1
    refine va_get (D := DG E) (ci := 2) (v := .int (U_10 p0 3)) (C := RX2) (T := TX2) (N := 8) hx hb hts iw_X2 hown hK.1 (va_one ha_13) 0 rfl rfl 3 (by decide) (hts _ fl_X8_128) (fun _ h9 => h9) rfl dX8_replyCells_45 ?_
    refine lv_iload_n hx hb dX8_replyCells_48 rfl (lv_at hl 1 rfl) ?_
    refine lv_isub hx hb dX8_replyCells_49 ?_
    refine lv_topi (fun x_16 ex_16 => ?_)
    have ha_17 := tx_31 hT hgr_9
    refine va_callv (rnV (fun H => TX E G U_10 R H) (As := [.ref (R h0 1), .int x_14, .int x_16]) (rest := []) ⟨hx, hb, hml, hown, hts⟩ (x_X2_load l E z0 G hGz U_10 R hW r_9 (R h0 1) x_14 x_16 hgr_9 hg_12) (cwV 3 hts (gdV ml_X8_173 im_X2_load se_X2_X2_load in_X2 co_X2_load rfl) rfl rfl rfl (by decide +kernel) ⟨Nat.le_of_ble_eq_true rfl, Nat.le_of_ble_eq_true rfl⟩) hT (fun U hU hW => hK.go hW hS hAz hU) (va_recv hK.1 (va_one ha_17) (ci := 2) (q0 := 0) rfl rfl) rfl rfl hl.1 rfl (lv_room (Nat.le_of_ble_eq_true rfl)) dX8_replyCells_50 ⟨Nat.le_of_ble_eq_true rfl, Nat.le_of_ble_eq_true rfl⟩) hS (fun q _ h => mL (L' := [31, 32]) (L := [4, 31, 32]) (by decide) h) (fun q h => mL (L' := [31, 32]) (L := [4, 31, 32]) (by decide) h) (fun U_19 t H locs ht hvm hwr_18 hB hz hk hS => ?_)
    have hT : TX E G U_19 R H := by rw [ht] at hB; exact hB
    have hWr_18 : TW G U_19 R := hwr_18.1
    have hW := hWr_18
    have hFr_18 : Fr G [31, 32] U_10 U_19 := hwr_18.2.1
    have hCr_18 : C_X2_load G U_10 R r_9 (R h0 1) x_14 x_16 U_19 := hwr_18.2.2
    refine lv_iinc (v := 4) (lv' := [(2, .int 4), (3, .int x_4), (0, .ref h0), (1, .ref p0)]) hx hb dX8_replyCells_53 hl (k := 1) rfl (by decide) (by decide) rfl (fun ls hl => ?_)
    refine lv_goto (tgt := 2) hx hb dX8_replyCells_56 (by decide) ?_
    refine lv_iload_n hx hb dX8_replyCells_2 rfl (lv_at hl 0 rfl) ?_
    refine lv_aload_n hx hb dX8_replyCells_3 rfl (lv_at hl 3 rfl) ?_
    have ha_20 := tx_31 hT hG0
    have hb_21 := (tw_31 hWr_18 hG0).2.1
    refine va_get (D := DG E) (ci := 2) (v := .int (U_19 p0 3)) (C := RX2) (T := TX2) (N := 8) hx hb hts iw_X2 hown hK.1 (va_one ha_20) 0 rfl rfl 3 (by decide) (hts _ fl_X8_128) (fun _ h9 => h9) rfl dX8_replyCells_4 ?_
    refine lv_icmp_ge (tgt := 59) hx hb dX8_replyCells_7 (by decide) (fun c_22 => ?_) (fun c_22 => ?_)
    · simp only [lt_I, le_I, eq_I, i_0, i_1, i_2, i_3, i_4, i_5, i_6, i_7, i_8, i_10, i_12, i_16, i_20, i_23, i_24, i_31, i_32, i_63, i_64, i_m1] at c_22
      exact W.vret hx hb hr (fun t ht hW9 => ⟨⟨U_19, rfl, ⟨hW, (Fr.c (Fr.c Fr.rf hFr_9 (by decide)) hFr_18 (by decide)), (Or.inr (Or.inl ⟨c_3, x_4, ex_4, r_9, U_10, hFr_9, hCr_9, x_14, ex_14, x_16, ex_16, U_19, hFr_18, hCr_18, c_22, rfl⟩))⟩, (by show TX E G U_19 R t.heap; rw [ht]; exact hT)⟩, hS.F ht⟩) hS.2.2 dX8_replyCells_59
    · simp only [lt_I, le_I, eq_I, i_0, i_1, i_2, i_3, i_4, i_5, i_6, i_7, i_8, i_10, i_12, i_16, i_20, i_23, i_24, i_31, i_32, i_63, i_64, i_m1] at c_22
      refine lv_aload_n hx hb dX8_replyCells_10 rfl (lv_at hl 3 rfl) ?_
      refine va_get (D := DG E) (ci := 2) (v := .int (U_19 p0 2)) (C := RX2) (T := TX2) (N := 8) hx hb hts iw_X2 hown hK.1 (va_one ha_20) 0 rfl rfl 2 (by decide) (hts _ fl_X8_59) (fun _ h9 => h9) rfl dX8_replyCells_11 ?_
      refine lv_iload_n hx hb dX8_replyCells_14 rfl (lv_at hl 0 rfl) ?_
      refine lv_iconst (v := 4) hx hb dX8_replyCells_15 (by decide) ?_
      refine lv_idiv hx hb dX8_replyCells_16 (by decide) ?_
      refine W.eq (g2 := F0 m 17 ls [.int 1, .int (U_19 p0 2)]) (by rfl) ?_
      refine rnSN (As := [.int (U_19 p0 2), .int 1]) (rest := []) ⟨hx, hb, hml, hown, hts⟩ (c_X9_after l ((U_19 p0 2)) 1) ⟨va_cnB (host := RX9) 2 hts (gd1 co_X9_after rfl) rfl rfl rfl (hK.2.1 _ mn_X8_164 #[]) (hts _ in_X9) (by decide +kernel) ⟨Nat.le_of_ble_eq_true rfl, Nat.le_of_ble_eq_true rfl⟩, hts _ st_X9_after, trivial⟩ rfl rfl hl.1 rfl (lv_room (Nat.le_of_ble_eq_true rfl)) dX8_replyCells_17 ⟨Nat.le_of_ble_eq_true rfl, Nat.le_of_ble_eq_true rfl⟩ ?_
      refine W.eq (g2 := F0 m 20 ls [.int (((U_19 p0 2) + 1) &&& 63)]) (by rfl) ?_
      refine lv_topi (fun x_23 ex_23 => ?_)
      have fx_23 := s_and63 ((U_19 p0 2) + 1); rw [← ex_23] at fx_23
      refine lv_istore_n (lv' := [(3, .int x_23), (2, .int 4), (0, .ref h0), (1, .ref p0)]) hx hb dX8_replyCells_20 rfl hl (by decide) rfl (fun ls hl => ?_)
      refine lv_aload_n hx hb dX8_replyCells_21 rfl (lv_at hl 2 rfl) ?_
      have ha_24 := tx_10 hT hG
      refine va_get (D := DG E) (ci := 8) (v := .ref (R h0 2)) (C := RX8) (T := TX8) (N := 9) hx hb hts iw_X8 hown hK.1 (va_one ha_24) 0 rfl rfl 2 (by decide) (hts _ fl_X8_30) (fun _ h9 => h9) rfl dX8_replyCells_22 ?_
      refine lv_aload_n hx hb dX8_replyCells_25 rfl (lv_at hl 2 rfl) ?_
      have l_25 : U_19 h0 0 = (B h0 0) := ((congrFun (hFr_18 h0 (by rw [hG]; decide)) 0)).trans ((congrFun (hFr_9 h0 (by rw [hG]; decide)) 0))
      refine va_get (D := DG E) (ci := 8) (v := .int (U_19 h0 0)) (C := RX8) (T := TX8) (N := 9) hx hb hts iw_X8 hown hK.1 (va_one ha_24) 0 rfl rfl 0 (by decide) (hts _ fl_X8_22) (fun _ h9 => h9) rfl dX8_replyCells_26 ?_
      refine W.eq (g2 := F0 m 29 ls [.int (B h0 0), .ref (R h0 2)]) (by rw [l_25]) ?_
      refine lv_iconst (v := 4) hx hb dX8_replyCells_29 (by decide) ?_
      refine lv_iload_n hx hb dX8_replyCells_30 rfl (lv_at hl 0 rfl) ?_
      have ha_26 := tx_4 hT hg_6
      refine va_callr (rnV (fun H => TX E G U_19 R H) (As := [.int (B h0 0), .int 4, .int x_23]) (rest := []) ⟨hx, hb, hml, hown, hts⟩ (x_X0_carry l E z0 G hGz U_19 R hW (R h0 2) (B h0 0) (4 : Int32) x_23 hg_6 (show 0 ≤ (B h0 0).toInt ∧ (B h0 0).toInt ≤ 3 from by have := i_4; first | decide | omega)) (cwV 3 hts (gdV ml_X8_167 im_X0_carry se_X0_X0_carry in_X0 co_X0_carry rfl) rfl rfl rfl (by decide +kernel) ⟨Nat.le_of_ble_eq_true rfl, Nat.le_of_ble_eq_true rfl⟩) hT (fun U hU hW => hK.go hW hS hAz hU) (va_recv hK.1 (va_one ha_26) (ci := 0) (q0 := 0) rfl rfl) rfl rfl hl.1 rfl (lv_room (Nat.le_of_ble_eq_true rfl)) dX8_replyCells_31 ⟨Nat.le_of_ble_eq_true rfl, Nat.le_of_ble_eq_true rfl⟩) hS (fun q _ h => mL (L' := [4, 31]) (L := [4, 31, 32]) (by decide) h) (fun q h => mL (L' := [4, 31]) (L := [4, 31, 32]) (by decide) h) (fun U_28 r_27 t H locs ht hvm hwr_27 hB hz hk hS => ?_)
      have hRr_27 := hB.1
      have hB := hB.2
      have hT : TX E G U_28 R H := by rw [ht] at hB; exact hB
      have hgr_27 : G r_27 = 31 := hRr_27.1
      have hWr_27 : TW G U_28 R := hRr_27.2.1
      have hW := hWr_27
      have hFr_27 : Fr G [4, 31] U_19 U_28 := hRr_27.2.2.1
      have hCr_27 : C_X0_carry G U_19 R (R h0 2) (B h0 0) (4 : Int32) x_23 U_28 r_27 := hRr_27.2.2.2
      refine lv_aload_n hx hb dX8_replyCells_34 rfl (lv_at hl 2 rfl) ?_
      have ha_29 := tx_10 hT hG
      refine va_get (D := DG E) (ci := 8) (v := .ref (R h0 1)) (C := RX8) (T := TX8) (N := 9) hx hb hts iw_X8 hown hK.1 (va_one ha_29) 0 rfl rfl 1 (by decide) (hts _ fl_X8_26) (fun _ h9 => h9) rfl dX8_replyCells_35 ?_
      refine lv_aload_n hx hb dX8_replyCells_38 rfl (lv_at hl 3 rfl) ?_
      have ha_30 := tx_31 hT hG0
      refine va_get (D := DG E) (ci := 2) (v := .int (U_28 p0 5)) (C := RX2) (T := TX2) (N := 8) hx hb hts iw_X2 hown hK.1 (va_one ha_30) 0 rfl rfl 5 (by decide) (hts _ fl_X8_151) (fun _ h9 => h9) rfl dX8_replyCells_39 ?_
      refine lv_iload_n hx hb dX8_replyCells_42 rfl (lv_at hl 1 rfl) ?_
      refine lv_iadd hx hb dX8_replyCells_43 ?_
      refine lv_topi (fun x_31 ex_31 => ?_)
      refine lv_aload_n hx hb dX8_replyCells_44 rfl (lv_at hl 3 rfl) ?_
      have hb_32 := (tw_31 hWr_27 hG0).2.1
      refine va_get (D := DG E) (ci := 2) (v := .int (U_28 p0 3)) (C := RX2) (T := TX2) (N := 8) hx hb hts iw_X2 hown hK.1 (va_one ha_30) 0 rfl rfl 3 (by decide) (hts _ fl_X8_128) (fun _ h9 => h9) rfl dX8_replyCells_45 ?_
      refine lv_iload_n hx hb dX8_replyCells_48 rfl (lv_at hl 1 rfl) ?_
      refine lv_isub hx hb dX8_replyCells_49 ?_
      refine lv_topi (fun x_33 ex_33 => ?_)
      have ha_34 := tx_31 hT hgr_27
      refine va_callv (rnV (fun H => TX E G U_28 R H) (As := [.ref (R h0 1), .int x_31, .int x_33]) (rest := []) ⟨hx, hb, hml, hown, hts⟩ (x_X2_load l E z0 G hGz U_28 R hW r_27 (R h0 1) x_31 x_33 hgr_27 hg_12) (cwV 3 hts (gdV ml_X8_173 im_X2_load se_X2_X2_load in_X2 co_X2_load rfl) rfl rfl rfl (by decide +kernel) ⟨Nat.le_of_ble_eq_true rfl, Nat.le_of_ble_eq_true rfl⟩) hT (fun U hU hW => hK.go hW hS hAz hU) (va_recv hK.1 (va_one ha_34) (ci := 2) (q0 := 0) rfl rfl) rfl rfl hl.1 rfl (lv_room (Nat.le_of_ble_eq_true rfl)) dX8_replyCells_50 ⟨Nat.le_of_ble_eq_true rfl, Nat.le_of_ble_eq_true rfl⟩) hS (fun q _ h => mL (L' := [31, 32]) (L := [4, 31, 32]) (by decide) h) (fun q h => mL (L' := [31, 32]) (L := [4, 31, 32]) (by decide) h) (fun U_36 t H locs ht hvm hwr_35 hB hz hk hS => ?_)
      have hT : TX E G U_36 R H := by rw [ht] at hB; exact hB
      have hWr_35 : TW G U_36 R := hwr_35.1
      have hW := hWr_35
      have hFr_35 : Fr G [31, 32] U_28 U_36 := hwr_35.2.1
      have hCr_35 : C_X2_load G U_28 R r_27 (R h0 1) x_31 x_33 U_36 := hwr_35.2.2
      refine lv_iinc (v := 8) (lv' := [(2, .int 8), (3, .int x_23), (0, .ref h0), (1, .ref p0)]) hx hb dX8_replyCells_53 hl (k := 1) rfl (by decide) (by decide) rfl (fun ls hl => ?_)
      refine lv_goto (tgt := 2) hx hb dX8_replyCells_56 (by decide) ?_
      refine lv_iload_n hx hb dX8_replyCells_2 rfl (lv_at hl 0 rfl) ?_
      refine lv_aload_n hx hb dX8_replyCells_3 rfl (lv_at hl 3 rfl) ?_
      have ha_37 := tx_31 hT hG0
      have hb_38 := (tw_31 hWr_35 hG0).2.1
      refine va_get (D := DG E) (ci := 2) (v := .int (U_36 p0 3)) (C := RX2) (T := TX2) (N := 8) hx hb hts iw_X2 hown hK.1 (va_one ha_37) 0 rfl rfl 3 (by decide) (hts _ fl_X8_128) (fun _ h9 => h9) rfl dX8_replyCells_4 ?_
      refine lv_icmp_ge (tgt := 59) hx hb dX8_replyCells_7 (by decide) (fun c_39 => ?_) (fun c_39 => ?_)
      · simp only [lt_I, le_I, eq_I, i_0, i_1, i_2, i_3, i_4, i_5, i_6, i_7, i_8, i_10, i_12, i_16, i_20, i_23, i_24, i_31, i_32, i_63, i_64, i_m1] at c_39
        exact W.vret hx hb hr (fun t ht hW9 => ⟨⟨U_36, rfl, ⟨hW, (Fr.c (Fr.c (Fr.c (Fr.c Fr.rf hFr_9 (by decide)) hFr_18 (by decide)) hFr_27 (by decide)) hFr_35 (by decide)), (Or.inr (Or.inr (Or.inl ⟨c_3, x_4, ex_4, r_9, U_10, hFr_9, hCr_9, x_14, ex_14, x_16, ex_16, U_19, hFr_18, hCr_18, c_22, x_23, ex_23, r_27, U_28, hFr_27, hCr_27, x_31, ex_31, x_33, ex_33, U_36, hFr_35, hCr_35, c_39, rfl⟩)))⟩, (by show TX E G U_36 R t.heap; rw [ht]; exact hT)⟩, hS.F ht⟩) hS.2.2 dX8_replyCells_59
      · simp only [lt_I, le_I, eq_I, i_0, i_1, i_2, i_3, i_4, i_5, i_6, i_7, i_8, i_10, i_12, i_16, i_20, i_23, i_24, i_31, i_32, i_63, i_64, i_m1] at c_39
        refine lv_aload_n hx hb dX8_replyCells_10 rfl (lv_at hl 3 rfl) ?_
        refine va_get (D := DG E) (ci := 2) (v := .int (U_36 p0 2)) (C := RX2) (T := TX2) (N := 8) hx hb hts iw_X2 hown hK.1 (va_one ha_37) 0 rfl rfl 2 (by decide) (hts _ fl_X8_59) (fun _ h9 => h9) rfl dX8_replyCells_11 ?_
        refine lv_iload_n hx hb dX8_replyCells_14 rfl (lv_at hl 0 rfl) ?_
        refine lv_iconst (v := 4) hx hb dX8_replyCells_15 (by decide) ?_
        refine lv_idiv hx hb dX8_replyCells_16 (by decide) ?_
        refine W.eq (g2 := F0 m 17 ls [.int 2, .int (U_36 p0 2)]) (by rfl) ?_
        refine rnSN (As := [.int (U_36 p0 2), .int 2]) (rest := []) ⟨hx, hb, hml, hown, hts⟩ (c_X9_after l ((U_36 p0 2)) 2) ⟨va_cnB (host := RX9) 2 hts (gd1 co_X9_after rfl) rfl rfl rfl (hK.2.1 _ mn_X8_164 #[]) (hts _ in_X9) (by decide +kernel) ⟨Nat.le_of_ble_eq_true rfl, Nat.le_of_ble_eq_true rfl⟩, hts _ st_X9_after, trivial⟩ rfl rfl hl.1 rfl (lv_room (Nat.le_of_ble_eq_true rfl)) dX8_replyCells_17 ⟨Nat.le_of_ble_eq_true rfl, Nat.le_of_ble_eq_true rfl⟩ ?_
        refine W.eq (g2 := F0 m 20 ls [.int (((U_36 p0 2) + 2) &&& 63)]) (by rfl) ?_
        refine lv_topi (fun x_40 ex_40 => ?_)
        have fx_40 := s_and63 ((U_36 p0 2) + 2); rw [← ex_40] at fx_40
        refine lv_istore_n (lv' := [(3, .int x_40), (2, .int 8), (0, .ref h0), (1, .ref p0)]) hx hb dX8_replyCells_20 rfl hl (by decide) rfl (fun ls hl => ?_)
        refine lv_aload_n hx hb dX8_replyCells_21 rfl (lv_at hl 2 rfl) ?_
        have ha_41 := tx_10 hT hG
        refine va_get (D := DG E) (ci := 8) (v := .ref (R h0 2)) (C := RX8) (T := TX8) (N := 9) hx hb hts iw_X8 hown hK.1 (va_one ha_41) 0 rfl rfl 2 (by decide) (hts _ fl_X8_30) (fun _ h9 => h9) rfl dX8_replyCells_22 ?_
        refine lv_aload_n hx hb dX8_replyCells_25 rfl (lv_at hl 2 rfl) ?_
        have l_42 : U_36 h0 0 = (B h0 0) := ((congrFun (hFr_35 h0 (by rw [hG]; decide)) 0)).trans (((congrFun (hFr_27 h0 (by rw [hG]; decide)) 0)).trans (((congrFun (hFr_18 h0 (by rw [hG]; decide)) 0)).trans ((congrFun (hFr_9 h0 (by rw [hG]; decide)) 0))))
        refine va_get (D := DG E) (ci := 8) (v := .int (U_36 h0 0)) (C := RX8) (T := TX8) (N := 9) hx hb hts iw_X8 hown hK.1 (va_one ha_41) 0 rfl rfl 0 (by decide) (hts _ fl_X8_22) (fun _ h9 => h9) rfl dX8_replyCells_26 ?_
        refine W.eq (g2 := F0 m 29 ls [.int (B h0 0), .ref (R h0 2)]) (by rw [l_42]) ?_
        refine lv_iconst (v := 4) hx hb dX8_replyCells_29 (by decide) ?_
        refine lv_iload_n hx hb dX8_replyCells_30 rfl (lv_at hl 0 rfl) ?_
        have ha_43 := tx_4 hT hg_6
        refine va_callr (rnV (fun H => TX E G U_36 R H) (As := [.int (B h0 0), .int 4, .int x_40]) (rest := []) ⟨hx, hb, hml, hown, hts⟩ (x_X0_carry l E z0 G hGz U_36 R hW (R h0 2) (B h0 0) (4 : Int32) x_40 hg_6 (show 0 ≤ (B h0 0).toInt ∧ (B h0 0).toInt ≤ 3 from by have := i_4; first | decide | omega)) (cwV 3 hts (gdV ml_X8_167 im_X0_carry se_X0_X0_carry in_X0 co_X0_carry rfl) rfl rfl rfl (by decide +kernel) ⟨Nat.le_of_ble_eq_true rfl, Nat.le_of_ble_eq_true rfl⟩) hT (fun U hU hW => hK.go hW hS hAz hU) (va_recv hK.1 (va_one ha_43) (ci := 0) (q0 := 0) rfl rfl) rfl rfl hl.1 rfl (lv_room (Nat.le_of_ble_eq_true rfl)) dX8_replyCells_31 ⟨Nat.le_of_ble_eq_true rfl, Nat.le_of_ble_eq_true rfl⟩) hS (fun q _ h => mL (L' := [4, 31]) (L := [4, 31, 32]) (by decide) h) (fun q h => mL (L' := [4, 31]) (L := [4, 31, 32]) (by decide) h) (fun U_45 r_44 t H locs ht hvm hwr_44 hB hz hk hS => ?_)
        have hRr_44 := hB.1
        have hB := hB.2
        have hT : TX E G U_45 R H := by rw [ht] at hB; exact hB
        have hgr_44 : G r_44 = 31 := hRr_44.1
        have hWr_44 : TW G U_45 R := hRr_44.2.1
        have hW := hWr_44
        have hFr_44 : Fr G [4, 31] U_36 U_45 := hRr_44.2.2.1
        have hCr_44 : C_X0_carry G U_36 R (R h0 2) (B h0 0) (4 : Int32) x_40 U_45 r_44 := hRr_44.2.2.2
        refine lv_aload_n hx hb dX8_replyCells_34 rfl (lv_at hl 2 rfl) ?_
        have ha_46 := tx_10 hT hG
        refine va_get (D := DG E) (ci := 8) (v := .ref (R h0 1)) (C := RX8) (T := TX8) (N := 9) hx hb hts iw_X8 hown hK.1 (va_one ha_46) 0 rfl rfl 1 (by decide) (hts _ fl_X8_26) (fun _ h9 => h9) rfl dX8_replyCells_35 ?_
        refine lv_aload_n hx hb dX8_replyCells_38 rfl (lv_at hl 3 rfl) ?_
        have ha_47 := tx_31 hT hG0
        refine va_get (D := DG E) (ci := 2) (v := .int (U_45 p0 5)) (C := RX2) (T := TX2) (N := 8) hx hb hts iw_X2 hown hK.1 (va_one ha_47) 0 rfl rfl 5 (by decide) (hts _ fl_X8_151) (fun _ h9 => h9) rfl dX8_replyCells_39 ?_
        refine lv_iload_n hx hb dX8_replyCells_42 rfl (lv_at hl 1 rfl) ?_
        refine lv_iadd hx hb dX8_replyCells_43 ?_
        refine lv_topi (fun x_48 ex_48 => ?_)
        refine lv_aload_n hx hb dX8_replyCells_44 rfl (lv_at hl 3 rfl) ?_
        have hb_49 := (tw_31 hWr_44 hG0).2.1
        refine va_get (D := DG E) (ci := 2) (v := .int (U_45 p0 3)) (C := RX2) (T := TX2) (N := 8) hx hb hts iw_X2 hown hK.1 (va_one ha_47) 0 rfl rfl 3 (by decide) (hts _ fl_X8_128) (fun _ h9 => h9) rfl dX8_replyCells_45 ?_
        refine lv_iload_n hx hb dX8_replyCells_48 rfl (lv_at hl 1 rfl) ?_
        refine lv_isub hx hb dX8_replyCells_49 ?_
        refine lv_topi (fun x_50 ex_50 => ?_)
        have ha_51 := tx_31 hT hgr_44
        refine va_callv (rnV (fun H => TX E G U_45 R H) (As := [.ref (R h0 1), .int x_48, .int x_50]) (rest := []) ⟨hx, hb, hml, hown, hts⟩ (x_X2_load l E z0 G hGz U_45 R hW r_44 (R h0 1) x_48 x_50 hgr_44 hg_12) (cwV 3 hts (gdV ml_X8_173 im_X2_load se_X2_X2_load in_X2 co_X2_load rfl) rfl rfl rfl (by decide +kernel) ⟨Nat.le_of_ble_eq_true rfl, Nat.le_of_ble_eq_true rfl⟩) hT (fun U hU hW => hK.go hW hS hAz hU) (va_recv hK.1 (va_one ha_51) (ci := 2) (q0 := 0) rfl rfl) rfl rfl hl.1 rfl (lv_room (Nat.le_of_ble_eq_true rfl)) dX8_replyCells_50 ⟨Nat.le_of_ble_eq_true rfl, Nat.le_of_ble_eq_true rfl⟩) hS (fun q _ h => mL (L' := [31, 32]) (L := [4, 31, 32]) (by decide) h) (fun q h => mL (L' := [31, 32]) (L := [4, 31, 32]) (by decide) h) (fun U_53 t H locs ht hvm hwr_52 hB hz hk hS => ?_)
        have hT : TX E G U_53 R H := by rw [ht] at hB; exact hB
        have hWr_52 : TW G U_53 R := hwr_52.1
        have hW := hWr_52
        have hFr_52 : Fr G [31, 32] U_45 U_53 := hwr_52.2.1
        have hCr_52 : C_X2_load G U_45 R r_44 (R h0 1) x_48 x_50 U_53 := hwr_52.2.2
        refine lv_iinc (v := 12) (lv' := [(2, .int 12), (3, .int x_40), (0, .ref h0), (1, .ref p0)]) hx hb dX8_replyCells_53 hl (k := 1) rfl (by decide) (by decide) rfl (fun ls hl => ?_)
        refine lv_goto (tgt := 2) hx hb dX8_replyCells_56 (by decide) ?_
        refine lv_iload_n hx hb dX8_replyCells_2 rfl (lv_at hl 0 rfl) ?_
        refine lv_aload_n hx hb dX8_replyCells_3 rfl (lv_at hl 3 rfl) ?_
        have ha_54 := tx_31 hT hG0
        have hb_55 := (tw_31 hWr_52 hG0).2.1
        refine va_get (D := DG E) (ci := 2) (v := .int (U_53 p0 3)) (C := RX2) (T := TX2) (N := 8) hx hb hts iw_X2 hown hK.1 (va_one ha_54) 0 rfl rfl 3 (by decide) (hts _ fl_X8_128) (fun _ h9 => h9) rfl dX8_replyCells_4 ?_
        refine lv_icmp_ge (tgt := 59) hx hb dX8_replyCells_7 (by decide) (fun c_56 => ?_) (fun c_56 => by exfalso; simp only [lt_I, le_I, eq_I, i_0, i_1, i_2, i_3, i_4, i_5, i_6, i_7, i_8, i_10, i_12, i_16, i_20, i_23, i_24, i_31, i_32, i_63, i_64, i_m1] at c_56; omega)
        exact W.vret hx hb hr (fun t ht hW9 => ⟨⟨U_53, rfl, ⟨hW, (Fr.c (Fr.c (Fr.c (Fr.c (Fr.c (Fr.c Fr.rf hFr_9 (by decide)) hFr_18 (by decide)) hFr_27 (by decide)) hFr_35 (by decide)) hFr_44 (by decide)) hFr_52 (by decide)), (Or.inr (Or.inr (Or.inr ⟨c_3, x_4, ex_4, r_9, U_10, hFr_9, hCr_9, x_14, ex_14, x_16, ex_16, U_19, hFr_18, hCr_18, c_22, x_23, ex_23, r_27, U_28, hFr_27, hCr_27, x_31, ex_31, x_33, ex_33, U_36, hFr_35, hCr_35, c_39, x_40, ex_40, r_44, U_45, hFr_44, hCr_44, x_48, ex_48, x_50, ex_50, U_53, hFr_52, hCr_52, rfl⟩)))⟩, (by show TX E G U_53 R t.heap; rw [ht]; exact hT)⟩, hS.F ht⟩) hS.2.2 dX8_replyCells_59
theorem dX8_keptAdd_0 : decode cX8_keptAdd 0 = .ok (.iconst 0, 1) := by decide +kernel
theorem dX8_keptAdd_1 : decode cX8_keptAdd 1 = .ok (.istore_n 2, 1) := by decide +kernel
theorem dX8_keptAdd_2 : decode cX8_keptAdd 2 = .ok (.iload_n 2, 1) := by decide +kernel
theorem dX8_keptAdd_3 : decode cX8_keptAdd 3 = .ok (.iconst 2, 1) := by decide +kernel
theorem dX8_keptAdd_4 : decode cX8_keptAdd 4 = .ok (.if_icmp .ge 21, 3) := by decide +kernel
theorem dX8_keptAdd_7 : decode cX8_keptAdd 7 = .ok (.aload_n 0, 1) := by decide +kernel
theorem dX8_keptAdd_8 : decode cX8_keptAdd 8 = .ok (.getfield 9, 3) := by decide +kernel
theorem dX8_keptAdd_11 : decode cX8_keptAdd 11 = .ok (.iload_n 2, 1) := by decide +kernel
theorem dX8_keptAdd_12 : decode cX8_keptAdd 12 = .ok (.iaload, 1) := by decide +kernel
theorem dX8_keptAdd_13 : decode cX8_keptAdd 13 = .ok (.iload_n 1, 1) := by decide +kernel
theorem dX8_keptAdd_14 : decode cX8_keptAdd 14 = .ok (.if_icmp .ne 5, 3) := by decide +kernel
theorem dX8_keptAdd_17 : decode cX8_keptAdd 17 = .ok (.iload_n 2, 1) := by decide +kernel
theorem dX8_keptAdd_18 : decode cX8_keptAdd 18 = .ok (.ireturn, 1) := by decide +kernel
theorem dX8_keptAdd_19 : decode cX8_keptAdd 19 = .ok (.iinc 2 1, 3) := by decide +kernel
theorem dX8_keptAdd_22 : decode cX8_keptAdd 22 = .ok (.goto (-20), 3) := by decide +kernel
theorem dX8_keptAdd_25 : decode cX8_keptAdd 25 = .ok (.iconst (-1), 1) := by decide +kernel
theorem dX8_keptAdd_26 : decode cX8_keptAdd 26 = .ok (.ireturn, 1) := by decide +kernel
set_option maxHeartbeats 8000000 in
set_option maxRecDepth 100000 in
theorem x_X8_keptAdd (l : Launch) (E : EE) (z0 : Nat) (G : Nat → Nat) (hGz : ∀ q, G q ≠ 0 → z0 ≤ q) (B : AA) (R : RR) (hW : TW G B R) (h0 : Nat) (p0 : Int32) (hG : G h0 = 10) : Met l yX8_keptAdd [Cond.code yX8_keptAdd cX8_keptAdd 3 (some .int)] ({ frames := 0, cells := 0, slots := 0, locals := 0 } : Room) (va_Pc [.ref h0, .int p0] (fun U => TX E G B R U.heap ∧ KS E z0 U)) (va_Qi (fun (r : Int32) (u : Unit) => (-1 ≤ r.toInt ∧ r.toInt ≤ 1) ∧ (C_X8_keptAdd G B R h0 p0 r)) (fun u t => True) (fun _ : Nat => False)) 0 0 (fun _ : Nat => False) := by
  refine Met.ofW (cc := cX8_keptAdd) (maxL := 3) (ret := (some .int)) (by decide) rfl ?_
  intro p e s m args below meth c s₁ B9 hml hv
  obtain ⟨rfl, hT, hK⟩ := hv
  have hx := B9.exec
  have hb := B9.bytes
  have hr := B9.returns
  have hts : ∀ w ∈ TS, w.before ([.ref h0, .int p0] : List Value).toArray s = true := fun w hw => hK.2.1 w hw _
  have hown : s.vm.findClass RX8 = some m.cls := findClass_of_methodNamed B9.named
  have hlocks := B9.notSynchronized
  have hS : va_S (fun _ : Nat => False) s.heap s.heap [] := va_S.rf
  have hAz : ∀ q, (fun _ : Nat => False) q → z0 ≤ q := fun _ h => h.elim
  have hW_0 := hW
  have hl := lv_entry ([.ref h0, .int p0]) (n := 3) (Nat.le_of_ble_eq_true rfl)
  rw [lg_entry_eq]
  generalize (lg_sl ([.ref h0, .int p0]) ++ List.replicate (3 - (lg_sl ([.ref h0, .int p0])).length) Slot.unset).toArray = ls at hl ⊢
  have hl : lv_has ls 3 [(0, .ref h0), (1, .int p0)] := hl
  refine lv_iconst (v := 0) hx hb dX8_keptAdd_0 (by decide) ?_
  refine lv_istore_n (lv' := [(2, .int 0), (0, .ref h0), (1, .int p0)]) hx hb dX8_keptAdd_1 rfl hl (by decide) rfl (fun ls hl => ?_)
  refine lv_iload_n hx hb dX8_keptAdd_2 rfl (lv_at hl 0 rfl) ?_
  refine lv_iconst (v := 2) hx hb dX8_keptAdd_3 (by decide) ?_
  refine lv_icmp_ge (tgt := 25) hx hb dX8_keptAdd_4 (by decide) (fun c_1 => absurd c_1 (by decide)) (fun c_1 => ?_)
  refine lv_aload_n hx hb dX8_keptAdd_7 rfl (lv_at hl 1 rfl) ?_
  have ha_2 := tx_10 hT hG
  have hg_3 : G (R h0 7) = 16 := (tw_10 hW hG).2.2.2.2.1
  refine va_get (D := DG E) (ci := 8) (v := .ref (R h0 7)) (C := RX8) (T := TX8) (N := 9) hx hb hts iw_X8 hown hK.1 (va_one ha_2) 0 rfl rfl 7 (by decide) (hts _ fl_X8_9) (fun _ h9 => h9) rfl dX8_keptAdd_8 ?_
  refine lv_iload_n hx hb dX8_keptAdd_11 rfl (lv_at hl 0 rfl) ?_
  have ha_4 := tx_16 hT hg_3
  refine va_iald (D := DG E) hx hb hK.1 (va_one ha_4) 0 0 rfl rfl (show vp_in (0) 2 from vp_in_iff.mpr ⟨by decide, by decide⟩) dX8_keptAdd_12 ?_
  refine W.eq (g2 := F0 m 13 ls [.int (B (R h0 7) 0)]) (by rfl) ?_
  refine lv_iload_n hx hb dX8_keptAdd_13 rfl (lv_at hl 2 rfl) ?_
  refine lv_icmp_ne (tgt := 19) hx hb dX8_keptAdd_14 (by decide) (fun c_5 => ?_) (fun c_5 => ?_)
  · simp only [lt_I, le_I, eq_I, i_0, i_1, i_2, i_3, i_4, i_5, i_6, i_7, i_8, i_10, i_12, i_16, i_20, i_23, i_24, i_31, i_32, i_63, i_64, i_m1] at c_5
    refine lv_iinc (v := 1) (lv' := [(2, .int 1), (0, .ref h0), (1, .int p0)]) hx hb dX8_keptAdd_19 hl (k := 0) rfl (by decide) (by decide) rfl (fun ls hl => ?_)
    refine lv_goto (tgt := 2) hx hb dX8_keptAdd_22 (by decide) ?_
    refine lv_iload_n hx hb dX8_keptAdd_2 rfl (lv_at hl 0 rfl) ?_
    refine lv_iconst (v := 2) hx hb dX8_keptAdd_3 (by decide) ?_
    refine lv_icmp_ge (tgt := 25) hx hb dX8_keptAdd_4 (by decide) (fun c_6 => absurd c_6 (by decide)) (fun c_6 => ?_)
    refine lv_aload_n hx hb dX8_keptAdd_7 rfl (lv_at hl 1 rfl) ?_
    refine va_get (D := DG E) (ci := 8) (v := .ref (R h0 7)) (C := RX8) (T := TX8) (N := 9) hx hb hts iw_X8 hown hK.1 (va_one ha_2) 0 rfl rfl 7 (by decide) (hts _ fl_X8_9) (fun _ h9 => h9) rfl dX8_keptAdd_8 ?_
    refine lv_iload_n hx hb dX8_keptAdd_11 rfl (lv_at hl 0 rfl) ?_
    refine va_iald (D := DG E) hx hb hK.1 (va_one ha_4) 0 0 rfl rfl (show vp_in (1) 2 from vp_in_iff.mpr ⟨by decide, by decide⟩) dX8_keptAdd_12 ?_
    refine W.eq (g2 := F0 m 13 ls [.int (B (R h0 7) 1)]) (by rfl) ?_
    refine lv_iload_n hx hb dX8_keptAdd_13 rfl (lv_at hl 2 rfl) ?_
    refine lv_icmp_ne (tgt := 19) hx hb dX8_keptAdd_14 (by decide) (fun c_7 => ?_) (fun c_7 => ?_)
    · simp only [lt_I, le_I, eq_I, i_0, i_1, i_2, i_3, i_4, i_5, i_6, i_7, i_8, i_10, i_12, i_16, i_20, i_23, i_24, i_31, i_32, i_63, i_64, i_m1] at c_7
      refine lv_iinc (v := 2) (lv' := [(2, .int 2), (0, .ref h0), (1, .int p0)]) hx hb dX8_keptAdd_19 hl (k := 0) rfl (by decide) (by decide) rfl (fun ls hl => ?_)
      refine lv_goto (tgt := 2) hx hb dX8_keptAdd_22 (by decide) ?_
      refine lv_iload_n hx hb dX8_keptAdd_2 rfl (lv_at hl 0 rfl) ?_
      refine lv_iconst (v := 2) hx hb dX8_keptAdd_3 (by decide) ?_
      refine lv_icmp_ge (tgt := 25) hx hb dX8_keptAdd_4 (by decide) (fun c_8 => ?_) (fun c_8 => absurd c_8 (by decide))
      refine lv_iconst (v := (-1)) hx hb dX8_keptAdd_25 (by decide) ?_
      exact W.iret (v := (-1)) hx hb hr (fun t ht hW9 => ⟨⟨(-1), (), rfl, ⟨(by show -1 ≤ ((-1) : Int32).toInt ∧ ((-1) : Int32).toInt ≤ 1; have := i_m1; omega), (Or.inl ⟨c_5, c_7, rfl⟩)⟩, trivial⟩, hS.F ht⟩) hS.2.2 dX8_keptAdd_26
    · simp only [lt_I, le_I, eq_I, i_0, i_1, i_2, i_3, i_4, i_5, i_6, i_7, i_8, i_10, i_12, i_16, i_20, i_23, i_24, i_31, i_32, i_63, i_64, i_m1] at c_7
      refine lv_iload_n hx hb dX8_keptAdd_17 rfl (lv_at hl 0 rfl) ?_
      exact W.iret (v := 1) hx hb hr (fun t ht hW9 => ⟨⟨1, (), rfl, ⟨(by show -1 ≤ (1 : Int32).toInt ∧ (1 : Int32).toInt ≤ 1; have := i_1; omega), (Or.inr (Or.inl ⟨c_5, c_7, rfl⟩))⟩, trivial⟩, hS.F ht⟩) hS.2.2 dX8_keptAdd_18
  · simp only [lt_I, le_I, eq_I, i_0, i_1, i_2, i_3, i_4, i_5, i_6, i_7, i_8, i_10, i_12, i_16, i_20, i_23, i_24, i_31, i_32, i_63, i_64, i_m1] at c_5
    refine lv_iload_n hx hb dX8_keptAdd_17 rfl (lv_at hl 0 rfl) ?_
    exact W.iret (v := 0) hx hb hr (fun t ht hW9 => ⟨⟨0, (), rfl, ⟨(by show -1 ≤ (0 : Int32).toInt ∧ (0 : Int32).toInt ≤ 1; have := i_0; omega), (Or.inr (Or.inr ⟨c_5, rfl⟩))⟩, trivial⟩, hS.F ht⟩) hS.2.2 dX8_keptAdd_18
theorem dX8_advance_0 : decode cX8_advance 0 = .ok (.aload_n 0, 1) := by decide +kernel
theorem dX8_advance_1 : decode cX8_advance 1 = .ok (.aload_n 0, 1) := by decide +kernel
theorem dX8_advance_2 : decode cX8_advance 2 = .ok (.getfield 49, 3) := by decide +kernel
theorem dX8_advance_5 : decode cX8_advance 5 = .ok (.iload_n 1, 1) := by decide +kernel
theorem dX8_advance_6 : decode cX8_advance 6 = .ok (.invokestatic 164, 3) := by decide +kernel
theorem dX8_advance_9 : decode cX8_advance 9 = .ok (.putfield 49, 3) := by decide +kernel
theorem dX8_advance_12 : decode cX8_advance 12 = .ok (.aload_n 0, 1) := by decide +kernel
theorem dX8_advance_13 : decode cX8_advance 13 = .ok (.iconst 0, 1) := by decide +kernel
theorem dX8_advance_14 : decode cX8_advance 14 = .ok (.putfield 56, 3) := by decide +kernel
theorem dX8_advance_17 : decode cX8_advance 17 = .ok (.return_, 1) := by decide +kernel
set_option maxHeartbeats 8000000 in
set_option maxRecDepth 100000 in
theorem x_X8_advance (l : Launch) (E : EE) (z0 : Nat) (G : Nat → Nat) (hGz : ∀ q, G q ≠ 0 → z0 ≤ q) (B : AA) (R : RR) (hW : TW G B R) (h0 : Nat) (p0 : Int32) (hG : G h0 = 10) : Met l yX8_advance [Cond.code yX8_advance cX8_advance 2 none] ({ frames := 1, cells := 0, slots := 0, locals := 21 } : Room) (va_Pc [.ref h0, .int p0] (fun U => TX E G B R U.heap ∧ KS E z0 U)) (va_Qv (fun (u : AA) => (TW G u R) ∧ (Fr G ([10] : List Nat) B u) ∧ (C_X8_advance G B R h0 p0 u)) (fun u t => TX E G u R t.heap) (fun q : Nat => G q ∈ ([10] : List Nat))) 0 0 (fun q : Nat => G q ∈ ([10] : List Nat)) := by
  refine Met.ofW (cc := cX8_advance) (maxL := 2) (ret := none) (by decide) rfl ?_
  intro p e s m args below meth c s₁ B9 hml hv
  obtain ⟨rfl, hT, hK⟩ := hv
  have hx := B9.exec
  have hb := B9.bytes
  have hr := B9.returns
  have hts : ∀ w ∈ TS, w.before ([.ref h0, .int p0] : List Value).toArray s = true := fun w hw => hK.2.1 w hw _
  have hown : s.vm.findClass RX8 = some m.cls := findClass_of_methodNamed B9.named
  have hlocks := B9.notSynchronized
  have hS : va_S (fun q : Nat => G q ∈ ([10] : List Nat)) s.heap s.heap [] := va_S.rf
  have hAz : ∀ q, (fun q : Nat => G q ∈ ([10] : List Nat)) q → z0 ≤ q := zL hGz (by decide)
  have hW_0 := hW
  have hl := lv_entry ([.ref h0, .int p0]) (n := 2) (Nat.le_of_ble_eq_true rfl)
  rw [lg_entry_eq]
  generalize (lg_sl ([.ref h0, .int p0]) ++ List.replicate (2 - (lg_sl ([.ref h0, .int p0])).length) Slot.unset).toArray = ls at hl ⊢
  have hl : lv_has ls 2 [(0, .ref h0), (1, .int p0)] := hl
  refine lv_aload_n hx hb dX8_advance_0 rfl (lv_at hl 0 rfl) ?_
  refine lv_aload_n hx hb dX8_advance_1 rfl (lv_at hl 0 rfl) ?_
  have ha_1 := tx_10 hT hG
  refine va_get (D := DG E) (ci := 8) (v := .int (B h0 4)) (C := RX8) (T := TX8) (N := 9) hx hb hts iw_X8 hown hK.1 (va_one ha_1) 0 rfl rfl 4 (by decide) (hts _ fl_X8_49) (fun _ h9 => h9) rfl dX8_advance_2 ?_
  refine lv_iload_n hx hb dX8_advance_5 rfl (lv_at hl 1 rfl) ?_
  refine rnSN (As := [.int (B h0 4), .int p0]) (rest := [.ref h0]) ⟨hx, hb, hml, hown, hts⟩ (c_X9_after l ((B h0 4)) p0) ⟨va_cnB (host := RX9) 2 hts (gd1 co_X9_after rfl) rfl rfl rfl (hK.2.1 _ mn_X8_164 #[]) (hts _ in_X9) (by decide +kernel) ⟨Nat.le_of_ble_eq_true rfl, Nat.le_of_ble_eq_true rfl⟩, hts _ st_X9_after, trivial⟩ rfl rfl hl.1 rfl (lv_room (Nat.le_of_ble_eq_true rfl)) dX8_advance_6 ⟨Nat.le_of_ble_eq_true rfl, Nat.le_of_ble_eq_true rfl⟩ ?_
  refine W.eq (g2 := F0 m 9 ls [.int (((B h0 4) + p0) &&& 63), .ref h0]) (by rfl) ?_
  refine lv_topi (fun x_2 ex_2 => ?_)
  have fx_2 := s_and63 ((B h0 4) + p0); rw [← ex_2] at fx_2
  refine rr_put (D := DG E) (ci := 8) (v := .int x_2) (ty := .int) (C := RX8) (T := TX8) (N := 9) hx hb hts iw_X8 tyX8 tyX8_ok nmX8 hown hK.1 ha_1 hS (by show G h0 ∈ ([10] : List Nat); rw [hG]; decide) rfl 4 (by decide) (hts _ fl_X8_49) (fun _ h9 => h9) rfl (by decide +kernel) rfl rfl (Nat.le_of_ble_eq_true rfl) dX8_advance_9 (fun H locs hn ho hz hS => ?_)
  obtain ⟨B_3, eB_3⟩ : ∃ z : AA, z = uA B h0 (upd (B h0) 4 x_2) := ⟨_, rfl⟩
  have sB_3 : B_3 h0 4 = x_2 := by rw [eB_3, uA_s]; exact upd_s
  have nB_3 : ∀ k, k ≠ 4 → B_3 h0 k = B h0 k := fun k hk => by rw [eB_3, uA_s]; exact upd_n hk
  have fB_3 : ∀ c, G c ≠ 10 → B_3 c = B c := fun c hc => by rw [eB_3]; exact uA_n (fun e => hc (by rw [e]; exact hG))
  have hT : TX E G B_3 R H := by rw [eB_3]; exact hT.w (by rw [hG]; exact hn) ho
  have hWB_3 : TW G B_3 R := by rw [eB_3]; exact hW_0.w (by rw [hG]; exact tw_10 hW_0 hG)
  have hW := hWB_3
  refine lv_aload_n hx hb dX8_advance_12 rfl (lv_at hl 0 rfl) ?_
  refine lv_iconst (v := 0) hx hb dX8_advance_13 (by decide) ?_
  have ha_4 := tx_10 hT hG
  refine rr_put (D := DG E) (ci := 8) (v := .int 0) (ty := .boolean) (C := RX8) (T := TX8) (N := 9) hx hb hts iw_X8 tyX8 tyX8_ok nmX8 hown hK.1 ha_4 hS (by show G h0 ∈ ([10] : List Nat); rw [hG]; decide) rfl 6 (by decide) (hts _ fl_X8_56) (fun _ h9 => h9) rfl (by decide +kernel) rfl rfl (Nat.le_of_ble_eq_true rfl) dX8_advance_14 (fun H locs hn ho hz hS => ?_)
  obtain ⟨B_5, eB_5⟩ : ∃ z : AA, z = uA B_3 h0 (upd (B_3 h0) 6 0) := ⟨_, rfl⟩
  have sB_5 : B_5 h0 6 = 0 := by rw [eB_5, uA_s]; exact upd_s
  have nB_5 : ∀ k, k ≠ 6 → B_5 h0 k = B_3 h0 k := fun k hk => by rw [eB_5, uA_s]; exact upd_n hk
  have fB_5 : ∀ c, G c ≠ 10 → B_5 c = B_3 c := fun c hc => by rw [eB_5]; exact uA_n (fun e => hc (by rw [e]; exact hG))
  have hT : TX E G B_5 R H := by rw [eB_5]; exact hT.w (by rw [hG]; exact hn) ho
  have hWB_5 : TW G B_5 R := by rw [eB_5]; exact hWB_3.w (by rw [hG]; exact tw_10 hWB_3 hG)
  have hW := hWB_5
  exact W.vret hx hb hr (fun t ht hW9 => ⟨⟨B_5, rfl, ⟨hW, (Fr.w (Fr.w Fr.rf hG (by decide) eB_3) hG (by decide) eB_5), ⟨x_2, ex_2, B_3, eB_3, B_5, eB_5, rfl⟩⟩, (by show TX E G B_5 R t.heap; rw [ht]; exact hT)⟩, hS.F ht⟩) hS.2.2 dX8_advance_17
theorem gdX8_growCell_0 : (decode cX8_growCell 0 = .ok (.aload_n 0, 1)) ∧ (decode cX8_growCell 1 = .ok (.getfield 26, 3)) ∧ (decode cX8_growCell 4 = .ok (.aload_n 1, 1)) ∧ (decode cX8_growCell 5 = .ok (.getfield 151, 3)) ∧ (decode cX8_growCell 8 = .ok (.invokevirtual 154, 3)) ∧ (decode cX8_growCell 11 = .ok (.istore_n 2, 1)) ∧ (decode cX8_growCell 12 = .ok (.aload_n 0, 1)) ∧ (decode cX8_growCell 13 = .ok (.getfield 26, 3)) ∧ (decode cX8_growCell 16 = .ok (.aload_n 1, 1)) ∧ (decode cX8_growCell 17 = .ok (.getfield 151, 3)) ∧ (decode cX8_growCell 20 = .ok (.iload_n 2, 1)) ∧ (decode cX8_growCell 21 = .ok (.aload_n 1, 1)) ∧ (decode cX8_growCell 22 = .ok (.getfield 158, 3)) ∧ (decode cX8_growCell 25 = .ok (.iadd, 1)) ∧ (decode cX8_growCell 26 = .ok (.invokevirtual 161, 3)) ∧ (decode cX8_growCell 29 = .ok (.iconst 1, 1)) := by decide +kernel
theorem dX8_growCell_0 : decode cX8_growCell 0 = .ok (.aload_n 0, 1) := gdX8_growCell_0.1
theorem dX8_growCell_1 : decode cX8_growCell 1 = .ok (.getfield 26, 3) := gdX8_growCell_0.2.1
theorem dX8_growCell_4 : decode cX8_growCell 4 = .ok (.aload_n 1, 1) := gdX8_growCell_0.2.2.1
theorem dX8_growCell_5 : decode cX8_growCell 5 = .ok (.getfield 151, 3) := gdX8_growCell_0.2.2.2.1
theorem dX8_growCell_8 : decode cX8_growCell 8 = .ok (.invokevirtual 154, 3) := gdX8_growCell_0.2.2.2.2.1
theorem dX8_growCell_11 : decode cX8_growCell 11 = .ok (.istore_n 2, 1) := gdX8_growCell_0.2.2.2.2.2.1
theorem dX8_growCell_12 : decode cX8_growCell 12 = .ok (.aload_n 0, 1) := gdX8_growCell_0.2.2.2.2.2.2.1
theorem dX8_growCell_13 : decode cX8_growCell 13 = .ok (.getfield 26, 3) := gdX8_growCell_0.2.2.2.2.2.2.2.1
theorem dX8_growCell_16 : decode cX8_growCell 16 = .ok (.aload_n 1, 1) := gdX8_growCell_0.2.2.2.2.2.2.2.2.1
theorem dX8_growCell_17 : decode cX8_growCell 17 = .ok (.getfield 151, 3) := gdX8_growCell_0.2.2.2.2.2.2.2.2.2.1
theorem dX8_growCell_20 : decode cX8_growCell 20 = .ok (.iload_n 2, 1) := gdX8_growCell_0.2.2.2.2.2.2.2.2.2.2.1
theorem dX8_growCell_21 : decode cX8_growCell 21 = .ok (.aload_n 1, 1) := gdX8_growCell_0.2.2.2.2.2.2.2.2.2.2.2.1
theorem dX8_growCell_22 : decode cX8_growCell 22 = .ok (.getfield 158, 3) := gdX8_growCell_0.2.2.2.2.2.2.2.2.2.2.2.2.1
theorem dX8_growCell_25 : decode cX8_growCell 25 = .ok (.iadd, 1) := gdX8_growCell_0.2.2.2.2.2.2.2.2.2.2.2.2.2.1
theorem dX8_growCell_26 : decode cX8_growCell 26 = .ok (.invokevirtual 161, 3) := gdX8_growCell_0.2.2.2.2.2.2.2.2.2.2.2.2.2.2.1
theorem dX8_growCell_29 : decode cX8_growCell 29 = .ok (.iconst 1, 1) := gdX8_growCell_0.2.2.2.2.2.2.2.2.2.2.2.2.2.2.2
theorem gdX8_growCell_30 : (decode cX8_growCell 30 = .ok (.istore_n 3, 1)) ∧ (decode cX8_growCell 31 = .ok (.iload_n 3, 1)) ∧ (decode cX8_growCell 32 = .ok (.ifCond .le 37, 3)) ∧ (decode cX8_growCell 35 = .ok (.aload_n 0, 1)) ∧ (decode cX8_growCell 36 = .ok (.getfield 9, 3)) ∧ (decode cX8_growCell 39 = .ok (.iload_n 3, 1)) ∧ (decode cX8_growCell 40 = .ok (.aload_n 0, 1)) ∧ (decode cX8_growCell 41 = .ok (.getfield 9, 3)) ∧ (decode cX8_growCell 44 = .ok (.iload_n 3, 1)) ∧ (decode cX8_growCell 45 = .ok (.iconst 1, 1)) ∧ (decode cX8_growCell 46 = .ok (.isub, 1)) ∧ (decode cX8_growCell 47 = .ok (.iaload, 1)) ∧ (decode cX8_growCell 48 = .ok (.iastore, 1)) ∧ (decode cX8_growCell 49 = .ok (.aload_n 0, 1)) ∧ (decode cX8_growCell 50 = .ok (.getfield 15, 3)) ∧ (decode cX8_growCell 53 = .ok (.iload_n 3, 1)) := by decide +kernel
theorem dX8_growCell_30 : decode cX8_growCell 30 = .ok (.istore_n 3, 1) := gdX8_growCell_30.1
theorem dX8_growCell_31 : decode cX8_growCell 31 = .ok (.iload_n 3, 1) := gdX8_growCell_30.2.1
theorem dX8_growCell_32 : decode cX8_growCell 32 = .ok (.ifCond .le 37, 3) := gdX8_growCell_30.2.2.1
theorem dX8_growCell_35 : decode cX8_growCell 35 = .ok (.aload_n 0, 1) := gdX8_growCell_30.2.2.2.1
theorem dX8_growCell_36 : decode cX8_growCell 36 = .ok (.getfield 9, 3) := gdX8_growCell_30.2.2.2.2.1
theorem dX8_growCell_39 : decode cX8_growCell 39 = .ok (.iload_n 3, 1) := gdX8_growCell_30.2.2.2.2.2.1
theorem dX8_growCell_40 : decode cX8_growCell 40 = .ok (.aload_n 0, 1) := gdX8_growCell_30.2.2.2.2.2.2.1
theorem dX8_growCell_41 : decode cX8_growCell 41 = .ok (.getfield 9, 3) := gdX8_growCell_30.2.2.2.2.2.2.2.1
theorem dX8_growCell_44 : decode cX8_growCell 44 = .ok (.iload_n 3, 1) := gdX8_growCell_30.2.2.2.2.2.2.2.2.1
theorem dX8_growCell_45 : decode cX8_growCell 45 = .ok (.iconst 1, 1) := gdX8_growCell_30.2.2.2.2.2.2.2.2.2.1
theorem dX8_growCell_46 : decode cX8_growCell 46 = .ok (.isub, 1) := gdX8_growCell_30.2.2.2.2.2.2.2.2.2.2.1
theorem dX8_growCell_47 : decode cX8_growCell 47 = .ok (.iaload, 1) := gdX8_growCell_30.2.2.2.2.2.2.2.2.2.2.2.1
theorem dX8_growCell_48 : decode cX8_growCell 48 = .ok (.iastore, 1) := gdX8_growCell_30.2.2.2.2.2.2.2.2.2.2.2.2.1
theorem dX8_growCell_49 : decode cX8_growCell 49 = .ok (.aload_n 0, 1) := gdX8_growCell_30.2.2.2.2.2.2.2.2.2.2.2.2.2.1
theorem dX8_growCell_50 : decode cX8_growCell 50 = .ok (.getfield 15, 3) := gdX8_growCell_30.2.2.2.2.2.2.2.2.2.2.2.2.2.2.1
theorem dX8_growCell_53 : decode cX8_growCell 53 = .ok (.iload_n 3, 1) := gdX8_growCell_30.2.2.2.2.2.2.2.2.2.2.2.2.2.2.2
theorem gdX8_growCell_54 : (decode cX8_growCell 54 = .ok (.aload_n 0, 1)) ∧ (decode cX8_growCell 55 = .ok (.getfield 15, 3)) ∧ (decode cX8_growCell 58 = .ok (.iload_n 3, 1)) ∧ (decode cX8_growCell 59 = .ok (.iconst 1, 1)) ∧ (decode cX8_growCell 60 = .ok (.isub, 1)) ∧ (decode cX8_growCell 61 = .ok (.iaload, 1)) ∧ (decode cX8_growCell 62 = .ok (.iastore, 1)) ∧ (decode cX8_growCell 63 = .ok (.iinc 3 (-1), 3)) ∧ (decode cX8_growCell 66 = .ok (.goto (-35), 3)) ∧ (decode cX8_growCell 69 = .ok (.aload_n 0, 1)) ∧ (decode cX8_growCell 70 = .ok (.getfield 9, 3)) ∧ (decode cX8_growCell 73 = .ok (.iconst 0, 1)) ∧ (decode cX8_growCell 74 = .ok (.aload_n 1, 1)) ∧ (decode cX8_growCell 75 = .ok (.getfield 59, 3)) ∧ (decode cX8_growCell 78 = .ok (.iastore, 1)) ∧ (decode cX8_growCell 79 = .ok (.aload_n 0, 1)) := by decide +kernel
theorem dX8_growCell_54 : decode cX8_growCell 54 = .ok (.aload_n 0, 1) := gdX8_growCell_54.1
theorem dX8_growCell_55 : decode cX8_growCell 55 = .ok (.getfield 15, 3) := gdX8_growCell_54.2.1
theorem dX8_growCell_58 : decode cX8_growCell 58 = .ok (.iload_n 3, 1) := gdX8_growCell_54.2.2.1
theorem dX8_growCell_59 : decode cX8_growCell 59 = .ok (.iconst 1, 1) := gdX8_growCell_54.2.2.2.1
theorem dX8_growCell_60 : decode cX8_growCell 60 = .ok (.isub, 1) := gdX8_growCell_54.2.2.2.2.1
theorem dX8_growCell_61 : decode cX8_growCell 61 = .ok (.iaload, 1) := gdX8_growCell_54.2.2.2.2.2.1
theorem dX8_growCell_62 : decode cX8_growCell 62 = .ok (.iastore, 1) := gdX8_growCell_54.2.2.2.2.2.2.1
theorem dX8_growCell_63 : decode cX8_growCell 63 = .ok (.iinc 3 (-1), 3) := gdX8_growCell_54.2.2.2.2.2.2.2.1
theorem dX8_growCell_66 : decode cX8_growCell 66 = .ok (.goto (-35), 3) := gdX8_growCell_54.2.2.2.2.2.2.2.2.1
theorem dX8_growCell_69 : decode cX8_growCell 69 = .ok (.aload_n 0, 1) := gdX8_growCell_54.2.2.2.2.2.2.2.2.2.1
theorem dX8_growCell_70 : decode cX8_growCell 70 = .ok (.getfield 9, 3) := gdX8_growCell_54.2.2.2.2.2.2.2.2.2.2.1
theorem dX8_growCell_73 : decode cX8_growCell 73 = .ok (.iconst 0, 1) := gdX8_growCell_54.2.2.2.2.2.2.2.2.2.2.2.1
theorem dX8_growCell_74 : decode cX8_growCell 74 = .ok (.aload_n 1, 1) := gdX8_growCell_54.2.2.2.2.2.2.2.2.2.2.2.2.1
theorem dX8_growCell_75 : decode cX8_growCell 75 = .ok (.getfield 59, 3) := gdX8_growCell_54.2.2.2.2.2.2.2.2.2.2.2.2.2.1
theorem dX8_growCell_78 : decode cX8_growCell 78 = .ok (.iastore, 1) := gdX8_growCell_54.2.2.2.2.2.2.2.2.2.2.2.2.2.2.1
theorem dX8_growCell_79 : decode cX8_growCell 79 = .ok (.aload_n 0, 1) := gdX8_growCell_54.2.2.2.2.2.2.2.2.2.2.2.2.2.2.2
theorem gdX8_growCell_80 : (decode cX8_growCell 80 = .ok (.getfield 15, 3)) ∧ (decode cX8_growCell 83 = .ok (.iconst 0, 1)) ∧ (decode cX8_growCell 84 = .ok (.iload_n 2, 1)) ∧ (decode cX8_growCell 85 = .ok (.iastore, 1)) ∧ (decode cX8_growCell 86 = .ok (.iload_n 2, 1)) ∧ (decode cX8_growCell 87 = .ok (.ireturn, 1)) := by decide +kernel
theorem dX8_growCell_80 : decode cX8_growCell 80 = .ok (.getfield 15, 3) := gdX8_growCell_80.1
theorem dX8_growCell_83 : decode cX8_growCell 83 = .ok (.iconst 0, 1) := gdX8_growCell_80.2.1
theorem dX8_growCell_84 : decode cX8_growCell 84 = .ok (.iload_n 2, 1) := gdX8_growCell_80.2.2.1
theorem dX8_growCell_85 : decode cX8_growCell 85 = .ok (.iastore, 1) := gdX8_growCell_80.2.2.2.1
theorem dX8_growCell_86 : decode cX8_growCell 86 = .ok (.iload_n 2, 1) := gdX8_growCell_80.2.2.2.2.1
theorem dX8_growCell_87 : decode cX8_growCell 87 = .ok (.ireturn, 1) := gdX8_growCell_80.2.2.2.2.2
set_option maxHeartbeats 8000000 in
set_option maxRecDepth 100000 in
theorem x_X8_growCell (l : Launch) (E : EE) (z0 : Nat) (G : Nat → Nat) (hGz : ∀ q, G q ≠ 0 → z0 ≤ q) (B : AA) (R : RR) (hW : TW G B R) (h0 : Nat) (p0 : Nat) (hG : G h0 = 10) (hG0 : G p0 = 31) : Met l yX8_growCell [Cond.code yX8_growCell cX8_growCell 4 (some .int)] ({ frames := 2, cells := 0, slots := 0, locals := 42 } : Room) (va_Pc [.ref h0, .ref p0] (fun U => TX E G B R U.heap ∧ KS E z0 U)) (va_Qi (fun (r : Int32) (u : AA) => (TW G u R) ∧ (Fr G ([14, 16, 17] : List Nat) B u) ∧ (C_X8_growCell G B R h0 p0 u r)) (fun u t => TX E G u R t.heap) (fun q : Nat => G q ∈ ([14, 16, 17] : List Nat))) 0 0 (fun q : Nat => G q ∈ ([14, 16, 17] : List Nat)) := by
  refine Met.ofW (cc := cX8_growCell) (maxL := 4) (ret := (some .int)) (by decide) rfl ?_
  intro p e s m args below meth c s₁ B9 hml hv
  obtain ⟨rfl, hT, hK⟩ := hv
  have hx := B9.exec
  have hb := B9.bytes
  have hr := B9.returns
  have hts : ∀ w ∈ TS, w.before ([.ref h0, .ref p0] : List Value).toArray s = true := fun w hw => hK.2.1 w hw _
  have hown : s.vm.findClass RX8 = some m.cls := findClass_of_methodNamed B9.named
  have hlocks := B9.notSynchronized
  have hS : va_S (fun q : Nat => G q ∈ ([14, 16, 17] : List Nat)) s.heap s.heap [] := va_S.rf
  have hAz : ∀ q, (fun q : Nat => G q ∈ ([14, 16, 17] : List Nat)) q → z0 ≤ q := zL hGz (by decide)
  have hW_0 := hW
  have hl := lv_entry ([.ref h0, .ref p0]) (n := 4) (Nat.le_of_ble_eq_true rfl)
  rw [lg_entry_eq]
  generalize (lg_sl ([.ref h0, .ref p0]) ++ List.replicate (4 - (lg_sl ([.ref h0, .ref p0])).length) Slot.unset).toArray = ls at hl ⊢
  have hl : lv_has ls 4 [(0, .ref h0), (1, .ref p0)] := hl
  refine lv_aload_n hx hb dX8_growCell_0 rfl (lv_at hl 0 rfl) ?_
  have ha_1 := tx_10 hT hG
  have hg_2 : G (R h0 1) = 5 := (tw_10 hW hG).2.1
  refine va_get (D := DG E) (ci := 8) (v := .ref (R h0 1)) (C := RX8) (T := TX8) (N := 9) hx hb hts iw_X8 hown hK.1 (va_one ha_1) 0 rfl rfl 1 (by decide) (hts _ fl_X8_26) (fun _ h9 => h9) rfl dX8_growCell_1 ?_
  refine lv_aload_n hx hb dX8_growCell_4 rfl (lv_at hl 1 rfl) ?_
  have ha_3 := tx_31 hT hG0
  refine va_get (D := DG E) (ci := 2) (v := .int (B p0 5)) (C := RX2) (T := TX2) (N := 8) hx hb hts iw_X2 hown hK.1 (va_one ha_3) 0 rfl rfl 5 (by decide) (hts _ fl_X8_151) (fun _ h9 => h9) rfl dX8_growCell_5 ?_
  have ha_4 := tx_5 hT hg_2
  refine va_calli (rnV (fun H => TX E G B R H) (As := [.int (B p0 5)]) (rest := []) ⟨hx, hb, hml, hown, hts⟩ (x_X1_at l E z0 G hGz B R hW (R h0 1) (B p0 5) hg_2) (cwV 1 hts (gdV ml_X8_154 im_X1_at se_X1_X1_at in_X1 co_X1_at rfl) rfl rfl rfl (by decide +kernel) ⟨Nat.le_of_ble_eq_true rfl, Nat.le_of_ble_eq_true rfl⟩) hT (fun U hU hW => hK.go hW hS hAz hU) (va_recv hK.1 (va_one ha_4) (ci := 1) (q0 := 0) rfl rfl) rfl rfl hl.1 rfl (lv_room (Nat.le_of_ble_eq_true rfl)) dX8_growCell_8 ⟨Nat.le_of_ble_eq_true rfl, Nat.le_of_ble_eq_true rfl⟩) hS (fun q _ h => h.elim) (fun q h => h.elim) (fun r_5 _ t H locs ht hvm hwr_5 hB hz hk hS => ?_)
  have hT : TX E G B R H := hT.kept (fun q hq => hk q hq (fun h => h))
  have hCr_5 : C_X1_at G B R (R h0 1) (B p0 5) r_5 := hwr_5
  refine lv_istore_n (lv' := [(2, .int r_5), (0, .ref h0), (1, .ref p0)]) hx hb dX8_growCell_11 rfl hl (by decide) rfl (fun ls hl => ?_)
  refine lv_aload_n hx hb dX8_growCell_12 rfl (lv_at hl 1 rfl) ?_
  have ha_6 := tx_10 hT hG
  refine va_get (D := DG E) (ci := 8) (v := .ref (R h0 1)) (C := RX8) (T := TX8) (N := 9) hx hb hts iw_X8 hown hK.1 (va_one ha_6) 0 rfl rfl 1 (by decide) (hts _ fl_X8_26) (fun _ h9 => h9) rfl dX8_growCell_13 ?_
  refine lv_aload_n hx hb dX8_growCell_16 rfl (lv_at hl 2 rfl) ?_
  have ha_7 := tx_31 hT hG0
  refine va_get (D := DG E) (ci := 2) (v := .int (B p0 5)) (C := RX2) (T := TX2) (N := 8) hx hb hts iw_X2 hown hK.1 (va_one ha_7) 0 rfl rfl 5 (by decide) (hts _ fl_X8_151) (fun _ h9 => h9) rfl dX8_growCell_17 ?_
  refine lv_iload_n hx hb dX8_growCell_20 rfl (lv_at hl 0 rfl) ?_
  refine lv_aload_n hx hb dX8_growCell_21 rfl (lv_at hl 2 rfl) ?_
  refine va_get (D := DG E) (ci := 2) (v := .int (B p0 6)) (C := RX2) (T := TX2) (N := 8) hx hb hts iw_X2 hown hK.1 (va_one ha_7) 0 rfl rfl 6 (by decide) (hts _ fl_X8_158) (fun _ h9 => h9) rfl dX8_growCell_22 ?_
  refine lv_iadd hx hb dX8_growCell_25 ?_
  refine lv_topi (fun x_8 ex_8 => ?_)
  have ha_9 := tx_5 hT hg_2
  refine va_callv (rnV (fun H => TX E G B R H) (As := [.int (B p0 5), .int x_8]) (rest := []) ⟨hx, hb, hml, hown, hts⟩ (x_X1_put l E z0 G hGz B R hW (R h0 1) (B p0 5) x_8 hg_2) (cwV 2 hts (gdV ml_X8_161 im_X1_put se_X1_X1_put in_X1 co_X1_put rfl) rfl rfl rfl (by decide +kernel) ⟨Nat.le_of_ble_eq_true rfl, Nat.le_of_ble_eq_true rfl⟩) hT (fun U hU hW => hK.go hW hS hAz hU) (va_recv hK.1 (va_one ha_9) (ci := 1) (q0 := 0) rfl rfl) rfl rfl hl.1 rfl (lv_room (Nat.le_of_ble_eq_true rfl)) dX8_growCell_26 ⟨Nat.le_of_ble_eq_true rfl, Nat.le_of_ble_eq_true rfl⟩) hS (fun q _ h => mL (L' := [14]) (L := [14, 16, 17]) (by decide) h) (fun q h => mL (L' := [14]) (L := [14, 16, 17]) (by decide) h) (fun U_11 t H locs ht hvm hwr_10 hB hz hk hS => ?_)
  have hT : TX E G U_11 R H := by rw [ht] at hB; exact hB
  have hWr_10 : TW G U_11 R := hwr_10.1
  have hW := hWr_10
  have hFr_10 : Fr G [14] B U_11 := hwr_10.2.1
  have hCr_10 : C_X1_put G B R (R h0 1) (B p0 5) x_8 U_11 := hwr_10.2.2
  refine lv_iconst (v := 1) hx hb dX8_growCell_29 (by decide) ?_
  refine lv_istore_n (lv' := [(3, .int 1), (2, .int r_5), (0, .ref h0), (1, .ref p0)]) hx hb dX8_growCell_30 rfl hl (by decide) rfl (fun ls hl => ?_)
  refine lv_iload_n hx hb dX8_growCell_31 rfl (lv_at hl 0 rfl) ?_
  refine lv_if_le (tgt := 69) hx hb dX8_growCell_32 (by decide) (fun c_12 => absurd c_12 (by decide)) (fun c_12 => ?_)
  refine lv_aload_n hx hb dX8_growCell_35 rfl (lv_at hl 2 rfl) ?_
  have ha_13 := tx_10 hT hG
  have hg_14 : G (R h0 7) = 16 := (tw_10 hW hG).2.2.2.2.1
  refine va_get (D := DG E) (ci := 8) (v := .ref (R h0 7)) (C := RX8) (T := TX8) (N := 9) hx hb hts iw_X8 hown hK.1 (va_one ha_13) 0 rfl rfl 7 (by decide) (hts _ fl_X8_9) (fun _ h9 => h9) rfl dX8_growCell_36 ?_
  refine lv_iload_n hx hb dX8_growCell_39 rfl (lv_at hl 0 rfl) ?_
  refine lv_aload_n hx hb dX8_growCell_40 rfl (lv_at hl 2 rfl) ?_
  refine va_get (D := DG E) (ci := 8) (v := .ref (R h0 7)) (C := RX8) (T := TX8) (N := 9) hx hb hts iw_X8 hown hK.1 (va_one ha_13) 0 rfl rfl 7 (by decide) (hts _ fl_X8_9) (fun _ h9 => h9) rfl dX8_growCell_41 ?_
  refine lv_iload_n hx hb dX8_growCell_44 rfl (lv_at hl 0 rfl) ?_
  refine lv_iconst (v := 1) hx hb dX8_growCell_45 (by decide) ?_
  refine lv_isub hx hb dX8_growCell_46 ?_
  refine W.eq (g2 := F0 m 47 ls [.int 0, .ref (R h0 7), .int 1, .ref (R h0 7)]) (by rfl) ?_
  have ha_15 := tx_16 hT hg_14
  have l_16 : U_11 (R h0 7) 0 = (B (R h0 7) 0) := (congrFun (hFr_10 (R h0 7) (by rw [hg_14]; decide)) 0)
  refine va_iald (D := DG E) hx hb hK.1 (va_one ha_15) 0 0 rfl rfl (show vp_in (0) 2 from vp_in_iff.mpr ⟨by decide, by decide⟩) dX8_growCell_47 ?_
  refine W.eq (g2 := F0 m 48 ls [.int (B (R h0 7) 0), .int 1, .ref (R h0 7)]) (congrArg (fun z => F0 m 48 ls (.int z :: [.int 1, .ref (R h0 7)])) l_16) ?_
  refine rr_iast (D := DG E) hx hb hK.1 0 ha_15 hS (by show G (R h0 7) ∈ ([14, 16, 17] : List Nat); rw [hg_14]; decide) rfl (show vp_in (1) 2 from vp_in_iff.mpr ⟨by decide, by decide⟩) dX8_growCell_48 (fun H locs hn ho hz hS => ?_)
  obtain ⟨B_17, eB_17⟩ : ∃ z : AA, z = uA U_11 (R h0 7) (upd (U_11 (R h0 7)) 1 (B (R h0 7) 0)) := ⟨_, rfl⟩
  have sB_17 : B_17 (R h0 7) 1 = (B (R h0 7) 0) := by rw [eB_17, uA_s]; exact upd_s
  have nB_17 : ∀ k, k ≠ 1 → B_17 (R h0 7) k = U_11 (R h0 7) k := fun k hk => by rw [eB_17, uA_s]; exact upd_n hk
  have fB_17 : ∀ c, G c ≠ 16 → B_17 c = U_11 c := fun c hc => by rw [eB_17]; exact uA_n (fun e => hc (by rw [e]; exact hg_14))
  have hT : TX E G B_17 R H := by rw [eB_17]; exact hT.w (by rw [hg_14]; exact hn) ho
  have hWB_17 : TW G B_17 R := by rw [eB_17]; exact hWr_10.w (by rw [hg_14]; exact trivial)
  have hW := hWB_17
  refine lv_aload_n hx hb dX8_growCell_49 rfl (lv_at hl 2 rfl) ?_
  have ha_18 := tx_10 hT hG
  have hg_19 : G (R h0 8) = 17 := (tw_10 hW hG).2.2.2.2.2
  refine va_get (D := DG E) (ci := 8) (v := .ref (R h0 8)) (C := RX8) (T := TX8) (N := 9) hx hb hts iw_X8 hown hK.1 (va_one ha_18) 0 rfl rfl 8 (by decide) (hts _ fl_X8_15) (fun _ h9 => h9) rfl dX8_growCell_50 ?_
  refine lv_iload_n hx hb dX8_growCell_53 rfl (lv_at hl 0 rfl) ?_
  refine lv_aload_n hx hb dX8_growCell_54 rfl (lv_at hl 2 rfl) ?_
  refine va_get (D := DG E) (ci := 8) (v := .ref (R h0 8)) (C := RX8) (T := TX8) (N := 9) hx hb hts iw_X8 hown hK.1 (va_one ha_18) 0 rfl rfl 8 (by decide) (hts _ fl_X8_15) (fun _ h9 => h9) rfl dX8_growCell_55 ?_
  refine lv_iload_n hx hb dX8_growCell_58 rfl (lv_at hl 0 rfl) ?_
  refine lv_iconst (v := 1) hx hb dX8_growCell_59 (by decide) ?_
  refine lv_isub hx hb dX8_growCell_60 ?_
  refine W.eq (g2 := F0 m 61 ls [.int 0, .ref (R h0 8), .int 1, .ref (R h0 8)]) (by rfl) ?_
  have ha_20 := tx_17 hT hg_19
  have l_21 : B_17 (R h0 8) 0 = (B (R h0 8) 0) := ((congrFun (fB_17 (R h0 8) (by rw [hg_19]; decide)) 0)).trans ((congrFun (hFr_10 (R h0 8) (by rw [hg_19]; decide)) 0))
  refine va_iald (D := DG E) hx hb hK.1 (va_one ha_20) 0 0 rfl rfl (show vp_in (0) 2 from vp_in_iff.mpr ⟨by decide, by decide⟩) dX8_growCell_61 ?_
  refine W.eq (g2 := F0 m 62 ls [.int (B (R h0 8) 0), .int 1, .ref (R h0 8)]) (congrArg (fun z => F0 m 62 ls (.int z :: [.int 1, .ref (R h0 8)])) l_21) ?_
  refine rr_iast (D := DG E) hx hb hK.1 0 ha_20 hS (by show G (R h0 8) ∈ ([14, 16, 17] : List Nat); rw [hg_19]; decide) rfl (show vp_in (1) 2 from vp_in_iff.mpr ⟨by decide, by decide⟩) dX8_growCell_62 (fun H locs hn ho hz hS => ?_)
  obtain ⟨B_22, eB_22⟩ : ∃ z : AA, z = uA B_17 (R h0 8) (upd (B_17 (R h0 8)) 1 (B (R h0 8) 0)) := ⟨_, rfl⟩
  have sB_22 : B_22 (R h0 8) 1 = (B (R h0 8) 0) := by rw [eB_22, uA_s]; exact upd_s
  have nB_22 : ∀ k, k ≠ 1 → B_22 (R h0 8) k = B_17 (R h0 8) k := fun k hk => by rw [eB_22, uA_s]; exact upd_n hk
  have fB_22 : ∀ c, G c ≠ 17 → B_22 c = B_17 c := fun c hc => by rw [eB_22]; exact uA_n (fun e => hc (by rw [e]; exact hg_19))
  have hT : TX E G B_22 R H := by rw [eB_22]; exact hT.w (by rw [hg_19]; exact hn) ho
  have hWB_22 : TW G B_22 R := by rw [eB_22]; exact hWB_17.w (by rw [hg_19]; exact trivial)
  have hW := hWB_22
  refine lv_iinc (v := 0) (lv' := [(3, .int 0), (2, .int r_5), (0, .ref h0), (1, .ref p0)]) hx hb dX8_growCell_63 hl (k := 0) rfl (by decide) (by decide) rfl (fun ls hl => ?_)
  refine lv_goto (tgt := 31) hx hb dX8_growCell_66 (by decide) ?_
  refine lv_iload_n hx hb dX8_growCell_31 rfl (lv_at hl 0 rfl) ?_
  refine lv_if_le (tgt := 69) hx hb dX8_growCell_32 (by decide) (fun c_23 => ?_) (fun c_23 => absurd c_23 (by decide))
  refine lv_aload_n hx hb dX8_growCell_69 rfl (lv_at hl 2 rfl) ?_
  have ha_24 := tx_10 hT hG
  refine va_get (D := DG E) (ci := 8) (v := .ref (R h0 7)) (C := RX8) (T := TX8) (N := 9) hx hb hts iw_X8 hown hK.1 (va_one ha_24) 0 rfl rfl 7 (by decide) (hts _ fl_X8_9) (fun _ h9 => h9) rfl dX8_growCell_70 ?_
  refine lv_iconst (v := 0) hx hb dX8_growCell_73 (by decide) ?_
  refine lv_aload_n hx hb dX8_growCell_74 rfl (lv_at hl 3 rfl) ?_
  have ha_25 := tx_31 hT hG0
  have l_26 : B_22 p0 2 = (B p0 2) := ((congrFun (fB_22 p0 (by rw [hG0]; decide)) 2)).trans (((congrFun (fB_17 p0 (by rw [hG0]; decide)) 2)).trans ((congrFun (hFr_10 p0 (by rw [hG0]; decide)) 2)))
  refine va_get (D := DG E) (ci := 2) (v := .int (B_22 p0 2)) (C := RX2) (T := TX2) (N := 8) hx hb hts iw_X2 hown hK.1 (va_one ha_25) 0 rfl rfl 2 (by decide) (hts _ fl_X8_59) (fun _ h9 => h9) rfl dX8_growCell_75 ?_
  refine W.eq (g2 := F0 m 78 ls [.int (B p0 2), .int 0, .ref (R h0 7)]) (by rw [l_26]) ?_
  have ha_27 := tx_16 hT hg_14
  refine rr_iast (D := DG E) hx hb hK.1 0 ha_27 hS (by show G (R h0 7) ∈ ([14, 16, 17] : List Nat); rw [hg_14]; decide) rfl (show vp_in (0) 2 from vp_in_iff.mpr ⟨by decide, by decide⟩) dX8_growCell_78 (fun H locs hn ho hz hS => ?_)
  obtain ⟨B_28, eB_28⟩ : ∃ z : AA, z = uA B_22 (R h0 7) (upd (B_22 (R h0 7)) 0 (B p0 2)) := ⟨_, rfl⟩
  have sB_28 : B_28 (R h0 7) 0 = (B p0 2) := by rw [eB_28, uA_s]; exact upd_s
  have nB_28 : ∀ k, k ≠ 0 → B_28 (R h0 7) k = B_22 (R h0 7) k := fun k hk => by rw [eB_28, uA_s]; exact upd_n hk
  have fB_28 : ∀ c, G c ≠ 16 → B_28 c = B_22 c := fun c hc => by rw [eB_28]; exact uA_n (fun e => hc (by rw [e]; exact hg_14))
  have hT : TX E G B_28 R H := by rw [eB_28]; exact hT.w (by rw [hg_14]; exact hn) ho
  have hWB_28 : TW G B_28 R := by rw [eB_28]; exact hWB_22.w (by rw [hg_14]; exact trivial)
  have hW := hWB_28
  refine lv_aload_n hx hb dX8_growCell_79 rfl (lv_at hl 2 rfl) ?_
  have ha_29 := tx_10 hT hG
  refine va_get (D := DG E) (ci := 8) (v := .ref (R h0 8)) (C := RX8) (T := TX8) (N := 9) hx hb hts iw_X8 hown hK.1 (va_one ha_29) 0 rfl rfl 8 (by decide) (hts _ fl_X8_15) (fun _ h9 => h9) rfl dX8_growCell_80 ?_
  refine lv_iconst (v := 0) hx hb dX8_growCell_83 (by decide) ?_
  refine lv_iload_n hx hb dX8_growCell_84 rfl (lv_at hl 1 rfl) ?_
  have ha_30 := tx_17 hT hg_19
  refine rr_iast (D := DG E) hx hb hK.1 0 ha_30 hS (by show G (R h0 8) ∈ ([14, 16, 17] : List Nat); rw [hg_19]; decide) rfl (show vp_in (0) 2 from vp_in_iff.mpr ⟨by decide, by decide⟩) dX8_growCell_85 (fun H locs hn ho hz hS => ?_)
  obtain ⟨B_31, eB_31⟩ : ∃ z : AA, z = uA B_28 (R h0 8) (upd (B_28 (R h0 8)) 0 r_5) := ⟨_, rfl⟩
  have sB_31 : B_31 (R h0 8) 0 = r_5 := by rw [eB_31, uA_s]; exact upd_s
  have nB_31 : ∀ k, k ≠ 0 → B_31 (R h0 8) k = B_28 (R h0 8) k := fun k hk => by rw [eB_31, uA_s]; exact upd_n hk
  have fB_31 : ∀ c, G c ≠ 17 → B_31 c = B_28 c := fun c hc => by rw [eB_31]; exact uA_n (fun e => hc (by rw [e]; exact hg_19))
  have hT : TX E G B_31 R H := by rw [eB_31]; exact hT.w (by rw [hg_19]; exact hn) ho
  have hWB_31 : TW G B_31 R := by rw [eB_31]; exact hWB_28.w (by rw [hg_19]; exact trivial)
  have hW := hWB_31
  refine lv_iload_n hx hb dX8_growCell_86 rfl (lv_at hl 1 rfl) ?_
  exact W.iret (v := r_5) hx hb hr (fun t ht hW9 => ⟨⟨r_5, B_31, rfl, ⟨hW, (Fr.w (Fr.w (Fr.w (Fr.w (Fr.c Fr.rf hFr_10 (by decide)) hg_14 (by decide) eB_17) hg_19 (by decide) eB_22) hg_14 (by decide) eB_28) hg_19 (by decide) eB_31), ⟨r_5, hCr_5, x_8, ex_8, U_11, hFr_10, hCr_10, B_17, eB_17, B_22, eB_22, B_28, eB_28, B_31, eB_31, rfl, rfl⟩⟩, (by show TX E G B_31 R t.heap; rw [ht]; exact hT)⟩, hS.F ht⟩) hS.2.2 dX8_growCell_87
theorem gdX8_answerAgain_0 : (decode cX8_answerAgain 0 = .ok (.aload_n 1, 1)) ∧ (decode cX8_answerAgain 1 = .ok (.getfield 75, 3)) ∧ (decode cX8_answerAgain 4 = .ok (.iconst 2, 1)) ∧ (decode cX8_answerAgain 5 = .ok (.if_icmp .ne 22, 3)) ∧ (decode cX8_answerAgain 8 = .ok (.aload_n 1, 1)) ∧ (decode cX8_answerAgain 9 = .ok (.aload_n 0, 1)) ∧ (decode cX8_answerAgain 10 = .ok (.getfield 26, 3)) ∧ (decode cX8_answerAgain 13 = .ok (.invokevirtual 89, 3)) ∧ (decode cX8_answerAgain 16 = .ok (.ifCond .eq 61, 3)) ∧ (decode cX8_answerAgain 19 = .ok (.aload_n 0, 1)) ∧ (decode cX8_answerAgain 20 = .ok (.aload_n 1, 1)) ∧ (decode cX8_answerAgain 21 = .ok (.invokevirtual 93, 3)) ∧ (decode cX8_answerAgain 24 = .ok (.goto 53, 3)) ∧ (decode cX8_answerAgain 27 = .ok (.aload_n 1, 1)) ∧ (decode cX8_answerAgain 28 = .ok (.getfield 75, 3)) ∧ (decode cX8_answerAgain 31 = .ok (.iconst 3, 1)) := by decide +kernel
theorem dX8_answerAgain_0 : decode cX8_answerAgain 0 = .ok (.aload_n 1, 1) := gdX8_answerAgain_0.1
theorem dX8_answerAgain_1 : decode cX8_answerAgain 1 = .ok (.getfield 75, 3) := gdX8_answerAgain_0.2.1
theorem dX8_answerAgain_4 : decode cX8_answerAgain 4 = .ok (.iconst 2, 1) := gdX8_answerAgain_0.2.2.1
theorem dX8_answerAgain_5 : decode cX8_answerAgain 5 = .ok (.if_icmp .ne 22, 3) := gdX8_answerAgain_0.2.2.2.1
theorem dX8_answerAgain_8 : decode cX8_answerAgain 8 = .ok (.aload_n 1, 1) := gdX8_answerAgain_0.2.2.2.2.1
theorem dX8_answerAgain_9 : decode cX8_answerAgain 9 = .ok (.aload_n 0, 1) := gdX8_answerAgain_0.2.2.2.2.2.1
theorem dX8_answerAgain_10 : decode cX8_answerAgain 10 = .ok (.getfield 26, 3) := gdX8_answerAgain_0.2.2.2.2.2.2.1
theorem dX8_answerAgain_13 : decode cX8_answerAgain 13 = .ok (.invokevirtual 89, 3) := gdX8_answerAgain_0.2.2.2.2.2.2.2.1
theorem dX8_answerAgain_16 : decode cX8_answerAgain 16 = .ok (.ifCond .eq 61, 3) := gdX8_answerAgain_0.2.2.2.2.2.2.2.2.1
theorem dX8_answerAgain_19 : decode cX8_answerAgain 19 = .ok (.aload_n 0, 1) := gdX8_answerAgain_0.2.2.2.2.2.2.2.2.2.1
theorem dX8_answerAgain_20 : decode cX8_answerAgain 20 = .ok (.aload_n 1, 1) := gdX8_answerAgain_0.2.2.2.2.2.2.2.2.2.2.1
theorem dX8_answerAgain_21 : decode cX8_answerAgain 21 = .ok (.invokevirtual 93, 3) := gdX8_answerAgain_0.2.2.2.2.2.2.2.2.2.2.2.1
theorem dX8_answerAgain_24 : decode cX8_answerAgain 24 = .ok (.goto 53, 3) := gdX8_answerAgain_0.2.2.2.2.2.2.2.2.2.2.2.2.1
theorem dX8_answerAgain_27 : decode cX8_answerAgain 27 = .ok (.aload_n 1, 1) := gdX8_answerAgain_0.2.2.2.2.2.2.2.2.2.2.2.2.2.1
theorem dX8_answerAgain_28 : decode cX8_answerAgain 28 = .ok (.getfield 75, 3) := gdX8_answerAgain_0.2.2.2.2.2.2.2.2.2.2.2.2.2.2.1
theorem dX8_answerAgain_31 : decode cX8_answerAgain 31 = .ok (.iconst 3, 1) := gdX8_answerAgain_0.2.2.2.2.2.2.2.2.2.2.2.2.2.2.2
theorem gdX8_answerAgain_32 : (decode cX8_answerAgain 32 = .ok (.if_icmp .ne 34, 3)) ∧ (decode cX8_answerAgain 35 = .ok (.aload_n 0, 1)) ∧ (decode cX8_answerAgain 36 = .ok (.aload_n 1, 1)) ∧ (decode cX8_answerAgain 37 = .ok (.getfield 59, 3)) ∧ (decode cX8_answerAgain 40 = .ok (.invokevirtual 96, 3)) ∧ (decode cX8_answerAgain 43 = .ok (.istore_n 2, 1)) ∧ (decode cX8_answerAgain 44 = .ok (.iload_n 2, 1)) ∧ (decode cX8_answerAgain 45 = .ok (.iconst (-1), 1)) ∧ (decode cX8_answerAgain 46 = .ok (.if_icmp .eq 17, 3)) ∧ (decode cX8_answerAgain 49 = .ok (.aload_n 0, 1)) ∧ (decode cX8_answerAgain 50 = .ok (.aload_n 1, 1)) ∧ (decode cX8_answerAgain 51 = .ok (.getfield 59, 3)) ∧ (decode cX8_answerAgain 54 = .ok (.aload_n 0, 1)) ∧ (decode cX8_answerAgain 55 = .ok (.getfield 15, 3)) ∧ (decode cX8_answerAgain 58 = .ok (.iload_n 2, 1)) ∧ (decode cX8_answerAgain 59 = .ok (.iaload, 1)) := by decide +kernel
theorem dX8_answerAgain_32 : decode cX8_answerAgain 32 = .ok (.if_icmp .ne 34, 3) := gdX8_answerAgain_32.1
theorem dX8_answerAgain_35 : decode cX8_answerAgain 35 = .ok (.aload_n 0, 1) := gdX8_answerAgain_32.2.1
theorem dX8_answerAgain_36 : decode cX8_answerAgain 36 = .ok (.aload_n 1, 1) := gdX8_answerAgain_32.2.2.1
theorem dX8_answerAgain_37 : decode cX8_answerAgain 37 = .ok (.getfield 59, 3) := gdX8_answerAgain_32.2.2.2.1
theorem dX8_answerAgain_40 : decode cX8_answerAgain 40 = .ok (.invokevirtual 96, 3) := gdX8_answerAgain_32.2.2.2.2.1
theorem dX8_answerAgain_43 : decode cX8_answerAgain 43 = .ok (.istore_n 2, 1) := gdX8_answerAgain_32.2.2.2.2.2.1
theorem dX8_answerAgain_44 : decode cX8_answerAgain 44 = .ok (.iload_n 2, 1) := gdX8_answerAgain_32.2.2.2.2.2.2.1
theorem dX8_answerAgain_45 : decode cX8_answerAgain 45 = .ok (.iconst (-1), 1) := gdX8_answerAgain_32.2.2.2.2.2.2.2.1
theorem dX8_answerAgain_46 : decode cX8_answerAgain 46 = .ok (.if_icmp .eq 17, 3) := gdX8_answerAgain_32.2.2.2.2.2.2.2.2.1
theorem dX8_answerAgain_49 : decode cX8_answerAgain 49 = .ok (.aload_n 0, 1) := gdX8_answerAgain_32.2.2.2.2.2.2.2.2.2.1
theorem dX8_answerAgain_50 : decode cX8_answerAgain 50 = .ok (.aload_n 1, 1) := gdX8_answerAgain_32.2.2.2.2.2.2.2.2.2.2.1
theorem dX8_answerAgain_51 : decode cX8_answerAgain 51 = .ok (.getfield 59, 3) := gdX8_answerAgain_32.2.2.2.2.2.2.2.2.2.2.2.1
theorem dX8_answerAgain_54 : decode cX8_answerAgain 54 = .ok (.aload_n 0, 1) := gdX8_answerAgain_32.2.2.2.2.2.2.2.2.2.2.2.2.1
theorem dX8_answerAgain_55 : decode cX8_answerAgain 55 = .ok (.getfield 15, 3) := gdX8_answerAgain_32.2.2.2.2.2.2.2.2.2.2.2.2.2.1
theorem dX8_answerAgain_58 : decode cX8_answerAgain 58 = .ok (.iload_n 2, 1) := gdX8_answerAgain_32.2.2.2.2.2.2.2.2.2.2.2.2.2.2.1
theorem dX8_answerAgain_59 : decode cX8_answerAgain 59 = .ok (.iaload, 1) := gdX8_answerAgain_32.2.2.2.2.2.2.2.2.2.2.2.2.2.2.2
theorem gdX8_answerAgain_60 : (decode cX8_answerAgain 60 = .ok (.invokevirtual 99, 3)) ∧ (decode cX8_answerAgain 63 = .ok (.goto 14, 3)) ∧ (decode cX8_answerAgain 66 = .ok (.aload_n 0, 1)) ∧ (decode cX8_answerAgain 67 = .ok (.aload_n 0, 1)) ∧ (decode cX8_answerAgain 68 = .ok (.getfield 49, 3)) ∧ (decode cX8_answerAgain 71 = .ok (.invokestatic 102, 3)) ∧ (decode cX8_answerAgain 74 = .ok (.invokevirtual 105, 3)) ∧ (decode cX8_answerAgain 77 = .ok (.return_, 1)) := by decide +kernel
theorem dX8_answerAgain_60 : decode cX8_answerAgain 60 = .ok (.invokevirtual 99, 3) := gdX8_answerAgain_60.1
theorem dX8_answerAgain_63 : decode cX8_answerAgain 63 = .ok (.goto 14, 3) := gdX8_answerAgain_60.2.1
theorem dX8_answerAgain_66 : decode cX8_answerAgain 66 = .ok (.aload_n 0, 1) := gdX8_answerAgain_60.2.2.1
theorem dX8_answerAgain_67 : decode cX8_answerAgain 67 = .ok (.aload_n 0, 1) := gdX8_answerAgain_60.2.2.2.1
theorem dX8_answerAgain_68 : decode cX8_answerAgain 68 = .ok (.getfield 49, 3) := gdX8_answerAgain_60.2.2.2.2.1
theorem dX8_answerAgain_71 : decode cX8_answerAgain 71 = .ok (.invokestatic 102, 3) := gdX8_answerAgain_60.2.2.2.2.2.1
theorem dX8_answerAgain_74 : decode cX8_answerAgain 74 = .ok (.invokevirtual 105, 3) := gdX8_answerAgain_60.2.2.2.2.2.2.1
theorem dX8_answerAgain_77 : decode cX8_answerAgain 77 = .ok (.return_, 1) := gdX8_answerAgain_60.2.2.2.2.2.2.2
set_option maxHeartbeats 8000000 in
set_option maxRecDepth 100000 in
theorem x_X8_answerAgain (l : Launch) (E : EE) (z0 : Nat) (G : Nat → Nat) (hGz : ∀ q, G q ≠ 0 → z0 ≤ q) (B : AA) (R : RR) (hW : TW G B R) (h0 : Nat) (p0 : Nat) (hG : G h0 = 10) (hG0 : G p0 = 31) : Met l yX8_answerAgain [Cond.code yX8_answerAgain cX8_answerAgain 3 none] ({ frames := 4, cells := 0, slots := 0, locals := 88 } : Room) (va_Pc [.ref h0, .ref p0] (fun U => TX E G B R U.heap ∧ KS E z0 U)) (va_Qv (fun (u : AA) => (TW G u R) ∧ (Fr G ([4, 31, 32] : List Nat) B u) ∧ (C_X8_answerAgain G B R h0 p0 u)) (fun u t => TX E G u R t.heap) (fun q : Nat => G q ∈ ([4, 31, 32] : List Nat))) 0 0 (fun q : Nat => G q ∈ ([4, 31, 32] : List Nat)) := by
  refine Met.ofW (cc := cX8_answerAgain) (maxL := 3) (ret := none) (by decide) rfl ?_
  intro p e s m args below meth c s₁ B9 hml hv
  obtain ⟨rfl, hT, hK⟩ := hv
  have hx := B9.exec
  have hb := B9.bytes
  have hr := B9.returns
  have hts : ∀ w ∈ TS, w.before ([.ref h0, .ref p0] : List Value).toArray s = true := fun w hw => hK.2.1 w hw _
  have hown : s.vm.findClass RX8 = some m.cls := findClass_of_methodNamed B9.named
  have hlocks := B9.notSynchronized
  have hS : va_S (fun q : Nat => G q ∈ ([4, 31, 32] : List Nat)) s.heap s.heap [] := va_S.rf
  have hAz : ∀ q, (fun q : Nat => G q ∈ ([4, 31, 32] : List Nat)) q → z0 ≤ q := zL hGz (by decide)
  have hW_0 := hW
  have hl := lv_entry ([.ref h0, .ref p0]) (n := 3) (Nat.le_of_ble_eq_true rfl)
  rw [lg_entry_eq]
  generalize (lg_sl ([.ref h0, .ref p0]) ++ List.replicate (3 - (lg_sl ([.ref h0, .ref p0])).length) Slot.unset).toArray = ls at hl ⊢
  have hl : lv_has ls 3 [(0, .ref h0), (1, .ref p0)] := hl
  refine lv_aload_n hx hb dX8_answerAgain_0 rfl (lv_at hl 1 rfl) ?_
  have ha_1 := tx_31 hT hG0
  refine va_get (D := DG E) (ci := 2) (v := .int (B p0 1)) (C := RX2) (T := TX2) (N := 8) hx hb hts iw_X2 hown hK.1 (va_one ha_1) 0 rfl rfl 1 (by decide) (hts _ fl_X8_75) (fun _ h9 => h9) rfl dX8_answerAgain_1 ?_
  refine lv_iconst (v := 2) hx hb dX8_answerAgain_4 (by decide) ?_
  refine lv_icmp_ne (tgt := 27) hx hb dX8_answerAgain_5 (by decide) (fun c_2 => ?_) (fun c_2 => ?_)
  · simp only [lt_I, le_I, eq_I, i_0, i_1, i_2, i_3, i_4, i_5, i_6, i_7, i_8, i_10, i_12, i_16, i_20, i_23, i_24, i_31, i_32, i_63, i_64, i_m1] at c_2
    refine lv_aload_n hx hb dX8_answerAgain_27 rfl (lv_at hl 1 rfl) ?_
    refine va_get (D := DG E) (ci := 2) (v := .int (B p0 1)) (C := RX2) (T := TX2) (N := 8) hx hb hts iw_X2 hown hK.1 (va_one ha_1) 0 rfl rfl 1 (by decide) (hts _ fl_X8_75) (fun _ h9 => h9) rfl dX8_answerAgain_28 ?_
    refine lv_iconst (v := 3) hx hb dX8_answerAgain_31 (by decide) ?_
    refine lv_icmp_ne (tgt := 66) hx hb dX8_answerAgain_32 (by decide) (fun c_3 => ?_) (fun c_3 => ?_)
    · simp only [lt_I, le_I, eq_I, i_0, i_1, i_2, i_3, i_4, i_5, i_6, i_7, i_8, i_10, i_12, i_16, i_20, i_23, i_24, i_31, i_32, i_63, i_64, i_m1] at c_3
      refine lv_aload_n hx hb dX8_answerAgain_66 rfl (lv_at hl 0 rfl) ?_
      refine lv_aload_n hx hb dX8_answerAgain_67 rfl (lv_at hl 0 rfl) ?_
      have ha_4 := tx_10 hT hG
      refine va_get (D := DG E) (ci := 8) (v := .int (B h0 4)) (C := RX8) (T := TX8) (N := 9) hx hb hts iw_X8 hown hK.1 (va_one ha_4) 0 rfl rfl 4 (by decide) (hts _ fl_X8_49) (fun _ h9 => h9) rfl dX8_answerAgain_68 ?_
      refine va_calli (rnSK (fun _ => True) (As := [.int (B h0 4)]) (rest := [.ref h0]) ⟨hx, hb, hml, hown, hts⟩ (x_X9_before l E z0 (B h0 4)) ⟨va_cnB (host := RX9) 1 hts (gd1 co_X9_before rfl) rfl rfl rfl (hK.2.1 _ mn_X8_102 #[]) (hts _ in_X9) (by decide +kernel) ⟨Nat.le_of_ble_eq_true rfl, Nat.le_of_ble_eq_true rfl⟩, hts _ st_X9_before, trivial⟩ trivial (fun U hU hW => hK.go hW hS hAz hU) rfl rfl hl.1 rfl (lv_room (Nat.le_of_ble_eq_true rfl)) dX8_answerAgain_71 ⟨Nat.le_of_ble_eq_true rfl, Nat.le_of_ble_eq_true rfl⟩) hS (fun q _ h => h.elim) (fun q h => h.elim) (fun r_5 _ t H locs ht hvm hwr_5 hB hz hk hS => ?_)
      have hT : TX E G B R H := hT.kept (fun q hq => hk q hq (fun h => h))
      have hzr_5 := s_and63 ((B h0 4) + (-1)); rw [← hwr_5] at hzr_5
      have ha_6 := tx_10 hT hG
      refine va_callv (rnV (fun H => TX E G B R H) (As := [.int r_5]) (rest := []) ⟨hx, hb, hml, hown, hts⟩ (x_X8_acknowledge l E z0 G hGz B R hW h0 r_5 hG) (cwV 1 hts (gdV ml_X8_105 im_X8_acknowledge se_X8_X8_acknowledge in_X8 co_X8_acknowledge rfl) rfl rfl rfl (by decide +kernel) ⟨Nat.le_of_ble_eq_true rfl, Nat.le_of_ble_eq_true rfl⟩) hT (fun U hU hW => hK.go hW hS hAz hU) (va_recv hK.1 (va_one ha_6) (ci := 8) (q0 := 0) rfl rfl) rfl rfl hl.1 rfl (lv_room (Nat.le_of_ble_eq_true rfl)) dX8_answerAgain_74 ⟨Nat.le_of_ble_eq_true rfl, Nat.le_of_ble_eq_true rfl⟩) hS (fun q _ h => mL (L' := [4, 31]) (L := [4, 31, 32]) (by decide) h) (fun q h => mL (L' := [4, 31]) (L := [4, 31, 32]) (by decide) h) (fun U_8 t H locs ht hvm hwr_7 hB hz hk hS => ?_)
      have hT : TX E G U_8 R H := by rw [ht] at hB; exact hB
      have hWr_7 : TW G U_8 R := hwr_7.1
      have hW := hWr_7
      have hFr_7 : Fr G [4, 31] B U_8 := hwr_7.2.1
      have hCr_7 : C_X8_acknowledge G B R h0 r_5 U_8 := hwr_7.2.2
      exact W.vret hx hb hr (fun t ht hW9 => ⟨⟨U_8, rfl, ⟨hW, (Fr.c Fr.rf hFr_7 (by decide)), (Or.inl ⟨c_2, c_3, r_5, hwr_5, U_8, hFr_7, hCr_7, rfl⟩)⟩, (by show TX E G U_8 R t.heap; rw [ht]; exact hT)⟩, hS.F ht⟩) hS.2.2 dX8_answerAgain_77
    · simp only [lt_I, le_I, eq_I, i_0, i_1, i_2, i_3, i_4, i_5, i_6, i_7, i_8, i_10, i_12, i_16, i_20, i_23, i_24, i_31, i_32, i_63, i_64, i_m1] at c_3
      refine lv_aload_n hx hb dX8_answerAgain_35 rfl (lv_at hl 0 rfl) ?_
      refine lv_aload_n hx hb dX8_answerAgain_36 rfl (lv_at hl 1 rfl) ?_
      refine va_get (D := DG E) (ci := 2) (v := .int (B p0 2)) (C := RX2) (T := TX2) (N := 8) hx hb hts iw_X2 hown hK.1 (va_one ha_1) 0 rfl rfl 2 (by decide) (hts _ fl_X8_59) (fun _ h9 => h9) rfl dX8_answerAgain_37 ?_
      have ha_9 := tx_10 hT hG
      refine va_calli (rnV (fun H => TX E G B R H) (As := [.int (B p0 2)]) (rest := []) ⟨hx, hb, hml, hown, hts⟩ (x_X8_keptAdd l E z0 G hGz B R hW h0 (B p0 2) hG) (cwV 1 hts (gdV ml_X8_96 im_X8_keptAdd se_X8_X8_keptAdd in_X8 co_X8_keptAdd rfl) rfl rfl rfl (by decide +kernel) ⟨Nat.le_of_ble_eq_true rfl, Nat.le_of_ble_eq_true rfl⟩) hT (fun U hU hW => hK.go hW hS hAz hU) (va_recv hK.1 (va_one ha_9) (ci := 8) (q0 := 0) rfl rfl) rfl rfl hl.1 rfl (lv_room (Nat.le_of_ble_eq_true rfl)) dX8_answerAgain_40 ⟨Nat.le_of_ble_eq_true rfl, Nat.le_of_ble_eq_true rfl⟩) hS (fun q _ h => h.elim) (fun q h => h.elim) (fun r_10 _ t H locs ht hvm hwr_10 hB hz hk hS => ?_)
      have hT : TX E G B R H := hT.kept (fun q hq => hk q hq (fun h => h))
      have hp0r_10 : -1 ≤ r_10.toInt ∧ r_10.toInt ≤ 1 := hwr_10.1
      have hCr_10 : C_X8_keptAdd G B R h0 (B p0 2) r_10 := hwr_10.2
      refine lv_istore_n (lv' := [(2, .int r_10), (0, .ref h0), (1, .ref p0)]) hx hb dX8_answerAgain_43 rfl hl (by decide) rfl (fun ls hl => ?_)
      refine lv_iload_n hx hb dX8_answerAgain_44 rfl (lv_at hl 0 rfl) ?_
      refine lv_iconst (v := (-1)) hx hb dX8_answerAgain_45 (by decide) ?_
      refine lv_icmp_eq (tgt := 63) hx hb dX8_answerAgain_46 (by decide) (fun c_11 => ?_) (fun c_11 => ?_)
      · simp only [lt_I, le_I, eq_I, i_0, i_1, i_2, i_3, i_4, i_5, i_6, i_7, i_8, i_10, i_12, i_16, i_20, i_23, i_24, i_31, i_32, i_63, i_64, i_m1] at c_11
        refine lv_goto (tgt := 77) hx hb dX8_answerAgain_63 (by decide) ?_
        exact W.vret hx hb hr (fun t ht hW9 => ⟨⟨B, rfl, ⟨hW, Fr.rf, (Or.inr (Or.inl ⟨c_2, c_3, r_10, hCr_10, c_11, rfl⟩))⟩, (by show TX E G B R t.heap; rw [ht]; exact hT)⟩, hS.F ht⟩) hS.2.2 dX8_answerAgain_77
      · simp only [lt_I, le_I, eq_I, i_0, i_1, i_2, i_3, i_4, i_5, i_6, i_7, i_8, i_10, i_12, i_16, i_20, i_23, i_24, i_31, i_32, i_63, i_64, i_m1] at c_11
        refine lv_aload_n hx hb dX8_answerAgain_49 rfl (lv_at hl 1 rfl) ?_
        refine lv_aload_n hx hb dX8_answerAgain_50 rfl (lv_at hl 2 rfl) ?_
        have ha_12 := tx_31 hT hG0
        refine va_get (D := DG E) (ci := 2) (v := .int (B p0 2)) (C := RX2) (T := TX2) (N := 8) hx hb hts iw_X2 hown hK.1 (va_one ha_12) 0 rfl rfl 2 (by decide) (hts _ fl_X8_59) (fun _ h9 => h9) rfl dX8_answerAgain_51 ?_
        refine lv_aload_n hx hb dX8_answerAgain_54 rfl (lv_at hl 1 rfl) ?_
        have ha_13 := tx_10 hT hG
        have hg_14 : G (R h0 8) = 17 := (tw_10 hW hG).2.2.2.2.2
        refine va_get (D := DG E) (ci := 8) (v := .ref (R h0 8)) (C := RX8) (T := TX8) (N := 9) hx hb hts iw_X8 hown hK.1 (va_one ha_13) 0 rfl rfl 8 (by decide) (hts _ fl_X8_15) (fun _ h9 => h9) rfl dX8_answerAgain_55 ?_
        refine lv_iload_n hx hb dX8_answerAgain_58 rfl (lv_at hl 0 rfl) ?_
        have ha_15 := tx_17 hT hg_14
        have hi_16 : vp_in r_10 2 := vp_in_iff.mpr (by omega)
        obtain ⟨n_17, hn_17, en_17⟩ := x_nat (x := r_10) (by omega)
        refine va_iald (D := DG E) hx hb hK.1 (va_one ha_15) 0 0 rfl rfl hi_16 dX8_answerAgain_59 ?_
        refine W.eq (g2 := F0 m 60 ls [.int (B (R h0 8) n_17), .int (B p0 2), .ref h0]) (by rw [en_17]) ?_
        refine va_callv (rnV (fun H => TX E G B R H) (As := [.int (B p0 2), .int (B (R h0 8) n_17)]) (rest := []) ⟨hx, hb, hml, hown, hts⟩ (x_X8_replyOne l E z0 G hGz B R hW h0 (B p0 2) (B (R h0 8) n_17) hG) (cwV 2 hts (gdV ml_X8_99 im_X8_replyOne se_X8_X8_replyOne in_X8 co_X8_replyOne rfl) rfl rfl rfl (by decide +kernel) ⟨Nat.le_of_ble_eq_true rfl, Nat.le_of_ble_eq_true rfl⟩) hT (fun U hU hW => hK.go hW hS hAz hU) (va_recv hK.1 (va_one ha_13) (ci := 8) (q0 := 0) rfl rfl) rfl rfl hl.1 rfl (lv_room (Nat.le_of_ble_eq_true rfl)) dX8_answerAgain_60 ⟨Nat.le_of_ble_eq_true rfl, Nat.le_of_ble_eq_true rfl⟩) hS (fun q _ h => mL (L' := [4, 31, 32]) (L := [4, 31, 32]) (by decide) h) (fun q h => mL (L' := [4, 31, 32]) (L := [4, 31, 32]) (by decide) h) (fun U_19 t H locs ht hvm hwr_18 hB hz hk hS => ?_)
        have hT : TX E G U_19 R H := by rw [ht] at hB; exact hB
        have hWr_18 : TW G U_19 R := hwr_18.1
        have hW := hWr_18
        have hFr_18 : Fr G [4, 31, 32] B U_19 := hwr_18.2.1
        have hCr_18 : C_X8_replyOne G B R h0 (B p0 2) (B (R h0 8) n_17) U_19 := hwr_18.2.2
        refine lv_goto (tgt := 77) hx hb dX8_answerAgain_63 (by decide) ?_
        exact W.vret hx hb hr (fun t ht hW9 => ⟨⟨U_19, rfl, ⟨hW, (Fr.c Fr.rf hFr_18 (by decide)), (Or.inr (Or.inr (Or.inl ⟨c_2, c_3, r_10, hCr_10, c_11, n_17, hn_17, U_19, hFr_18, hCr_18, rfl⟩)))⟩, (by show TX E G U_19 R t.heap; rw [ht]; exact hT)⟩, hS.F ht⟩) hS.2.2 dX8_answerAgain_77
  · simp only [lt_I, le_I, eq_I, i_0, i_1, i_2, i_3, i_4, i_5, i_6, i_7, i_8, i_10, i_12, i_16, i_20, i_23, i_24, i_31, i_32, i_63, i_64, i_m1] at c_2
    refine lv_aload_n hx hb dX8_answerAgain_8 rfl (lv_at hl 1 rfl) ?_
    refine lv_aload_n hx hb dX8_answerAgain_9 rfl (lv_at hl 0 rfl) ?_
    have ha_20 := tx_10 hT hG
    have hg_21 : G (R h0 1) = 5 := (tw_10 hW hG).2.1
    refine va_get (D := DG E) (ci := 8) (v := .ref (R h0 1)) (C := RX8) (T := TX8) (N := 9) hx hb hts iw_X8 hown hK.1 (va_one ha_20) 0 rfl rfl 1 (by decide) (hts _ fl_X8_26) (fun _ h9 => h9) rfl dX8_answerAgain_10 ?_
    refine va_calli (rnV (fun H => TX E G B R H) (As := [.ref (R h0 1)]) (rest := []) ⟨hx, hb, hml, hown, hts⟩ (x_X2_isAllowed l E z0 G hGz B R hW p0 (R h0 1) hG0 hg_21) (cwV 1 hts (gdV ml_X8_89 im_X2_isAllowed se_X2_X2_isAllowed in_X2 co_X2_isAllowed rfl) rfl rfl rfl (by decide +kernel) ⟨Nat.le_of_ble_eq_true rfl, Nat.le_of_ble_eq_true rfl⟩) hT (fun U hU hW => hK.go hW hS hAz hU) (va_recv hK.1 (va_one ha_1) (ci := 2) (q0 := 0) rfl rfl) rfl rfl hl.1 rfl (lv_room (Nat.le_of_ble_eq_true rfl)) dX8_answerAgain_13 ⟨Nat.le_of_ble_eq_true rfl, Nat.le_of_ble_eq_true rfl⟩) hS (fun q _ h => h.elim) (fun q h => h.elim) (fun r_22 _ t H locs ht hvm hwr_22 hB hz hk hS => ?_)
    have hT : TX E G B R H := hT.kept (fun q hq => hk q hq (fun h => h))
    have hbr_22 : r_22 = 0 ∨ r_22 = 1 := hwr_22.1
    have hCr_22 : C_X2_isAllowed G B R p0 (R h0 1) r_22 := hwr_22.2
    have hzr_22 := s_rng hbr_22
    refine lv_if_eq (tgt := 77) hx hb dX8_answerAgain_16 (by decide) (fun c_23 => ?_) (fun c_23 => ?_)
    · simp only [lt_I, le_I, eq_I, i_0, i_1, i_2, i_3, i_4, i_5, i_6, i_7, i_8, i_10, i_12, i_16, i_20, i_23, i_24, i_31, i_32, i_63, i_64, i_m1] at c_23
      exact W.vret hx hb hr (fun t ht hW9 => ⟨⟨B, rfl, ⟨hW, Fr.rf, (Or.inr (Or.inr (Or.inr (Or.inl ⟨c_2, r_22, hCr_22, c_23, rfl⟩))))⟩, (by show TX E G B R t.heap; rw [ht]; exact hT)⟩, hS.F ht⟩) hS.2.2 dX8_answerAgain_77
    · simp only [lt_I, le_I, eq_I, i_0, i_1, i_2, i_3, i_4, i_5, i_6, i_7, i_8, i_10, i_12, i_16, i_20, i_23, i_24, i_31, i_32, i_63, i_64, i_m1] at c_23
      refine lv_aload_n hx hb dX8_answerAgain_19 rfl (lv_at hl 0 rfl) ?_
      refine lv_aload_n hx hb dX8_answerAgain_20 rfl (lv_at hl 1 rfl) ?_
      have ha_24 := tx_10 hT hG
      refine va_callv (rnV (fun H => TX E G B R H) (As := [.ref p0]) (rest := []) ⟨hx, hb, hml, hown, hts⟩ (x_X8_replyCells l E z0 G hGz B R hW h0 p0 hG hG0) (cwV 1 hts (gdV ml_X8_93 im_X8_replyCells se_X8_X8_replyCells in_X8 co_X8_replyCells rfl) rfl rfl rfl (by decide +kernel) ⟨Nat.le_of_ble_eq_true rfl, Nat.le_of_ble_eq_true rfl⟩) hT (fun U hU hW => hK.go hW hS hAz hU) (va_recv hK.1 (va_one ha_24) (ci := 8) (q0 := 0) rfl rfl) rfl rfl hl.1 rfl (lv_room (Nat.le_of_ble_eq_true rfl)) dX8_answerAgain_21 ⟨Nat.le_of_ble_eq_true rfl, Nat.le_of_ble_eq_true rfl⟩) hS (fun q _ h => mL (L' := [4, 31, 32]) (L := [4, 31, 32]) (by decide) h) (fun q h => mL (L' := [4, 31, 32]) (L := [4, 31, 32]) (by decide) h) (fun U_26 t H locs ht hvm hwr_25 hB hz hk hS => ?_)
      have hT : TX E G U_26 R H := by rw [ht] at hB; exact hB
      have hWr_25 : TW G U_26 R := hwr_25.1
      have hW := hWr_25
      have hFr_25 : Fr G [4, 31, 32] B U_26 := hwr_25.2.1
      have hCr_25 : C_X8_replyCells G B R h0 p0 U_26 := hwr_25.2.2
      refine lv_goto (tgt := 77) hx hb dX8_answerAgain_24 (by decide) ?_
      exact W.vret hx hb hr (fun t ht hW9 => ⟨⟨U_26, rfl, ⟨hW, (Fr.c Fr.rf hFr_25 (by decide)), (Or.inr (Or.inr (Or.inr (Or.inr ⟨c_2, r_22, hCr_22, c_23, U_26, hFr_25, hCr_25, rfl⟩))))⟩, (by show TX E G U_26 R t.heap; rw [ht]; exact hT)⟩, hS.F ht⟩) hS.2.2 dX8_answerAgain_77
theorem gdX8_takeSend_0 : (decode cX8_takeSend 0 = .ok (.aload_n 1, 1)) ∧ (decode cX8_takeSend 1 = .ok (.invokevirtual 109, 3)) ∧ (decode cX8_takeSend 4 = .ok (.aload_n 0, 1)) ∧ (decode cX8_takeSend 5 = .ok (.getfield 52, 3)) ∧ (decode cX8_takeSend 8 = .ok (.if_icmp .ne 5, 3)) ∧ (decode cX8_takeSend 11 = .ok (.iconst 0, 1)) ∧ (decode cX8_takeSend 12 = .ok (.ireturn, 1)) ∧ (decode cX8_takeSend 13 = .ok (.aload_n 0, 1)) ∧ (decode cX8_takeSend 14 = .ok (.getfield 39, 3)) ∧ (decode cX8_takeSend 17 = .ok (.getfield 113, 3)) ∧ (decode cX8_takeSend 20 = .ok (.ifCond .ne 14, 3)) ∧ (decode cX8_takeSend 23 = .ok (.aload_n 0, 1)) ∧ (decode cX8_takeSend 24 = .ok (.aload_n 1, 1)) ∧ (decode cX8_takeSend 25 = .ok (.getfield 59, 3)) ∧ (decode cX8_takeSend 28 = .ok (.iconst 2, 1)) ∧ (decode cX8_takeSend 29 = .ok (.invokevirtual 85, 3)) := by decide +kernel
theorem dX8_takeSend_0 : decode cX8_takeSend 0 = .ok (.aload_n 1, 1) := gdX8_takeSend_0.1
theorem dX8_takeSend_1 : decode cX8_takeSend 1 = .ok (.invokevirtual 109, 3) := gdX8_takeSend_0.2.1
theorem dX8_takeSend_4 : decode cX8_takeSend 4 = .ok (.aload_n 0, 1) := gdX8_takeSend_0.2.2.1
theorem dX8_takeSend_5 : decode cX8_takeSend 5 = .ok (.getfield 52, 3) := gdX8_takeSend_0.2.2.2.1
theorem dX8_takeSend_8 : decode cX8_takeSend 8 = .ok (.if_icmp .ne 5, 3) := gdX8_takeSend_0.2.2.2.2.1
theorem dX8_takeSend_11 : decode cX8_takeSend 11 = .ok (.iconst 0, 1) := gdX8_takeSend_0.2.2.2.2.2.1
theorem dX8_takeSend_12 : decode cX8_takeSend 12 = .ok (.ireturn, 1) := gdX8_takeSend_0.2.2.2.2.2.2.1
theorem dX8_takeSend_13 : decode cX8_takeSend 13 = .ok (.aload_n 0, 1) := gdX8_takeSend_0.2.2.2.2.2.2.2.1
theorem dX8_takeSend_14 : decode cX8_takeSend 14 = .ok (.getfield 39, 3) := gdX8_takeSend_0.2.2.2.2.2.2.2.2.1
theorem dX8_takeSend_17 : decode cX8_takeSend 17 = .ok (.getfield 113, 3) := gdX8_takeSend_0.2.2.2.2.2.2.2.2.2.1
theorem dX8_takeSend_20 : decode cX8_takeSend 20 = .ok (.ifCond .ne 14, 3) := gdX8_takeSend_0.2.2.2.2.2.2.2.2.2.2.1
theorem dX8_takeSend_23 : decode cX8_takeSend 23 = .ok (.aload_n 0, 1) := gdX8_takeSend_0.2.2.2.2.2.2.2.2.2.2.2.1
theorem dX8_takeSend_24 : decode cX8_takeSend 24 = .ok (.aload_n 1, 1) := gdX8_takeSend_0.2.2.2.2.2.2.2.2.2.2.2.2.1
theorem dX8_takeSend_25 : decode cX8_takeSend 25 = .ok (.getfield 59, 3) := gdX8_takeSend_0.2.2.2.2.2.2.2.2.2.2.2.2.2.1
theorem dX8_takeSend_28 : decode cX8_takeSend 28 = .ok (.iconst 2, 1) := gdX8_takeSend_0.2.2.2.2.2.2.2.2.2.2.2.2.2.2.1
theorem dX8_takeSend_29 : decode cX8_takeSend 29 = .ok (.invokevirtual 85, 3) := gdX8_takeSend_0.2.2.2.2.2.2.2.2.2.2.2.2.2.2.2
theorem gdX8_takeSend_32 : (decode cX8_takeSend 32 = .ok (.iconst 0, 1)) ∧ (decode cX8_takeSend 33 = .ok (.ireturn, 1)) ∧ (decode cX8_takeSend 34 = .ok (.aload_n 0, 1)) ∧ (decode cX8_takeSend 35 = .ok (.iconst 1, 1)) ∧ (decode cX8_takeSend 36 = .ok (.putfield 52, 3)) ∧ (decode cX8_takeSend 39 = .ok (.aload_n 0, 1)) ∧ (decode cX8_takeSend 40 = .ok (.getfield 39, 3)) ∧ (decode cX8_takeSend 43 = .ok (.iconst 0, 1)) ∧ (decode cX8_takeSend 44 = .ok (.invokevirtual 116, 3)) ∧ (decode cX8_takeSend 47 = .ok (.astore_n 2, 1)) ∧ (decode cX8_takeSend 48 = .ok (.aload_n 2, 1)) ∧ (decode cX8_takeSend 49 = .ok (.getfield 120, 3)) ∧ (decode cX8_takeSend 52 = .ok (.aload_n 2, 1)) ∧ (decode cX8_takeSend 53 = .ok (.getfield 125, 3)) ∧ (decode cX8_takeSend 56 = .ok (.isub, 1)) ∧ (decode cX8_takeSend 57 = .ok (.istore_n 3, 1)) := by decide +kernel
theorem dX8_takeSend_32 : decode cX8_takeSend 32 = .ok (.iconst 0, 1) := gdX8_takeSend_32.1
theorem dX8_takeSend_33 : decode cX8_takeSend 33 = .ok (.ireturn, 1) := gdX8_takeSend_32.2.1
theorem dX8_takeSend_34 : decode cX8_takeSend 34 = .ok (.aload_n 0, 1) := gdX8_takeSend_32.2.2.1
theorem dX8_takeSend_35 : decode cX8_takeSend 35 = .ok (.iconst 1, 1) := gdX8_takeSend_32.2.2.2.1
theorem dX8_takeSend_36 : decode cX8_takeSend 36 = .ok (.putfield 52, 3) := gdX8_takeSend_32.2.2.2.2.1
theorem dX8_takeSend_39 : decode cX8_takeSend 39 = .ok (.aload_n 0, 1) := gdX8_takeSend_32.2.2.2.2.2.1
theorem dX8_takeSend_40 : decode cX8_takeSend 40 = .ok (.getfield 39, 3) := gdX8_takeSend_32.2.2.2.2.2.2.1
theorem dX8_takeSend_43 : decode cX8_takeSend 43 = .ok (.iconst 0, 1) := gdX8_takeSend_32.2.2.2.2.2.2.2.1
theorem dX8_takeSend_44 : decode cX8_takeSend 44 = .ok (.invokevirtual 116, 3) := gdX8_takeSend_32.2.2.2.2.2.2.2.2.1
theorem dX8_takeSend_47 : decode cX8_takeSend 47 = .ok (.astore_n 2, 1) := gdX8_takeSend_32.2.2.2.2.2.2.2.2.2.1
theorem dX8_takeSend_48 : decode cX8_takeSend 48 = .ok (.aload_n 2, 1) := gdX8_takeSend_32.2.2.2.2.2.2.2.2.2.2.1
theorem dX8_takeSend_49 : decode cX8_takeSend 49 = .ok (.getfield 120, 3) := gdX8_takeSend_32.2.2.2.2.2.2.2.2.2.2.2.1
theorem dX8_takeSend_52 : decode cX8_takeSend 52 = .ok (.aload_n 2, 1) := gdX8_takeSend_32.2.2.2.2.2.2.2.2.2.2.2.2.1
theorem dX8_takeSend_53 : decode cX8_takeSend 53 = .ok (.getfield 125, 3) := gdX8_takeSend_32.2.2.2.2.2.2.2.2.2.2.2.2.2.1
theorem dX8_takeSend_56 : decode cX8_takeSend 56 = .ok (.isub, 1) := gdX8_takeSend_32.2.2.2.2.2.2.2.2.2.2.2.2.2.2.1
theorem dX8_takeSend_57 : decode cX8_takeSend 57 = .ok (.istore_n 3, 1) := gdX8_takeSend_32.2.2.2.2.2.2.2.2.2.2.2.2.2.2.2
theorem gdX8_takeSend_58 : (decode cX8_takeSend 58 = .ok (.aload_n 1, 1)) ∧ (decode cX8_takeSend 59 = .ok (.getfield 128, 3)) ∧ (decode cX8_takeSend 62 = .ok (.iload_n 3, 1)) ∧ (decode cX8_takeSend 63 = .ok (.if_icmp .le 14, 3)) ∧ (decode cX8_takeSend 66 = .ok (.aload_n 0, 1)) ∧ (decode cX8_takeSend 67 = .ok (.aload_n 1, 1)) ∧ (decode cX8_takeSend 68 = .ok (.getfield 59, 3)) ∧ (decode cX8_takeSend 71 = .ok (.iconst 4, 1)) ∧ (decode cX8_takeSend 72 = .ok (.invokevirtual 85, 3)) ∧ (decode cX8_takeSend 75 = .ok (.iconst 4, 1)) ∧ (decode cX8_takeSend 76 = .ok (.ireturn, 1)) ∧ (decode cX8_takeSend 77 = .ok (.aload_n 1, 1)) ∧ (decode cX8_takeSend 78 = .ok (.aload_n 0, 1)) ∧ (decode cX8_takeSend 79 = .ok (.getfield 26, 3)) ∧ (decode cX8_takeSend 82 = .ok (.aload_n 2, 1)) ∧ (decode cX8_takeSend 83 = .ok (.getfield 129, 3)) := by decide +kernel
theorem dX8_takeSend_58 : decode cX8_takeSend 58 = .ok (.aload_n 1, 1) := gdX8_takeSend_58.1
theorem dX8_takeSend_59 : decode cX8_takeSend 59 = .ok (.getfield 128, 3) := gdX8_takeSend_58.2.1
theorem dX8_takeSend_62 : decode cX8_takeSend 62 = .ok (.iload_n 3, 1) := gdX8_takeSend_58.2.2.1
theorem dX8_takeSend_63 : decode cX8_takeSend 63 = .ok (.if_icmp .le 14, 3) := gdX8_takeSend_58.2.2.2.1
theorem dX8_takeSend_66 : decode cX8_takeSend 66 = .ok (.aload_n 0, 1) := gdX8_takeSend_58.2.2.2.2.1
theorem dX8_takeSend_67 : decode cX8_takeSend 67 = .ok (.aload_n 1, 1) := gdX8_takeSend_58.2.2.2.2.2.1
theorem dX8_takeSend_68 : decode cX8_takeSend 68 = .ok (.getfield 59, 3) := gdX8_takeSend_58.2.2.2.2.2.2.1
theorem dX8_takeSend_71 : decode cX8_takeSend 71 = .ok (.iconst 4, 1) := gdX8_takeSend_58.2.2.2.2.2.2.2.1
theorem dX8_takeSend_72 : decode cX8_takeSend 72 = .ok (.invokevirtual 85, 3) := gdX8_takeSend_58.2.2.2.2.2.2.2.2.1
theorem dX8_takeSend_75 : decode cX8_takeSend 75 = .ok (.iconst 4, 1) := gdX8_takeSend_58.2.2.2.2.2.2.2.2.2.1
theorem dX8_takeSend_76 : decode cX8_takeSend 76 = .ok (.ireturn, 1) := gdX8_takeSend_58.2.2.2.2.2.2.2.2.2.2.1
theorem dX8_takeSend_77 : decode cX8_takeSend 77 = .ok (.aload_n 1, 1) := gdX8_takeSend_58.2.2.2.2.2.2.2.2.2.2.2.1
theorem dX8_takeSend_78 : decode cX8_takeSend 78 = .ok (.aload_n 0, 1) := gdX8_takeSend_58.2.2.2.2.2.2.2.2.2.2.2.2.1
theorem dX8_takeSend_79 : decode cX8_takeSend 79 = .ok (.getfield 26, 3) := gdX8_takeSend_58.2.2.2.2.2.2.2.2.2.2.2.2.2.1
theorem dX8_takeSend_82 : decode cX8_takeSend 82 = .ok (.aload_n 2, 1) := gdX8_takeSend_58.2.2.2.2.2.2.2.2.2.2.2.2.2.2.1
theorem dX8_takeSend_83 : decode cX8_takeSend 83 = .ok (.getfield 129, 3) := gdX8_takeSend_58.2.2.2.2.2.2.2.2.2.2.2.2.2.2.2
theorem gdX8_takeSend_86 : (decode cX8_takeSend 86 = .ok (.aload_n 2, 1)) ∧ (decode cX8_takeSend 87 = .ok (.getfield 125, 3)) ∧ (decode cX8_takeSend 90 = .ok (.iadd, 1)) ∧ (decode cX8_takeSend 91 = .ok (.iload_n 3, 1)) ∧ (decode cX8_takeSend 92 = .ok (.invokevirtual 132, 3)) ∧ (decode cX8_takeSend 95 = .ok (.aload_n 2, 1)) ∧ (decode cX8_takeSend 96 = .ok (.dup, 1)) ∧ (decode cX8_takeSend 97 = .ok (.getfield 125, 3)) ∧ (decode cX8_takeSend 100 = .ok (.aload_n 1, 1)) ∧ (decode cX8_takeSend 101 = .ok (.getfield 128, 3)) ∧ (decode cX8_takeSend 104 = .ok (.iadd, 1)) ∧ (decode cX8_takeSend 105 = .ok (.putfield 125, 3)) ∧ (decode cX8_takeSend 108 = .ok (.aload_n 1, 1)) ∧ (decode cX8_takeSend 109 = .ok (.invokevirtual 136, 3)) ∧ (decode cX8_takeSend 112 = .ok (.ifCond .eq 16, 3)) ∧ (decode cX8_takeSend 115 = .ok (.aload_n 0, 1)) := by decide +kernel
theorem dX8_takeSend_86 : decode cX8_takeSend 86 = .ok (.aload_n 2, 1) := gdX8_takeSend_86.1
theorem dX8_takeSend_87 : decode cX8_takeSend 87 = .ok (.getfield 125, 3) := gdX8_takeSend_86.2.1
theorem dX8_takeSend_90 : decode cX8_takeSend 90 = .ok (.iadd, 1) := gdX8_takeSend_86.2.2.1
theorem dX8_takeSend_91 : decode cX8_takeSend 91 = .ok (.iload_n 3, 1) := gdX8_takeSend_86.2.2.2.1
theorem dX8_takeSend_92 : decode cX8_takeSend 92 = .ok (.invokevirtual 132, 3) := gdX8_takeSend_86.2.2.2.2.1
theorem dX8_takeSend_95 : decode cX8_takeSend 95 = .ok (.aload_n 2, 1) := gdX8_takeSend_86.2.2.2.2.2.1
theorem dX8_takeSend_96 : decode cX8_takeSend 96 = .ok (.dup, 1) := gdX8_takeSend_86.2.2.2.2.2.2.1
theorem dX8_takeSend_97 : decode cX8_takeSend 97 = .ok (.getfield 125, 3) := gdX8_takeSend_86.2.2.2.2.2.2.2.1
theorem dX8_takeSend_100 : decode cX8_takeSend 100 = .ok (.aload_n 1, 1) := gdX8_takeSend_86.2.2.2.2.2.2.2.2.1
theorem dX8_takeSend_101 : decode cX8_takeSend 101 = .ok (.getfield 128, 3) := gdX8_takeSend_86.2.2.2.2.2.2.2.2.2.1
theorem dX8_takeSend_104 : decode cX8_takeSend 104 = .ok (.iadd, 1) := gdX8_takeSend_86.2.2.2.2.2.2.2.2.2.2.1
theorem dX8_takeSend_105 : decode cX8_takeSend 105 = .ok (.putfield 125, 3) := gdX8_takeSend_86.2.2.2.2.2.2.2.2.2.2.2.1
theorem dX8_takeSend_108 : decode cX8_takeSend 108 = .ok (.aload_n 1, 1) := gdX8_takeSend_86.2.2.2.2.2.2.2.2.2.2.2.2.1
theorem dX8_takeSend_109 : decode cX8_takeSend 109 = .ok (.invokevirtual 136, 3) := gdX8_takeSend_86.2.2.2.2.2.2.2.2.2.2.2.2.2.1
theorem dX8_takeSend_112 : decode cX8_takeSend 112 = .ok (.ifCond .eq 16, 3) := gdX8_takeSend_86.2.2.2.2.2.2.2.2.2.2.2.2.2.2.1
theorem dX8_takeSend_115 : decode cX8_takeSend 115 = .ok (.aload_n 0, 1) := gdX8_takeSend_86.2.2.2.2.2.2.2.2.2.2.2.2.2.2.2
theorem gdX8_takeSend_116 : (decode cX8_takeSend 116 = .ok (.getfield 39, 3)) ∧ (decode cX8_takeSend 119 = .ok (.iconst 0, 1)) ∧ (decode cX8_takeSend 120 = .ok (.invokevirtual 139, 3)) ∧ (decode cX8_takeSend 123 = .ok (.aload_n 0, 1)) ∧ (decode cX8_takeSend 124 = .ok (.iconst 0, 1)) ∧ (decode cX8_takeSend 125 = .ok (.putfield 52, 3)) ∧ (decode cX8_takeSend 128 = .ok (.aload_n 0, 1)) ∧ (decode cX8_takeSend 129 = .ok (.iconst 1, 1)) ∧ (decode cX8_takeSend 130 = .ok (.invokevirtual 142, 3)) ∧ (decode cX8_takeSend 133 = .ok (.aload_n 0, 1)) ∧ (decode cX8_takeSend 134 = .ok (.aload_n 1, 1)) ∧ (decode cX8_takeSend 135 = .ok (.getfield 59, 3)) ∧ (decode cX8_takeSend 138 = .ok (.invokevirtual 105, 3)) ∧ (decode cX8_takeSend 141 = .ok (.iconst 0, 1)) ∧ (decode cX8_takeSend 142 = .ok (.ireturn, 1)) := by decide +kernel
theorem dX8_takeSend_116 : decode cX8_takeSend 116 = .ok (.getfield 39, 3) := gdX8_takeSend_116.1
theorem dX8_takeSend_119 : decode cX8_takeSend 119 = .ok (.iconst 0, 1) := gdX8_takeSend_116.2.1
theorem dX8_takeSend_120 : decode cX8_takeSend 120 = .ok (.invokevirtual 139, 3) := gdX8_takeSend_116.2.2.1
theorem dX8_takeSend_123 : decode cX8_takeSend 123 = .ok (.aload_n 0, 1) := gdX8_takeSend_116.2.2.2.1
theorem dX8_takeSend_124 : decode cX8_takeSend 124 = .ok (.iconst 0, 1) := gdX8_takeSend_116.2.2.2.2.1
theorem dX8_takeSend_125 : decode cX8_takeSend 125 = .ok (.putfield 52, 3) := gdX8_takeSend_116.2.2.2.2.2.1
theorem dX8_takeSend_128 : decode cX8_takeSend 128 = .ok (.aload_n 0, 1) := gdX8_takeSend_116.2.2.2.2.2.2.1
theorem dX8_takeSend_129 : decode cX8_takeSend 129 = .ok (.iconst 1, 1) := gdX8_takeSend_116.2.2.2.2.2.2.2.1
theorem dX8_takeSend_130 : decode cX8_takeSend 130 = .ok (.invokevirtual 142, 3) := gdX8_takeSend_116.2.2.2.2.2.2.2.2.1
theorem dX8_takeSend_133 : decode cX8_takeSend 133 = .ok (.aload_n 0, 1) := gdX8_takeSend_116.2.2.2.2.2.2.2.2.2.1
theorem dX8_takeSend_134 : decode cX8_takeSend 134 = .ok (.aload_n 1, 1) := gdX8_takeSend_116.2.2.2.2.2.2.2.2.2.2.1
theorem dX8_takeSend_135 : decode cX8_takeSend 135 = .ok (.getfield 59, 3) := gdX8_takeSend_116.2.2.2.2.2.2.2.2.2.2.2.1
theorem dX8_takeSend_138 : decode cX8_takeSend 138 = .ok (.invokevirtual 105, 3) := gdX8_takeSend_116.2.2.2.2.2.2.2.2.2.2.2.2.1
theorem dX8_takeSend_141 : decode cX8_takeSend 141 = .ok (.iconst 0, 1) := gdX8_takeSend_116.2.2.2.2.2.2.2.2.2.2.2.2.2.1
theorem dX8_takeSend_142 : decode cX8_takeSend 142 = .ok (.ireturn, 1) := gdX8_takeSend_116.2.2.2.2.2.2.2.2.2.2.2.2.2.2
set_option maxHeartbeats 8000000 in
set_option maxRecDepth 100000 in
theorem x_X8_takeSend (l : Launch) (E : EE) (z0 : Nat) (G : Nat → Nat) (hGz : ∀ q, G q ≠ 0 → z0 ≤ q) (B : AA) (R : RR) (hW : TW G B R) (h0 : Nat) (p0 : Nat) (hG : G h0 = 10) (hG0 : G p0 = 31) : Met l yX8_takeSend [Cond.code yX8_takeSend cX8_takeSend 4 (some .int)] ({ frames := 3, cells := 0, slots := 0, locals := 69 } : Room) (va_Pc [.ref h0, .ref p0] (fun U => TX E G B R U.heap ∧ KS E z0 U)) (va_Qi (fun (r : Int32) (u : AA) => (TW G u R) ∧ (Fr G ([10, 4, 31, 14, 13, 5, 15, 11] : List Nat) B u) ∧ (C_X8_takeSend G B R h0 p0 u r)) (fun u t => TX E G u R t.heap) (fun q : Nat => G q ∈ ([10, 4, 31, 14, 13, 5, 15, 11] : List Nat))) 0 0 (fun q : Nat => G q ∈ ([10, 4, 31, 14, 13, 5, 15, 11] : List Nat)) := by
  refine Met.ofW (cc := cX8_takeSend) (maxL := 4) (ret := (some .int)) (by decide) rfl ?_
  intro p e s m args below meth c s₁ B9 hml hv
  obtain ⟨rfl, hT, hK⟩ := hv
  have hx := B9.exec
  have hb := B9.bytes
  have hr := B9.returns
  have hts : ∀ w ∈ TS, w.before ([.ref h0, .ref p0] : List Value).toArray s = true := fun w hw => hK.2.1 w hw _
  have hown : s.vm.findClass RX8 = some m.cls := findClass_of_methodNamed B9.named
  have hlocks := B9.notSynchronized
  have hS : va_S (fun q : Nat => G q ∈ ([10, 4, 31, 14, 13, 5, 15, 11] : List Nat)) s.heap s.heap [] := va_S.rf
  have hAz : ∀ q, (fun q : Nat => G q ∈ ([10, 4, 31, 14, 13, 5, 15, 11] : List Nat)) q → z0 ≤ q := zL hGz (by decide)
  have hW_0 := hW
  have hl := lv_entry ([.ref h0, .ref p0]) (n := 4) (Nat.le_of_ble_eq_true rfl)
  rw [lg_entry_eq]
  generalize (lg_sl ([.ref h0, .ref p0]) ++ List.replicate (4 - (lg_sl ([.ref h0, .ref p0])).length) Slot.unset).toArray = ls at hl ⊢
  have hl : lv_has ls 4 [(0, .ref h0), (1, .ref p0)] := hl
  refine lv_aload_n hx hb dX8_takeSend_0 rfl (lv_at hl 1 rfl) ?_
  have ha_1 := tx_31 hT hG0
  refine va_calli (rnV (fun H => TX E G B R H) (As := []) (rest := []) ⟨hx, hb, hml, hown, hts⟩ (x_X2_isFirst l E z0 G hGz B R hW p0 hG0) (cwV 0 hts (gdV ml_X8_109 im_X2_isFirst se_X2_X2_isFirst in_X2 co_X2_isFirst rfl) rfl rfl rfl (by decide +kernel) ⟨Nat.le_of_ble_eq_true rfl, Nat.le_of_ble_eq_true rfl⟩) hT (fun U hU hW => hK.go hW hS hAz hU) (va_recv hK.1 (va_one ha_1) (ci := 2) (q0 := 0) rfl rfl) rfl rfl hl.1 rfl (lv_room (Nat.le_of_ble_eq_true rfl)) dX8_takeSend_1 ⟨Nat.le_of_ble_eq_true rfl, Nat.le_of_ble_eq_true rfl⟩) hS (fun q _ h => h.elim) (fun q h => h.elim) (fun r_2 _ t H locs ht hvm hwr_2 hB hz hk hS => ?_)
  have hT : TX E G B R H := hT.kept (fun q hq => hk q hq (fun h => h))
  have hbr_2 : r_2 = 0 ∨ r_2 = 1 := hwr_2.1
  have hCr_2 : C_X2_isFirst G B R p0 r_2 := hwr_2.2
  have hzr_2 := s_rng hbr_2
  refine lv_aload_n hx hb dX8_takeSend_4 rfl (lv_at hl 0 rfl) ?_
  have ha_3 := tx_10 hT hG
  refine va_get (D := DG E) (ci := 8) (v := .int (B h0 5)) (C := RX8) (T := TX8) (N := 9) hx hb hts iw_X8 hown hK.1 (va_one ha_3) 0 rfl rfl 5 (by decide) (hts _ fl_X8_52) (fun _ h9 => h9) rfl dX8_takeSend_5 ?_
  refine lv_icmp_ne (tgt := 13) hx hb dX8_takeSend_8 (by decide) (fun c_4 => ?_) (fun c_4 => ?_)
  · simp only [lt_I, le_I, eq_I, i_0, i_1, i_2, i_3, i_4, i_5, i_6, i_7, i_8, i_10, i_12, i_16, i_20, i_23, i_24, i_31, i_32, i_63, i_64, i_m1] at c_4
    refine lv_aload_n hx hb dX8_takeSend_13 rfl (lv_at hl 0 rfl) ?_
    have hg_5 : G (R h0 3) = 11 := (tw_10 hW hG).2.2.2.1
    refine va_get (D := DG E) (ci := 8) (v := .ref (R h0 3)) (C := RX8) (T := TX8) (N := 9) hx hb hts iw_X8 hown hK.1 (va_one ha_3) 0 rfl rfl 3 (by decide) (hts _ fl_X8_39) (fun _ h9 => h9) rfl dX8_takeSend_14 ?_
    have ha_6 := tx_11 hT hg_5
    have hb_7 := (tw_11 hW_0 hg_5).2.2.2
    refine va_get (D := DG E) (ci := 5) (v := .int (B (R h0 3) 4)) (C := RX5) (T := TX5) (N := 6) hx hb hts iw_X5 hown hK.1 (va_one ha_6) 0 rfl rfl 4 (by decide) (hts _ fl_X8_113) (fun _ h9 => h9) rfl dX8_takeSend_17 ?_
    refine lv_if_ne (tgt := 34) hx hb dX8_takeSend_20 (by decide) (fun c_8 => ?_) (fun c_8 => ?_)
    · simp only [lt_I, le_I, eq_I, i_0, i_1, i_2, i_3, i_4, i_5, i_6, i_7, i_8, i_10, i_12, i_16, i_20, i_23, i_24, i_31, i_32, i_63, i_64, i_m1] at c_8
      refine lv_aload_n hx hb dX8_takeSend_34 rfl (lv_at hl 0 rfl) ?_
      refine lv_iconst (v := 1) hx hb dX8_takeSend_35 (by decide) ?_
      refine rr_put (D := DG E) (ci := 8) (v := .int 1) (ty := .boolean) (C := RX8) (T := TX8) (N := 9) hx hb hts iw_X8 tyX8 tyX8_ok nmX8 hown hK.1 ha_3 hS (by show G h0 ∈ ([10, 4, 31, 14, 13, 5, 15, 11] : List Nat); rw [hG]; decide) rfl 5 (by decide) (hts _ fl_X8_52) (fun _ h9 => h9) rfl (by decide +kernel) rfl rfl (Nat.le_of_ble_eq_true rfl) dX8_takeSend_36 (fun H locs hn ho hz hS => ?_)
      obtain ⟨B_9, eB_9⟩ : ∃ z : AA, z = uA B h0 (upd (B h0) 5 1) := ⟨_, rfl⟩
      have sB_9 : B_9 h0 5 = 1 := by rw [eB_9, uA_s]; exact upd_s
      have nB_9 : ∀ k, k ≠ 5 → B_9 h0 k = B h0 k := fun k hk => by rw [eB_9, uA_s]; exact upd_n hk
      have fB_9 : ∀ c, G c ≠ 10 → B_9 c = B c := fun c hc => by rw [eB_9]; exact uA_n (fun e => hc (by rw [e]; exact hG))
      have hT : TX E G B_9 R H := by rw [eB_9]; exact hT.w (by rw [hG]; exact hn) ho
      have hWB_9 : TW G B_9 R := by rw [eB_9]; exact hW_0.w (by rw [hG]; exact tw_10 hW_0 hG)
      have hW := hWB_9
      refine lv_aload_n hx hb dX8_takeSend_39 rfl (lv_at hl 0 rfl) ?_
      have ha_10 := tx_10 hT hG
      refine va_get (D := DG E) (ci := 8) (v := .ref (R h0 3)) (C := RX8) (T := TX8) (N := 9) hx hb hts iw_X8 hown hK.1 (va_one ha_10) 0 rfl rfl 3 (by decide) (hts _ fl_X8_39) (fun _ h9 => h9) rfl dX8_takeSend_40 ?_
      refine lv_iconst (v := 0) hx hb dX8_takeSend_43 (by decide) ?_
      have ha_11 := tx_11 hT hg_5
      refine va_callr (rnV (fun H => TX E G B_9 R H) (As := [.int 0]) (rest := []) ⟨hx, hb, hml, hown, hts⟩ (x_X5_at l E z0 G hGz B_9 R hW (R h0 3) (0 : Int32) hg_5 (show 0 ≤ (0 : Int32).toInt ∧ (0 : Int32).toInt ≤ 4 from by have := i_0; first | decide | omega)) (cwV 1 hts (gdV ml_X8_116 im_X5_at se_X5_X5_at in_X5 co_X5_at rfl) rfl rfl rfl (by decide +kernel) ⟨Nat.le_of_ble_eq_true rfl, Nat.le_of_ble_eq_true rfl⟩) hT (fun U hU hW => hK.go hW hS hAz hU) (va_recv hK.1 (va_one ha_11) (ci := 5) (q0 := 0) rfl rfl) rfl rfl hl.1 rfl (lv_room (Nat.le_of_ble_eq_true rfl)) dX8_takeSend_44 ⟨Nat.le_of_ble_eq_true rfl, Nat.le_of_ble_eq_true rfl⟩) hS (fun q _ h => h.elim) (fun q h => h.elim) (fun _ r_12 t H locs ht hvm hwr_12 hB hz hk hS => ?_)
      have hT : TX E G B_9 R H := hT.kept (fun q hq => hk q hq (fun h => h))
      have hRr_12 := hB
      have hgr_12 : G r_12 = 13 := hRr_12.1
      have hCr_12 : C_X5_at G B_9 R (R h0 3) (0 : Int32) r_12 := hRr_12.2
      refine lv_astore_n (lv' := [(2, .ref r_12), (0, .ref h0), (1, .ref p0)]) hx hb dX8_takeSend_47 rfl hl (by decide) rfl (fun ls hl => ?_)
      refine lv_aload_n hx hb dX8_takeSend_48 rfl (lv_at hl 0 rfl) ?_
      have ha_13 := tx_13 hT hgr_12
      have l_14 : B_9 r_12 3 = (B r_12 3) := (congrFun (fB_9 r_12 (by rw [hgr_12]; decide)) 3)
      have hb_15 := (tw_13 hW_0 hgr_12)
      refine va_get (D := DG E) (ci := 4) (v := .int (B_9 r_12 3)) (C := RX4) (T := TX4) (N := 10) hx hb hts iw_X4 hown hK.1 (va_one ha_13) 0 rfl rfl 3 (by decide) (hts _ fl_X8_120) (fun _ h9 => h9) rfl dX8_takeSend_49 ?_
      refine W.eq (g2 := F0 m 52 ls [.int (B r_12 3)]) (by rw [l_14]) ?_
      refine lv_aload_n hx hb dX8_takeSend_52 rfl (lv_at hl 0 rfl) ?_
      have l_16 : B_9 r_12 9 = (B r_12 9) := (congrFun (fB_9 r_12 (by rw [hgr_12]; decide)) 9)
      refine va_get (D := DG E) (ci := 4) (v := .int (B_9 r_12 9)) (C := RX4) (T := TX4) (N := 10) hx hb hts iw_X4 hown hK.1 (va_one ha_13) 0 rfl rfl 9 (by decide) (hts _ fl_X8_125) (fun _ h9 => h9) rfl dX8_takeSend_53 ?_
      refine W.eq (g2 := F0 m 56 ls [.int (B r_12 9), .int (B r_12 3)]) (by rw [l_16]) ?_
      refine lv_isub hx hb dX8_takeSend_56 ?_
      refine lv_topi (fun x_17 ex_17 => ?_)
      refine lv_istore_n (lv' := [(3, .int x_17), (2, .ref r_12), (0, .ref h0), (1, .ref p0)]) hx hb dX8_takeSend_57 rfl hl (by decide) rfl (fun ls hl => ?_)
      refine lv_aload_n hx hb dX8_takeSend_58 rfl (lv_at hl 3 rfl) ?_
      have ha_18 := tx_31 hT hG0
      have l_19 : B_9 p0 3 = (B p0 3) := (congrFun (fB_9 p0 (by rw [hG0]; decide)) 3)
      have hb_20 := (tw_31 hW_0 hG0).2.1
      refine va_get (D := DG E) (ci := 2) (v := .int (B_9 p0 3)) (C := RX2) (T := TX2) (N := 8) hx hb hts iw_X2 hown hK.1 (va_one ha_18) 0 rfl rfl 3 (by decide) (hts _ fl_X8_128) (fun _ h9 => h9) rfl dX8_takeSend_59 ?_
      refine W.eq (g2 := F0 m 62 ls [.int (B p0 3)]) (by rw [l_19]) ?_
      refine lv_iload_n hx hb dX8_takeSend_62 rfl (lv_at hl 0 rfl) ?_
      refine lv_icmp_le (tgt := 77) hx hb dX8_takeSend_63 (by decide) (fun c_21 => ?_) (fun c_21 => ?_)
      · simp only [lt_I, le_I, eq_I, i_0, i_1, i_2, i_3, i_4, i_5, i_6, i_7, i_8, i_10, i_12, i_16, i_20, i_23, i_24, i_31, i_32, i_63, i_64, i_m1] at c_21
        refine lv_aload_n hx hb dX8_takeSend_77 rfl (lv_at hl 3 rfl) ?_
        refine lv_aload_n hx hb dX8_takeSend_78 rfl (lv_at hl 2 rfl) ?_
        have ha_22 := tx_10 hT hG
        have hg_23 : G (R h0 1) = 5 := (tw_10 hW hG).2.1
        refine va_get (D := DG E) (ci := 8) (v := .ref (R h0 1)) (C := RX8) (T := TX8) (N := 9) hx hb hts iw_X8 hown hK.1 (va_one ha_22) 0 rfl rfl 1 (by decide) (hts _ fl_X8_26) (fun _ h9 => h9) rfl dX8_takeSend_79 ?_
        refine lv_aload_n hx hb dX8_takeSend_82 rfl (lv_at hl 1 rfl) ?_
        have l_24 : B_9 r_12 2 = (B r_12 2) := (congrFun (fB_9 r_12 (by rw [hgr_12]; decide)) 2)
        refine va_get (D := DG E) (ci := 4) (v := .int (B_9 r_12 2)) (C := RX4) (T := TX4) (N := 10) hx hb hts iw_X4 hown hK.1 (va_one ha_13) 0 rfl rfl 2 (by decide) (hts _ fl_X8_129) (fun _ h9 => h9) rfl dX8_takeSend_83 ?_
        refine W.eq (g2 := F0 m 86 ls [.int (B r_12 2), .ref (R h0 1), .ref p0]) (by rw [l_24]) ?_
        refine lv_aload_n hx hb dX8_takeSend_86 rfl (lv_at hl 1 rfl) ?_
        refine va_get (D := DG E) (ci := 4) (v := .int (B_9 r_12 9)) (C := RX4) (T := TX4) (N := 10) hx hb hts iw_X4 hown hK.1 (va_one ha_13) 0 rfl rfl 9 (by decide) (hts _ fl_X8_125) (fun _ h9 => h9) rfl dX8_takeSend_87 ?_
        refine W.eq (g2 := F0 m 90 ls [.int (B r_12 9), .int (B r_12 2), .ref (R h0 1), .ref p0]) (by rw [l_16]) ?_
        refine lv_iadd hx hb dX8_takeSend_90 ?_
        refine lv_topi (fun x_25 ex_25 => ?_)
        refine lv_iload_n hx hb dX8_takeSend_91 rfl (lv_at hl 0 rfl) ?_
        refine va_callv (rnV (fun H => TX E G B_9 R H) (As := [.ref (R h0 1), .int x_25, .int x_17]) (rest := []) ⟨hx, hb, hml, hown, hts⟩ (x_X2_unload l E z0 G hGz B_9 R hW p0 (R h0 1) x_25 x_17 hG0 hg_23) (cwV 3 hts (gdV ml_X8_132 im_X2_unload se_X2_X2_unload in_X2 co_X2_unload rfl) rfl rfl rfl (by decide +kernel) ⟨Nat.le_of_ble_eq_true rfl, Nat.le_of_ble_eq_true rfl⟩) hT (fun U hU hW => hK.go hW hS hAz hU) (va_recv hK.1 (va_one ha_18) (ci := 2) (q0 := 0) rfl rfl) rfl rfl hl.1 rfl (lv_room (Nat.le_of_ble_eq_true rfl)) dX8_takeSend_92 ⟨Nat.le_of_ble_eq_true rfl, Nat.le_of_ble_eq_true rfl⟩) hS (fun q _ h => mL (L' := [14]) (L := [10, 4, 31, 14, 13, 5, 15, 11]) (by decide) h) (fun q h => mL (L' := [14]) (L := [10, 4, 31, 14, 13, 5, 15, 11]) (by decide) h) (fun U_27 t H locs ht hvm hwr_26 hB hz hk hS => ?_)
        have hT : TX E G U_27 R H := by rw [ht] at hB; exact hB
        have hWr_26 : TW G U_27 R := hwr_26.1
        have hW := hWr_26
        have hFr_26 : Fr G [14] B_9 U_27 := hwr_26.2.1
        have hCr_26 : C_X2_unload G B_9 R p0 (R h0 1) x_25 x_17 U_27 := hwr_26.2.2
        refine lv_aload_n hx hb dX8_takeSend_95 rfl (lv_at hl 1 rfl) ?_
        refine lv_dup hx hb dX8_takeSend_96 rfl ?_
        have ha_28 := tx_13 hT hgr_12
        have l_29 : U_27 r_12 9 = (B r_12 9) := ((congrFun (hFr_26 r_12 (by rw [hgr_12]; decide)) 9)).trans ((congrFun (fB_9 r_12 (by rw [hgr_12]; decide)) 9))
        refine va_get (D := DG E) (ci := 4) (v := .int (U_27 r_12 9)) (C := RX4) (T := TX4) (N := 10) hx hb hts iw_X4 hown hK.1 (va_one ha_28) 0 rfl rfl 9 (by decide) (hts _ fl_X8_125) (fun _ h9 => h9) rfl dX8_takeSend_97 ?_
        refine W.eq (g2 := F0 m 100 ls [.int (B r_12 9), .ref r_12]) (by rw [l_29]) ?_
        refine lv_aload_n hx hb dX8_takeSend_100 rfl (lv_at hl 3 rfl) ?_
        have ha_30 := tx_31 hT hG0
        have l_31 : U_27 p0 3 = (B p0 3) := ((congrFun (hFr_26 p0 (by rw [hG0]; decide)) 3)).trans ((congrFun (fB_9 p0 (by rw [hG0]; decide)) 3))
        refine va_get (D := DG E) (ci := 2) (v := .int (U_27 p0 3)) (C := RX2) (T := TX2) (N := 8) hx hb hts iw_X2 hown hK.1 (va_one ha_30) 0 rfl rfl 3 (by decide) (hts _ fl_X8_128) (fun _ h9 => h9) rfl dX8_takeSend_101 ?_
        refine W.eq (g2 := F0 m 104 ls [.int (B p0 3), .int (B r_12 9), .ref r_12]) (by rw [l_31]) ?_
        refine lv_iadd hx hb dX8_takeSend_104 ?_
        refine lv_topi (fun x_32 ex_32 => ?_)
        refine rr_put (D := DG E) (ci := 4) (v := .int x_32) (ty := .int) (C := RX4) (T := TX4) (N := 10) hx hb hts iw_X4 tyX4 tyX4_ok nmX4 hown hK.1 ha_28 hS (by show G r_12 ∈ ([10, 4, 31, 14, 13, 5, 15, 11] : List Nat); rw [hgr_12]; decide) rfl 9 (by decide) (hts _ fl_X8_125) (fun _ h9 => h9) rfl (by decide +kernel) rfl rfl (Nat.le_of_ble_eq_true rfl) dX8_takeSend_105 (fun H locs hn ho hz hS => ?_)
        obtain ⟨B_33, eB_33⟩ : ∃ z : AA, z = uA U_27 r_12 (upd (U_27 r_12) 9 x_32) := ⟨_, rfl⟩
        have sB_33 : B_33 r_12 9 = x_32 := by rw [eB_33, uA_s]; exact upd_s
        have nB_33 : ∀ k, k ≠ 9 → B_33 r_12 k = U_27 r_12 k := fun k hk => by rw [eB_33, uA_s]; exact upd_n hk
        have fB_33 : ∀ c, G c ≠ 13 → B_33 c = U_27 c := fun c hc => by rw [eB_33]; exact uA_n (fun e => hc (by rw [e]; exact hgr_12))
        have hT : TX E G B_33 R H := by rw [eB_33]; exact hT.w (by rw [hgr_12]; exact hn) ho
        have hWB_33 : TW G B_33 R := by rw [eB_33]; exact hWr_26.w (by rw [hgr_12]; exact tw_13 hWr_26 hgr_12)
        have hW := hWB_33
        refine lv_aload_n hx hb dX8_takeSend_108 rfl (lv_at hl 3 rfl) ?_
        have ha_34 := tx_31 hT hG0
        refine va_calli (rnV (fun H => TX E G B_33 R H) (As := []) (rest := []) ⟨hx, hb, hml, hown, hts⟩ (x_X2_isLast l E z0 G hGz B_33 R hW p0 hG0) (cwV 0 hts (gdV ml_X8_136 im_X2_isLast se_X2_X2_isLast in_X2 co_X2_isLast rfl) rfl rfl rfl (by decide +kernel) ⟨Nat.le_of_ble_eq_true rfl, Nat.le_of_ble_eq_true rfl⟩) hT (fun U hU hW => hK.go hW hS hAz hU) (va_recv hK.1 (va_one ha_34) (ci := 2) (q0 := 0) rfl rfl) rfl rfl hl.1 rfl (lv_room (Nat.le_of_ble_eq_true rfl)) dX8_takeSend_109 ⟨Nat.le_of_ble_eq_true rfl, Nat.le_of_ble_eq_true rfl⟩) hS (fun q _ h => h.elim) (fun q h => h.elim) (fun r_35 _ t H locs ht hvm hwr_35 hB hz hk hS => ?_)
        have hT : TX E G B_33 R H := hT.kept (fun q hq => hk q hq (fun h => h))
        have hbr_35 : r_35 = 0 ∨ r_35 = 1 := hwr_35.1
        have hCr_35 : C_X2_isLast G B_33 R p0 r_35 := hwr_35.2
        have hzr_35 := s_rng hbr_35
        refine lv_if_eq (tgt := 128) hx hb dX8_takeSend_112 (by decide) (fun c_36 => ?_) (fun c_36 => ?_)
        · simp only [lt_I, le_I, eq_I, i_0, i_1, i_2, i_3, i_4, i_5, i_6, i_7, i_8, i_10, i_12, i_16, i_20, i_23, i_24, i_31, i_32, i_63, i_64, i_m1] at c_36
          refine lv_aload_n hx hb dX8_takeSend_128 rfl (lv_at hl 2 rfl) ?_
          refine lv_iconst (v := 1) hx hb dX8_takeSend_129 (by decide) ?_
          have ha_37 := tx_10 hT hG
          refine va_callv (rnV (fun H => TX E G B_33 R H) (As := [.int 1]) (rest := []) ⟨hx, hb, hml, hown, hts⟩ (x_X8_advance l E z0 G hGz B_33 R hW h0 (1 : Int32) hG) (cwV 1 hts (gdV ml_X8_142 im_X8_advance se_X8_X8_advance in_X8 co_X8_advance rfl) rfl rfl rfl (by decide +kernel) ⟨Nat.le_of_ble_eq_true rfl, Nat.le_of_ble_eq_true rfl⟩) hT (fun U hU hW => hK.go hW hS hAz hU) (va_recv hK.1 (va_one ha_37) (ci := 8) (q0 := 0) rfl rfl) rfl rfl hl.1 rfl (lv_room (Nat.le_of_ble_eq_true rfl)) dX8_takeSend_130 ⟨Nat.le_of_ble_eq_true rfl, Nat.le_of_ble_eq_true rfl⟩) hS (fun q _ h => mL (L' := [10]) (L := [10, 4, 31, 14, 13, 5, 15, 11]) (by decide) h) (fun q h => mL (L' := [10]) (L := [10, 4, 31, 14, 13, 5, 15, 11]) (by decide) h) (fun U_39 t H locs ht hvm hwr_38 hB hz hk hS => ?_)
          have hT : TX E G U_39 R H := by rw [ht] at hB; exact hB
          have hWr_38 : TW G U_39 R := hwr_38.1
          have hW := hWr_38
          have hFr_38 : Fr G [10] B_33 U_39 := hwr_38.2.1
          have hCr_38 : C_X8_advance G B_33 R h0 (1 : Int32) U_39 := hwr_38.2.2
          refine lv_aload_n hx hb dX8_takeSend_133 rfl (lv_at hl 2 rfl) ?_
          refine lv_aload_n hx hb dX8_takeSend_134 rfl (lv_at hl 3 rfl) ?_
          have ha_40 := tx_31 hT hG0
          have l_41 : U_39 p0 2 = (B p0 2) := ((congrFun (hFr_38 p0 (by rw [hG0]; decide)) 2)).trans (((congrFun (fB_33 p0 (by rw [hG0]; decide)) 2)).trans (((congrFun (hFr_26 p0 (by rw [hG0]; decide)) 2)).trans ((congrFun (fB_9 p0 (by rw [hG0]; decide)) 2))))
          refine va_get (D := DG E) (ci := 2) (v := .int (U_39 p0 2)) (C := RX2) (T := TX2) (N := 8) hx hb hts iw_X2 hown hK.1 (va_one ha_40) 0 rfl rfl 2 (by decide) (hts _ fl_X8_59) (fun _ h9 => h9) rfl dX8_takeSend_135 ?_
          refine W.eq (g2 := F0 m 138 ls [.int (B p0 2), .ref h0]) (by rw [l_41]) ?_
          have ha_42 := tx_10 hT hG
          refine va_callv (rnV (fun H => TX E G U_39 R H) (As := [.int (B p0 2)]) (rest := []) ⟨hx, hb, hml, hown, hts⟩ (x_X8_acknowledge l E z0 G hGz U_39 R hW h0 (B p0 2) hG) (cwV 1 hts (gdV ml_X8_105 im_X8_acknowledge se_X8_X8_acknowledge in_X8 co_X8_acknowledge rfl) rfl rfl rfl (by decide +kernel) ⟨Nat.le_of_ble_eq_true rfl, Nat.le_of_ble_eq_true rfl⟩) hT (fun U hU hW => hK.go hW hS hAz hU) (va_recv hK.1 (va_one ha_42) (ci := 8) (q0 := 0) rfl rfl) rfl rfl hl.1 rfl (lv_room (Nat.le_of_ble_eq_true rfl)) dX8_takeSend_138 ⟨Nat.le_of_ble_eq_true rfl, Nat.le_of_ble_eq_true rfl⟩) hS (fun q _ h => mL (L' := [4, 31]) (L := [10, 4, 31, 14, 13, 5, 15, 11]) (by decide) h) (fun q h => mL (L' := [4, 31]) (L := [10, 4, 31, 14, 13, 5, 15, 11]) (by decide) h) (fun U_44 t H locs ht hvm hwr_43 hB hz hk hS => ?_)
          have hT : TX E G U_44 R H := by rw [ht] at hB; exact hB
          have hWr_43 : TW G U_44 R := hwr_43.1
          have hW := hWr_43
          have hFr_43 : Fr G [4, 31] U_39 U_44 := hwr_43.2.1
          have hCr_43 : C_X8_acknowledge G U_39 R h0 (B p0 2) U_44 := hwr_43.2.2
          refine lv_iconst (v := 0) hx hb dX8_takeSend_141 (by decide) ?_
          exact W.iret (v := 0) hx hb hr (fun t ht hW9 => ⟨⟨0, U_44, rfl, ⟨hW, (Fr.c (Fr.c (Fr.w (Fr.c (Fr.w Fr.rf hG (by decide) eB_9) hFr_26 (by decide)) hgr_12 (by decide) eB_33) hFr_38 (by decide)) hFr_43 (by decide)), (Or.inl ⟨r_2, hCr_2, c_4, c_8, B_9, eB_9, r_12, hCr_12, x_17, ex_17, c_21, x_25, ex_25, U_27, hFr_26, hCr_26, x_32, ex_32, B_33, eB_33, r_35, hCr_35, c_36, U_39, hFr_38, hCr_38, U_44, hFr_43, hCr_43, rfl, rfl⟩)⟩, (by show TX E G U_44 R t.heap; rw [ht]; exact hT)⟩, hS.F ht⟩) hS.2.2 dX8_takeSend_142
        · simp only [lt_I, le_I, eq_I, i_0, i_1, i_2, i_3, i_4, i_5, i_6, i_7, i_8, i_10, i_12, i_16, i_20, i_23, i_24, i_31, i_32, i_63, i_64, i_m1] at c_36
          refine lv_aload_n hx hb dX8_takeSend_115 rfl (lv_at hl 2 rfl) ?_
          have ha_45 := tx_10 hT hG
          refine va_get (D := DG E) (ci := 8) (v := .ref (R h0 3)) (C := RX8) (T := TX8) (N := 9) hx hb hts iw_X8 hown hK.1 (va_one ha_45) 0 rfl rfl 3 (by decide) (hts _ fl_X8_39) (fun _ h9 => h9) rfl dX8_takeSend_116 ?_
          refine lv_iconst (v := 0) hx hb dX8_takeSend_119 (by decide) ?_
          have l_46 : B_33 (R h0 3) 4 = (B (R h0 3) 4) := ((congrFun (fB_33 (R h0 3) (by rw [hg_5]; decide)) 4)).trans (((congrFun (hFr_26 (R h0 3) (by rw [hg_5]; decide)) 4)).trans ((congrFun (fB_9 (R h0 3) (by rw [hg_5]; decide)) 4)))
          have ha_47 := tx_11 hT hg_5
          refine va_callv (rnV (fun H => TX E G B_33 R H) (As := [.int 0]) (rest := []) ⟨hx, hb, hml, hown, hts⟩ (x_X5_completeFirst l E z0 G hGz B_33 R hW (R h0 3) (0 : Int32) hg_5 (show 1 ≤ (B_33 (R h0 3) 4).toInt from by have := congrArg Int32.toInt l_46; have := i_0; first | decide | omega)) (cwV 1 hts (gdV ml_X8_139 im_X5_completeFirst se_X5_X5_completeFirst in_X5 co_X5_completeFirst rfl) rfl rfl rfl (by decide +kernel) ⟨Nat.le_of_ble_eq_true rfl, Nat.le_of_ble_eq_true rfl⟩) hT (fun U hU hW => hK.go hW hS hAz hU) (va_recv hK.1 (va_one ha_47) (ci := 5) (q0 := 0) rfl rfl) rfl rfl hl.1 rfl (lv_room (Nat.le_of_ble_eq_true rfl)) dX8_takeSend_120 ⟨Nat.le_of_ble_eq_true rfl, Nat.le_of_ble_eq_true rfl⟩) hS (fun q _ h => mL (L' := [5, 15, 11]) (L := [10, 4, 31, 14, 13, 5, 15, 11]) (by decide) h) (fun q h => mL (L' := [5, 15, 11]) (L := [10, 4, 31, 14, 13, 5, 15, 11]) (by decide) h) (fun U_49 t H locs ht hvm hwr_48 hB hz hk hS => ?_)
          have hT : TX E G U_49 R H := by rw [ht] at hB; exact hB
          have hWr_48 : TW G U_49 R := hwr_48.1
          have hW := hWr_48
          have hFr_48 : Fr G [5, 15, 11] B_33 U_49 := hwr_48.2.1
          have hCr_48 : C_X5_completeFirst G B_33 R (R h0 3) (0 : Int32) U_49 := hwr_48.2.2
          refine lv_aload_n hx hb dX8_takeSend_123 rfl (lv_at hl 2 rfl) ?_
          refine lv_iconst (v := 0) hx hb dX8_takeSend_124 (by decide) ?_
          have ha_50 := tx_10 hT hG
          refine rr_put (D := DG E) (ci := 8) (v := .int 0) (ty := .boolean) (C := RX8) (T := TX8) (N := 9) hx hb hts iw_X8 tyX8 tyX8_ok nmX8 hown hK.1 ha_50 hS (by show G h0 ∈ ([10, 4, 31, 14, 13, 5, 15, 11] : List Nat); rw [hG]; decide) rfl 5 (by decide) (hts _ fl_X8_52) (fun _ h9 => h9) rfl (by decide +kernel) rfl rfl (Nat.le_of_ble_eq_true rfl) dX8_takeSend_125 (fun H locs hn ho hz hS => ?_)
          obtain ⟨B_51, eB_51⟩ : ∃ z : AA, z = uA U_49 h0 (upd (U_49 h0) 5 0) := ⟨_, rfl⟩
          have sB_51 : B_51 h0 5 = 0 := by rw [eB_51, uA_s]; exact upd_s
          have nB_51 : ∀ k, k ≠ 5 → B_51 h0 k = U_49 h0 k := fun k hk => by rw [eB_51, uA_s]; exact upd_n hk
          have fB_51 : ∀ c, G c ≠ 10 → B_51 c = U_49 c := fun c hc => by rw [eB_51]; exact uA_n (fun e => hc (by rw [e]; exact hG))
          have hT : TX E G B_51 R H := by rw [eB_51]; exact hT.w (by rw [hG]; exact hn) ho
          have hWB_51 : TW G B_51 R := by rw [eB_51]; exact hWr_48.w (by rw [hG]; exact tw_10 hWr_48 hG)
          have hW := hWB_51
          refine lv_aload_n hx hb dX8_takeSend_128 rfl (lv_at hl 2 rfl) ?_
          refine lv_iconst (v := 1) hx hb dX8_takeSend_129 (by decide) ?_
          have ha_52 := tx_10 hT hG
          refine va_callv (rnV (fun H => TX E G B_51 R H) (As := [.int 1]) (rest := []) ⟨hx, hb, hml, hown, hts⟩ (x_X8_advance l E z0 G hGz B_51 R hW h0 (1 : Int32) hG) (cwV 1 hts (gdV ml_X8_142 im_X8_advance se_X8_X8_advance in_X8 co_X8_advance rfl) rfl rfl rfl (by decide +kernel) ⟨Nat.le_of_ble_eq_true rfl, Nat.le_of_ble_eq_true rfl⟩) hT (fun U hU hW => hK.go hW hS hAz hU) (va_recv hK.1 (va_one ha_52) (ci := 8) (q0 := 0) rfl rfl) rfl rfl hl.1 rfl (lv_room (Nat.le_of_ble_eq_true rfl)) dX8_takeSend_130 ⟨Nat.le_of_ble_eq_true rfl, Nat.le_of_ble_eq_true rfl⟩) hS (fun q _ h => mL (L' := [10]) (L := [10, 4, 31, 14, 13, 5, 15, 11]) (by decide) h) (fun q h => mL (L' := [10]) (L := [10, 4, 31, 14, 13, 5, 15, 11]) (by decide) h) (fun U_54 t H locs ht hvm hwr_53 hB hz hk hS => ?_)
          have hT : TX E G U_54 R H := by rw [ht] at hB; exact hB
          have hWr_53 : TW G U_54 R := hwr_53.1
          have hW := hWr_53
          have hFr_53 : Fr G [10] B_51 U_54 := hwr_53.2.1
          have hCr_53 : C_X8_advance G B_51 R h0 (1 : Int32) U_54 := hwr_53.2.2
          refine lv_aload_n hx hb dX8_takeSend_133 rfl (lv_at hl 2 rfl) ?_
          refine lv_aload_n hx hb dX8_takeSend_134 rfl (lv_at hl 3 rfl) ?_
          have ha_55 := tx_31 hT hG0
          have l_56 : U_54 p0 2 = (B p0 2) := ((congrFun (hFr_53 p0 (by rw [hG0]; decide)) 2)).trans (((congrFun (fB_51 p0 (by rw [hG0]; decide)) 2)).trans (((congrFun (hFr_48 p0 (by rw [hG0]; decide)) 2)).trans (((congrFun (fB_33 p0 (by rw [hG0]; decide)) 2)).trans (((congrFun (hFr_26 p0 (by rw [hG0]; decide)) 2)).trans ((congrFun (fB_9 p0 (by rw [hG0]; decide)) 2))))))
          refine va_get (D := DG E) (ci := 2) (v := .int (U_54 p0 2)) (C := RX2) (T := TX2) (N := 8) hx hb hts iw_X2 hown hK.1 (va_one ha_55) 0 rfl rfl 2 (by decide) (hts _ fl_X8_59) (fun _ h9 => h9) rfl dX8_takeSend_135 ?_
          refine W.eq (g2 := F0 m 138 ls [.int (B p0 2), .ref h0]) (by rw [l_56]) ?_
          have ha_57 := tx_10 hT hG
          refine va_callv (rnV (fun H => TX E G U_54 R H) (As := [.int (B p0 2)]) (rest := []) ⟨hx, hb, hml, hown, hts⟩ (x_X8_acknowledge l E z0 G hGz U_54 R hW h0 (B p0 2) hG) (cwV 1 hts (gdV ml_X8_105 im_X8_acknowledge se_X8_X8_acknowledge in_X8 co_X8_acknowledge rfl) rfl rfl rfl (by decide +kernel) ⟨Nat.le_of_ble_eq_true rfl, Nat.le_of_ble_eq_true rfl⟩) hT (fun U hU hW => hK.go hW hS hAz hU) (va_recv hK.1 (va_one ha_57) (ci := 8) (q0 := 0) rfl rfl) rfl rfl hl.1 rfl (lv_room (Nat.le_of_ble_eq_true rfl)) dX8_takeSend_138 ⟨Nat.le_of_ble_eq_true rfl, Nat.le_of_ble_eq_true rfl⟩) hS (fun q _ h => mL (L' := [4, 31]) (L := [10, 4, 31, 14, 13, 5, 15, 11]) (by decide) h) (fun q h => mL (L' := [4, 31]) (L := [10, 4, 31, 14, 13, 5, 15, 11]) (by decide) h) (fun U_59 t H locs ht hvm hwr_58 hB hz hk hS => ?_)
          have hT : TX E G U_59 R H := by rw [ht] at hB; exact hB
          have hWr_58 : TW G U_59 R := hwr_58.1
          have hW := hWr_58
          have hFr_58 : Fr G [4, 31] U_54 U_59 := hwr_58.2.1
          have hCr_58 : C_X8_acknowledge G U_54 R h0 (B p0 2) U_59 := hwr_58.2.2
          refine lv_iconst (v := 0) hx hb dX8_takeSend_141 (by decide) ?_
          exact W.iret (v := 0) hx hb hr (fun t ht hW9 => ⟨⟨0, U_59, rfl, ⟨hW, (Fr.c (Fr.c (Fr.w (Fr.c (Fr.w (Fr.c (Fr.w Fr.rf hG (by decide) eB_9) hFr_26 (by decide)) hgr_12 (by decide) eB_33) hFr_48 (by decide)) hG (by decide) eB_51) hFr_53 (by decide)) hFr_58 (by decide)), (Or.inr (Or.inl ⟨r_2, hCr_2, c_4, c_8, B_9, eB_9, r_12, hCr_12, x_17, ex_17, c_21, x_25, ex_25, U_27, hFr_26, hCr_26, x_32, ex_32, B_33, eB_33, r_35, hCr_35, c_36, U_49, hFr_48, hCr_48, B_51, eB_51, U_54, hFr_53, hCr_53, U_59, hFr_58, hCr_58, rfl, rfl⟩))⟩, (by show TX E G U_59 R t.heap; rw [ht]; exact hT)⟩, hS.F ht⟩) hS.2.2 dX8_takeSend_142
      · simp only [lt_I, le_I, eq_I, i_0, i_1, i_2, i_3, i_4, i_5, i_6, i_7, i_8, i_10, i_12, i_16, i_20, i_23, i_24, i_31, i_32, i_63, i_64, i_m1] at c_21
        refine lv_aload_n hx hb dX8_takeSend_66 rfl (lv_at hl 2 rfl) ?_
        refine lv_aload_n hx hb dX8_takeSend_67 rfl (lv_at hl 3 rfl) ?_
        have l_60 : B_9 p0 2 = (B p0 2) := (congrFun (fB_9 p0 (by rw [hG0]; decide)) 2)
        refine va_get (D := DG E) (ci := 2) (v := .int (B_9 p0 2)) (C := RX2) (T := TX2) (N := 8) hx hb hts iw_X2 hown hK.1 (va_one ha_18) 0 rfl rfl 2 (by decide) (hts _ fl_X8_59) (fun _ h9 => h9) rfl dX8_takeSend_68 ?_
        refine W.eq (g2 := F0 m 71 ls [.int (B p0 2), .ref h0]) (by rw [l_60]) ?_
        refine lv_iconst (v := 4) hx hb dX8_takeSend_71 (by decide) ?_
        have ha_61 := tx_10 hT hG
        refine va_callv (rnV (fun H => TX E G B_9 R H) (As := [.int (B p0 2), .int 4]) (rest := []) ⟨hx, hb, hml, hown, hts⟩ (x_X8_refuse l E z0 G hGz B_9 R hW h0 (B p0 2) (4 : Int32) hG) (cwV 2 hts (gdV ml_X8_85 im_X8_refuse se_X8_X8_refuse in_X8 co_X8_refuse rfl) rfl rfl rfl (by decide +kernel) ⟨Nat.le_of_ble_eq_true rfl, Nat.le_of_ble_eq_true rfl⟩) hT (fun U hU hW => hK.go hW hS hAz hU) (va_recv hK.1 (va_one ha_61) (ci := 8) (q0 := 0) rfl rfl) rfl rfl hl.1 rfl (lv_room (Nat.le_of_ble_eq_true rfl)) dX8_takeSend_72 ⟨Nat.le_of_ble_eq_true rfl, Nat.le_of_ble_eq_true rfl⟩) hS (fun q _ h => mL (L' := [4, 31]) (L := [10, 4, 31, 14, 13, 5, 15, 11]) (by decide) h) (fun q h => mL (L' := [4, 31]) (L := [10, 4, 31, 14, 13, 5, 15, 11]) (by decide) h) (fun U_63 t H locs ht hvm hwr_62 hB hz hk hS => ?_)
        have hT : TX E G U_63 R H := by rw [ht] at hB; exact hB
        have hWr_62 : TW G U_63 R := hwr_62.1
        have hW := hWr_62
        have hFr_62 : Fr G [4, 31] B_9 U_63 := hwr_62.2.1
        have hCr_62 : C_X8_refuse G B_9 R h0 (B p0 2) (4 : Int32) U_63 := hwr_62.2.2
        refine lv_iconst (v := 4) hx hb dX8_takeSend_75 (by decide) ?_
        exact W.iret (v := 4) hx hb hr (fun t ht hW9 => ⟨⟨4, U_63, rfl, ⟨hW, (Fr.c (Fr.w Fr.rf hG (by decide) eB_9) hFr_62 (by decide)), (Or.inr (Or.inr (Or.inl ⟨r_2, hCr_2, c_4, c_8, B_9, eB_9, r_12, hCr_12, x_17, ex_17, c_21, U_63, hFr_62, hCr_62, rfl, rfl⟩)))⟩, (by show TX E G U_63 R t.heap; rw [ht]; exact hT)⟩, hS.F ht⟩) hS.2.2 dX8_takeSend_76
    · simp only [lt_I, le_I, eq_I, i_0, i_1, i_2, i_3, i_4, i_5, i_6, i_7, i_8, i_10, i_12, i_16, i_20, i_23, i_24, i_31, i_32, i_63, i_64, i_m1] at c_8
      refine lv_aload_n hx hb dX8_takeSend_23 rfl (lv_at hl 0 rfl) ?_
      refine lv_aload_n hx hb dX8_takeSend_24 rfl (lv_at hl 1 rfl) ?_
      have ha_64 := tx_31 hT hG0
      refine va_get (D := DG E) (ci := 2) (v := .int (B p0 2)) (C := RX2) (T := TX2) (N := 8) hx hb hts iw_X2 hown hK.1 (va_one ha_64) 0 rfl rfl 2 (by decide) (hts _ fl_X8_59) (fun _ h9 => h9) rfl dX8_takeSend_25 ?_
      refine lv_iconst (v := 2) hx hb dX8_takeSend_28 (by decide) ?_
      refine va_callv (rnV (fun H => TX E G B R H) (As := [.int (B p0 2), .int 2]) (rest := []) ⟨hx, hb, hml, hown, hts⟩ (x_X8_refuse l E z0 G hGz B R hW h0 (B p0 2) (2 : Int32) hG) (cwV 2 hts (gdV ml_X8_85 im_X8_refuse se_X8_X8_refuse in_X8 co_X8_refuse rfl) rfl rfl rfl (by decide +kernel) ⟨Nat.le_of_ble_eq_true rfl, Nat.le_of_ble_eq_true rfl⟩) hT (fun U hU hW => hK.go hW hS hAz hU) (va_recv hK.1 (va_one ha_3) (ci := 8) (q0 := 0) rfl rfl) rfl rfl hl.1 rfl (lv_room (Nat.le_of_ble_eq_true rfl)) dX8_takeSend_29 ⟨Nat.le_of_ble_eq_true rfl, Nat.le_of_ble_eq_true rfl⟩) hS (fun q _ h => mL (L' := [4, 31]) (L := [10, 4, 31, 14, 13, 5, 15, 11]) (by decide) h) (fun q h => mL (L' := [4, 31]) (L := [10, 4, 31, 14, 13, 5, 15, 11]) (by decide) h) (fun U_66 t H locs ht hvm hwr_65 hB hz hk hS => ?_)
      have hT : TX E G U_66 R H := by rw [ht] at hB; exact hB
      have hWr_65 : TW G U_66 R := hwr_65.1
      have hW := hWr_65
      have hFr_65 : Fr G [4, 31] B U_66 := hwr_65.2.1
      have hCr_65 : C_X8_refuse G B R h0 (B p0 2) (2 : Int32) U_66 := hwr_65.2.2
      refine lv_iconst (v := 0) hx hb dX8_takeSend_32 (by decide) ?_
      exact W.iret (v := 0) hx hb hr (fun t ht hW9 => ⟨⟨0, U_66, rfl, ⟨hW, (Fr.c Fr.rf hFr_65 (by decide)), (Or.inr (Or.inr (Or.inr (Or.inl ⟨r_2, hCr_2, c_4, c_8, U_66, hFr_65, hCr_65, rfl, rfl⟩))))⟩, (by show TX E G U_66 R t.heap; rw [ht]; exact hT)⟩, hS.F ht⟩) hS.2.2 dX8_takeSend_33
  · simp only [lt_I, le_I, eq_I, i_0, i_1, i_2, i_3, i_4, i_5, i_6, i_7, i_8, i_10, i_12, i_16, i_20, i_23, i_24, i_31, i_32, i_63, i_64, i_m1] at c_4
    refine lv_iconst (v := 0) hx hb dX8_takeSend_11 (by decide) ?_
    exact W.iret (v := 0) hx hb hr (fun t ht hW9 => ⟨⟨0, B, rfl, ⟨hW, Fr.rf, (Or.inr (Or.inr (Or.inr (Or.inr ⟨r_2, hCr_2, c_4, rfl, rfl⟩))))⟩, (by show TX E G B R t.heap; rw [ht]; exact hT)⟩, hS.F ht⟩) hS.2.2 dX8_takeSend_12
theorem gdX8_takeReach_0 : (decode cX8_takeReach 0 = .ok (.aload_n 1, 1)) ∧ (decode cX8_takeReach 1 = .ok (.aload_n 0, 1)) ∧ (decode cX8_takeReach 2 = .ok (.getfield 26, 3)) ∧ (decode cX8_takeReach 5 = .ok (.invokevirtual 89, 3)) ∧ (decode cX8_takeReach 8 = .ok (.ifCond .ne 14, 3)) ∧ (decode cX8_takeReach 11 = .ok (.aload_n 0, 1)) ∧ (decode cX8_takeReach 12 = .ok (.aload_n 1, 1)) ∧ (decode cX8_takeReach 13 = .ok (.getfield 59, 3)) ∧ (decode cX8_takeReach 16 = .ok (.iconst 3, 1)) ∧ (decode cX8_takeReach 17 = .ok (.invokevirtual 85, 3)) ∧ (decode cX8_takeReach 20 = .ok (.iconst 5, 1)) ∧ (decode cX8_takeReach 21 = .ok (.ireturn, 1)) ∧ (decode cX8_takeReach 22 = .ok (.aload_n 1, 1)) ∧ (decode cX8_takeReach 23 = .ok (.getfield 75, 3)) ∧ (decode cX8_takeReach 26 = .ok (.iconst 2, 1)) ∧ (decode cX8_takeReach 27 = .ok (.if_icmp .ne 22, 3)) := by decide +kernel
theorem dX8_takeReach_0 : decode cX8_takeReach 0 = .ok (.aload_n 1, 1) := gdX8_takeReach_0.1
theorem dX8_takeReach_1 : decode cX8_takeReach 1 = .ok (.aload_n 0, 1) := gdX8_takeReach_0.2.1
theorem dX8_takeReach_2 : decode cX8_takeReach 2 = .ok (.getfield 26, 3) := gdX8_takeReach_0.2.2.1
theorem dX8_takeReach_5 : decode cX8_takeReach 5 = .ok (.invokevirtual 89, 3) := gdX8_takeReach_0.2.2.2.1
theorem dX8_takeReach_8 : decode cX8_takeReach 8 = .ok (.ifCond .ne 14, 3) := gdX8_takeReach_0.2.2.2.2.1
theorem dX8_takeReach_11 : decode cX8_takeReach 11 = .ok (.aload_n 0, 1) := gdX8_takeReach_0.2.2.2.2.2.1
theorem dX8_takeReach_12 : decode cX8_takeReach 12 = .ok (.aload_n 1, 1) := gdX8_takeReach_0.2.2.2.2.2.2.1
theorem dX8_takeReach_13 : decode cX8_takeReach 13 = .ok (.getfield 59, 3) := gdX8_takeReach_0.2.2.2.2.2.2.2.1
theorem dX8_takeReach_16 : decode cX8_takeReach 16 = .ok (.iconst 3, 1) := gdX8_takeReach_0.2.2.2.2.2.2.2.2.1
theorem dX8_takeReach_17 : decode cX8_takeReach 17 = .ok (.invokevirtual 85, 3) := gdX8_takeReach_0.2.2.2.2.2.2.2.2.2.1
theorem dX8_takeReach_20 : decode cX8_takeReach 20 = .ok (.iconst 5, 1) := gdX8_takeReach_0.2.2.2.2.2.2.2.2.2.2.1
theorem dX8_takeReach_21 : decode cX8_takeReach 21 = .ok (.ireturn, 1) := gdX8_takeReach_0.2.2.2.2.2.2.2.2.2.2.2.1
theorem dX8_takeReach_22 : decode cX8_takeReach 22 = .ok (.aload_n 1, 1) := gdX8_takeReach_0.2.2.2.2.2.2.2.2.2.2.2.2.1
theorem dX8_takeReach_23 : decode cX8_takeReach 23 = .ok (.getfield 75, 3) := gdX8_takeReach_0.2.2.2.2.2.2.2.2.2.2.2.2.2.1
theorem dX8_takeReach_26 : decode cX8_takeReach 26 = .ok (.iconst 2, 1) := gdX8_takeReach_0.2.2.2.2.2.2.2.2.2.2.2.2.2.2.1
theorem dX8_takeReach_27 : decode cX8_takeReach 27 = .ok (.if_icmp .ne 22, 3) := gdX8_takeReach_0.2.2.2.2.2.2.2.2.2.2.2.2.2.2.2
theorem gdX8_takeReach_30 : (decode cX8_takeReach 30 = .ok (.aload_n 0, 1)) ∧ (decode cX8_takeReach 31 = .ok (.aload_n 1, 1)) ∧ (decode cX8_takeReach 32 = .ok (.invokevirtual 93, 3)) ∧ (decode cX8_takeReach 35 = .ok (.aload_n 0, 1)) ∧ (decode cX8_takeReach 36 = .ok (.aload_n 1, 1)) ∧ (decode cX8_takeReach 37 = .ok (.getfield 128, 3)) ∧ (decode cX8_takeReach 40 = .ok (.invokestatic 145, 3)) ∧ (decode cX8_takeReach 43 = .ok (.invokevirtual 142, 3)) ∧ (decode cX8_takeReach 46 = .ok (.goto 61, 3)) ∧ (decode cX8_takeReach 49 = .ok (.aload_n 1, 1)) ∧ (decode cX8_takeReach 50 = .ok (.getfield 75, 3)) ∧ (decode cX8_takeReach 53 = .ok (.iconst 3, 1)) ∧ (decode cX8_takeReach 54 = .ok (.if_icmp .ne 24, 3)) ∧ (decode cX8_takeReach 57 = .ok (.aload_n 0, 1)) ∧ (decode cX8_takeReach 58 = .ok (.aload_n 1, 1)) ∧ (decode cX8_takeReach 59 = .ok (.getfield 59, 3)) := by decide +kernel
theorem dX8_takeReach_30 : decode cX8_takeReach 30 = .ok (.aload_n 0, 1) := gdX8_takeReach_30.1
theorem dX8_takeReach_31 : decode cX8_takeReach 31 = .ok (.aload_n 1, 1) := gdX8_takeReach_30.2.1
theorem dX8_takeReach_32 : decode cX8_takeReach 32 = .ok (.invokevirtual 93, 3) := gdX8_takeReach_30.2.2.1
theorem dX8_takeReach_35 : decode cX8_takeReach 35 = .ok (.aload_n 0, 1) := gdX8_takeReach_30.2.2.2.1
theorem dX8_takeReach_36 : decode cX8_takeReach 36 = .ok (.aload_n 1, 1) := gdX8_takeReach_30.2.2.2.2.1
theorem dX8_takeReach_37 : decode cX8_takeReach 37 = .ok (.getfield 128, 3) := gdX8_takeReach_30.2.2.2.2.2.1
theorem dX8_takeReach_40 : decode cX8_takeReach 40 = .ok (.invokestatic 145, 3) := gdX8_takeReach_30.2.2.2.2.2.2.1
theorem dX8_takeReach_43 : decode cX8_takeReach 43 = .ok (.invokevirtual 142, 3) := gdX8_takeReach_30.2.2.2.2.2.2.2.1
theorem dX8_takeReach_46 : decode cX8_takeReach 46 = .ok (.goto 61, 3) := gdX8_takeReach_30.2.2.2.2.2.2.2.2.1
theorem dX8_takeReach_49 : decode cX8_takeReach 49 = .ok (.aload_n 1, 1) := gdX8_takeReach_30.2.2.2.2.2.2.2.2.2.1
theorem dX8_takeReach_50 : decode cX8_takeReach 50 = .ok (.getfield 75, 3) := gdX8_takeReach_30.2.2.2.2.2.2.2.2.2.2.1
theorem dX8_takeReach_53 : decode cX8_takeReach 53 = .ok (.iconst 3, 1) := gdX8_takeReach_30.2.2.2.2.2.2.2.2.2.2.2.1
theorem dX8_takeReach_54 : decode cX8_takeReach 54 = .ok (.if_icmp .ne 24, 3) := gdX8_takeReach_30.2.2.2.2.2.2.2.2.2.2.2.2.1
theorem dX8_takeReach_57 : decode cX8_takeReach 57 = .ok (.aload_n 0, 1) := gdX8_takeReach_30.2.2.2.2.2.2.2.2.2.2.2.2.2.1
theorem dX8_takeReach_58 : decode cX8_takeReach 58 = .ok (.aload_n 1, 1) := gdX8_takeReach_30.2.2.2.2.2.2.2.2.2.2.2.2.2.2.1
theorem dX8_takeReach_59 : decode cX8_takeReach 59 = .ok (.getfield 59, 3) := gdX8_takeReach_30.2.2.2.2.2.2.2.2.2.2.2.2.2.2.2
theorem gdX8_takeReach_62 : (decode cX8_takeReach 62 = .ok (.aload_n 0, 1)) ∧ (decode cX8_takeReach 63 = .ok (.aload_n 1, 1)) ∧ (decode cX8_takeReach 64 = .ok (.invokevirtual 148, 3)) ∧ (decode cX8_takeReach 67 = .ok (.invokevirtual 99, 3)) ∧ (decode cX8_takeReach 70 = .ok (.aload_n 0, 1)) ∧ (decode cX8_takeReach 71 = .ok (.iconst 1, 1)) ∧ (decode cX8_takeReach 72 = .ok (.invokevirtual 142, 3)) ∧ (decode cX8_takeReach 75 = .ok (.goto 32, 3)) ∧ (decode cX8_takeReach 78 = .ok (.aload_n 1, 1)) ∧ (decode cX8_takeReach 79 = .ok (.aload_n 0, 1)) ∧ (decode cX8_takeReach 80 = .ok (.getfield 26, 3)) ∧ (decode cX8_takeReach 83 = .ok (.aload_n 1, 1)) ∧ (decode cX8_takeReach 84 = .ok (.getfield 151, 3)) ∧ (decode cX8_takeReach 87 = .ok (.aload_n 1, 1)) ∧ (decode cX8_takeReach 88 = .ok (.getfield 128, 3)) ∧ (decode cX8_takeReach 91 = .ok (.invokevirtual 132, 3)) := by decide +kernel
theorem dX8_takeReach_62 : decode cX8_takeReach 62 = .ok (.aload_n 0, 1) := gdX8_takeReach_62.1
theorem dX8_takeReach_63 : decode cX8_takeReach 63 = .ok (.aload_n 1, 1) := gdX8_takeReach_62.2.1
theorem dX8_takeReach_64 : decode cX8_takeReach 64 = .ok (.invokevirtual 148, 3) := gdX8_takeReach_62.2.2.1
theorem dX8_takeReach_67 : decode cX8_takeReach 67 = .ok (.invokevirtual 99, 3) := gdX8_takeReach_62.2.2.2.1
theorem dX8_takeReach_70 : decode cX8_takeReach 70 = .ok (.aload_n 0, 1) := gdX8_takeReach_62.2.2.2.2.1
theorem dX8_takeReach_71 : decode cX8_takeReach 71 = .ok (.iconst 1, 1) := gdX8_takeReach_62.2.2.2.2.2.1
theorem dX8_takeReach_72 : decode cX8_takeReach 72 = .ok (.invokevirtual 142, 3) := gdX8_takeReach_62.2.2.2.2.2.2.1
theorem dX8_takeReach_75 : decode cX8_takeReach 75 = .ok (.goto 32, 3) := gdX8_takeReach_62.2.2.2.2.2.2.2.1
theorem dX8_takeReach_78 : decode cX8_takeReach 78 = .ok (.aload_n 1, 1) := gdX8_takeReach_62.2.2.2.2.2.2.2.2.1
theorem dX8_takeReach_79 : decode cX8_takeReach 79 = .ok (.aload_n 0, 1) := gdX8_takeReach_62.2.2.2.2.2.2.2.2.2.1
theorem dX8_takeReach_80 : decode cX8_takeReach 80 = .ok (.getfield 26, 3) := gdX8_takeReach_62.2.2.2.2.2.2.2.2.2.2.1
theorem dX8_takeReach_83 : decode cX8_takeReach 83 = .ok (.aload_n 1, 1) := gdX8_takeReach_62.2.2.2.2.2.2.2.2.2.2.2.1
theorem dX8_takeReach_84 : decode cX8_takeReach 84 = .ok (.getfield 151, 3) := gdX8_takeReach_62.2.2.2.2.2.2.2.2.2.2.2.2.1
theorem dX8_takeReach_87 : decode cX8_takeReach 87 = .ok (.aload_n 1, 1) := gdX8_takeReach_62.2.2.2.2.2.2.2.2.2.2.2.2.2.1
theorem dX8_takeReach_88 : decode cX8_takeReach 88 = .ok (.getfield 128, 3) := gdX8_takeReach_62.2.2.2.2.2.2.2.2.2.2.2.2.2.2.1
theorem dX8_takeReach_91 : decode cX8_takeReach 91 = .ok (.invokevirtual 132, 3) := gdX8_takeReach_62.2.2.2.2.2.2.2.2.2.2.2.2.2.2.2
theorem gdX8_takeReach_94 : (decode cX8_takeReach 94 = .ok (.aload_n 0, 1)) ∧ (decode cX8_takeReach 95 = .ok (.iconst 1, 1)) ∧ (decode cX8_takeReach 96 = .ok (.invokevirtual 142, 3)) ∧ (decode cX8_takeReach 99 = .ok (.aload_n 0, 1)) ∧ (decode cX8_takeReach 100 = .ok (.aload_n 1, 1)) ∧ (decode cX8_takeReach 101 = .ok (.getfield 59, 3)) ∧ (decode cX8_takeReach 104 = .ok (.invokevirtual 105, 3)) ∧ (decode cX8_takeReach 107 = .ok (.iconst 0, 1)) ∧ (decode cX8_takeReach 108 = .ok (.ireturn, 1)) := by decide +kernel
theorem dX8_takeReach_94 : decode cX8_takeReach 94 = .ok (.aload_n 0, 1) := gdX8_takeReach_94.1
theorem dX8_takeReach_95 : decode cX8_takeReach 95 = .ok (.iconst 1, 1) := gdX8_takeReach_94.2.1
theorem dX8_takeReach_96 : decode cX8_takeReach 96 = .ok (.invokevirtual 142, 3) := gdX8_takeReach_94.2.2.1
theorem dX8_takeReach_99 : decode cX8_takeReach 99 = .ok (.aload_n 0, 1) := gdX8_takeReach_94.2.2.2.1
theorem dX8_takeReach_100 : decode cX8_takeReach 100 = .ok (.aload_n 1, 1) := gdX8_takeReach_94.2.2.2.2.1
theorem dX8_takeReach_101 : decode cX8_takeReach 101 = .ok (.getfield 59, 3) := gdX8_takeReach_94.2.2.2.2.2.1
theorem dX8_takeReach_104 : decode cX8_takeReach 104 = .ok (.invokevirtual 105, 3) := gdX8_takeReach_94.2.2.2.2.2.2.1
theorem dX8_takeReach_107 : decode cX8_takeReach 107 = .ok (.iconst 0, 1) := gdX8_takeReach_94.2.2.2.2.2.2.2.1
theorem dX8_takeReach_108 : decode cX8_takeReach 108 = .ok (.ireturn, 1) := gdX8_takeReach_94.2.2.2.2.2.2.2.2
set_option maxHeartbeats 8000000 in
set_option maxRecDepth 100000 in
theorem x_X8_takeReach (l : Launch) (E : EE) (z0 : Nat) (G : Nat → Nat) (hGz : ∀ q, G q ≠ 0 → z0 ≤ q) (B : AA) (R : RR) (hW : TW G B R) (h0 : Nat) (p0 : Nat) (hG : G h0 = 10) (hG0 : G p0 = 31) : Met l yX8_takeReach [Cond.code yX8_takeReach cX8_takeReach 2 (some .int)] ({ frames := 4, cells := 0, slots := 0, locals := 88 } : Room) (va_Pc [.ref h0, .ref p0] (fun U => TX E G B R U.heap ∧ KS E z0 U)) (va_Qi (fun (r : Int32) (u : AA) => (TW G u R) ∧ (Fr G ([10, 4, 31, 32, 14, 16, 17] : List Nat) B u) ∧ (C_X8_takeReach G B R h0 p0 u r)) (fun u t => TX E G u R t.heap) (fun q : Nat => G q ∈ ([10, 4, 31, 32, 14, 16, 17] : List Nat))) 0 0 (fun q : Nat => G q ∈ ([10, 4, 31, 32, 14, 16, 17] : List Nat)) := by
  refine Met.ofW (cc := cX8_takeReach) (maxL := 2) (ret := (some .int)) (by decide) rfl ?_
  intro p e s m args below meth c s₁ B9 hml hv
  obtain ⟨rfl, hT, hK⟩ := hv
  have hx := B9.exec
  have hb := B9.bytes
  have hr := B9.returns
  have hts : ∀ w ∈ TS, w.before ([.ref h0, .ref p0] : List Value).toArray s = true := fun w hw => hK.2.1 w hw _
  have hown : s.vm.findClass RX8 = some m.cls := findClass_of_methodNamed B9.named
  have hlocks := B9.notSynchronized
  have hS : va_S (fun q : Nat => G q ∈ ([10, 4, 31, 32, 14, 16, 17] : List Nat)) s.heap s.heap [] := va_S.rf
  have hAz : ∀ q, (fun q : Nat => G q ∈ ([10, 4, 31, 32, 14, 16, 17] : List Nat)) q → z0 ≤ q := zL hGz (by decide)
  have hW_0 := hW
  have hl := lv_entry ([.ref h0, .ref p0]) (n := 2) (Nat.le_of_ble_eq_true rfl)
  rw [lg_entry_eq]
  generalize (lg_sl ([.ref h0, .ref p0]) ++ List.replicate (2 - (lg_sl ([.ref h0, .ref p0])).length) Slot.unset).toArray = ls at hl ⊢
  have hl : lv_has ls 2 [(0, .ref h0), (1, .ref p0)] := hl
  refine lv_aload_n hx hb dX8_takeReach_0 rfl (lv_at hl 1 rfl) ?_
  refine lv_aload_n hx hb dX8_takeReach_1 rfl (lv_at hl 0 rfl) ?_
  have ha_1 := tx_10 hT hG
  have hg_2 : G (R h0 1) = 5 := (tw_10 hW hG).2.1
  refine va_get (D := DG E) (ci := 8) (v := .ref (R h0 1)) (C := RX8) (T := TX8) (N := 9) hx hb hts iw_X8 hown hK.1 (va_one ha_1) 0 rfl rfl 1 (by decide) (hts _ fl_X8_26) (fun _ h9 => h9) rfl dX8_takeReach_2 ?_
  have ha_3 := tx_31 hT hG0
  refine va_calli (rnV (fun H => TX E G B R H) (As := [.ref (R h0 1)]) (rest := []) ⟨hx, hb, hml, hown, hts⟩ (x_X2_isAllowed l E z0 G hGz B R hW p0 (R h0 1) hG0 hg_2) (cwV 1 hts (gdV ml_X8_89 im_X2_isAllowed se_X2_X2_isAllowed in_X2 co_X2_isAllowed rfl) rfl rfl rfl (by decide +kernel) ⟨Nat.le_of_ble_eq_true rfl, Nat.le_of_ble_eq_true rfl⟩) hT (fun U hU hW => hK.go hW hS hAz hU) (va_recv hK.1 (va_one ha_3) (ci := 2) (q0 := 0) rfl rfl) rfl rfl hl.1 rfl (lv_room (Nat.le_of_ble_eq_true rfl)) dX8_takeReach_5 ⟨Nat.le_of_ble_eq_true rfl, Nat.le_of_ble_eq_true rfl⟩) hS (fun q _ h => h.elim) (fun q h => h.elim) (fun r_4 _ t H locs ht hvm hwr_4 hB hz hk hS => ?_)
  have hT : TX E G B R H := hT.kept (fun q hq => hk q hq (fun h => h))
  have hbr_4 : r_4 = 0 ∨ r_4 = 1 := hwr_4.1
  have hCr_4 : C_X2_isAllowed G B R p0 (R h0 1) r_4 := hwr_4.2
  have hzr_4 := s_rng hbr_4
  refine lv_if_ne (tgt := 22) hx hb dX8_takeReach_8 (by decide) (fun c_5 => ?_) (fun c_5 => ?_)
  · simp only [lt_I, le_I, eq_I, i_0, i_1, i_2, i_3, i_4, i_5, i_6, i_7, i_8, i_10, i_12, i_16, i_20, i_23, i_24, i_31, i_32, i_63, i_64, i_m1] at c_5
    refine lv_aload_n hx hb dX8_takeReach_22 rfl (lv_at hl 1 rfl) ?_
    have ha_6 := tx_31 hT hG0
    refine va_get (D := DG E) (ci := 2) (v := .int (B p0 1)) (C := RX2) (T := TX2) (N := 8) hx hb hts iw_X2 hown hK.1 (va_one ha_6) 0 rfl rfl 1 (by decide) (hts _ fl_X8_75) (fun _ h9 => h9) rfl dX8_takeReach_23 ?_
    refine lv_iconst (v := 2) hx hb dX8_takeReach_26 (by decide) ?_
    refine lv_icmp_ne (tgt := 49) hx hb dX8_takeReach_27 (by decide) (fun c_7 => ?_) (fun c_7 => ?_)
    · simp only [lt_I, le_I, eq_I, i_0, i_1, i_2, i_3, i_4, i_5, i_6, i_7, i_8, i_10, i_12, i_16, i_20, i_23, i_24, i_31, i_32, i_63, i_64, i_m1] at c_7
      refine lv_aload_n hx hb dX8_takeReach_49 rfl (lv_at hl 1 rfl) ?_
      refine va_get (D := DG E) (ci := 2) (v := .int (B p0 1)) (C := RX2) (T := TX2) (N := 8) hx hb hts iw_X2 hown hK.1 (va_one ha_6) 0 rfl rfl 1 (by decide) (hts _ fl_X8_75) (fun _ h9 => h9) rfl dX8_takeReach_50 ?_
      refine lv_iconst (v := 3) hx hb dX8_takeReach_53 (by decide) ?_
      refine lv_icmp_ne (tgt := 78) hx hb dX8_takeReach_54 (by decide) (fun c_8 => ?_) (fun c_8 => ?_)
      · simp only [lt_I, le_I, eq_I, i_0, i_1, i_2, i_3, i_4, i_5, i_6, i_7, i_8, i_10, i_12, i_16, i_20, i_23, i_24, i_31, i_32, i_63, i_64, i_m1] at c_8
        refine lv_aload_n hx hb dX8_takeReach_78 rfl (lv_at hl 1 rfl) ?_
        refine lv_aload_n hx hb dX8_takeReach_79 rfl (lv_at hl 0 rfl) ?_
        have ha_9 := tx_10 hT hG
        refine va_get (D := DG E) (ci := 8) (v := .ref (R h0 1)) (C := RX8) (T := TX8) (N := 9) hx hb hts iw_X8 hown hK.1 (va_one ha_9) 0 rfl rfl 1 (by decide) (hts _ fl_X8_26) (fun _ h9 => h9) rfl dX8_takeReach_80 ?_
        refine lv_aload_n hx hb dX8_takeReach_83 rfl (lv_at hl 1 rfl) ?_
        refine va_get (D := DG E) (ci := 2) (v := .int (B p0 5)) (C := RX2) (T := TX2) (N := 8) hx hb hts iw_X2 hown hK.1 (va_one ha_6) 0 rfl rfl 5 (by decide) (hts _ fl_X8_151) (fun _ h9 => h9) rfl dX8_takeReach_84 ?_
        refine lv_aload_n hx hb dX8_takeReach_87 rfl (lv_at hl 1 rfl) ?_
        have hb_10 := (tw_31 hW_0 hG0).2.1
        refine va_get (D := DG E) (ci := 2) (v := .int (B p0 3)) (C := RX2) (T := TX2) (N := 8) hx hb hts iw_X2 hown hK.1 (va_one ha_6) 0 rfl rfl 3 (by decide) (hts _ fl_X8_128) (fun _ h9 => h9) rfl dX8_takeReach_88 ?_
        refine va_callv (rnV (fun H => TX E G B R H) (As := [.ref (R h0 1), .int (B p0 5), .int (B p0 3)]) (rest := []) ⟨hx, hb, hml, hown, hts⟩ (x_X2_unload l E z0 G hGz B R hW p0 (R h0 1) (B p0 5) (B p0 3) hG0 hg_2) (cwV 3 hts (gdV ml_X8_132 im_X2_unload se_X2_X2_unload in_X2 co_X2_unload rfl) rfl rfl rfl (by decide +kernel) ⟨Nat.le_of_ble_eq_true rfl, Nat.le_of_ble_eq_true rfl⟩) hT (fun U hU hW => hK.go hW hS hAz hU) (va_recv hK.1 (va_one ha_6) (ci := 2) (q0 := 0) rfl rfl) rfl rfl hl.1 rfl (lv_room (Nat.le_of_ble_eq_true rfl)) dX8_takeReach_91 ⟨Nat.le_of_ble_eq_true rfl, Nat.le_of_ble_eq_true rfl⟩) hS (fun q _ h => mL (L' := [14]) (L := [10, 4, 31, 32, 14, 16, 17]) (by decide) h) (fun q h => mL (L' := [14]) (L := [10, 4, 31, 32, 14, 16, 17]) (by decide) h) (fun U_12 t H locs ht hvm hwr_11 hB hz hk hS => ?_)
        have hT : TX E G U_12 R H := by rw [ht] at hB; exact hB
        have hWr_11 : TW G U_12 R := hwr_11.1
        have hW := hWr_11
        have hFr_11 : Fr G [14] B U_12 := hwr_11.2.1
        have hCr_11 : C_X2_unload G B R p0 (R h0 1) (B p0 5) (B p0 3) U_12 := hwr_11.2.2
        refine lv_aload_n hx hb dX8_takeReach_94 rfl (lv_at hl 0 rfl) ?_
        refine lv_iconst (v := 1) hx hb dX8_takeReach_95 (by decide) ?_
        have ha_13 := tx_10 hT hG
        refine va_callv (rnV (fun H => TX E G U_12 R H) (As := [.int 1]) (rest := []) ⟨hx, hb, hml, hown, hts⟩ (x_X8_advance l E z0 G hGz U_12 R hW h0 (1 : Int32) hG) (cwV 1 hts (gdV ml_X8_142 im_X8_advance se_X8_X8_advance in_X8 co_X8_advance rfl) rfl rfl rfl (by decide +kernel) ⟨Nat.le_of_ble_eq_true rfl, Nat.le_of_ble_eq_true rfl⟩) hT (fun U hU hW => hK.go hW hS hAz hU) (va_recv hK.1 (va_one ha_13) (ci := 8) (q0 := 0) rfl rfl) rfl rfl hl.1 rfl (lv_room (Nat.le_of_ble_eq_true rfl)) dX8_takeReach_96 ⟨Nat.le_of_ble_eq_true rfl, Nat.le_of_ble_eq_true rfl⟩) hS (fun q _ h => mL (L' := [10]) (L := [10, 4, 31, 32, 14, 16, 17]) (by decide) h) (fun q h => mL (L' := [10]) (L := [10, 4, 31, 32, 14, 16, 17]) (by decide) h) (fun U_15 t H locs ht hvm hwr_14 hB hz hk hS => ?_)
        have hT : TX E G U_15 R H := by rw [ht] at hB; exact hB
        have hWr_14 : TW G U_15 R := hwr_14.1
        have hW := hWr_14
        have hFr_14 : Fr G [10] U_12 U_15 := hwr_14.2.1
        have hCr_14 : C_X8_advance G U_12 R h0 (1 : Int32) U_15 := hwr_14.2.2
        refine lv_aload_n hx hb dX8_takeReach_99 rfl (lv_at hl 0 rfl) ?_
        refine lv_aload_n hx hb dX8_takeReach_100 rfl (lv_at hl 1 rfl) ?_
        have ha_16 := tx_31 hT hG0
        have l_17 : U_15 p0 2 = (B p0 2) := ((congrFun (hFr_14 p0 (by rw [hG0]; decide)) 2)).trans ((congrFun (hFr_11 p0 (by rw [hG0]; decide)) 2))
        refine va_get (D := DG E) (ci := 2) (v := .int (U_15 p0 2)) (C := RX2) (T := TX2) (N := 8) hx hb hts iw_X2 hown hK.1 (va_one ha_16) 0 rfl rfl 2 (by decide) (hts _ fl_X8_59) (fun _ h9 => h9) rfl dX8_takeReach_101 ?_
        refine W.eq (g2 := F0 m 104 ls [.int (B p0 2), .ref h0]) (by rw [l_17]) ?_
        have ha_18 := tx_10 hT hG
        refine va_callv (rnV (fun H => TX E G U_15 R H) (As := [.int (B p0 2)]) (rest := []) ⟨hx, hb, hml, hown, hts⟩ (x_X8_acknowledge l E z0 G hGz U_15 R hW h0 (B p0 2) hG) (cwV 1 hts (gdV ml_X8_105 im_X8_acknowledge se_X8_X8_acknowledge in_X8 co_X8_acknowledge rfl) rfl rfl rfl (by decide +kernel) ⟨Nat.le_of_ble_eq_true rfl, Nat.le_of_ble_eq_true rfl⟩) hT (fun U hU hW => hK.go hW hS hAz hU) (va_recv hK.1 (va_one ha_18) (ci := 8) (q0 := 0) rfl rfl) rfl rfl hl.1 rfl (lv_room (Nat.le_of_ble_eq_true rfl)) dX8_takeReach_104 ⟨Nat.le_of_ble_eq_true rfl, Nat.le_of_ble_eq_true rfl⟩) hS (fun q _ h => mL (L' := [4, 31]) (L := [10, 4, 31, 32, 14, 16, 17]) (by decide) h) (fun q h => mL (L' := [4, 31]) (L := [10, 4, 31, 32, 14, 16, 17]) (by decide) h) (fun U_20 t H locs ht hvm hwr_19 hB hz hk hS => ?_)
        have hT : TX E G U_20 R H := by rw [ht] at hB; exact hB
        have hWr_19 : TW G U_20 R := hwr_19.1
        have hW := hWr_19
        have hFr_19 : Fr G [4, 31] U_15 U_20 := hwr_19.2.1
        have hCr_19 : C_X8_acknowledge G U_15 R h0 (B p0 2) U_20 := hwr_19.2.2
        refine lv_iconst (v := 0) hx hb dX8_takeReach_107 (by decide) ?_
        exact W.iret (v := 0) hx hb hr (fun t ht hW9 => ⟨⟨0, U_20, rfl, ⟨hW, (Fr.c (Fr.c (Fr.c Fr.rf hFr_11 (by decide)) hFr_14 (by decide)) hFr_19 (by decide)), (Or.inl ⟨r_4, hCr_4, c_5, c_7, c_8, U_12, hFr_11, hCr_11, U_15, hFr_14, hCr_14, U_20, hFr_19, hCr_19, rfl, rfl⟩)⟩, (by show TX E G U_20 R t.heap; rw [ht]; exact hT)⟩, hS.F ht⟩) hS.2.2 dX8_takeReach_108
      · simp only [lt_I, le_I, eq_I, i_0, i_1, i_2, i_3, i_4, i_5, i_6, i_7, i_8, i_10, i_12, i_16, i_20, i_23, i_24, i_31, i_32, i_63, i_64, i_m1] at c_8
        refine lv_aload_n hx hb dX8_takeReach_57 rfl (lv_at hl 0 rfl) ?_
        refine lv_aload_n hx hb dX8_takeReach_58 rfl (lv_at hl 1 rfl) ?_
        refine va_get (D := DG E) (ci := 2) (v := .int (B p0 2)) (C := RX2) (T := TX2) (N := 8) hx hb hts iw_X2 hown hK.1 (va_one ha_6) 0 rfl rfl 2 (by decide) (hts _ fl_X8_59) (fun _ h9 => h9) rfl dX8_takeReach_59 ?_
        refine lv_aload_n hx hb dX8_takeReach_62 rfl (lv_at hl 0 rfl) ?_
        refine lv_aload_n hx hb dX8_takeReach_63 rfl (lv_at hl 1 rfl) ?_
        have ha_21 := tx_10 hT hG
        refine va_calli (rnV (fun H => TX E G B R H) (As := [.ref p0]) (rest := [.int (B p0 2), .ref h0]) ⟨hx, hb, hml, hown, hts⟩ (x_X8_growCell l E z0 G hGz B R hW h0 p0 hG hG0) (cwV 1 hts (gdV ml_X8_148 im_X8_growCell se_X8_X8_growCell in_X8 co_X8_growCell rfl) rfl rfl rfl (by decide +kernel) ⟨Nat.le_of_ble_eq_true rfl, Nat.le_of_ble_eq_true rfl⟩) hT (fun U hU hW => hK.go hW hS hAz hU) (va_recv hK.1 (va_one ha_21) (ci := 8) (q0 := 0) rfl rfl) rfl rfl hl.1 rfl (lv_room (Nat.le_of_ble_eq_true rfl)) dX8_takeReach_64 ⟨Nat.le_of_ble_eq_true rfl, Nat.le_of_ble_eq_true rfl⟩) hS (fun q _ h => mL (L' := [14, 16, 17]) (L := [10, 4, 31, 32, 14, 16, 17]) (by decide) h) (fun q h => mL (L' := [14, 16, 17]) (L := [10, 4, 31, 32, 14, 16, 17]) (by decide) h) (fun r_22 U_23 t H locs ht hvm hwr_22 hB hz hk hS => ?_)
        have hT : TX E G U_23 R H := by rw [ht] at hB; exact hB
        have hWr_22 : TW G U_23 R := hwr_22.1
        have hW := hWr_22
        have hFr_22 : Fr G [14, 16, 17] B U_23 := hwr_22.2.1
        have hCr_22 : C_X8_growCell G B R h0 p0 U_23 r_22 := hwr_22.2.2
        have ha_24 := tx_10 hT hG
        refine va_callv (rnV (fun H => TX E G U_23 R H) (As := [.int (B p0 2), .int r_22]) (rest := []) ⟨hx, hb, hml, hown, hts⟩ (x_X8_replyOne l E z0 G hGz U_23 R hW h0 (B p0 2) r_22 hG) (cwV 2 hts (gdV ml_X8_99 im_X8_replyOne se_X8_X8_replyOne in_X8 co_X8_replyOne rfl) rfl rfl rfl (by decide +kernel) ⟨Nat.le_of_ble_eq_true rfl, Nat.le_of_ble_eq_true rfl⟩) hT (fun U hU hW => hK.go hW hS hAz hU) (va_recv hK.1 (va_one ha_24) (ci := 8) (q0 := 0) rfl rfl) rfl rfl hl.1 rfl (lv_room (Nat.le_of_ble_eq_true rfl)) dX8_takeReach_67 ⟨Nat.le_of_ble_eq_true rfl, Nat.le_of_ble_eq_true rfl⟩) hS (fun q _ h => mL (L' := [4, 31, 32]) (L := [10, 4, 31, 32, 14, 16, 17]) (by decide) h) (fun q h => mL (L' := [4, 31, 32]) (L := [10, 4, 31, 32, 14, 16, 17]) (by decide) h) (fun U_26 t H locs ht hvm hwr_25 hB hz hk hS => ?_)
        have hT : TX E G U_26 R H := by rw [ht] at hB; exact hB
        have hWr_25 : TW G U_26 R := hwr_25.1
        have hW := hWr_25
        have hFr_25 : Fr G [4, 31, 32] U_23 U_26 := hwr_25.2.1
        have hCr_25 : C_X8_replyOne G U_23 R h0 (B p0 2) r_22 U_26 := hwr_25.2.2
        refine lv_aload_n hx hb dX8_takeReach_70 rfl (lv_at hl 0 rfl) ?_
        refine lv_iconst (v := 1) hx hb dX8_takeReach_71 (by decide) ?_
        have ha_27 := tx_10 hT hG
        refine va_callv (rnV (fun H => TX E G U_26 R H) (As := [.int 1]) (rest := []) ⟨hx, hb, hml, hown, hts⟩ (x_X8_advance l E z0 G hGz U_26 R hW h0 (1 : Int32) hG) (cwV 1 hts (gdV ml_X8_142 im_X8_advance se_X8_X8_advance in_X8 co_X8_advance rfl) rfl rfl rfl (by decide +kernel) ⟨Nat.le_of_ble_eq_true rfl, Nat.le_of_ble_eq_true rfl⟩) hT (fun U hU hW => hK.go hW hS hAz hU) (va_recv hK.1 (va_one ha_27) (ci := 8) (q0 := 0) rfl rfl) rfl rfl hl.1 rfl (lv_room (Nat.le_of_ble_eq_true rfl)) dX8_takeReach_72 ⟨Nat.le_of_ble_eq_true rfl, Nat.le_of_ble_eq_true rfl⟩) hS (fun q _ h => mL (L' := [10]) (L := [10, 4, 31, 32, 14, 16, 17]) (by decide) h) (fun q h => mL (L' := [10]) (L := [10, 4, 31, 32, 14, 16, 17]) (by decide) h) (fun U_29 t H locs ht hvm hwr_28 hB hz hk hS => ?_)
        have hT : TX E G U_29 R H := by rw [ht] at hB; exact hB
        have hWr_28 : TW G U_29 R := hwr_28.1
        have hW := hWr_28
        have hFr_28 : Fr G [10] U_26 U_29 := hwr_28.2.1
        have hCr_28 : C_X8_advance G U_26 R h0 (1 : Int32) U_29 := hwr_28.2.2
        refine lv_goto (tgt := 107) hx hb dX8_takeReach_75 (by decide) ?_
        refine lv_iconst (v := 0) hx hb dX8_takeReach_107 (by decide) ?_
        exact W.iret (v := 0) hx hb hr (fun t ht hW9 => ⟨⟨0, U_29, rfl, ⟨hW, (Fr.c (Fr.c (Fr.c Fr.rf hFr_22 (by decide)) hFr_25 (by decide)) hFr_28 (by decide)), (Or.inr (Or.inl ⟨r_4, hCr_4, c_5, c_7, c_8, r_22, U_23, hFr_22, hCr_22, U_26, hFr_25, hCr_25, U_29, hFr_28, hCr_28, rfl, rfl⟩))⟩, (by show TX E G U_29 R t.heap; rw [ht]; exact hT)⟩, hS.F ht⟩) hS.2.2 dX8_takeReach_108
    · simp only [lt_I, le_I, eq_I, i_0, i_1, i_2, i_3, i_4, i_5, i_6, i_7, i_8, i_10, i_12, i_16, i_20, i_23, i_24, i_31, i_32, i_63, i_64, i_m1] at c_7
      refine lv_aload_n hx hb dX8_takeReach_30 rfl (lv_at hl 0 rfl) ?_
      refine lv_aload_n hx hb dX8_takeReach_31 rfl (lv_at hl 1 rfl) ?_
      have ha_30 := tx_10 hT hG
      refine va_callv (rnV (fun H => TX E G B R H) (As := [.ref p0]) (rest := []) ⟨hx, hb, hml, hown, hts⟩ (x_X8_replyCells l E z0 G hGz B R hW h0 p0 hG hG0) (cwV 1 hts (gdV ml_X8_93 im_X8_replyCells se_X8_X8_replyCells in_X8 co_X8_replyCells rfl) rfl rfl rfl (by decide +kernel) ⟨Nat.le_of_ble_eq_true rfl, Nat.le_of_ble_eq_true rfl⟩) hT (fun U hU hW => hK.go hW hS hAz hU) (va_recv hK.1 (va_one ha_30) (ci := 8) (q0 := 0) rfl rfl) rfl rfl hl.1 rfl (lv_room (Nat.le_of_ble_eq_true rfl)) dX8_takeReach_32 ⟨Nat.le_of_ble_eq_true rfl, Nat.le_of_ble_eq_true rfl⟩) hS (fun q _ h => mL (L' := [4, 31, 32]) (L := [10, 4, 31, 32, 14, 16, 17]) (by decide) h) (fun q h => mL (L' := [4, 31, 32]) (L := [10, 4, 31, 32, 14, 16, 17]) (by decide) h) (fun U_32 t H locs ht hvm hwr_31 hB hz hk hS => ?_)
      have hT : TX E G U_32 R H := by rw [ht] at hB; exact hB
      have hWr_31 : TW G U_32 R := hwr_31.1
      have hW := hWr_31
      have hFr_31 : Fr G [4, 31, 32] B U_32 := hwr_31.2.1
      have hCr_31 : C_X8_replyCells G B R h0 p0 U_32 := hwr_31.2.2
      refine lv_aload_n hx hb dX8_takeReach_35 rfl (lv_at hl 0 rfl) ?_
      refine lv_aload_n hx hb dX8_takeReach_36 rfl (lv_at hl 1 rfl) ?_
      have ha_33 := tx_31 hT hG0
      have hb_34 := (tw_31 hWr_31 hG0).2.1
      refine va_get (D := DG E) (ci := 2) (v := .int (U_32 p0 3)) (C := RX2) (T := TX2) (N := 8) hx hb hts iw_X2 hown hK.1 (va_one ha_33) 0 rfl rfl 3 (by decide) (hts _ fl_X8_128) (fun _ h9 => h9) rfl dX8_takeReach_37 ?_
      refine rnSN (As := [.int (U_32 p0 3)]) (rest := [.ref h0]) ⟨hx, hb, hml, hown, hts⟩ (c_X9_numbersFor l ((U_32 p0 3))) ⟨va_cnB (host := RX9) 1 hts (gd1 co_X9_numbersFor rfl) rfl rfl rfl (hK.2.1 _ mn_X8_145 #[]) (hts _ in_X9) (by decide +kernel) ⟨Nat.le_of_ble_eq_true rfl, Nat.le_of_ble_eq_true rfl⟩, hts _ st_X9_numbersFor, trivial⟩ rfl rfl hl.1 rfl (lv_room (Nat.le_of_ble_eq_true rfl)) dX8_takeReach_40 ⟨Nat.le_of_ble_eq_true rfl, Nat.le_of_ble_eq_true rfl⟩ ?_
      refine W.eq (g2 := F0 m 43 ls [.int ((((U_32 p0 3) + 4) - 1) / 4), .ref h0]) (by rfl) ?_
      refine lv_topi (fun x_35 ex_35 => ?_)
      have ha_36 := tx_10 hT hG
      refine va_callv (rnV (fun H => TX E G U_32 R H) (As := [.int x_35]) (rest := []) ⟨hx, hb, hml, hown, hts⟩ (x_X8_advance l E z0 G hGz U_32 R hW h0 x_35 hG) (cwV 1 hts (gdV ml_X8_142 im_X8_advance se_X8_X8_advance in_X8 co_X8_advance rfl) rfl rfl rfl (by decide +kernel) ⟨Nat.le_of_ble_eq_true rfl, Nat.le_of_ble_eq_true rfl⟩) hT (fun U hU hW => hK.go hW hS hAz hU) (va_recv hK.1 (va_one ha_36) (ci := 8) (q0 := 0) rfl rfl) rfl rfl hl.1 rfl (lv_room (Nat.le_of_ble_eq_true rfl)) dX8_takeReach_43 ⟨Nat.le_of_ble_eq_true rfl, Nat.le_of_ble_eq_true rfl⟩) hS (fun q _ h => mL (L' := [10]) (L := [10, 4, 31, 32, 14, 16, 17]) (by decide) h) (fun q h => mL (L' := [10]) (L := [10, 4, 31, 32, 14, 16, 17]) (by decide) h) (fun U_38 t H locs ht hvm hwr_37 hB hz hk hS => ?_)
      have hT : TX E G U_38 R H := by rw [ht] at hB; exact hB
      have hWr_37 : TW G U_38 R := hwr_37.1
      have hW := hWr_37
      have hFr_37 : Fr G [10] U_32 U_38 := hwr_37.2.1
      have hCr_37 : C_X8_advance G U_32 R h0 x_35 U_38 := hwr_37.2.2
      refine lv_goto (tgt := 107) hx hb dX8_takeReach_46 (by decide) ?_
      refine lv_iconst (v := 0) hx hb dX8_takeReach_107 (by decide) ?_
      exact W.iret (v := 0) hx hb hr (fun t ht hW9 => ⟨⟨0, U_38, rfl, ⟨hW, (Fr.c (Fr.c Fr.rf hFr_31 (by decide)) hFr_37 (by decide)), (Or.inr (Or.inr (Or.inl ⟨r_4, hCr_4, c_5, c_7, U_32, hFr_31, hCr_31, x_35, ex_35, U_38, hFr_37, hCr_37, rfl, rfl⟩)))⟩, (by show TX E G U_38 R t.heap; rw [ht]; exact hT)⟩, hS.F ht⟩) hS.2.2 dX8_takeReach_108
  · simp only [lt_I, le_I, eq_I, i_0, i_1, i_2, i_3, i_4, i_5, i_6, i_7, i_8, i_10, i_12, i_16, i_20, i_23, i_24, i_31, i_32, i_63, i_64, i_m1] at c_5
    refine lv_aload_n hx hb dX8_takeReach_11 rfl (lv_at hl 0 rfl) ?_
    refine lv_aload_n hx hb dX8_takeReach_12 rfl (lv_at hl 1 rfl) ?_
    have ha_39 := tx_31 hT hG0
    refine va_get (D := DG E) (ci := 2) (v := .int (B p0 2)) (C := RX2) (T := TX2) (N := 8) hx hb hts iw_X2 hown hK.1 (va_one ha_39) 0 rfl rfl 2 (by decide) (hts _ fl_X8_59) (fun _ h9 => h9) rfl dX8_takeReach_13 ?_
    refine lv_iconst (v := 3) hx hb dX8_takeReach_16 (by decide) ?_
    have ha_40 := tx_10 hT hG
    refine va_callv (rnV (fun H => TX E G B R H) (As := [.int (B p0 2), .int 3]) (rest := []) ⟨hx, hb, hml, hown, hts⟩ (x_X8_refuse l E z0 G hGz B R hW h0 (B p0 2) (3 : Int32) hG) (cwV 2 hts (gdV ml_X8_85 im_X8_refuse se_X8_X8_refuse in_X8 co_X8_refuse rfl) rfl rfl rfl (by decide +kernel) ⟨Nat.le_of_ble_eq_true rfl, Nat.le_of_ble_eq_true rfl⟩) hT (fun U hU hW => hK.go hW hS hAz hU) (va_recv hK.1 (va_one ha_40) (ci := 8) (q0 := 0) rfl rfl) rfl rfl hl.1 rfl (lv_room (Nat.le_of_ble_eq_true rfl)) dX8_takeReach_17 ⟨Nat.le_of_ble_eq_true rfl, Nat.le_of_ble_eq_true rfl⟩) hS (fun q _ h => mL (L' := [4, 31]) (L := [10, 4, 31, 32, 14, 16, 17]) (by decide) h) (fun q h => mL (L' := [4, 31]) (L := [10, 4, 31, 32, 14, 16, 17]) (by decide) h) (fun U_42 t H locs ht hvm hwr_41 hB hz hk hS => ?_)
    have hT : TX E G U_42 R H := by rw [ht] at hB; exact hB
    have hWr_41 : TW G U_42 R := hwr_41.1
    have hW := hWr_41
    have hFr_41 : Fr G [4, 31] B U_42 := hwr_41.2.1
    have hCr_41 : C_X8_refuse G B R h0 (B p0 2) (3 : Int32) U_42 := hwr_41.2.2
    refine lv_iconst (v := 5) hx hb dX8_takeReach_20 (by decide) ?_
    exact W.iret (v := 5) hx hb hr (fun t ht hW9 => ⟨⟨5, U_42, rfl, ⟨hW, (Fr.c Fr.rf hFr_41 (by decide)), (Or.inr (Or.inr (Or.inr ⟨r_4, hCr_4, c_5, U_42, hFr_41, hCr_41, rfl, rfl⟩)))⟩, (by show TX E G U_42 R t.heap; rw [ht]; exact hT)⟩, hS.F ht⟩) hS.2.2 dX8_takeReach_21
theorem dX8_takeIn_0 : decode cX8_takeIn 0 = .ok (.aload_n 0, 1) := by decide +kernel
theorem dX8_takeIn_1 : decode cX8_takeIn 1 = .ok (.getfield 49, 3) := by decide +kernel
theorem dX8_takeIn_4 : decode cX8_takeIn 4 = .ok (.aload_n 1, 1) := by decide +kernel
theorem dX8_takeIn_5 : decode cX8_takeIn 5 = .ok (.getfield 59, 3) := by decide +kernel
theorem dX8_takeIn_8 : decode cX8_takeIn 8 = .ok (.invokestatic 64, 3) := by decide +kernel
theorem dX8_takeIn_11 : decode cX8_takeIn 11 = .ok (.istore_n 2, 1) := by decide +kernel
theorem dX8_takeIn_12 : decode cX8_takeIn 12 = .ok (.iload_n 2, 1) := by decide +kernel
theorem dX8_takeIn_13 : decode cX8_takeIn 13 = .ok (.bipush 32, 2) := by decide +kernel
theorem dX8_takeIn_15 : decode cX8_takeIn 15 = .ok (.if_icmp .lt 10, 3) := by decide +kernel
theorem dX8_takeIn_18 : decode cX8_takeIn 18 = .ok (.aload_n 0, 1) := by decide +kernel
theorem dX8_takeIn_19 : decode cX8_takeIn 19 = .ok (.aload_n 1, 1) := by decide +kernel
theorem dX8_takeIn_20 : decode cX8_takeIn 20 = .ok (.invokevirtual 68, 3) := by decide +kernel
theorem dX8_takeIn_23 : decode cX8_takeIn 23 = .ok (.iconst 0, 1) := by decide +kernel
theorem dX8_takeIn_24 : decode cX8_takeIn 24 = .ok (.ireturn, 1) := by decide +kernel
theorem dX8_takeIn_25 : decode cX8_takeIn 25 = .ok (.iload_n 2, 1) := by decide +kernel
theorem dX8_takeIn_26 : decode cX8_takeIn 26 = .ok (.ifCond .le 9, 3) := by decide +kernel
theorem dX8_takeIn_29 : decode cX8_takeIn 29 = .ok (.aload_n 0, 1) := by decide +kernel
theorem dX8_takeIn_30 : decode cX8_takeIn 30 = .ok (.invokevirtual 72, 3) := by decide +kernel
theorem dX8_takeIn_33 : decode cX8_takeIn 33 = .ok (.iconst 0, 1) := by decide +kernel
theorem dX8_takeIn_34 : decode cX8_takeIn 34 = .ok (.ireturn, 1) := by decide +kernel
theorem dX8_takeIn_35 : decode cX8_takeIn 35 = .ok (.aload_n 1, 1) := by decide +kernel
theorem dX8_takeIn_36 : decode cX8_takeIn 36 = .ok (.getfield 75, 3) := by decide +kernel
theorem dX8_takeIn_39 : decode cX8_takeIn 39 = .ok (.ifCond .ne 11, 3) := by decide +kernel
theorem dX8_takeIn_42 : decode cX8_takeIn 42 = .ok (.aload_n 0, 1) := by decide +kernel
theorem dX8_takeIn_43 : decode cX8_takeIn 43 = .ok (.aload_n 1, 1) := by decide +kernel
theorem dX8_takeIn_44 : decode cX8_takeIn 44 = .ok (.invokevirtual 78, 3) := by decide +kernel
theorem dX8_takeIn_47 : decode cX8_takeIn 47 = .ok (.goto 8, 3) := by decide +kernel
theorem dX8_takeIn_50 : decode cX8_takeIn 50 = .ok (.aload_n 0, 1) := by decide +kernel
theorem dX8_takeIn_51 : decode cX8_takeIn 51 = .ok (.aload_n 1, 1) := by decide +kernel
theorem dX8_takeIn_52 : decode cX8_takeIn 52 = .ok (.invokevirtual 82, 3) := by decide +kernel
theorem dX8_takeIn_55 : decode cX8_takeIn 55 = .ok (.ireturn, 1) := by decide +kernel
set_option maxHeartbeats 8000000 in
set_option maxRecDepth 100000 in
theorem x_X8_takeIn (l : Launch) (E : EE) (z0 : Nat) (G : Nat → Nat) (hGz : ∀ q, G q ≠ 0 → z0 ≤ q) (B : AA) (R : RR) (hW : TW G B R) (h0 : Nat) (p0 : Nat) (hG : G h0 = 10) (hG0 : G p0 = 31) : Met l yX8_takeIn [Cond.code yX8_takeIn cX8_takeIn 3 (some .int)] ({ frames := 5, cells := 0, slots := 0, locals := 110 } : Room) (va_Pc [.ref h0, .ref p0] (fun U => TX E G B R U.heap ∧ KS E z0 U)) (va_Qi (fun (r : Int32) (u : AA) => (TW G u R) ∧ (Fr G ([10, 4, 31, 32, 14, 13, 5, 15, 11, 16, 17] : List Nat) B u) ∧ (C_X8_takeIn G B R h0 p0 u r)) (fun u t => TX E G u R t.heap) (fun q : Nat => G q ∈ ([10, 4, 31, 32, 14, 13, 5, 15, 11, 16, 17] : List Nat))) 0 0 (fun q : Nat => G q ∈ ([10, 4, 31, 32, 14, 13, 5, 15, 11, 16, 17] : List Nat)) := by
  refine Met.ofW (cc := cX8_takeIn) (maxL := 3) (ret := (some .int)) (by decide) rfl ?_
  intro p e s m args below meth c s₁ B9 hml hv
  obtain ⟨rfl, hT, hK⟩ := hv
  have hx := B9.exec
  have hb := B9.bytes
  have hr := B9.returns
  have hts : ∀ w ∈ TS, w.before ([.ref h0, .ref p0] : List Value).toArray s = true := fun w hw => hK.2.1 w hw _
  have hown : s.vm.findClass RX8 = some m.cls := findClass_of_methodNamed B9.named
  have hlocks := B9.notSynchronized
  have hS : va_S (fun q : Nat => G q ∈ ([10, 4, 31, 32, 14, 13, 5, 15, 11, 16, 17] : List Nat)) s.heap s.heap [] := va_S.rf
  have hAz : ∀ q, (fun q : Nat => G q ∈ ([10, 4, 31, 32, 14, 13, 5, 15, 11, 16, 17] : List Nat)) q → z0 ≤ q := zL hGz (by decide)
  have hW_0 := hW
  have hl := lv_entry ([.ref h0, .ref p0]) (n := 3) (Nat.le_of_ble_eq_true rfl)
  rw [lg_entry_eq]
  generalize (lg_sl ([.ref h0, .ref p0]) ++ List.replicate (3 - (lg_sl ([.ref h0, .ref p0])).length) Slot.unset).toArray = ls at hl ⊢
  have hl : lv_has ls 3 [(0, .ref h0), (1, .ref p0)] := hl
  refine lv_aload_n hx hb dX8_takeIn_0 rfl (lv_at hl 0 rfl) ?_
  have ha_1 := tx_10 hT hG
  refine va_get (D := DG E) (ci := 8) (v := .int (B h0 4)) (C := RX8) (T := TX8) (N := 9) hx hb hts iw_X8 hown hK.1 (va_one ha_1) 0 rfl rfl 4 (by decide) (hts _ fl_X8_49) (fun _ h9 => h9) rfl dX8_takeIn_1 ?_
  refine lv_aload_n hx hb dX8_takeIn_4 rfl (lv_at hl 1 rfl) ?_
  have ha_2 := tx_31 hT hG0
  refine va_get (D := DG E) (ci := 2) (v := .int (B p0 2)) (C := RX2) (T := TX2) (N := 8) hx hb hts iw_X2 hown hK.1 (va_one ha_2) 0 rfl rfl 2 (by decide) (hts _ fl_X8_59) (fun _ h9 => h9) rfl dX8_takeIn_5 ?_
  refine rnSN (As := [.int (B h0 4), .int (B p0 2)]) (rest := []) ⟨hx, hb, hml, hown, hts⟩ (c_X9_distance l ((B h0 4)) ((B p0 2))) ⟨va_cnB (host := RX9) 2 hts (gd1 co_X9_distance rfl) rfl rfl rfl (hK.2.1 _ mn_X8_64 #[]) (hts _ in_X9) (by decide +kernel) ⟨Nat.le_of_ble_eq_true rfl, Nat.le_of_ble_eq_true rfl⟩, hts _ st_X9_distance, trivial⟩ rfl rfl hl.1 rfl (lv_room (Nat.le_of_ble_eq_true rfl)) dX8_takeIn_8 ⟨Nat.le_of_ble_eq_true rfl, Nat.le_of_ble_eq_true rfl⟩ ?_
  refine W.eq (g2 := F0 m 11 ls [.int (((B p0 2) - (B h0 4)) &&& 63)]) (by rfl) ?_
  refine lv_topi (fun x_3 ex_3 => ?_)
  have fx_3 := s_and63 ((B p0 2) - (B h0 4)); rw [← ex_3] at fx_3
  refine lv_istore_n (lv' := [(2, .int x_3), (0, .ref h0), (1, .ref p0)]) hx hb dX8_takeIn_11 rfl hl (by decide) rfl (fun ls hl => ?_)
  refine lv_iload_n hx hb dX8_takeIn_12 rfl (lv_at hl 0 rfl) ?_
  refine lv_bipush (v := 32) hx hb dX8_takeIn_13 (by decide) ?_
  refine lv_icmp_lt (tgt := 25) hx hb dX8_takeIn_15 (by decide) (fun c_4 => ?_) (fun c_4 => ?_)
  · simp only [lt_I, le_I, eq_I, i_0, i_1, i_2, i_3, i_4, i_5, i_6, i_7, i_8, i_10, i_12, i_16, i_20, i_23, i_24, i_31, i_32, i_63, i_64, i_m1] at c_4
    refine lv_iload_n hx hb dX8_takeIn_25 rfl (lv_at hl 0 rfl) ?_
    refine lv_if_le (tgt := 35) hx hb dX8_takeIn_26 (by decide) (fun c_5 => ?_) (fun c_5 => ?_)
    · simp only [lt_I, le_I, eq_I, i_0, i_1, i_2, i_3, i_4, i_5, i_6, i_7, i_8, i_10, i_12, i_16, i_20, i_23, i_24, i_31, i_32, i_63, i_64, i_m1] at c_5
      refine lv_aload_n hx hb dX8_takeIn_35 rfl (lv_at hl 2 rfl) ?_
      refine va_get (D := DG E) (ci := 2) (v := .int (B p0 1)) (C := RX2) (T := TX2) (N := 8) hx hb hts iw_X2 hown hK.1 (va_one ha_2) 0 rfl rfl 1 (by decide) (hts _ fl_X8_75) (fun _ h9 => h9) rfl dX8_takeIn_36 ?_
      refine lv_if_ne (tgt := 50) hx hb dX8_takeIn_39 (by decide) (fun c_6 => ?_) (fun c_6 => ?_)
      · simp only [lt_I, le_I, eq_I, i_0, i_1, i_2, i_3, i_4, i_5, i_6, i_7, i_8, i_10, i_12, i_16, i_20, i_23, i_24, i_31, i_32, i_63, i_64, i_m1] at c_6
        refine lv_aload_n hx hb dX8_takeIn_50 rfl (lv_at hl 1 rfl) ?_
        refine lv_aload_n hx hb dX8_takeIn_51 rfl (lv_at hl 2 rfl) ?_
        refine va_calli (rnV (fun H => TX E G B R H) (As := [.ref p0]) (rest := []) ⟨hx, hb, hml, hown, hts⟩ (x_X8_takeReach l E z0 G hGz B R hW h0 p0 hG hG0) (cwV 1 hts (gdV ml_X8_82 im_X8_takeReach se_X8_X8_takeReach in_X8 co_X8_takeReach rfl) rfl rfl rfl (by decide +kernel) ⟨Nat.le_of_ble_eq_true rfl, Nat.le_of_ble_eq_true rfl⟩) hT (fun U hU hW => hK.go hW hS hAz hU) (va_recv hK.1 (va_one ha_1) (ci := 8) (q0 := 0) rfl rfl) rfl rfl hl.1 rfl (lv_room (Nat.le_of_ble_eq_true rfl)) dX8_takeIn_52 ⟨Nat.le_of_ble_eq_true rfl, Nat.le_of_ble_eq_true rfl⟩) hS (fun q _ h => mL (L' := [10, 4, 31, 32, 14, 16, 17]) (L := [10, 4, 31, 32, 14, 13, 5, 15, 11, 16, 17]) (by decide) h) (fun q h => mL (L' := [10, 4, 31, 32, 14, 16, 17]) (L := [10, 4, 31, 32, 14, 13, 5, 15, 11, 16, 17]) (by decide) h) (fun r_7 U_8 t H locs ht hvm hwr_7 hB hz hk hS => ?_)
        have hT : TX E G U_8 R H := by rw [ht] at hB; exact hB
        have hWr_7 : TW G U_8 R := hwr_7.1
        have hW := hWr_7
        have hFr_7 : Fr G [10, 4, 31, 32, 14, 16, 17] B U_8 := hwr_7.2.1
        have hCr_7 : C_X8_takeReach G B R h0 p0 U_8 r_7 := hwr_7.2.2
        exact W.iret (v := r_7) hx hb hr (fun t ht hW9 => ⟨⟨r_7, U_8, rfl, ⟨hW, (Fr.c Fr.rf hFr_7 (by decide)), (Or.inl ⟨x_3, ex_3, c_4, c_5, c_6, r_7, U_8, hFr_7, hCr_7, rfl, rfl⟩)⟩, (by show TX E G U_8 R t.heap; rw [ht]; exact hT)⟩, hS.F ht⟩) hS.2.2 dX8_takeIn_55
      · simp only [lt_I, le_I, eq_I, i_0, i_1, i_2, i_3, i_4, i_5, i_6, i_7, i_8, i_10, i_12, i_16, i_20, i_23, i_24, i_31, i_32, i_63, i_64, i_m1] at c_6
        refine lv_aload_n hx hb dX8_takeIn_42 rfl (lv_at hl 1 rfl) ?_
        refine lv_aload_n hx hb dX8_takeIn_43 rfl (lv_at hl 2 rfl) ?_
        refine va_calli (rnV (fun H => TX E G B R H) (As := [.ref p0]) (rest := []) ⟨hx, hb, hml, hown, hts⟩ (x_X8_takeSend l E z0 G hGz B R hW h0 p0 hG hG0) (cwV 1 hts (gdV ml_X8_78 im_X8_takeSend se_X8_X8_takeSend in_X8 co_X8_takeSend rfl) rfl rfl rfl (by decide +kernel) ⟨Nat.le_of_ble_eq_true rfl, Nat.le_of_ble_eq_true rfl⟩) hT (fun U hU hW => hK.go hW hS hAz hU) (va_recv hK.1 (va_one ha_1) (ci := 8) (q0 := 0) rfl rfl) rfl rfl hl.1 rfl (lv_room (Nat.le_of_ble_eq_true rfl)) dX8_takeIn_44 ⟨Nat.le_of_ble_eq_true rfl, Nat.le_of_ble_eq_true rfl⟩) hS (fun q _ h => mL (L' := [10, 4, 31, 14, 13, 5, 15, 11]) (L := [10, 4, 31, 32, 14, 13, 5, 15, 11, 16, 17]) (by decide) h) (fun q h => mL (L' := [10, 4, 31, 14, 13, 5, 15, 11]) (L := [10, 4, 31, 32, 14, 13, 5, 15, 11, 16, 17]) (by decide) h) (fun r_9 U_10 t H locs ht hvm hwr_9 hB hz hk hS => ?_)
        have hT : TX E G U_10 R H := by rw [ht] at hB; exact hB
        have hWr_9 : TW G U_10 R := hwr_9.1
        have hW := hWr_9
        have hFr_9 : Fr G [10, 4, 31, 14, 13, 5, 15, 11] B U_10 := hwr_9.2.1
        have hCr_9 : C_X8_takeSend G B R h0 p0 U_10 r_9 := hwr_9.2.2
        refine lv_goto (tgt := 55) hx hb dX8_takeIn_47 (by decide) ?_
        exact W.iret (v := r_9) hx hb hr (fun t ht hW9 => ⟨⟨r_9, U_10, rfl, ⟨hW, (Fr.c Fr.rf hFr_9 (by decide)), (Or.inr (Or.inl ⟨x_3, ex_3, c_4, c_5, c_6, r_9, U_10, hFr_9, hCr_9, rfl, rfl⟩))⟩, (by show TX E G U_10 R t.heap; rw [ht]; exact hT)⟩, hS.F ht⟩) hS.2.2 dX8_takeIn_55
    · simp only [lt_I, le_I, eq_I, i_0, i_1, i_2, i_3, i_4, i_5, i_6, i_7, i_8, i_10, i_12, i_16, i_20, i_23, i_24, i_31, i_32, i_63, i_64, i_m1] at c_5
      refine lv_aload_n hx hb dX8_takeIn_29 rfl (lv_at hl 1 rfl) ?_
      refine va_callv (rnV (fun H => TX E G B R H) (As := []) (rest := []) ⟨hx, hb, hml, hown, hts⟩ (x_X8_tellSequence l E z0 G hGz B R hW h0 hG) (cwV 0 hts (gdV ml_X8_72 im_X8_tellSequence se_X8_X8_tellSequence in_X8 co_X8_tellSequence rfl) rfl rfl rfl (by decide +kernel) ⟨Nat.le_of_ble_eq_true rfl, Nat.le_of_ble_eq_true rfl⟩) hT (fun U hU hW => hK.go hW hS hAz hU) (va_recv hK.1 (va_one ha_1) (ci := 8) (q0 := 0) rfl rfl) rfl rfl hl.1 rfl (lv_room (Nat.le_of_ble_eq_true rfl)) dX8_takeIn_30 ⟨Nat.le_of_ble_eq_true rfl, Nat.le_of_ble_eq_true rfl⟩) hS (fun q _ h => mL (L' := [10, 4, 31]) (L := [10, 4, 31, 32, 14, 13, 5, 15, 11, 16, 17]) (by decide) h) (fun q h => mL (L' := [10, 4, 31]) (L := [10, 4, 31, 32, 14, 13, 5, 15, 11, 16, 17]) (by decide) h) (fun U_12 t H locs ht hvm hwr_11 hB hz hk hS => ?_)
      have hT : TX E G U_12 R H := by rw [ht] at hB; exact hB
      have hWr_11 : TW G U_12 R := hwr_11.1
      have hW := hWr_11
      have hFr_11 : Fr G [10, 4, 31] B U_12 := hwr_11.2.1
      have hCr_11 : C_X8_tellSequence G B R h0 U_12 := hwr_11.2.2
      refine lv_iconst (v := 0) hx hb dX8_takeIn_33 (by decide) ?_
      exact W.iret (v := 0) hx hb hr (fun t ht hW9 => ⟨⟨0, U_12, rfl, ⟨hW, (Fr.c Fr.rf hFr_11 (by decide)), (Or.inr (Or.inr (Or.inl ⟨x_3, ex_3, c_4, c_5, U_12, hFr_11, hCr_11, rfl, rfl⟩)))⟩, (by show TX E G U_12 R t.heap; rw [ht]; exact hT)⟩, hS.F ht⟩) hS.2.2 dX8_takeIn_34
  · simp only [lt_I, le_I, eq_I, i_0, i_1, i_2, i_3, i_4, i_5, i_6, i_7, i_8, i_10, i_12, i_16, i_20, i_23, i_24, i_31, i_32, i_63, i_64, i_m1] at c_4
    refine lv_aload_n hx hb dX8_takeIn_18 rfl (lv_at hl 1 rfl) ?_
    refine lv_aload_n hx hb dX8_takeIn_19 rfl (lv_at hl 2 rfl) ?_
    refine va_callv (rnV (fun H => TX E G B R H) (As := [.ref p0]) (rest := []) ⟨hx, hb, hml, hown, hts⟩ (x_X8_answerAgain l E z0 G hGz B R hW h0 p0 hG hG0) (cwV 1 hts (gdV ml_X8_68 im_X8_answerAgain se_X8_X8_answerAgain in_X8 co_X8_answerAgain rfl) rfl rfl rfl (by decide +kernel) ⟨Nat.le_of_ble_eq_true rfl, Nat.le_of_ble_eq_true rfl⟩) hT (fun U hU hW => hK.go hW hS hAz hU) (va_recv hK.1 (va_one ha_1) (ci := 8) (q0 := 0) rfl rfl) rfl rfl hl.1 rfl (lv_room (Nat.le_of_ble_eq_true rfl)) dX8_takeIn_20 ⟨Nat.le_of_ble_eq_true rfl, Nat.le_of_ble_eq_true rfl⟩) hS (fun q _ h => mL (L' := [4, 31, 32]) (L := [10, 4, 31, 32, 14, 13, 5, 15, 11, 16, 17]) (by decide) h) (fun q h => mL (L' := [4, 31, 32]) (L := [10, 4, 31, 32, 14, 13, 5, 15, 11, 16, 17]) (by decide) h) (fun U_14 t H locs ht hvm hwr_13 hB hz hk hS => ?_)
    have hT : TX E G U_14 R H := by rw [ht] at hB; exact hB
    have hWr_13 : TW G U_14 R := hwr_13.1
    have hW := hWr_13
    have hFr_13 : Fr G [4, 31, 32] B U_14 := hwr_13.2.1
    have hCr_13 : C_X8_answerAgain G B R h0 p0 U_14 := hwr_13.2.2
    refine lv_iconst (v := 0) hx hb dX8_takeIn_23 (by decide) ?_
    exact W.iret (v := 0) hx hb hr (fun t ht hW9 => ⟨⟨0, U_14, rfl, ⟨hW, (Fr.c Fr.rf hFr_13 (by decide)), (Or.inr (Or.inr (Or.inr ⟨x_3, ex_3, c_4, U_14, hFr_13, hCr_13, rfl, rfl⟩)))⟩, (by show TX E G U_14 R t.heap; rw [ht]; exact hT)⟩, hS.F ht⟩) hS.2.2 dX8_takeIn_24
theorem dX8_completeAll_0 : decode cX8_completeAll 0 = .ok (.aload_n 0, 1) := by decide +kernel
theorem dX8_completeAll_1 : decode cX8_completeAll 1 = .ok (.getfield 39, 3) := by decide +kernel
theorem dX8_completeAll_4 : decode cX8_completeAll 4 = .ok (.aload_n 0, 1) := by decide +kernel
theorem dX8_completeAll_5 : decode cX8_completeAll 5 = .ok (.getfield 52, 3) := by decide +kernel
theorem dX8_completeAll_8 : decode cX8_completeAll 8 = .ok (.ifCond .eq 7, 3) := by decide +kernel
theorem dX8_completeAll_11 : decode cX8_completeAll 11 = .ok (.iload_n 1, 1) := by decide +kernel
theorem dX8_completeAll_12 : decode cX8_completeAll 12 = .ok (.goto 4, 3) := by decide +kernel
theorem dX8_completeAll_15 : decode cX8_completeAll 15 = .ok (.iconst 5, 1) := by decide +kernel
theorem dX8_completeAll_16 : decode cX8_completeAll 16 = .ok (.invokevirtual 182, 3) := by decide +kernel
theorem dX8_completeAll_19 : decode cX8_completeAll 19 = .ok (.aload_n 0, 1) := by decide +kernel
theorem dX8_completeAll_20 : decode cX8_completeAll 20 = .ok (.iconst 0, 1) := by decide +kernel
theorem dX8_completeAll_21 : decode cX8_completeAll 21 = .ok (.putfield 52, 3) := by decide +kernel
theorem dX8_completeAll_24 : decode cX8_completeAll 24 = .ok (.return_, 1) := by decide +kernel
set_option maxHeartbeats 8000000 in
set_option maxRecDepth 100000 in
theorem x_X8_completeAll (l : Launch) (E : EE) (z0 : Nat) (G : Nat → Nat) (hGz : ∀ q, G q ≠ 0 → z0 ≤ q) (B : AA) (R : RR) (hW : TW G B R) (h0 : Nat) (p0 : Int32) (hG : G h0 = 10) : Met l yX8_completeAll [Cond.code yX8_completeAll cX8_completeAll 2 none] ({ frames := 3, cells := 0, slots := 0, locals := 68 } : Room) (va_Pc [.ref h0, .int p0] (fun U => TX E G B R U.heap ∧ KS E z0 U)) (va_Qv (fun (u : AA) => (TW G u R) ∧ (Fr G ([5, 15, 11, 10] : List Nat) B u) ∧ (C_X8_completeAll G B R h0 p0 u)) (fun u t => TX E G u R t.heap) (fun q : Nat => G q ∈ ([5, 15, 11, 10] : List Nat))) 0 0 (fun q : Nat => G q ∈ ([5, 15, 11, 10] : List Nat)) := by
  refine Met.ofW (cc := cX8_completeAll) (maxL := 2) (ret := none) (by decide) rfl ?_
  intro p e s m args below meth c s₁ B9 hml hv
  obtain ⟨rfl, hT, hK⟩ := hv
  have hx := B9.exec
  have hb := B9.bytes
  have hr := B9.returns
  have hts : ∀ w ∈ TS, w.before ([.ref h0, .int p0] : List Value).toArray s = true := fun w hw => hK.2.1 w hw _
  have hown : s.vm.findClass RX8 = some m.cls := findClass_of_methodNamed B9.named
  have hlocks := B9.notSynchronized
  have hS : va_S (fun q : Nat => G q ∈ ([5, 15, 11, 10] : List Nat)) s.heap s.heap [] := va_S.rf
  have hAz : ∀ q, (fun q : Nat => G q ∈ ([5, 15, 11, 10] : List Nat)) q → z0 ≤ q := zL hGz (by decide)
  have hW_0 := hW
  have hl := lv_entry ([.ref h0, .int p0]) (n := 2) (Nat.le_of_ble_eq_true rfl)
  rw [lg_entry_eq]
  generalize (lg_sl ([.ref h0, .int p0]) ++ List.replicate (2 - (lg_sl ([.ref h0, .int p0])).length) Slot.unset).toArray = ls at hl ⊢
  have hl : lv_has ls 2 [(0, .ref h0), (1, .int p0)] := hl
  refine lv_aload_n hx hb dX8_completeAll_0 rfl (lv_at hl 0 rfl) ?_
  have ha_1 := tx_10 hT hG
  have hg_2 : G (R h0 3) = 11 := (tw_10 hW hG).2.2.2.1
  refine va_get (D := DG E) (ci := 8) (v := .ref (R h0 3)) (C := RX8) (T := TX8) (N := 9) hx hb hts iw_X8 hown hK.1 (va_one ha_1) 0 rfl rfl 3 (by decide) (hts _ fl_X8_39) (fun _ h9 => h9) rfl dX8_completeAll_1 ?_
  refine lv_aload_n hx hb dX8_completeAll_4 rfl (lv_at hl 0 rfl) ?_
  refine va_get (D := DG E) (ci := 8) (v := .int (B h0 5)) (C := RX8) (T := TX8) (N := 9) hx hb hts iw_X8 hown hK.1 (va_one ha_1) 0 rfl rfl 5 (by decide) (hts _ fl_X8_52) (fun _ h9 => h9) rfl dX8_completeAll_5 ?_
  refine lv_if_eq (tgt := 15) hx hb dX8_completeAll_8 (by decide) (fun c_3 => ?_) (fun c_3 => ?_)
  · simp only [lt_I, le_I, eq_I, i_0, i_1, i_2, i_3, i_4, i_5, i_6, i_7, i_8, i_10, i_12, i_16, i_20, i_23, i_24, i_31, i_32, i_63, i_64, i_m1] at c_3
    refine lv_iconst (v := 5) hx hb dX8_completeAll_15 (by decide) ?_
    have ha_4 := tx_11 hT hg_2
    refine va_callv (rnV (fun H => TX E G B R H) (As := [.int 5]) (rest := []) ⟨hx, hb, hml, hown, hts⟩ (x_X5_completeAll l E z0 G hGz B R hW (R h0 3) (5 : Int32) hg_2) (cwV 1 hts (gdV ml_X8_182 im_X5_completeAll se_X5_X5_completeAll in_X5 co_X5_completeAll rfl) rfl rfl rfl (by decide +kernel) ⟨Nat.le_of_ble_eq_true rfl, Nat.le_of_ble_eq_true rfl⟩) hT (fun U hU hW => hK.go hW hS hAz hU) (va_recv hK.1 (va_one ha_4) (ci := 5) (q0 := 0) rfl rfl) rfl rfl hl.1 rfl (lv_room (Nat.le_of_ble_eq_true rfl)) dX8_completeAll_16 ⟨Nat.le_of_ble_eq_true rfl, Nat.le_of_ble_eq_true rfl⟩) hS (fun q _ h => mL (L' := [5, 15, 11]) (L := [5, 15, 11, 10]) (by decide) h) (fun q h => mL (L' := [5, 15, 11]) (L := [5, 15, 11, 10]) (by decide) h) (fun U_6 t H locs ht hvm hwr_5 hB hz hk hS => ?_)
    have hT : TX E G U_6 R H := by rw [ht] at hB; exact hB
    have hWr_5 : TW G U_6 R := hwr_5.1
    have hW := hWr_5
    have hFr_5 : Fr G [5, 15, 11] B U_6 := hwr_5.2.1
    have hCr_5 : C_X5_completeAll G B R (R h0 3) (5 : Int32) U_6 := hwr_5.2.2
    refine lv_aload_n hx hb dX8_completeAll_19 rfl (lv_at hl 0 rfl) ?_
    refine lv_iconst (v := 0) hx hb dX8_completeAll_20 (by decide) ?_
    have ha_7 := tx_10 hT hG
    refine rr_put (D := DG E) (ci := 8) (v := .int 0) (ty := .boolean) (C := RX8) (T := TX8) (N := 9) hx hb hts iw_X8 tyX8 tyX8_ok nmX8 hown hK.1 ha_7 hS (by show G h0 ∈ ([5, 15, 11, 10] : List Nat); rw [hG]; decide) rfl 5 (by decide) (hts _ fl_X8_52) (fun _ h9 => h9) rfl (by decide +kernel) rfl rfl (Nat.le_of_ble_eq_true rfl) dX8_completeAll_21 (fun H locs hn ho hz hS => ?_)
    obtain ⟨B_8, eB_8⟩ : ∃ z : AA, z = uA U_6 h0 (upd (U_6 h0) 5 0) := ⟨_, rfl⟩
    have sB_8 : B_8 h0 5 = 0 := by rw [eB_8, uA_s]; exact upd_s
    have nB_8 : ∀ k, k ≠ 5 → B_8 h0 k = U_6 h0 k := fun k hk => by rw [eB_8, uA_s]; exact upd_n hk
    have fB_8 : ∀ c, G c ≠ 10 → B_8 c = U_6 c := fun c hc => by rw [eB_8]; exact uA_n (fun e => hc (by rw [e]; exact hG))
    have hT : TX E G B_8 R H := by rw [eB_8]; exact hT.w (by rw [hG]; exact hn) ho
    have hWB_8 : TW G B_8 R := by rw [eB_8]; exact hWr_5.w (by rw [hG]; exact tw_10 hWr_5 hG)
    have hW := hWB_8
    exact W.vret hx hb hr (fun t ht hW9 => ⟨⟨B_8, rfl, ⟨hW, (Fr.w (Fr.c Fr.rf hFr_5 (by decide)) hG (by decide) eB_8), (Or.inl ⟨c_3, U_6, hFr_5, hCr_5, B_8, eB_8, rfl⟩)⟩, (by show TX E G B_8 R t.heap; rw [ht]; exact hT)⟩, hS.F ht⟩) hS.2.2 dX8_completeAll_24
  · simp only [lt_I, le_I, eq_I, i_0, i_1, i_2, i_3, i_4, i_5, i_6, i_7, i_8, i_10, i_12, i_16, i_20, i_23, i_24, i_31, i_32, i_63, i_64, i_m1] at c_3
    refine lv_iload_n hx hb dX8_completeAll_11 rfl (lv_at hl 1 rfl) ?_
    refine lv_goto (tgt := 16) hx hb dX8_completeAll_12 (by decide) ?_
    have ha_9 := tx_11 hT hg_2
    refine va_callv (rnV (fun H => TX E G B R H) (As := [.int p0]) (rest := []) ⟨hx, hb, hml, hown, hts⟩ (x_X5_completeAll l E z0 G hGz B R hW (R h0 3) p0 hg_2) (cwV 1 hts (gdV ml_X8_182 im_X5_completeAll se_X5_X5_completeAll in_X5 co_X5_completeAll rfl) rfl rfl rfl (by decide +kernel) ⟨Nat.le_of_ble_eq_true rfl, Nat.le_of_ble_eq_true rfl⟩) hT (fun U hU hW => hK.go hW hS hAz hU) (va_recv hK.1 (va_one ha_9) (ci := 5) (q0 := 0) rfl rfl) rfl rfl hl.1 rfl (lv_room (Nat.le_of_ble_eq_true rfl)) dX8_completeAll_16 ⟨Nat.le_of_ble_eq_true rfl, Nat.le_of_ble_eq_true rfl⟩) hS (fun q _ h => mL (L' := [5, 15, 11]) (L := [5, 15, 11, 10]) (by decide) h) (fun q h => mL (L' := [5, 15, 11]) (L := [5, 15, 11, 10]) (by decide) h) (fun U_11 t H locs ht hvm hwr_10 hB hz hk hS => ?_)
    have hT : TX E G U_11 R H := by rw [ht] at hB; exact hB
    have hWr_10 : TW G U_11 R := hwr_10.1
    have hW := hWr_10
    have hFr_10 : Fr G [5, 15, 11] B U_11 := hwr_10.2.1
    have hCr_10 : C_X5_completeAll G B R (R h0 3) p0 U_11 := hwr_10.2.2
    refine lv_aload_n hx hb dX8_completeAll_19 rfl (lv_at hl 0 rfl) ?_
    refine lv_iconst (v := 0) hx hb dX8_completeAll_20 (by decide) ?_
    have ha_12 := tx_10 hT hG
    refine rr_put (D := DG E) (ci := 8) (v := .int 0) (ty := .boolean) (C := RX8) (T := TX8) (N := 9) hx hb hts iw_X8 tyX8 tyX8_ok nmX8 hown hK.1 ha_12 hS (by show G h0 ∈ ([5, 15, 11, 10] : List Nat); rw [hG]; decide) rfl 5 (by decide) (hts _ fl_X8_52) (fun _ h9 => h9) rfl (by decide +kernel) rfl rfl (Nat.le_of_ble_eq_true rfl) dX8_completeAll_21 (fun H locs hn ho hz hS => ?_)
    obtain ⟨B_13, eB_13⟩ : ∃ z : AA, z = uA U_11 h0 (upd (U_11 h0) 5 0) := ⟨_, rfl⟩
    have sB_13 : B_13 h0 5 = 0 := by rw [eB_13, uA_s]; exact upd_s
    have nB_13 : ∀ k, k ≠ 5 → B_13 h0 k = U_11 h0 k := fun k hk => by rw [eB_13, uA_s]; exact upd_n hk
    have fB_13 : ∀ c, G c ≠ 10 → B_13 c = U_11 c := fun c hc => by rw [eB_13]; exact uA_n (fun e => hc (by rw [e]; exact hG))
    have hT : TX E G B_13 R H := by rw [eB_13]; exact hT.w (by rw [hG]; exact hn) ho
    have hWB_13 : TW G B_13 R := by rw [eB_13]; exact hWr_10.w (by rw [hG]; exact tw_10 hWr_10 hG)
    have hW := hWB_13
    exact W.vret hx hb hr (fun t ht hW9 => ⟨⟨B_13, rfl, ⟨hW, (Fr.w (Fr.c Fr.rf hFr_10 (by decide)) hG (by decide) eB_13), (Or.inr ⟨c_3, U_11, hFr_10, hCr_10, B_13, eB_13, rfl⟩)⟩, (by show TX E G B_13 R t.heap; rw [ht]; exact hT)⟩, hS.F ht⟩) hS.2.2 dX8_completeAll_24
end
section
theorem dX3_clear_0 : decode cX3_clear 0 = .ok (.aload_n 0, 1) := by decide +kernel
theorem dX3_clear_1 : decode cX3_clear 1 = .ok (.iconst 0, 1) := by decide +kernel
theorem dX3_clear_2 : decode cX3_clear 2 = .ok (.putfield 19, 3) := by decide +kernel
theorem dX3_clear_5 : decode cX3_clear 5 = .ok (.aload_n 0, 1) := by decide +kernel
theorem dX3_clear_6 : decode cX3_clear 6 = .ok (.getfield 9, 3) := by decide +kernel
theorem dX3_clear_9 : decode cX3_clear 9 = .ok (.invokevirtual 23, 3) := by decide +kernel
theorem dX3_clear_12 : decode cX3_clear 12 = .ok (.aload_n 0, 1) := by decide +kernel
theorem dX3_clear_13 : decode cX3_clear 13 = .ok (.getfield 15, 3) := by decide +kernel
theorem dX3_clear_16 : decode cX3_clear 16 = .ok (.invokevirtual 28, 3) := by decide +kernel
theorem dX3_clear_19 : decode cX3_clear 19 = .ok (.return_, 1) := by decide +kernel
set_option maxHeartbeats 8000000 in
set_option maxRecDepth 100000 in
theorem x_X3_clear (l : Launch) (E : EE) (z0 : Nat) (G : Nat → Nat) (hGz : ∀ q, G q ≠ 0 → z0 ≤ q) (B : AA) (R : RR) (hW : TW G B R) (h0 : Nat) (hG : G h0 = 8) : Met l yX3_clear [Cond.code yX3_clear cX3_clear 1 none] ({ frames := 2, cells := 0, slots := 0, locals := 41 } : Room) (va_Pc [.ref h0] (fun U => TX E G B R U.heap ∧ KS E z0 U)) (va_Qv (fun (u : AA) => (TW G u R) ∧ (Fr G ([8, 9, 10, 11, 16, 17] : List Nat) B u) ∧ (C_X3_clear G B R h0 u)) (fun u t => TX E G u R t.heap) (fun q : Nat => G q ∈ ([8, 9, 10, 11, 16, 17] : List Nat))) 0 0 (fun q : Nat => G q ∈ ([8, 9, 10, 11, 16, 17] : List Nat)) := by
  refine Met.ofW (cc := cX3_clear) (maxL := 1) (ret := none) (by decide) rfl ?_
  intro p e s m args below meth c s₁ B9 hml hv
  obtain ⟨rfl, hT, hK⟩ := hv
  have hx := B9.exec
  have hb := B9.bytes
  have hr := B9.returns
  have hts : ∀ w ∈ TS, w.before ([.ref h0] : List Value).toArray s = true := fun w hw => hK.2.1 w hw _
  have hown : s.vm.findClass RX3 = some m.cls := findClass_of_methodNamed B9.named
  have hlocks := B9.notSynchronized
  have hS : va_S (fun q : Nat => G q ∈ ([8, 9, 10, 11, 16, 17] : List Nat)) s.heap s.heap [] := va_S.rf
  have hAz : ∀ q, (fun q : Nat => G q ∈ ([8, 9, 10, 11, 16, 17] : List Nat)) q → z0 ≤ q := zL hGz (by decide)
  have hW_0 := hW
  have hl := lv_entry ([.ref h0]) (n := 1) (Nat.le_of_ble_eq_true rfl)
  rw [lg_entry_eq]
  generalize (lg_sl ([.ref h0]) ++ List.replicate (1 - (lg_sl ([.ref h0])).length) Slot.unset).toArray = ls at hl ⊢
  have hl : lv_has ls 1 [(0, .ref h0)] := hl
  refine lv_aload_n hx hb dX3_clear_0 rfl (lv_at hl 0 rfl) ?_
  refine lv_iconst (v := 0) hx hb dX3_clear_1 (by decide) ?_
  have ha_1 := tx_8 hT hG
  refine rr_put (D := DG E) (ci := 3) (v := .int 0) (ty := .int) (C := RX3) (T := TX3) (N := 3) hx hb hts iw_X3 tyX3 tyX3_ok nmX3 hown hK.1 ha_1 hS (by show G h0 ∈ ([8, 9, 10, 11, 16, 17] : List Nat); rw [hG]; decide) rfl 2 (by decide) (hts _ fl_X3_19) (fun _ h9 => h9) rfl (by decide +kernel) rfl rfl (Nat.le_of_ble_eq_true rfl) dX3_clear_2 (fun H locs hn ho hz hS => ?_)
  obtain ⟨B_2, eB_2⟩ : ∃ z : AA, z = uA B h0 (upd (B h0) 2 0) := ⟨_, rfl⟩
  have sB_2 : B_2 h0 2 = 0 := by rw [eB_2, uA_s]; exact upd_s
  have nB_2 : ∀ k, k ≠ 2 → B_2 h0 k = B h0 k := fun k hk => by rw [eB_2, uA_s]; exact upd_n hk
  have fB_2 : ∀ c, G c ≠ 8 → B_2 c = B c := fun c hc => by rw [eB_2]; exact uA_n (fun e => hc (by rw [e]; exact hG))
  have hT : TX E G B_2 R H := by rw [eB_2]; exact hT.w (by rw [hG]; exact hn) ho
  have hWB_2 : TW G B_2 R := by rw [eB_2]; exact hW_0.w (by rw [hG]; exact tw_8 hW_0 hG)
  have hW := hWB_2
  refine lv_aload_n hx hb dX3_clear_5 rfl (lv_at hl 0 rfl) ?_
  have ha_3 := tx_8 hT hG
  have hg_4 : G (R h0 0) = 9 := (tw_8 hW hG).1
  refine va_get (D := DG E) (ci := 3) (v := .ref (R h0 0)) (C := RX3) (T := TX3) (N := 3) hx hb hts iw_X3 hown hK.1 (va_one ha_3) 0 rfl rfl 0 (by decide) (hts _ fl_X3_9) (fun _ h9 => h9) rfl dX3_clear_6 ?_
  have ha_5 := tx_9 hT hg_4
  refine va_callv (rnV (fun H => TX E G B_2 R H) (As := []) (rest := []) ⟨hx, hb, hml, hown, hts⟩ (x_X7_clear l E z0 G hGz B_2 R hW (R h0 0) hg_4) (cwV 0 hts (gdV ml_X3_23 im_X7_clear se_X7_X7_clear in_X7 co_X7_clear rfl) rfl rfl rfl (by decide +kernel) ⟨Nat.le_of_ble_eq_true rfl, Nat.le_of_ble_eq_true rfl⟩) hT (fun U hU hW => hK.go hW hS hAz hU) (va_recv hK.1 (va_one ha_5) (ci := 7) (q0 := 0) rfl rfl) rfl rfl hl.1 rfl (lv_room (Nat.le_of_ble_eq_true rfl)) dX3_clear_9 ⟨Nat.le_of_ble_eq_true rfl, Nat.le_of_ble_eq_true rfl⟩) hS (fun q _ h => mL (L' := [9, 11]) (L := [8, 9, 10, 11, 16, 17]) (by decide) h) (fun q h => mL (L' := [9, 11]) (L := [8, 9, 10, 11, 16, 17]) (by decide) h) (fun U_7 t H locs ht hvm hwr_6 hB hz hk hS => ?_)
  have hT : TX E G U_7 R H := by rw [ht] at hB; exact hB
  have hWr_6 : TW G U_7 R := hwr_6.1
  have hW := hWr_6
  have hFr_6 : Fr G [9, 11] B_2 U_7 := hwr_6.2.1
  have hCr_6 : C_X7_clear G B_2 R (R h0 0) U_7 := hwr_6.2.2
  refine lv_aload_n hx hb dX3_clear_12 rfl (lv_at hl 0 rfl) ?_
  have ha_8 := tx_8 hT hG
  have hg_9 : G (R h0 1) = 10 := (tw_8 hW hG).2
  refine va_get (D := DG E) (ci := 3) (v := .ref (R h0 1)) (C := RX3) (T := TX3) (N := 3) hx hb hts iw_X3 hown hK.1 (va_one ha_8) 0 rfl rfl 1 (by decide) (hts _ fl_X3_15) (fun _ h9 => h9) rfl dX3_clear_13 ?_
  have ha_10 := tx_10 hT hg_9
  refine va_callv (rnV (fun H => TX E G U_7 R H) (As := []) (rest := []) ⟨hx, hb, hml, hown, hts⟩ (x_X8_clear l E z0 G hGz U_7 R hW (R h0 1) hg_9) (cwV 0 hts (gdV ml_X3_28 im_X8_clear se_X8_X8_clear in_X8 co_X8_clear rfl) rfl rfl rfl (by decide +kernel) ⟨Nat.le_of_ble_eq_true rfl, Nat.le_of_ble_eq_true rfl⟩) hT (fun U hU hW => hK.go hW hS hAz hU) (va_recv hK.1 (va_one ha_10) (ci := 8) (q0 := 0) rfl rfl) rfl rfl hl.1 rfl (lv_room (Nat.le_of_ble_eq_true rfl)) dX3_clear_16 ⟨Nat.le_of_ble_eq_true rfl, Nat.le_of_ble_eq_true rfl⟩) hS (fun q _ h => mL (L' := [10, 11, 16, 17]) (L := [8, 9, 10, 11, 16, 17]) (by decide) h) (fun q h => mL (L' := [10, 11, 16, 17]) (L := [8, 9, 10, 11, 16, 17]) (by decide) h) (fun U_12 t H locs ht hvm hwr_11 hB hz hk hS => ?_)
  have hT : TX E G U_12 R H := by rw [ht] at hB; exact hB
  have hWr_11 : TW G U_12 R := hwr_11.1
  have hW := hWr_11
  have hFr_11 : Fr G [10, 11, 16, 17] U_7 U_12 := hwr_11.2.1
  have hCr_11 : C_X8_clear G U_7 R (R h0 1) U_12 := hwr_11.2.2
  exact W.vret hx hb hr (fun t ht hW9 => ⟨⟨U_12, rfl, ⟨hW, (Fr.c (Fr.c (Fr.w Fr.rf hG (by decide) eB_2) hFr_6 (by decide)) hFr_11 (by decide)), ⟨B_2, eB_2, U_7, hFr_6, hCr_6, U_12, hFr_11, hCr_11, rfl⟩⟩, (by show TX E G U_12 R t.heap; rw [ht]; exact hT)⟩, hS.F ht⟩) hS.2.2 dX3_clear_19
theorem dX3_start_0 : decode cX3_start 0 = .ok (.aload_n 0, 1) := by decide +kernel
theorem dX3_start_1 : decode cX3_start 1 = .ok (.iconst 1, 1) := by decide +kernel
theorem dX3_start_2 : decode cX3_start 2 = .ok (.putfield 19, 3) := by decide +kernel
theorem dX3_start_5 : decode cX3_start 5 = .ok (.aload_n 0, 1) := by decide +kernel
theorem dX3_start_6 : decode cX3_start 6 = .ok (.getfield 9, 3) := by decide +kernel
theorem dX3_start_9 : decode cX3_start 9 = .ok (.iload_n 1, 1) := by decide +kernel
theorem dX3_start_10 : decode cX3_start 10 = .ok (.invokevirtual 31, 3) := by decide +kernel
theorem dX3_start_13 : decode cX3_start 13 = .ok (.aload_n 0, 1) := by decide +kernel
theorem dX3_start_14 : decode cX3_start 14 = .ok (.getfield 15, 3) := by decide +kernel
theorem dX3_start_17 : decode cX3_start 17 = .ok (.iload_n 2, 1) := by decide +kernel
theorem dX3_start_18 : decode cX3_start 18 = .ok (.putfield 35, 3) := by decide +kernel
theorem dX3_start_21 : decode cX3_start 21 = .ok (.return_, 1) := by decide +kernel
set_option maxHeartbeats 8000000 in
set_option maxRecDepth 100000 in
theorem x_X3_start (l : Launch) (E : EE) (z0 : Nat) (G : Nat → Nat) (hGz : ∀ q, G q ≠ 0 → z0 ≤ q) (B : AA) (R : RR) (hW : TW G B R) (h0 : Nat) (p0 : Int32) (p1 : Int32) (hG : G h0 = 8) : Met l yX3_start [Cond.code yX3_start cX3_start 3 none] ({ frames := 1, cells := 0, slots := 0, locals := 21 } : Room) (va_Pc [.ref h0, .int p0, .int p1] (fun U => TX E G B R U.heap ∧ KS E z0 U)) (va_Qv (fun (u : AA) => (TW G u R) ∧ (Fr G ([8, 9, 10] : List Nat) B u) ∧ (C_X3_start G B R h0 p0 p1 u)) (fun u t => TX E G u R t.heap) (fun q : Nat => G q ∈ ([8, 9, 10] : List Nat))) 0 0 (fun q : Nat => G q ∈ ([8, 9, 10] : List Nat)) := by
  refine Met.ofW (cc := cX3_start) (maxL := 3) (ret := none) (by decide) rfl ?_
  intro p e s m args below meth c s₁ B9 hml hv
  obtain ⟨rfl, hT, hK⟩ := hv
  have hx := B9.exec
  have hb := B9.bytes
  have hr := B9.returns
  have hts : ∀ w ∈ TS, w.before ([.ref h0, .int p0, .int p1] : List Value).toArray s = true := fun w hw => hK.2.1 w hw _
  have hown : s.vm.findClass RX3 = some m.cls := findClass_of_methodNamed B9.named
  have hlocks := B9.notSynchronized
  have hS : va_S (fun q : Nat => G q ∈ ([8, 9, 10] : List Nat)) s.heap s.heap [] := va_S.rf
  have hAz : ∀ q, (fun q : Nat => G q ∈ ([8, 9, 10] : List Nat)) q → z0 ≤ q := zL hGz (by decide)
  have hW_0 := hW
  have hl := lv_entry ([.ref h0, .int p0, .int p1]) (n := 3) (Nat.le_of_ble_eq_true rfl)
  rw [lg_entry_eq]
  generalize (lg_sl ([.ref h0, .int p0, .int p1]) ++ List.replicate (3 - (lg_sl ([.ref h0, .int p0, .int p1])).length) Slot.unset).toArray = ls at hl ⊢
  have hl : lv_has ls 3 [(0, .ref h0), (1, .int p0), (2, .int p1)] := hl
  refine lv_aload_n hx hb dX3_start_0 rfl (lv_at hl 0 rfl) ?_
  refine lv_iconst (v := 1) hx hb dX3_start_1 (by decide) ?_
  have ha_1 := tx_8 hT hG
  refine rr_put (D := DG E) (ci := 3) (v := .int 1) (ty := .int) (C := RX3) (T := TX3) (N := 3) hx hb hts iw_X3 tyX3 tyX3_ok nmX3 hown hK.1 ha_1 hS (by show G h0 ∈ ([8, 9, 10] : List Nat); rw [hG]; decide) rfl 2 (by decide) (hts _ fl_X3_19) (fun _ h9 => h9) rfl (by decide +kernel) rfl rfl (Nat.le_of_ble_eq_true rfl) dX3_start_2 (fun H locs hn ho hz hS => ?_)
  obtain ⟨B_2, eB_2⟩ : ∃ z : AA, z = uA B h0 (upd (B h0) 2 1) := ⟨_, rfl⟩
  have sB_2 : B_2 h0 2 = 1 := by rw [eB_2, uA_s]; exact upd_s
  have nB_2 : ∀ k, k ≠ 2 → B_2 h0 k = B h0 k := fun k hk => by rw [eB_2, uA_s]; exact upd_n hk
  have fB_2 : ∀ c, G c ≠ 8 → B_2 c = B c := fun c hc => by rw [eB_2]; exact uA_n (fun e => hc (by rw [e]; exact hG))
  have hT : TX E G B_2 R H := by rw [eB_2]; exact hT.w (by rw [hG]; exact hn) ho
  have hWB_2 : TW G B_2 R := by rw [eB_2]; exact hW_0.w (by rw [hG]; exact tw_8 hW_0 hG)
  have hW := hWB_2
  refine lv_aload_n hx hb dX3_start_5 rfl (lv_at hl 0 rfl) ?_
  have ha_3 := tx_8 hT hG
  have hg_4 : G (R h0 0) = 9 := (tw_8 hW hG).1
  refine va_get (D := DG E) (ci := 3) (v := .ref (R h0 0)) (C := RX3) (T := TX3) (N := 3) hx hb hts iw_X3 hown hK.1 (va_one ha_3) 0 rfl rfl 0 (by decide) (hts _ fl_X3_9) (fun _ h9 => h9) rfl dX3_start_6 ?_
  refine lv_iload_n hx hb dX3_start_9 rfl (lv_at hl 1 rfl) ?_
  have ha_5 := tx_9 hT hg_4
  refine va_callv (rnV (fun H => TX E G B_2 R H) (As := [.int p0]) (rest := []) ⟨hx, hb, hml, hown, hts⟩ (x_X7_start l E z0 G hGz B_2 R hW (R h0 0) p0 hg_4) (cwV 1 hts (gdV ml_X3_31 im_X7_start se_X7_X7_start in_X7 co_X7_start rfl) rfl rfl rfl (by decide +kernel) ⟨Nat.le_of_ble_eq_true rfl, Nat.le_of_ble_eq_true rfl⟩) hT (fun U hU hW => hK.go hW hS hAz hU) (va_recv hK.1 (va_one ha_5) (ci := 7) (q0 := 0) rfl rfl) rfl rfl hl.1 rfl (lv_room (Nat.le_of_ble_eq_true rfl)) dX3_start_10 ⟨Nat.le_of_ble_eq_true rfl, Nat.le_of_ble_eq_true rfl⟩) hS (fun q _ h => mL (L' := [9]) (L := [8, 9, 10]) (by decide) h) (fun q h => mL (L' := [9]) (L := [8, 9, 10]) (by decide) h) (fun U_7 t H locs ht hvm hwr_6 hB hz hk hS => ?_)
  have hT : TX E G U_7 R H := by rw [ht] at hB; exact hB
  have hWr_6 : TW G U_7 R := hwr_6.1
  have hW := hWr_6
  have hFr_6 : Fr G [9] B_2 U_7 := hwr_6.2.1
  have hCr_6 : C_X7_start G B_2 R (R h0 0) p0 U_7 := hwr_6.2.2
  refine lv_aload_n hx hb dX3_start_13 rfl (lv_at hl 0 rfl) ?_
  have ha_8 := tx_8 hT hG
  have hg_9 : G (R h0 1) = 10 := (tw_8 hW hG).2
  refine va_get (D := DG E) (ci := 3) (v := .ref (R h0 1)) (C := RX3) (T := TX3) (N := 3) hx hb hts iw_X3 hown hK.1 (va_one ha_8) 0 rfl rfl 1 (by decide) (hts _ fl_X3_15) (fun _ h9 => h9) rfl dX3_start_14 ?_
  refine lv_iload_n hx hb dX3_start_17 rfl (lv_at hl 2 rfl) ?_
  have ha_10 := tx_10 hT hg_9
  refine rr_put (D := DG E) (ci := 8) (v := .int p1) (ty := .int) (C := RX8) (T := TX8) (N := 9) hx hb hts iw_X8 tyX8 tyX8_ok nmX8 hown hK.1 ha_10 hS (by show G (R h0 1) ∈ ([8, 9, 10] : List Nat); rw [hg_9]; decide) rfl 4 (by decide) (hts _ fl_X3_35) (fun _ h9 => h9) rfl (by decide +kernel) rfl rfl (Nat.le_of_ble_eq_true rfl) dX3_start_18 (fun H locs hn ho hz hS => ?_)
  obtain ⟨B_11, eB_11⟩ : ∃ z : AA, z = uA U_7 (R h0 1) (upd (U_7 (R h0 1)) 4 p1) := ⟨_, rfl⟩
  have sB_11 : B_11 (R h0 1) 4 = p1 := by rw [eB_11, uA_s]; exact upd_s
  have nB_11 : ∀ k, k ≠ 4 → B_11 (R h0 1) k = U_7 (R h0 1) k := fun k hk => by rw [eB_11, uA_s]; exact upd_n hk
  have fB_11 : ∀ c, G c ≠ 10 → B_11 c = U_7 c := fun c hc => by rw [eB_11]; exact uA_n (fun e => hc (by rw [e]; exact hg_9))
  have hT : TX E G B_11 R H := by rw [eB_11]; exact hT.w (by rw [hg_9]; exact hn) ho
  have hWB_11 : TW G B_11 R := by rw [eB_11]; exact hWr_6.w (by rw [hg_9]; exact tw_10 hWr_6 hg_9)
  have hW := hWB_11
  exact W.vret hx hb hr (fun t ht hW9 => ⟨⟨B_11, rfl, ⟨hW, (Fr.w (Fr.c (Fr.w Fr.rf hG (by decide) eB_2) hFr_6 (by decide)) hg_9 (by decide) eB_11), ⟨B_2, eB_2, U_7, hFr_6, hCr_6, B_11, eB_11, rfl⟩⟩, (by show TX E G B_11 R t.heap; rw [ht]; exact hT)⟩, hS.F ht⟩) hS.2.2 dX3_start_21
theorem dX3_takesRequests_0 : decode cX3_takesRequests 0 = .ok (.aload_n 0, 1) := by decide +kernel
theorem dX3_takesRequests_1 : decode cX3_takesRequests 1 = .ok (.getfield 19, 3) := by decide +kernel
theorem dX3_takesRequests_4 : decode cX3_takesRequests 4 = .ok (.iconst 1, 1) := by decide +kernel
theorem dX3_takesRequests_5 : decode cX3_takesRequests 5 = .ok (.if_icmp .ne 20, 3) := by decide +kernel
theorem dX3_takesRequests_8 : decode cX3_takesRequests 8 = .ok (.aload_n 0, 1) := by decide +kernel
theorem dX3_takesRequests_9 : decode cX3_takesRequests 9 = .ok (.getfield 9, 3) := by decide +kernel
theorem dX3_takesRequests_12 : decode cX3_takesRequests 12 = .ok (.getfield 38, 3) := by decide +kernel
theorem dX3_takesRequests_15 : decode cX3_takesRequests 15 = .ok (.invokevirtual 42, 3) := by decide +kernel
theorem dX3_takesRequests_18 : decode cX3_takesRequests 18 = .ok (.ifCond .ne 7, 3) := by decide +kernel
theorem dX3_takesRequests_21 : decode cX3_takesRequests 21 = .ok (.iconst 1, 1) := by decide +kernel
theorem dX3_takesRequests_22 : decode cX3_takesRequests 22 = .ok (.goto 4, 3) := by decide +kernel
theorem dX3_takesRequests_25 : decode cX3_takesRequests 25 = .ok (.iconst 0, 1) := by decide +kernel
theorem dX3_takesRequests_26 : decode cX3_takesRequests 26 = .ok (.ireturn, 1) := by decide +kernel
set_option maxHeartbeats 8000000 in
set_option maxRecDepth 100000 in
theorem x_X3_takesRequests (l : Launch) (E : EE) (z0 : Nat) (G : Nat → Nat) (hGz : ∀ q, G q ≠ 0 → z0 ≤ q) (B : AA) (R : RR) (hW : TW G B R) (h0 : Nat) (hG : G h0 = 8) : Met l yX3_takesRequests [Cond.code yX3_takesRequests cX3_takesRequests 1 (some .boolean)] ({ frames := 1, cells := 0, slots := 0, locals := 20 } : Room) (va_Pc [.ref h0] (fun U => TX E G B R U.heap ∧ KS E z0 U)) (va_Qi (fun (r : Int32) (u : Unit) => (r = 0 ∨ r = 1) ∧ (r.toInt = 0 ∨ (B (R (R h0 0) 6) 4).toInt ≤ 3) ∧ (C_X3_takesRequests G B R h0 r)) (fun u t => True) (fun _ : Nat => False)) 0 0 (fun _ : Nat => False) := by
  refine Met.ofW (cc := cX3_takesRequests) (maxL := 1) (ret := (some .boolean)) (by decide) rfl ?_
  intro p e s m args below meth c s₁ B9 hml hv
  obtain ⟨rfl, hT, hK⟩ := hv
  have hx := B9.exec
  have hb := B9.bytes
  have hr := B9.returns
  have hts : ∀ w ∈ TS, w.before ([.ref h0] : List Value).toArray s = true := fun w hw => hK.2.1 w hw _
  have hown : s.vm.findClass RX3 = some m.cls := findClass_of_methodNamed B9.named
  have hlocks := B9.notSynchronized
  have hS : va_S (fun _ : Nat => False) s.heap s.heap [] := va_S.rf
  have hAz : ∀ q, (fun _ : Nat => False) q → z0 ≤ q := fun _ h => h.elim
  have hW_0 := hW
  have hl := lv_entry ([.ref h0]) (n := 1) (Nat.le_of_ble_eq_true rfl)
  rw [lg_entry_eq]
  generalize (lg_sl ([.ref h0]) ++ List.replicate (1 - (lg_sl ([.ref h0])).length) Slot.unset).toArray = ls at hl ⊢
  have hl : lv_has ls 1 [(0, .ref h0)] := hl
  refine lv_aload_n hx hb dX3_takesRequests_0 rfl (lv_at hl 0 rfl) ?_
  have ha_1 := tx_8 hT hG
  refine va_get (D := DG E) (ci := 3) (v := .int (B h0 2)) (C := RX3) (T := TX3) (N := 3) hx hb hts iw_X3 hown hK.1 (va_one ha_1) 0 rfl rfl 2 (by decide) (hts _ fl_X3_19) (fun _ h9 => h9) rfl dX3_takesRequests_1 ?_
  refine lv_iconst (v := 1) hx hb dX3_takesRequests_4 (by decide) ?_
  refine lv_icmp_ne (tgt := 25) hx hb dX3_takesRequests_5 (by decide) (fun c_2 => ?_) (fun c_2 => ?_)
  · simp only [lt_I, le_I, eq_I, i_0, i_1, i_2, i_3, i_4, i_5, i_6, i_7, i_8, i_10, i_12, i_16, i_20, i_23, i_24, i_31, i_32, i_63, i_64, i_m1] at c_2
    refine lv_iconst (v := 0) hx hb dX3_takesRequests_25 (by decide) ?_
    exact W.zret (v := 0) (ty := .boolean) hx hb hr rfl (fun t ht hW9 => ⟨⟨0, (), rfl, ⟨(by decide), (by show (0 : Int32).toInt = 0 ∨ (B (R (R h0 0) 6) 4).toInt ≤ 3; have := i_0; omega), (Or.inl ⟨c_2, rfl⟩)⟩, trivial⟩, hS.F ht⟩) hS.2.2 dX3_takesRequests_26
  · simp only [lt_I, le_I, eq_I, i_0, i_1, i_2, i_3, i_4, i_5, i_6, i_7, i_8, i_10, i_12, i_16, i_20, i_23, i_24, i_31, i_32, i_63, i_64, i_m1] at c_2
    refine lv_aload_n hx hb dX3_takesRequests_8 rfl (lv_at hl 0 rfl) ?_
    have hg_3 : G (R h0 0) = 9 := (tw_8 hW hG).1
    refine va_get (D := DG E) (ci := 3) (v := .ref (R h0 0)) (C := RX3) (T := TX3) (N := 3) hx hb hts iw_X3 hown hK.1 (va_one ha_1) 0 rfl rfl 0 (by decide) (hts _ fl_X3_9) (fun _ h9 => h9) rfl dX3_takesRequests_9 ?_
    have ha_4 := tx_9 hT hg_3
    have hg_5 : G (R (R h0 0) 6) = 11 := (tw_9 hW hg_3).2.2.2
    refine va_get (D := DG E) (ci := 7) (v := .ref (R (R h0 0) 6)) (C := RX7) (T := TX7) (N := 14) hx hb hts iw_X7 hown hK.1 (va_one ha_4) 0 rfl rfl 6 (by decide) (hts _ fl_X3_38) (fun _ h9 => h9) rfl dX3_takesRequests_12 ?_
    have ha_6 := tx_11 hT hg_5
    refine va_calli (rnV (fun H => TX E G B R H) (As := []) (rest := []) ⟨hx, hb, hml, hown, hts⟩ (x_X5_isFull l E z0 G hGz B R hW (R (R h0 0) 6) hg_5) (cwV 0 hts (gdV ml_X3_42 im_X5_isFull se_X5_X5_isFull in_X5 co_X5_isFull rfl) rfl rfl rfl (by decide +kernel) ⟨Nat.le_of_ble_eq_true rfl, Nat.le_of_ble_eq_true rfl⟩) hT (fun U hU hW => hK.go hW hS hAz hU) (va_recv hK.1 (va_one ha_6) (ci := 5) (q0 := 0) rfl rfl) rfl rfl hl.1 rfl (lv_room (Nat.le_of_ble_eq_true rfl)) dX3_takesRequests_15 ⟨Nat.le_of_ble_eq_true rfl, Nat.le_of_ble_eq_true rfl⟩) hS (fun q _ h => h.elim) (fun q h => h.elim) (fun r_7 _ t H locs ht hvm hwr_7 hB hz hk hS => ?_)
    have hT : TX E G B R H := hT.kept (fun q hq => hk q hq (fun h => h))
    have hbr_7 : r_7 = 0 ∨ r_7 = 1 := hwr_7.1
    have hp0r_7 : r_7.toInt = 1 ∨ (B (R (R h0 0) 6) 4).toInt ≤ 3 := hwr_7.2.1
    have hCr_7 : C_X5_isFull G B R (R (R h0 0) 6) r_7 := hwr_7.2.2
    have hzr_7 := s_rng hbr_7
    refine lv_if_ne (tgt := 25) hx hb dX3_takesRequests_18 (by decide) (fun c_8 => ?_) (fun c_8 => ?_)
    · simp only [lt_I, le_I, eq_I, i_0, i_1, i_2, i_3, i_4, i_5, i_6, i_7, i_8, i_10, i_12, i_16, i_20, i_23, i_24, i_31, i_32, i_63, i_64, i_m1] at c_8
      refine lv_iconst (v := 0) hx hb dX3_takesRequests_25 (by decide) ?_
      exact W.zret (v := 0) (ty := .boolean) hx hb hr rfl (fun t ht hW9 => ⟨⟨0, (), rfl, ⟨(by decide), (by show (0 : Int32).toInt = 0 ∨ (B (R (R h0 0) 6) 4).toInt ≤ 3; have := i_0; omega), (Or.inr (Or.inl ⟨c_2, r_7, hCr_7, c_8, rfl⟩))⟩, trivial⟩, hS.F ht⟩) hS.2.2 dX3_takesRequests_26
    · simp only [lt_I, le_I, eq_I, i_0, i_1, i_2, i_3, i_4, i_5, i_6, i_7, i_8, i_10, i_12, i_16, i_20, i_23, i_24, i_31, i_32, i_63, i_64, i_m1] at c_8
      refine lv_iconst (v := 1) hx hb dX3_takesRequests_21 (by decide) ?_
      refine lv_goto (tgt := 26) hx hb dX3_takesRequests_22 (by decide) ?_
      exact W.zret (v := 1) (ty := .boolean) hx hb hr rfl (fun t ht hW9 => ⟨⟨1, (), rfl, ⟨(by decide), (by show (1 : Int32).toInt = 0 ∨ (B (R (R h0 0) 6) 4).toInt ≤ 3; have := i_1; omega), (Or.inr (Or.inr ⟨c_2, r_7, hCr_7, c_8, rfl⟩))⟩, trivial⟩, hS.F ht⟩) hS.2.2 dX3_takesRequests_26
theorem dX3_takesReceives_0 : decode cX3_takesReceives 0 = .ok (.aload_n 0, 1) := by decide +kernel
theorem dX3_takesReceives_1 : decode cX3_takesReceives 1 = .ok (.getfield 19, 3) := by decide +kernel
theorem dX3_takesReceives_4 : decode cX3_takesReceives 4 = .ok (.iconst 2, 1) := by decide +kernel
theorem dX3_takesReceives_5 : decode cX3_takesReceives 5 = .ok (.if_icmp .eq 20, 3) := by decide +kernel
theorem dX3_takesReceives_8 : decode cX3_takesReceives 8 = .ok (.aload_n 0, 1) := by decide +kernel
theorem dX3_takesReceives_9 : decode cX3_takesReceives 9 = .ok (.getfield 15, 3) := by decide +kernel
theorem dX3_takesReceives_12 : decode cX3_takesReceives 12 = .ok (.getfield 48, 3) := by decide +kernel
theorem dX3_takesReceives_15 : decode cX3_takesReceives 15 = .ok (.invokevirtual 42, 3) := by decide +kernel
theorem dX3_takesReceives_18 : decode cX3_takesReceives 18 = .ok (.ifCond .ne 7, 3) := by decide +kernel
theorem dX3_takesReceives_21 : decode cX3_takesReceives 21 = .ok (.iconst 1, 1) := by decide +kernel
theorem dX3_takesReceives_22 : decode cX3_takesReceives 22 = .ok (.goto 4, 3) := by decide +kernel
theorem dX3_takesReceives_25 : decode cX3_takesReceives 25 = .ok (.iconst 0, 1) := by decide +kernel
theorem dX3_takesReceives_26 : decode cX3_takesReceives 26 = .ok (.ireturn, 1) := by decide +kernel
set_option maxHeartbeats 8000000 in
set_option maxRecDepth 100000 in
theorem x_X3_takesReceives (l : Launch) (E : EE) (z0 : Nat) (G : Nat → Nat) (hGz : ∀ q, G q ≠ 0 → z0 ≤ q) (B : AA) (R : RR) (hW : TW G B R) (h0 : Nat) (hG : G h0 = 8) : Met l yX3_takesReceives [Cond.code yX3_takesReceives cX3_takesReceives 1 (some .boolean)] ({ frames := 1, cells := 0, slots := 0, locals := 20 } : Room) (va_Pc [.ref h0] (fun U => TX E G B R U.heap ∧ KS E z0 U)) (va_Qi (fun (r : Int32) (u : Unit) => (r = 0 ∨ r = 1) ∧ (r.toInt = 0 ∨ (B (R (R h0 1) 3) 4).toInt ≤ 3) ∧ (C_X3_takesReceives G B R h0 r)) (fun u t => True) (fun _ : Nat => False)) 0 0 (fun _ : Nat => False) := by
  refine Met.ofW (cc := cX3_takesReceives) (maxL := 1) (ret := (some .boolean)) (by decide) rfl ?_
  intro p e s m args below meth c s₁ B9 hml hv
  obtain ⟨rfl, hT, hK⟩ := hv
  have hx := B9.exec
  have hb := B9.bytes
  have hr := B9.returns
  have hts : ∀ w ∈ TS, w.before ([.ref h0] : List Value).toArray s = true := fun w hw => hK.2.1 w hw _
  have hown : s.vm.findClass RX3 = some m.cls := findClass_of_methodNamed B9.named
  have hlocks := B9.notSynchronized
  have hS : va_S (fun _ : Nat => False) s.heap s.heap [] := va_S.rf
  have hAz : ∀ q, (fun _ : Nat => False) q → z0 ≤ q := fun _ h => h.elim
  have hW_0 := hW
  have hl := lv_entry ([.ref h0]) (n := 1) (Nat.le_of_ble_eq_true rfl)
  rw [lg_entry_eq]
  generalize (lg_sl ([.ref h0]) ++ List.replicate (1 - (lg_sl ([.ref h0])).length) Slot.unset).toArray = ls at hl ⊢
  have hl : lv_has ls 1 [(0, .ref h0)] := hl
  refine lv_aload_n hx hb dX3_takesReceives_0 rfl (lv_at hl 0 rfl) ?_
  have ha_1 := tx_8 hT hG
  refine va_get (D := DG E) (ci := 3) (v := .int (B h0 2)) (C := RX3) (T := TX3) (N := 3) hx hb hts iw_X3 hown hK.1 (va_one ha_1) 0 rfl rfl 2 (by decide) (hts _ fl_X3_19) (fun _ h9 => h9) rfl dX3_takesReceives_1 ?_
  refine lv_iconst (v := 2) hx hb dX3_takesReceives_4 (by decide) ?_
  refine lv_icmp_eq (tgt := 25) hx hb dX3_takesReceives_5 (by decide) (fun c_2 => ?_) (fun c_2 => ?_)
  · simp only [lt_I, le_I, eq_I, i_0, i_1, i_2, i_3, i_4, i_5, i_6, i_7, i_8, i_10, i_12, i_16, i_20, i_23, i_24, i_31, i_32, i_63, i_64, i_m1] at c_2
    refine lv_iconst (v := 0) hx hb dX3_takesReceives_25 (by decide) ?_
    exact W.zret (v := 0) (ty := .boolean) hx hb hr rfl (fun t ht hW9 => ⟨⟨0, (), rfl, ⟨(by decide), (by show (0 : Int32).toInt = 0 ∨ (B (R (R h0 1) 3) 4).toInt ≤ 3; have := i_0; omega), (Or.inl ⟨c_2, rfl⟩)⟩, trivial⟩, hS.F ht⟩) hS.2.2 dX3_takesReceives_26
  · simp only [lt_I, le_I, eq_I, i_0, i_1, i_2, i_3, i_4, i_5, i_6, i_7, i_8, i_10, i_12, i_16, i_20, i_23, i_24, i_31, i_32, i_63, i_64, i_m1] at c_2
    refine lv_aload_n hx hb dX3_takesReceives_8 rfl (lv_at hl 0 rfl) ?_
    have hg_3 : G (R h0 1) = 10 := (tw_8 hW hG).2
    refine va_get (D := DG E) (ci := 3) (v := .ref (R h0 1)) (C := RX3) (T := TX3) (N := 3) hx hb hts iw_X3 hown hK.1 (va_one ha_1) 0 rfl rfl 1 (by decide) (hts _ fl_X3_15) (fun _ h9 => h9) rfl dX3_takesReceives_9 ?_
    have ha_4 := tx_10 hT hg_3
    have hg_5 : G (R (R h0 1) 3) = 11 := (tw_10 hW hg_3).2.2.2.1
    refine va_get (D := DG E) (ci := 8) (v := .ref (R (R h0 1) 3)) (C := RX8) (T := TX8) (N := 9) hx hb hts iw_X8 hown hK.1 (va_one ha_4) 0 rfl rfl 3 (by decide) (hts _ fl_X3_48) (fun _ h9 => h9) rfl dX3_takesReceives_12 ?_
    have ha_6 := tx_11 hT hg_5
    refine va_calli (rnV (fun H => TX E G B R H) (As := []) (rest := []) ⟨hx, hb, hml, hown, hts⟩ (x_X5_isFull l E z0 G hGz B R hW (R (R h0 1) 3) hg_5) (cwV 0 hts (gdV ml_X3_42 im_X5_isFull se_X5_X5_isFull in_X5 co_X5_isFull rfl) rfl rfl rfl (by decide +kernel) ⟨Nat.le_of_ble_eq_true rfl, Nat.le_of_ble_eq_true rfl⟩) hT (fun U hU hW => hK.go hW hS hAz hU) (va_recv hK.1 (va_one ha_6) (ci := 5) (q0 := 0) rfl rfl) rfl rfl hl.1 rfl (lv_room (Nat.le_of_ble_eq_true rfl)) dX3_takesReceives_15 ⟨Nat.le_of_ble_eq_true rfl, Nat.le_of_ble_eq_true rfl⟩) hS (fun q _ h => h.elim) (fun q h => h.elim) (fun r_7 _ t H locs ht hvm hwr_7 hB hz hk hS => ?_)
    have hT : TX E G B R H := hT.kept (fun q hq => hk q hq (fun h => h))
    have hbr_7 : r_7 = 0 ∨ r_7 = 1 := hwr_7.1
    have hp0r_7 : r_7.toInt = 1 ∨ (B (R (R h0 1) 3) 4).toInt ≤ 3 := hwr_7.2.1
    have hCr_7 : C_X5_isFull G B R (R (R h0 1) 3) r_7 := hwr_7.2.2
    have hzr_7 := s_rng hbr_7
    refine lv_if_ne (tgt := 25) hx hb dX3_takesReceives_18 (by decide) (fun c_8 => ?_) (fun c_8 => ?_)
    · simp only [lt_I, le_I, eq_I, i_0, i_1, i_2, i_3, i_4, i_5, i_6, i_7, i_8, i_10, i_12, i_16, i_20, i_23, i_24, i_31, i_32, i_63, i_64, i_m1] at c_8
      refine lv_iconst (v := 0) hx hb dX3_takesReceives_25 (by decide) ?_
      exact W.zret (v := 0) (ty := .boolean) hx hb hr rfl (fun t ht hW9 => ⟨⟨0, (), rfl, ⟨(by decide), (by show (0 : Int32).toInt = 0 ∨ (B (R (R h0 1) 3) 4).toInt ≤ 3; have := i_0; omega), (Or.inr (Or.inl ⟨c_2, r_7, hCr_7, c_8, rfl⟩))⟩, trivial⟩, hS.F ht⟩) hS.2.2 dX3_takesReceives_26
    · simp only [lt_I, le_I, eq_I, i_0, i_1, i_2, i_3, i_4, i_5, i_6, i_7, i_8, i_10, i_12, i_16, i_20, i_23, i_24, i_31, i_32, i_63, i_64, i_m1] at c_8
      refine lv_iconst (v := 1) hx hb dX3_takesReceives_21 (by decide) ?_
      refine lv_goto (tgt := 26) hx hb dX3_takesReceives_22 (by decide) ?_
      exact W.zret (v := 1) (ty := .boolean) hx hb hr rfl (fun t ht hW9 => ⟨⟨1, (), rfl, ⟨(by decide), (by show (1 : Int32).toInt = 0 ∨ (B (R (R h0 1) 3) 4).toInt ≤ 3; have := i_1; omega), (Or.inr (Or.inr ⟨c_2, r_7, hCr_7, c_8, rfl⟩))⟩, trivial⟩, hS.F ht⟩) hS.2.2 dX3_takesReceives_26
theorem dX3_fail_0 : decode cX3_fail 0 = .ok (.aload_n 0, 1) := by decide +kernel
theorem dX3_fail_1 : decode cX3_fail 1 = .ok (.iconst 2, 1) := by decide +kernel
theorem dX3_fail_2 : decode cX3_fail 2 = .ok (.putfield 19, 3) := by decide +kernel
theorem dX3_fail_5 : decode cX3_fail 5 = .ok (.aload_n 0, 1) := by decide +kernel
theorem dX3_fail_6 : decode cX3_fail 6 = .ok (.getfield 9, 3) := by decide +kernel
theorem dX3_fail_9 : decode cX3_fail 9 = .ok (.getfield 38, 3) := by decide +kernel
theorem dX3_fail_12 : decode cX3_fail 12 = .ok (.iload_n 1, 1) := by decide +kernel
theorem dX3_fail_13 : decode cX3_fail 13 = .ok (.invokevirtual 84, 3) := by decide +kernel
theorem dX3_fail_16 : decode cX3_fail 16 = .ok (.aload_n 0, 1) := by decide +kernel
theorem dX3_fail_17 : decode cX3_fail 17 = .ok (.getfield 15, 3) := by decide +kernel
theorem dX3_fail_20 : decode cX3_fail 20 = .ok (.iload_n 2, 1) := by decide +kernel
theorem dX3_fail_21 : decode cX3_fail 21 = .ok (.invokevirtual 87, 3) := by decide +kernel
theorem dX3_fail_24 : decode cX3_fail 24 = .ok (.return_, 1) := by decide +kernel
set_option maxHeartbeats 8000000 in
set_option maxRecDepth 100000 in
theorem x_X3_fail (l : Launch) (E : EE) (z0 : Nat) (G : Nat → Nat) (hGz : ∀ q, G q ≠ 0 → z0 ≤ q) (B : AA) (R : RR) (hW : TW G B R) (h0 : Nat) (p0 : Int32) (p1 : Int32) (hG : G h0 = 8) : Met l yX3_fail [Cond.code yX3_fail cX3_fail 3 none] ({ frames := 4, cells := 0, slots := 0, locals := 89 } : Room) (va_Pc [.ref h0, .int p0, .int p1] (fun U => TX E G B R U.heap ∧ KS E z0 U)) (va_Qv (fun (u : AA) => (TW G u R) ∧ (Fr G ([8, 5, 15, 11, 10] : List Nat) B u) ∧ (C_X3_fail G B R h0 p0 p1 u)) (fun u t => TX E G u R t.heap) (fun q : Nat => G q ∈ ([8, 5, 15, 11, 10] : List Nat))) 0 0 (fun q : Nat => G q ∈ ([8, 5, 15, 11, 10] : List Nat)) := by
  refine Met.ofW (cc := cX3_fail) (maxL := 3) (ret := none) (by decide) rfl ?_
  intro p e s m args below meth c s₁ B9 hml hv
  obtain ⟨rfl, hT, hK⟩ := hv
  have hx := B9.exec
  have hb := B9.bytes
  have hr := B9.returns
  have hts : ∀ w ∈ TS, w.before ([.ref h0, .int p0, .int p1] : List Value).toArray s = true := fun w hw => hK.2.1 w hw _
  have hown : s.vm.findClass RX3 = some m.cls := findClass_of_methodNamed B9.named
  have hlocks := B9.notSynchronized
  have hS : va_S (fun q : Nat => G q ∈ ([8, 5, 15, 11, 10] : List Nat)) s.heap s.heap [] := va_S.rf
  have hAz : ∀ q, (fun q : Nat => G q ∈ ([8, 5, 15, 11, 10] : List Nat)) q → z0 ≤ q := zL hGz (by decide)
  have hW_0 := hW
  have hl := lv_entry ([.ref h0, .int p0, .int p1]) (n := 3) (Nat.le_of_ble_eq_true rfl)
  rw [lg_entry_eq]
  generalize (lg_sl ([.ref h0, .int p0, .int p1]) ++ List.replicate (3 - (lg_sl ([.ref h0, .int p0, .int p1])).length) Slot.unset).toArray = ls at hl ⊢
  have hl : lv_has ls 3 [(0, .ref h0), (1, .int p0), (2, .int p1)] := hl
  refine lv_aload_n hx hb dX3_fail_0 rfl (lv_at hl 0 rfl) ?_
  refine lv_iconst (v := 2) hx hb dX3_fail_1 (by decide) ?_
  have ha_1 := tx_8 hT hG
  refine rr_put (D := DG E) (ci := 3) (v := .int 2) (ty := .int) (C := RX3) (T := TX3) (N := 3) hx hb hts iw_X3 tyX3 tyX3_ok nmX3 hown hK.1 ha_1 hS (by show G h0 ∈ ([8, 5, 15, 11, 10] : List Nat); rw [hG]; decide) rfl 2 (by decide) (hts _ fl_X3_19) (fun _ h9 => h9) rfl (by decide +kernel) rfl rfl (Nat.le_of_ble_eq_true rfl) dX3_fail_2 (fun H locs hn ho hz hS => ?_)
  obtain ⟨B_2, eB_2⟩ : ∃ z : AA, z = uA B h0 (upd (B h0) 2 2) := ⟨_, rfl⟩
  have sB_2 : B_2 h0 2 = 2 := by rw [eB_2, uA_s]; exact upd_s
  have nB_2 : ∀ k, k ≠ 2 → B_2 h0 k = B h0 k := fun k hk => by rw [eB_2, uA_s]; exact upd_n hk
  have fB_2 : ∀ c, G c ≠ 8 → B_2 c = B c := fun c hc => by rw [eB_2]; exact uA_n (fun e => hc (by rw [e]; exact hG))
  have hT : TX E G B_2 R H := by rw [eB_2]; exact hT.w (by rw [hG]; exact hn) ho
  have hWB_2 : TW G B_2 R := by rw [eB_2]; exact hW_0.w (by rw [hG]; exact tw_8 hW_0 hG)
  have hW := hWB_2
  refine lv_aload_n hx hb dX3_fail_5 rfl (lv_at hl 0 rfl) ?_
  have ha_3 := tx_8 hT hG
  have hg_4 : G (R h0 0) = 9 := (tw_8 hW hG).1
  refine va_get (D := DG E) (ci := 3) (v := .ref (R h0 0)) (C := RX3) (T := TX3) (N := 3) hx hb hts iw_X3 hown hK.1 (va_one ha_3) 0 rfl rfl 0 (by decide) (hts _ fl_X3_9) (fun _ h9 => h9) rfl dX3_fail_6 ?_
  have ha_5 := tx_9 hT hg_4
  have hg_6 : G (R (R h0 0) 6) = 11 := (tw_9 hW hg_4).2.2.2
  refine va_get (D := DG E) (ci := 7) (v := .ref (R (R h0 0) 6)) (C := RX7) (T := TX7) (N := 14) hx hb hts iw_X7 hown hK.1 (va_one ha_5) 0 rfl rfl 6 (by decide) (hts _ fl_X3_38) (fun _ h9 => h9) rfl dX3_fail_9 ?_
  refine lv_iload_n hx hb dX3_fail_12 rfl (lv_at hl 1 rfl) ?_
  have ha_7 := tx_11 hT hg_6
  refine va_callv (rnV (fun H => TX E G B_2 R H) (As := [.int p0]) (rest := []) ⟨hx, hb, hml, hown, hts⟩ (x_X5_completeAll l E z0 G hGz B_2 R hW (R (R h0 0) 6) p0 hg_6) (cwV 1 hts (gdV ml_X3_84 im_X5_completeAll se_X5_X5_completeAll in_X5 co_X5_completeAll rfl) rfl rfl rfl (by decide +kernel) ⟨Nat.le_of_ble_eq_true rfl, Nat.le_of_ble_eq_true rfl⟩) hT (fun U hU hW => hK.go hW hS hAz hU) (va_recv hK.1 (va_one ha_7) (ci := 5) (q0 := 0) rfl rfl) rfl rfl hl.1 rfl (lv_room (Nat.le_of_ble_eq_true rfl)) dX3_fail_13 ⟨Nat.le_of_ble_eq_true rfl, Nat.le_of_ble_eq_true rfl⟩) hS (fun q _ h => mL (L' := [5, 15, 11]) (L := [8, 5, 15, 11, 10]) (by decide) h) (fun q h => mL (L' := [5, 15, 11]) (L := [8, 5, 15, 11, 10]) (by decide) h) (fun U_9 t H locs ht hvm hwr_8 hB hz hk hS => ?_)
  have hT : TX E G U_9 R H := by rw [ht] at hB; exact hB
  have hWr_8 : TW G U_9 R := hwr_8.1
  have hW := hWr_8
  have hFr_8 : Fr G [5, 15, 11] B_2 U_9 := hwr_8.2.1
  have hCr_8 : C_X5_completeAll G B_2 R (R (R h0 0) 6) p0 U_9 := hwr_8.2.2
  refine lv_aload_n hx hb dX3_fail_16 rfl (lv_at hl 0 rfl) ?_
  have ha_10 := tx_8 hT hG
  have hg_11 : G (R h0 1) = 10 := (tw_8 hW hG).2
  refine va_get (D := DG E) (ci := 3) (v := .ref (R h0 1)) (C := RX3) (T := TX3) (N := 3) hx hb hts iw_X3 hown hK.1 (va_one ha_10) 0 rfl rfl 1 (by decide) (hts _ fl_X3_15) (fun _ h9 => h9) rfl dX3_fail_17 ?_
  refine lv_iload_n hx hb dX3_fail_20 rfl (lv_at hl 2 rfl) ?_
  have ha_12 := tx_10 hT hg_11
  refine va_callv (rnV (fun H => TX E G U_9 R H) (As := [.int p1]) (rest := []) ⟨hx, hb, hml, hown, hts⟩ (x_X8_completeAll l E z0 G hGz U_9 R hW (R h0 1) p1 hg_11) (cwV 1 hts (gdV ml_X3_87 im_X8_completeAll se_X8_X8_completeAll in_X8 co_X8_completeAll rfl) rfl rfl rfl (by decide +kernel) ⟨Nat.le_of_ble_eq_true rfl, Nat.le_of_ble_eq_true rfl⟩) hT (fun U hU hW => hK.go hW hS hAz hU) (va_recv hK.1 (va_one ha_12) (ci := 8) (q0 := 0) rfl rfl) rfl rfl hl.1 rfl (lv_room (Nat.le_of_ble_eq_true rfl)) dX3_fail_21 ⟨Nat.le_of_ble_eq_true rfl, Nat.le_of_ble_eq_true rfl⟩) hS (fun q _ h => mL (L' := [5, 15, 11, 10]) (L := [8, 5, 15, 11, 10]) (by decide) h) (fun q h => mL (L' := [5, 15, 11, 10]) (L := [8, 5, 15, 11, 10]) (by decide) h) (fun U_14 t H locs ht hvm hwr_13 hB hz hk hS => ?_)
  have hT : TX E G U_14 R H := by rw [ht] at hB; exact hB
  have hWr_13 : TW G U_14 R := hwr_13.1
  have hW := hWr_13
  have hFr_13 : Fr G [5, 15, 11, 10] U_9 U_14 := hwr_13.2.1
  have hCr_13 : C_X8_completeAll G U_9 R (R h0 1) p1 U_14 := hwr_13.2.2
  exact W.vret hx hb hr (fun t ht hW9 => ⟨⟨U_14, rfl, ⟨hW, (Fr.c (Fr.c (Fr.w Fr.rf hG (by decide) eB_2) hFr_8 (by decide)) hFr_13 (by decide)), ⟨B_2, eB_2, U_9, hFr_8, hCr_8, U_14, hFr_13, hCr_13, rfl⟩⟩, (by show TX E G U_14 R t.heap; rw [ht]; exact hT)⟩, hS.F ht⟩) hS.2.2 dX3_fail_24
theorem dX3_failsByTime_0 : decode cX3_failsByTime 0 = .ok (.aload_n 0, 1) := by decide +kernel
theorem dX3_failsByTime_1 : decode cX3_failsByTime 1 = .ok (.getfield 19, 3) := by decide +kernel
theorem dX3_failsByTime_4 : decode cX3_failsByTime 4 = .ok (.iconst 1, 1) := by decide +kernel
theorem dX3_failsByTime_5 : decode cX3_failsByTime 5 = .ok (.if_icmp .ne 13, 3) := by decide +kernel
theorem dX3_failsByTime_8 : decode cX3_failsByTime 8 = .ok (.aload_n 0, 1) := by decide +kernel
theorem dX3_failsByTime_9 : decode cX3_failsByTime 9 = .ok (.getfield 9, 3) := by decide +kernel
theorem dX3_failsByTime_12 : decode cX3_failsByTime 12 = .ok (.invokevirtual 81, 3) := by decide +kernel
theorem dX3_failsByTime_15 : decode cX3_failsByTime 15 = .ok (.ifCond .ne 5, 3) := by decide +kernel
theorem dX3_failsByTime_18 : decode cX3_failsByTime 18 = .ok (.iconst 0, 1) := by decide +kernel
theorem dX3_failsByTime_19 : decode cX3_failsByTime 19 = .ok (.ireturn, 1) := by decide +kernel
theorem dX3_failsByTime_20 : decode cX3_failsByTime 20 = .ok (.aload_n 0, 1) := by decide +kernel
theorem dX3_failsByTime_21 : decode cX3_failsByTime 21 = .ok (.iconst 1, 1) := by decide +kernel
theorem dX3_failsByTime_22 : decode cX3_failsByTime 22 = .ok (.iconst 5, 1) := by decide +kernel
theorem dX3_failsByTime_23 : decode cX3_failsByTime 23 = .ok (.invokevirtual 60, 3) := by decide +kernel
theorem dX3_failsByTime_26 : decode cX3_failsByTime 26 = .ok (.iconst 1, 1) := by decide +kernel
theorem dX3_failsByTime_27 : decode cX3_failsByTime 27 = .ok (.ireturn, 1) := by decide +kernel
set_option maxHeartbeats 8000000 in
set_option maxRecDepth 100000 in
theorem x_X3_failsByTime (l : Launch) (E : EE) (z0 : Nat) (G : Nat → Nat) (hGz : ∀ q, G q ≠ 0 → z0 ≤ q) (B : AA) (R : RR) (hW : TW G B R) (h0 : Nat) (hG : G h0 = 8) : Met l yX3_failsByTime [Cond.code yX3_failsByTime cX3_failsByTime 1 (some .boolean)] ({ frames := 5, cells := 0, slots := 0, locals := 111 } : Room) (va_Pc [.ref h0] (fun U => TX E G B R U.heap ∧ KS E z0 U)) (va_Qi (fun (r : Int32) (u : AA) => (TW G u R) ∧ (Fr G ([8, 5, 15, 11, 10, 9] : List Nat) B u) ∧ (r = 0 ∨ r = 1) ∧ (C_X3_failsByTime G B R h0 u r)) (fun u t => TX E G u R t.heap) (fun q : Nat => G q ∈ ([8, 5, 15, 11, 10, 9] : List Nat))) 0 0 (fun q : Nat => G q ∈ ([8, 5, 15, 11, 10, 9] : List Nat)) := by
  refine Met.ofW (cc := cX3_failsByTime) (maxL := 1) (ret := (some .boolean)) (by decide) rfl ?_
  intro p e s m args below meth c s₁ B9 hml hv
  obtain ⟨rfl, hT, hK⟩ := hv
  have hx := B9.exec
  have hb := B9.bytes
  have hr := B9.returns
  have hts : ∀ w ∈ TS, w.before ([.ref h0] : List Value).toArray s = true := fun w hw => hK.2.1 w hw _
  have hown : s.vm.findClass RX3 = some m.cls := findClass_of_methodNamed B9.named
  have hlocks := B9.notSynchronized
  have hS : va_S (fun q : Nat => G q ∈ ([8, 5, 15, 11, 10, 9] : List Nat)) s.heap s.heap [] := va_S.rf
  have hAz : ∀ q, (fun q : Nat => G q ∈ ([8, 5, 15, 11, 10, 9] : List Nat)) q → z0 ≤ q := zL hGz (by decide)
  have hW_0 := hW
  have hl := lv_entry ([.ref h0]) (n := 1) (Nat.le_of_ble_eq_true rfl)
  rw [lg_entry_eq]
  generalize (lg_sl ([.ref h0]) ++ List.replicate (1 - (lg_sl ([.ref h0])).length) Slot.unset).toArray = ls at hl ⊢
  have hl : lv_has ls 1 [(0, .ref h0)] := hl
  refine lv_aload_n hx hb dX3_failsByTime_0 rfl (lv_at hl 0 rfl) ?_
  have ha_1 := tx_8 hT hG
  refine va_get (D := DG E) (ci := 3) (v := .int (B h0 2)) (C := RX3) (T := TX3) (N := 3) hx hb hts iw_X3 hown hK.1 (va_one ha_1) 0 rfl rfl 2 (by decide) (hts _ fl_X3_19) (fun _ h9 => h9) rfl dX3_failsByTime_1 ?_
  refine lv_iconst (v := 1) hx hb dX3_failsByTime_4 (by decide) ?_
  refine lv_icmp_ne (tgt := 18) hx hb dX3_failsByTime_5 (by decide) (fun c_2 => ?_) (fun c_2 => ?_)
  · simp only [lt_I, le_I, eq_I, i_0, i_1, i_2, i_3, i_4, i_5, i_6, i_7, i_8, i_10, i_12, i_16, i_20, i_23, i_24, i_31, i_32, i_63, i_64, i_m1] at c_2
    refine lv_iconst (v := 0) hx hb dX3_failsByTime_18 (by decide) ?_
    exact W.zret (v := 0) (ty := .boolean) hx hb hr rfl (fun t ht hW9 => ⟨⟨0, B, rfl, ⟨hW, Fr.rf, (by decide), (Or.inl ⟨c_2, rfl, rfl⟩)⟩, (by show TX E G B R t.heap; rw [ht]; exact hT)⟩, hS.F ht⟩) hS.2.2 dX3_failsByTime_19
  · simp only [lt_I, le_I, eq_I, i_0, i_1, i_2, i_3, i_4, i_5, i_6, i_7, i_8, i_10, i_12, i_16, i_20, i_23, i_24, i_31, i_32, i_63, i_64, i_m1] at c_2
    refine lv_aload_n hx hb dX3_failsByTime_8 rfl (lv_at hl 0 rfl) ?_
    have hg_3 : G (R h0 0) = 9 := (tw_8 hW hG).1
    refine va_get (D := DG E) (ci := 3) (v := .ref (R h0 0)) (C := RX3) (T := TX3) (N := 3) hx hb hts iw_X3 hown hK.1 (va_one ha_1) 0 rfl rfl 0 (by decide) (hts _ fl_X3_9) (fun _ h9 => h9) rfl dX3_failsByTime_9 ?_
    have ha_4 := tx_9 hT hg_3
    refine va_calli (rnV (fun H => TX E G B R H) (As := []) (rest := []) ⟨hx, hb, hml, hown, hts⟩ (x_X7_waitsTooLong l E z0 G hGz B R hW (R h0 0) hg_3) (cwV 0 hts (gdV ml_X3_81 im_X7_waitsTooLong se_X7_X7_waitsTooLong in_X7 co_X7_waitsTooLong rfl) rfl rfl rfl (by decide +kernel) ⟨Nat.le_of_ble_eq_true rfl, Nat.le_of_ble_eq_true rfl⟩) hT (fun U hU hW => hK.go hW hS hAz hU) (va_recv hK.1 (va_one ha_4) (ci := 7) (q0 := 0) rfl rfl) rfl rfl hl.1 rfl (lv_room (Nat.le_of_ble_eq_true rfl)) dX3_failsByTime_12 ⟨Nat.le_of_ble_eq_true rfl, Nat.le_of_ble_eq_true rfl⟩) hS (fun q _ h => mL (L' := [9]) (L := [8, 5, 15, 11, 10, 9]) (by decide) h) (fun q h => mL (L' := [9]) (L := [8, 5, 15, 11, 10, 9]) (by decide) h) (fun r_5 U_6 t H locs ht hvm hwr_5 hB hz hk hS => ?_)
    have hT : TX E G U_6 R H := by rw [ht] at hB; exact hB
    have hWr_5 : TW G U_6 R := hwr_5.1
    have hW := hWr_5
    have hFr_5 : Fr G [9] B U_6 := hwr_5.2.1
    have hbr_5 : r_5 = 0 ∨ r_5 = 1 := hwr_5.2.2.1
    have hCr_5 : C_X7_waitsTooLong G B R (R h0 0) U_6 r_5 := hwr_5.2.2.2
    have hzr_5 := s_rng hbr_5
    refine lv_if_ne (tgt := 20) hx hb dX3_failsByTime_15 (by decide) (fun c_7 => ?_) (fun c_7 => ?_)
    · simp only [lt_I, le_I, eq_I, i_0, i_1, i_2, i_3, i_4, i_5, i_6, i_7, i_8, i_10, i_12, i_16, i_20, i_23, i_24, i_31, i_32, i_63, i_64, i_m1] at c_7
      refine lv_aload_n hx hb dX3_failsByTime_20 rfl (lv_at hl 0 rfl) ?_
      refine lv_iconst (v := 1) hx hb dX3_failsByTime_21 (by decide) ?_
      refine lv_iconst (v := 5) hx hb dX3_failsByTime_22 (by decide) ?_
      have ha_8 := tx_8 hT hG
      refine va_callv (rnV (fun H => TX E G U_6 R H) (As := [.int 1, .int 5]) (rest := []) ⟨hx, hb, hml, hown, hts⟩ (x_X3_fail l E z0 G hGz U_6 R hW h0 (1 : Int32) (5 : Int32) hG) (cwV 2 hts (gdV ml_X3_60 im_X3_fail se_X3_X3_fail in_X3 co_X3_fail rfl) rfl rfl rfl (by decide +kernel) ⟨Nat.le_of_ble_eq_true rfl, Nat.le_of_ble_eq_true rfl⟩) hT (fun U hU hW => hK.go hW hS hAz hU) (va_recv hK.1 (va_one ha_8) (ci := 3) (q0 := 0) rfl rfl) rfl rfl hl.1 rfl (lv_room (Nat.le_of_ble_eq_true rfl)) dX3_failsByTime_23 ⟨Nat.le_of_ble_eq_true rfl, Nat.le_of_ble_eq_true rfl⟩) hS (fun q _ h => mL (L' := [8, 5, 15, 11, 10]) (L := [8, 5, 15, 11, 10, 9]) (by decide) h) (fun q h => mL (L' := [8, 5, 15, 11, 10]) (L := [8, 5, 15, 11, 10, 9]) (by decide) h) (fun U_10 t H locs ht hvm hwr_9 hB hz hk hS => ?_)
      have hT : TX E G U_10 R H := by rw [ht] at hB; exact hB
      have hWr_9 : TW G U_10 R := hwr_9.1
      have hW := hWr_9
      have hFr_9 : Fr G [8, 5, 15, 11, 10] U_6 U_10 := hwr_9.2.1
      have hCr_9 : C_X3_fail G U_6 R h0 (1 : Int32) (5 : Int32) U_10 := hwr_9.2.2
      refine lv_iconst (v := 1) hx hb dX3_failsByTime_26 (by decide) ?_
      exact W.zret (v := 1) (ty := .boolean) hx hb hr rfl (fun t ht hW9 => ⟨⟨1, U_10, rfl, ⟨hW, (Fr.c (Fr.c Fr.rf hFr_5 (by decide)) hFr_9 (by decide)), (by decide), (Or.inr (Or.inl ⟨c_2, r_5, U_6, hFr_5, hCr_5, c_7, U_10, hFr_9, hCr_9, rfl, rfl⟩))⟩, (by show TX E G U_10 R t.heap; rw [ht]; exact hT)⟩, hS.F ht⟩) hS.2.2 dX3_failsByTime_27
    · simp only [lt_I, le_I, eq_I, i_0, i_1, i_2, i_3, i_4, i_5, i_6, i_7, i_8, i_10, i_12, i_16, i_20, i_23, i_24, i_31, i_32, i_63, i_64, i_m1] at c_7
      refine lv_iconst (v := 0) hx hb dX3_failsByTime_18 (by decide) ?_
      exact W.zret (v := 0) (ty := .boolean) hx hb hr rfl (fun t ht hW9 => ⟨⟨0, U_6, rfl, ⟨hW, (Fr.c Fr.rf hFr_5 (by decide)), (by decide), (Or.inr (Or.inr ⟨c_2, r_5, U_6, hFr_5, hCr_5, c_7, rfl, rfl⟩))⟩, (by show TX E G U_6 R t.heap; rw [ht]; exact hT)⟩, hS.F ht⟩) hS.2.2 dX3_failsByTime_19
theorem gdX3_takeIn_0 : (decode cX3_takeIn 0 = .ok (.aload_n 0, 1)) ∧ (decode cX3_takeIn 1 = .ok (.getfield 19, 3)) ∧ (decode cX3_takeIn 4 = .ok (.iconst 1, 1)) ∧ (decode cX3_takeIn 5 = .ok (.if_icmp .eq 4, 3)) ∧ (decode cX3_takeIn 8 = .ok (.return_, 1)) ∧ (decode cX3_takeIn 9 = .ok (.aload_n 1, 1)) ∧ (decode cX3_takeIn 10 = .ok (.getfield 51, 3)) ∧ (decode cX3_takeIn 13 = .ok (.iconst 3, 1)) ∧ (decode cX3_takeIn 14 = .ok (.if_icmp .gt 25, 3)) ∧ (decode cX3_takeIn 17 = .ok (.aload_n 0, 1)) ∧ (decode cX3_takeIn 18 = .ok (.getfield 15, 3)) ∧ (decode cX3_takeIn 21 = .ok (.aload_n 1, 1)) ∧ (decode cX3_takeIn 22 = .ok (.invokevirtual 56, 3)) ∧ (decode cX3_takeIn 25 = .ok (.istore_n 2, 1)) ∧ (decode cX3_takeIn 26 = .ok (.iload_n 2, 1)) ∧ (decode cX3_takeIn 27 = .ok (.ifCond .eq 9, 3)) := by decide +kernel
theorem dX3_takeIn_0 : decode cX3_takeIn 0 = .ok (.aload_n 0, 1) := gdX3_takeIn_0.1
theorem dX3_takeIn_1 : decode cX3_takeIn 1 = .ok (.getfield 19, 3) := gdX3_takeIn_0.2.1
theorem dX3_takeIn_4 : decode cX3_takeIn 4 = .ok (.iconst 1, 1) := gdX3_takeIn_0.2.2.1
theorem dX3_takeIn_5 : decode cX3_takeIn 5 = .ok (.if_icmp .eq 4, 3) := gdX3_takeIn_0.2.2.2.1
theorem dX3_takeIn_8 : decode cX3_takeIn 8 = .ok (.return_, 1) := gdX3_takeIn_0.2.2.2.2.1
theorem dX3_takeIn_9 : decode cX3_takeIn 9 = .ok (.aload_n 1, 1) := gdX3_takeIn_0.2.2.2.2.2.1
theorem dX3_takeIn_10 : decode cX3_takeIn 10 = .ok (.getfield 51, 3) := gdX3_takeIn_0.2.2.2.2.2.2.1
theorem dX3_takeIn_13 : decode cX3_takeIn 13 = .ok (.iconst 3, 1) := gdX3_takeIn_0.2.2.2.2.2.2.2.1
theorem dX3_takeIn_14 : decode cX3_takeIn 14 = .ok (.if_icmp .gt 25, 3) := gdX3_takeIn_0.2.2.2.2.2.2.2.2.1
theorem dX3_takeIn_17 : decode cX3_takeIn 17 = .ok (.aload_n 0, 1) := gdX3_takeIn_0.2.2.2.2.2.2.2.2.2.1
theorem dX3_takeIn_18 : decode cX3_takeIn 18 = .ok (.getfield 15, 3) := gdX3_takeIn_0.2.2.2.2.2.2.2.2.2.2.1
theorem dX3_takeIn_21 : decode cX3_takeIn 21 = .ok (.aload_n 1, 1) := gdX3_takeIn_0.2.2.2.2.2.2.2.2.2.2.2.1
theorem dX3_takeIn_22 : decode cX3_takeIn 22 = .ok (.invokevirtual 56, 3) := gdX3_takeIn_0.2.2.2.2.2.2.2.2.2.2.2.2.1
theorem dX3_takeIn_25 : decode cX3_takeIn 25 = .ok (.istore_n 2, 1) := gdX3_takeIn_0.2.2.2.2.2.2.2.2.2.2.2.2.2.1
theorem dX3_takeIn_26 : decode cX3_takeIn 26 = .ok (.iload_n 2, 1) := gdX3_takeIn_0.2.2.2.2.2.2.2.2.2.2.2.2.2.2.1
theorem dX3_takeIn_27 : decode cX3_takeIn 27 = .ok (.ifCond .eq 9, 3) := gdX3_takeIn_0.2.2.2.2.2.2.2.2.2.2.2.2.2.2.2
theorem gdX3_takeIn_30 : (decode cX3_takeIn 30 = .ok (.aload_n 0, 1)) ∧ (decode cX3_takeIn 31 = .ok (.iconst 5, 1)) ∧ (decode cX3_takeIn 32 = .ok (.iload_n 2, 1)) ∧ (decode cX3_takeIn 33 = .ok (.invokevirtual 60, 3)) ∧ (decode cX3_takeIn 36 = .ok (.goto 71, 3)) ∧ (decode cX3_takeIn 39 = .ok (.aload_n 1, 1)) ∧ (decode cX3_takeIn 40 = .ok (.getfield 51, 3)) ∧ (decode cX3_takeIn 43 = .ok (.bipush 6, 2)) ∧ (decode cX3_takeIn 45 = .ok (.if_icmp .ne 32, 3)) ∧ (decode cX3_takeIn 48 = .ok (.aload_n 0, 1)) ∧ (decode cX3_takeIn 49 = .ok (.getfield 9, 3)) ∧ (decode cX3_takeIn 52 = .ok (.aload_n 1, 1)) ∧ (decode cX3_takeIn 53 = .ok (.getfield 64, 3)) ∧ (decode cX3_takeIn 56 = .ok (.aload_n 1, 1)) ∧ (decode cX3_takeIn 57 = .ok (.getfield 67, 3)) ∧ (decode cX3_takeIn 60 = .ok (.invokevirtual 70, 3)) := by decide +kernel
theorem dX3_takeIn_30 : decode cX3_takeIn 30 = .ok (.aload_n 0, 1) := gdX3_takeIn_30.1
theorem dX3_takeIn_31 : decode cX3_takeIn 31 = .ok (.iconst 5, 1) := gdX3_takeIn_30.2.1
theorem dX3_takeIn_32 : decode cX3_takeIn 32 = .ok (.iload_n 2, 1) := gdX3_takeIn_30.2.2.1
theorem dX3_takeIn_33 : decode cX3_takeIn 33 = .ok (.invokevirtual 60, 3) := gdX3_takeIn_30.2.2.2.1
theorem dX3_takeIn_36 : decode cX3_takeIn 36 = .ok (.goto 71, 3) := gdX3_takeIn_30.2.2.2.2.1
theorem dX3_takeIn_39 : decode cX3_takeIn 39 = .ok (.aload_n 1, 1) := gdX3_takeIn_30.2.2.2.2.2.1
theorem dX3_takeIn_40 : decode cX3_takeIn 40 = .ok (.getfield 51, 3) := gdX3_takeIn_30.2.2.2.2.2.2.1
theorem dX3_takeIn_43 : decode cX3_takeIn 43 = .ok (.bipush 6, 2) := gdX3_takeIn_30.2.2.2.2.2.2.2.1
theorem dX3_takeIn_45 : decode cX3_takeIn 45 = .ok (.if_icmp .ne 32, 3) := gdX3_takeIn_30.2.2.2.2.2.2.2.2.1
theorem dX3_takeIn_48 : decode cX3_takeIn 48 = .ok (.aload_n 0, 1) := gdX3_takeIn_30.2.2.2.2.2.2.2.2.2.1
theorem dX3_takeIn_49 : decode cX3_takeIn 49 = .ok (.getfield 9, 3) := gdX3_takeIn_30.2.2.2.2.2.2.2.2.2.2.1
theorem dX3_takeIn_52 : decode cX3_takeIn 52 = .ok (.aload_n 1, 1) := gdX3_takeIn_30.2.2.2.2.2.2.2.2.2.2.2.1
theorem dX3_takeIn_53 : decode cX3_takeIn 53 = .ok (.getfield 64, 3) := gdX3_takeIn_30.2.2.2.2.2.2.2.2.2.2.2.2.1
theorem dX3_takeIn_56 : decode cX3_takeIn 56 = .ok (.aload_n 1, 1) := gdX3_takeIn_30.2.2.2.2.2.2.2.2.2.2.2.2.2.1
theorem dX3_takeIn_57 : decode cX3_takeIn 57 = .ok (.getfield 67, 3) := gdX3_takeIn_30.2.2.2.2.2.2.2.2.2.2.2.2.2.2.1
theorem dX3_takeIn_60 : decode cX3_takeIn 60 = .ok (.invokevirtual 70, 3) := gdX3_takeIn_30.2.2.2.2.2.2.2.2.2.2.2.2.2.2.2
theorem gdX3_takeIn_63 : (decode cX3_takeIn 63 = .ok (.istore_n 2, 1)) ∧ (decode cX3_takeIn 64 = .ok (.iload_n 2, 1)) ∧ (decode cX3_takeIn 65 = .ok (.ifCond .eq 9, 3)) ∧ (decode cX3_takeIn 68 = .ok (.aload_n 0, 1)) ∧ (decode cX3_takeIn 69 = .ok (.iload_n 2, 1)) ∧ (decode cX3_takeIn 70 = .ok (.iconst 5, 1)) ∧ (decode cX3_takeIn 71 = .ok (.invokevirtual 60, 3)) ∧ (decode cX3_takeIn 74 = .ok (.goto 33, 3)) ∧ (decode cX3_takeIn 77 = .ok (.aload_n 1, 1)) ∧ (decode cX3_takeIn 78 = .ok (.getfield 51, 3)) ∧ (decode cX3_takeIn 81 = .ok (.iconst 5, 1)) ∧ (decode cX3_takeIn 82 = .ok (.if_icmp .ne 17, 3)) ∧ (decode cX3_takeIn 85 = .ok (.aload_n 0, 1)) ∧ (decode cX3_takeIn 86 = .ok (.getfield 9, 3)) ∧ (decode cX3_takeIn 89 = .ok (.aload_n 1, 1)) ∧ (decode cX3_takeIn 90 = .ok (.getfield 64, 3)) := by decide +kernel
theorem dX3_takeIn_63 : decode cX3_takeIn 63 = .ok (.istore_n 2, 1) := gdX3_takeIn_63.1
theorem dX3_takeIn_64 : decode cX3_takeIn 64 = .ok (.iload_n 2, 1) := gdX3_takeIn_63.2.1
theorem dX3_takeIn_65 : decode cX3_takeIn 65 = .ok (.ifCond .eq 9, 3) := gdX3_takeIn_63.2.2.1
theorem dX3_takeIn_68 : decode cX3_takeIn 68 = .ok (.aload_n 0, 1) := gdX3_takeIn_63.2.2.2.1
theorem dX3_takeIn_69 : decode cX3_takeIn 69 = .ok (.iload_n 2, 1) := gdX3_takeIn_63.2.2.2.2.1
theorem dX3_takeIn_70 : decode cX3_takeIn 70 = .ok (.iconst 5, 1) := gdX3_takeIn_63.2.2.2.2.2.1
theorem dX3_takeIn_71 : decode cX3_takeIn 71 = .ok (.invokevirtual 60, 3) := gdX3_takeIn_63.2.2.2.2.2.2.1
theorem dX3_takeIn_74 : decode cX3_takeIn 74 = .ok (.goto 33, 3) := gdX3_takeIn_63.2.2.2.2.2.2.2.1
theorem dX3_takeIn_77 : decode cX3_takeIn 77 = .ok (.aload_n 1, 1) := gdX3_takeIn_63.2.2.2.2.2.2.2.2.1
theorem dX3_takeIn_78 : decode cX3_takeIn 78 = .ok (.getfield 51, 3) := gdX3_takeIn_63.2.2.2.2.2.2.2.2.2.1
theorem dX3_takeIn_81 : decode cX3_takeIn 81 = .ok (.iconst 5, 1) := gdX3_takeIn_63.2.2.2.2.2.2.2.2.2.2.1
theorem dX3_takeIn_82 : decode cX3_takeIn 82 = .ok (.if_icmp .ne 17, 3) := gdX3_takeIn_63.2.2.2.2.2.2.2.2.2.2.2.1
theorem dX3_takeIn_85 : decode cX3_takeIn 85 = .ok (.aload_n 0, 1) := gdX3_takeIn_63.2.2.2.2.2.2.2.2.2.2.2.2.1
theorem dX3_takeIn_86 : decode cX3_takeIn 86 = .ok (.getfield 9, 3) := gdX3_takeIn_63.2.2.2.2.2.2.2.2.2.2.2.2.2.1
theorem dX3_takeIn_89 : decode cX3_takeIn 89 = .ok (.aload_n 1, 1) := gdX3_takeIn_63.2.2.2.2.2.2.2.2.2.2.2.2.2.2.1
theorem dX3_takeIn_90 : decode cX3_takeIn 90 = .ok (.getfield 64, 3) := gdX3_takeIn_63.2.2.2.2.2.2.2.2.2.2.2.2.2.2.2
theorem gdX3_takeIn_93 : (decode cX3_takeIn 93 = .ok (.invokevirtual 74, 3)) ∧ (decode cX3_takeIn 96 = .ok (.goto 11, 3)) ∧ (decode cX3_takeIn 99 = .ok (.aload_n 0, 1)) ∧ (decode cX3_takeIn 100 = .ok (.getfield 9, 3)) ∧ (decode cX3_takeIn 103 = .ok (.aload_n 1, 1)) ∧ (decode cX3_takeIn 104 = .ok (.invokevirtual 77, 3)) ∧ (decode cX3_takeIn 107 = .ok (.return_, 1)) := by decide +kernel
theorem dX3_takeIn_93 : decode cX3_takeIn 93 = .ok (.invokevirtual 74, 3) := gdX3_takeIn_93.1
theorem dX3_takeIn_96 : decode cX3_takeIn 96 = .ok (.goto 11, 3) := gdX3_takeIn_93.2.1
theorem dX3_takeIn_99 : decode cX3_takeIn 99 = .ok (.aload_n 0, 1) := gdX3_takeIn_93.2.2.1
theorem dX3_takeIn_100 : decode cX3_takeIn 100 = .ok (.getfield 9, 3) := gdX3_takeIn_93.2.2.2.1
theorem dX3_takeIn_103 : decode cX3_takeIn 103 = .ok (.aload_n 1, 1) := gdX3_takeIn_93.2.2.2.2.1
theorem dX3_takeIn_104 : decode cX3_takeIn 104 = .ok (.invokevirtual 77, 3) := gdX3_takeIn_93.2.2.2.2.2.1
theorem dX3_takeIn_107 : decode cX3_takeIn 107 = .ok (.return_, 1) := gdX3_takeIn_93.2.2.2.2.2.2
set_option maxHeartbeats 8000000 in
set_option maxRecDepth 100000 in
theorem x_X3_takeIn (l : Launch) (E : EE) (z0 : Nat) (G : Nat → Nat) (hGz : ∀ q, G q ≠ 0 → z0 ≤ q) (B : AA) (R : RR) (hW : TW G B R) (h0 : Nat) (p0 : Nat) (hG : G h0 = 8) (hG0 : G p0 = 31) : Met l yX3_takeIn [Cond.code yX3_takeIn cX3_takeIn 3 none] ({ frames := 6, cells := 0, slots := 0, locals := 132 } : Room) (va_Pc [.ref h0, .ref p0] (fun U => TX E G B R U.heap ∧ KS E z0 U)) (va_Qv (fun (u : AA) => (TW G u R) ∧ (Fr G ([8, 9, 10, 4, 31, 32, 14, 13, 5, 15, 11, 16, 17] : List Nat) B u) ∧ (C_X3_takeIn G B R h0 p0 u)) (fun u t => TX E G u R t.heap) (fun q : Nat => G q ∈ ([8, 9, 10, 4, 31, 32, 14, 13, 5, 15, 11, 16, 17] : List Nat))) 0 0 (fun q : Nat => G q ∈ ([8, 9, 10, 4, 31, 32, 14, 13, 5, 15, 11, 16, 17] : List Nat)) := by
  refine Met.ofW (cc := cX3_takeIn) (maxL := 3) (ret := none) (by decide) rfl ?_
  intro p e s m args below meth c s₁ B9 hml hv
  obtain ⟨rfl, hT, hK⟩ := hv
  have hx := B9.exec
  have hb := B9.bytes
  have hr := B9.returns
  have hts : ∀ w ∈ TS, w.before ([.ref h0, .ref p0] : List Value).toArray s = true := fun w hw => hK.2.1 w hw _
  have hown : s.vm.findClass RX3 = some m.cls := findClass_of_methodNamed B9.named
  have hlocks := B9.notSynchronized
  have hS : va_S (fun q : Nat => G q ∈ ([8, 9, 10, 4, 31, 32, 14, 13, 5, 15, 11, 16, 17] : List Nat)) s.heap s.heap [] := va_S.rf
  have hAz : ∀ q, (fun q : Nat => G q ∈ ([8, 9, 10, 4, 31, 32, 14, 13, 5, 15, 11, 16, 17] : List Nat)) q → z0 ≤ q := zL hGz (by decide)
  have hW_0 := hW
  have hl := lv_entry ([.ref h0, .ref p0]) (n := 3) (Nat.le_of_ble_eq_true rfl)
  rw [lg_entry_eq]
  generalize (lg_sl ([.ref h0, .ref p0]) ++ List.replicate (3 - (lg_sl ([.ref h0, .ref p0])).length) Slot.unset).toArray = ls at hl ⊢
  have hl : lv_has ls 3 [(0, .ref h0), (1, .ref p0)] := hl
  refine lv_aload_n hx hb dX3_takeIn_0 rfl (lv_at hl 0 rfl) ?_
  have ha_1 := tx_8 hT hG
  refine va_get (D := DG E) (ci := 3) (v := .int (B h0 2)) (C := RX3) (T := TX3) (N := 3) hx hb hts iw_X3 hown hK.1 (va_one ha_1) 0 rfl rfl 2 (by decide) (hts _ fl_X3_19) (fun _ h9 => h9) rfl dX3_takeIn_1 ?_
  refine lv_iconst (v := 1) hx hb dX3_takeIn_4 (by decide) ?_
  refine lv_icmp_eq (tgt := 9) hx hb dX3_takeIn_5 (by decide) (fun c_2 => ?_) (fun c_2 => ?_)
  · simp only [lt_I, le_I, eq_I, i_0, i_1, i_2, i_3, i_4, i_5, i_6, i_7, i_8, i_10, i_12, i_16, i_20, i_23, i_24, i_31, i_32, i_63, i_64, i_m1] at c_2
    refine lv_aload_n hx hb dX3_takeIn_9 rfl (lv_at hl 1 rfl) ?_
    have ha_3 := tx_31 hT hG0
    refine va_get (D := DG E) (ci := 2) (v := .int (B p0 1)) (C := RX2) (T := TX2) (N := 8) hx hb hts iw_X2 hown hK.1 (va_one ha_3) 0 rfl rfl 1 (by decide) (hts _ fl_X3_51) (fun _ h9 => h9) rfl dX3_takeIn_10 ?_
    refine lv_iconst (v := 3) hx hb dX3_takeIn_13 (by decide) ?_
    refine lv_icmp_gt (tgt := 39) hx hb dX3_takeIn_14 (by decide) (fun c_4 => ?_) (fun c_4 => ?_)
    · simp only [lt_I, le_I, eq_I, i_0, i_1, i_2, i_3, i_4, i_5, i_6, i_7, i_8, i_10, i_12, i_16, i_20, i_23, i_24, i_31, i_32, i_63, i_64, i_m1] at c_4
      refine lv_aload_n hx hb dX3_takeIn_39 rfl (lv_at hl 1 rfl) ?_
      refine va_get (D := DG E) (ci := 2) (v := .int (B p0 1)) (C := RX2) (T := TX2) (N := 8) hx hb hts iw_X2 hown hK.1 (va_one ha_3) 0 rfl rfl 1 (by decide) (hts _ fl_X3_51) (fun _ h9 => h9) rfl dX3_takeIn_40 ?_
      refine lv_bipush (v := 6) hx hb dX3_takeIn_43 (by decide) ?_
      refine lv_icmp_ne (tgt := 77) hx hb dX3_takeIn_45 (by decide) (fun c_5 => ?_) (fun c_5 => ?_)
      · simp only [lt_I, le_I, eq_I, i_0, i_1, i_2, i_3, i_4, i_5, i_6, i_7, i_8, i_10, i_12, i_16, i_20, i_23, i_24, i_31, i_32, i_63, i_64, i_m1] at c_5
        refine lv_aload_n hx hb dX3_takeIn_77 rfl (lv_at hl 1 rfl) ?_
        refine va_get (D := DG E) (ci := 2) (v := .int (B p0 1)) (C := RX2) (T := TX2) (N := 8) hx hb hts iw_X2 hown hK.1 (va_one ha_3) 0 rfl rfl 1 (by decide) (hts _ fl_X3_51) (fun _ h9 => h9) rfl dX3_takeIn_78 ?_
        refine lv_iconst (v := 5) hx hb dX3_takeIn_81 (by decide) ?_
        refine lv_icmp_ne (tgt := 99) hx hb dX3_takeIn_82 (by decide) (fun c_6 => ?_) (fun c_6 => ?_)
        · simp only [lt_I, le_I, eq_I, i_0, i_1, i_2, i_3, i_4, i_5, i_6, i_7, i_8, i_10, i_12, i_16, i_20, i_23, i_24, i_31, i_32, i_63, i_64, i_m1] at c_6
          refine lv_aload_n hx hb dX3_takeIn_99 rfl (lv_at hl 0 rfl) ?_
          have hg_7 : G (R h0 0) = 9 := (tw_8 hW hG).1
          refine va_get (D := DG E) (ci := 3) (v := .ref (R h0 0)) (C := RX3) (T := TX3) (N := 3) hx hb hts iw_X3 hown hK.1 (va_one ha_1) 0 rfl rfl 0 (by decide) (hts _ fl_X3_9) (fun _ h9 => h9) rfl dX3_takeIn_100 ?_
          refine lv_aload_n hx hb dX3_takeIn_103 rfl (lv_at hl 1 rfl) ?_
          have ha_8 := tx_9 hT hg_7
          refine va_callv (rnV (fun H => TX E G B R H) (As := [.ref p0]) (rest := []) ⟨hx, hb, hml, hown, hts⟩ (x_X7_takeReply l E z0 G hGz B R hW (R h0 0) p0 hg_7 hG0) (cwV 1 hts (gdV ml_X3_77 im_X7_takeReply se_X7_X7_takeReply in_X7 co_X7_takeReply rfl) rfl rfl rfl (by decide +kernel) ⟨Nat.le_of_ble_eq_true rfl, Nat.le_of_ble_eq_true rfl⟩) hT (fun U hU hW => hK.go hW hS hAz hU) (va_recv hK.1 (va_one ha_8) (ci := 7) (q0 := 0) rfl rfl) rfl rfl hl.1 rfl (lv_room (Nat.le_of_ble_eq_true rfl)) dX3_takeIn_104 ⟨Nat.le_of_ble_eq_true rfl, Nat.le_of_ble_eq_true rfl⟩) hS (fun q _ h => mL (L' := [14, 9, 11, 5, 15]) (L := [8, 9, 10, 4, 31, 32, 14, 13, 5, 15, 11, 16, 17]) (by decide) h) (fun q h => mL (L' := [14, 9, 11, 5, 15]) (L := [8, 9, 10, 4, 31, 32, 14, 13, 5, 15, 11, 16, 17]) (by decide) h) (fun U_10 t H locs ht hvm hwr_9 hB hz hk hS => ?_)
          have hT : TX E G U_10 R H := by rw [ht] at hB; exact hB
          have hWr_9 : TW G U_10 R := hwr_9.1
          have hW := hWr_9
          have hFr_9 : Fr G [14, 9, 11, 5, 15] B U_10 := hwr_9.2.1
          have hCr_9 : C_X7_takeReply G B R (R h0 0) p0 U_10 := hwr_9.2.2
          exact W.vret hx hb hr (fun t ht hW9 => ⟨⟨U_10, rfl, ⟨hW, (Fr.c Fr.rf hFr_9 (by decide)), (Or.inl ⟨c_2, c_4, c_5, c_6, U_10, hFr_9, hCr_9, rfl⟩)⟩, (by show TX E G U_10 R t.heap; rw [ht]; exact hT)⟩, hS.F ht⟩) hS.2.2 dX3_takeIn_107
        · simp only [lt_I, le_I, eq_I, i_0, i_1, i_2, i_3, i_4, i_5, i_6, i_7, i_8, i_10, i_12, i_16, i_20, i_23, i_24, i_31, i_32, i_63, i_64, i_m1] at c_6
          refine lv_aload_n hx hb dX3_takeIn_85 rfl (lv_at hl 0 rfl) ?_
          have hg_11 : G (R h0 0) = 9 := (tw_8 hW hG).1
          refine va_get (D := DG E) (ci := 3) (v := .ref (R h0 0)) (C := RX3) (T := TX3) (N := 3) hx hb hts iw_X3 hown hK.1 (va_one ha_1) 0 rfl rfl 0 (by decide) (hts _ fl_X3_9) (fun _ h9 => h9) rfl dX3_takeIn_86 ?_
          refine lv_aload_n hx hb dX3_takeIn_89 rfl (lv_at hl 1 rfl) ?_
          refine va_get (D := DG E) (ci := 2) (v := .int (B p0 2)) (C := RX2) (T := TX2) (N := 8) hx hb hts iw_X2 hown hK.1 (va_one ha_3) 0 rfl rfl 2 (by decide) (hts _ fl_X3_64) (fun _ h9 => h9) rfl dX3_takeIn_90 ?_
          have ha_12 := tx_9 hT hg_11
          refine va_callv (rnV (fun H => TX E G B R H) (As := [.int (B p0 2)]) (rest := []) ⟨hx, hb, hml, hown, hts⟩ (x_X7_takeAck l E z0 G hGz B R hW (R h0 0) (B p0 2) hg_11) (cwV 1 hts (gdV ml_X3_74 im_X7_takeAck se_X7_X7_takeAck in_X7 co_X7_takeAck rfl) rfl rfl rfl (by decide +kernel) ⟨Nat.le_of_ble_eq_true rfl, Nat.le_of_ble_eq_true rfl⟩) hT (fun U hU hW => hK.go hW hS hAz hU) (va_recv hK.1 (va_one ha_12) (ci := 7) (q0 := 0) rfl rfl) rfl rfl hl.1 rfl (lv_room (Nat.le_of_ble_eq_true rfl)) dX3_takeIn_93 ⟨Nat.le_of_ble_eq_true rfl, Nat.le_of_ble_eq_true rfl⟩) hS (fun q _ h => mL (L' := [9, 11, 5, 15]) (L := [8, 9, 10, 4, 31, 32, 14, 13, 5, 15, 11, 16, 17]) (by decide) h) (fun q h => mL (L' := [9, 11, 5, 15]) (L := [8, 9, 10, 4, 31, 32, 14, 13, 5, 15, 11, 16, 17]) (by decide) h) (fun U_14 t H locs ht hvm hwr_13 hB hz hk hS => ?_)
          have hT : TX E G U_14 R H := by rw [ht] at hB; exact hB
          have hWr_13 : TW G U_14 R := hwr_13.1
          have hW := hWr_13
          have hFr_13 : Fr G [9, 11, 5, 15] B U_14 := hwr_13.2.1
          have hCr_13 : C_X7_takeAck G B R (R h0 0) (B p0 2) U_14 := hwr_13.2.2
          refine lv_goto (tgt := 107) hx hb dX3_takeIn_96 (by decide) ?_
          exact W.vret hx hb hr (fun t ht hW9 => ⟨⟨U_14, rfl, ⟨hW, (Fr.c Fr.rf hFr_13 (by decide)), (Or.inr (Or.inl ⟨c_2, c_4, c_5, c_6, U_14, hFr_13, hCr_13, rfl⟩))⟩, (by show TX E G U_14 R t.heap; rw [ht]; exact hT)⟩, hS.F ht⟩) hS.2.2 dX3_takeIn_107
      · simp only [lt_I, le_I, eq_I, i_0, i_1, i_2, i_3, i_4, i_5, i_6, i_7, i_8, i_10, i_12, i_16, i_20, i_23, i_24, i_31, i_32, i_63, i_64, i_m1] at c_5
        refine lv_aload_n hx hb dX3_takeIn_48 rfl (lv_at hl 0 rfl) ?_
        have hg_15 : G (R h0 0) = 9 := (tw_8 hW hG).1
        refine va_get (D := DG E) (ci := 3) (v := .ref (R h0 0)) (C := RX3) (T := TX3) (N := 3) hx hb hts iw_X3 hown hK.1 (va_one ha_1) 0 rfl rfl 0 (by decide) (hts _ fl_X3_9) (fun _ h9 => h9) rfl dX3_takeIn_49 ?_
        refine lv_aload_n hx hb dX3_takeIn_52 rfl (lv_at hl 1 rfl) ?_
        refine va_get (D := DG E) (ci := 2) (v := .int (B p0 2)) (C := RX2) (T := TX2) (N := 8) hx hb hts iw_X2 hown hK.1 (va_one ha_3) 0 rfl rfl 2 (by decide) (hts _ fl_X3_64) (fun _ h9 => h9) rfl dX3_takeIn_53 ?_
        refine lv_aload_n hx hb dX3_takeIn_56 rfl (lv_at hl 1 rfl) ?_
        refine va_get (D := DG E) (ci := 2) (v := .int (B p0 4)) (C := RX2) (T := TX2) (N := 8) hx hb hts iw_X2 hown hK.1 (va_one ha_3) 0 rfl rfl 4 (by decide) (hts _ fl_X3_67) (fun _ h9 => h9) rfl dX3_takeIn_57 ?_
        have ha_16 := tx_9 hT hg_15
        refine va_calli (rnV (fun H => TX E G B R H) (As := [.int (B p0 2), .int (B p0 4)]) (rest := []) ⟨hx, hb, hml, hown, hts⟩ (x_X7_takeNak l E z0 G hGz B R hW (R h0 0) (B p0 2) (B p0 4) hg_15) (cwV 2 hts (gdV ml_X3_70 im_X7_takeNak se_X7_X7_takeNak in_X7 co_X7_takeNak rfl) rfl rfl rfl (by decide +kernel) ⟨Nat.le_of_ble_eq_true rfl, Nat.le_of_ble_eq_true rfl⟩) hT (fun U hU hW => hK.go hW hS hAz hU) (va_recv hK.1 (va_one ha_16) (ci := 7) (q0 := 0) rfl rfl) rfl rfl hl.1 rfl (lv_room (Nat.le_of_ble_eq_true rfl)) dX3_takeIn_60 ⟨Nat.le_of_ble_eq_true rfl, Nat.le_of_ble_eq_true rfl⟩) hS (fun q _ h => mL (L' := [9, 11, 5, 15]) (L := [8, 9, 10, 4, 31, 32, 14, 13, 5, 15, 11, 16, 17]) (by decide) h) (fun q h => mL (L' := [9, 11, 5, 15]) (L := [8, 9, 10, 4, 31, 32, 14, 13, 5, 15, 11, 16, 17]) (by decide) h) (fun r_17 U_18 t H locs ht hvm hwr_17 hB hz hk hS => ?_)
        have hT : TX E G U_18 R H := by rw [ht] at hB; exact hB
        have hWr_17 : TW G U_18 R := hwr_17.1
        have hW := hWr_17
        have hFr_17 : Fr G [9, 11, 5, 15] B U_18 := hwr_17.2.1
        have hCr_17 : C_X7_takeNak G B R (R h0 0) (B p0 2) (B p0 4) U_18 r_17 := hwr_17.2.2
        refine lv_istore_n (lv' := [(2, .int r_17), (0, .ref h0), (1, .ref p0)]) hx hb dX3_takeIn_63 rfl hl (by decide) rfl (fun ls hl => ?_)
        refine lv_iload_n hx hb dX3_takeIn_64 rfl (lv_at hl 0 rfl) ?_
        refine lv_if_eq (tgt := 74) hx hb dX3_takeIn_65 (by decide) (fun c_19 => ?_) (fun c_19 => ?_)
        · simp only [lt_I, le_I, eq_I, i_0, i_1, i_2, i_3, i_4, i_5, i_6, i_7, i_8, i_10, i_12, i_16, i_20, i_23, i_24, i_31, i_32, i_63, i_64, i_m1] at c_19
          refine lv_goto (tgt := 107) hx hb dX3_takeIn_74 (by decide) ?_
          exact W.vret hx hb hr (fun t ht hW9 => ⟨⟨U_18, rfl, ⟨hW, (Fr.c Fr.rf hFr_17 (by decide)), (Or.inr (Or.inr (Or.inl ⟨c_2, c_4, c_5, r_17, U_18, hFr_17, hCr_17, c_19, rfl⟩)))⟩, (by show TX E G U_18 R t.heap; rw [ht]; exact hT)⟩, hS.F ht⟩) hS.2.2 dX3_takeIn_107
        · simp only [lt_I, le_I, eq_I, i_0, i_1, i_2, i_3, i_4, i_5, i_6, i_7, i_8, i_10, i_12, i_16, i_20, i_23, i_24, i_31, i_32, i_63, i_64, i_m1] at c_19
          refine lv_aload_n hx hb dX3_takeIn_68 rfl (lv_at hl 1 rfl) ?_
          refine lv_iload_n hx hb dX3_takeIn_69 rfl (lv_at hl 0 rfl) ?_
          refine lv_iconst (v := 5) hx hb dX3_takeIn_70 (by decide) ?_
          have ha_20 := tx_8 hT hG
          refine va_callv (rnV (fun H => TX E G U_18 R H) (As := [.int r_17, .int 5]) (rest := []) ⟨hx, hb, hml, hown, hts⟩ (x_X3_fail l E z0 G hGz U_18 R hW h0 r_17 (5 : Int32) hG) (cwV 2 hts (gdV ml_X3_60 im_X3_fail se_X3_X3_fail in_X3 co_X3_fail rfl) rfl rfl rfl (by decide +kernel) ⟨Nat.le_of_ble_eq_true rfl, Nat.le_of_ble_eq_true rfl⟩) hT (fun U hU hW => hK.go hW hS hAz hU) (va_recv hK.1 (va_one ha_20) (ci := 3) (q0 := 0) rfl rfl) rfl rfl hl.1 rfl (lv_room (Nat.le_of_ble_eq_true rfl)) dX3_takeIn_71 ⟨Nat.le_of_ble_eq_true rfl, Nat.le_of_ble_eq_true rfl⟩) hS (fun q _ h => mL (L' := [8, 5, 15, 11, 10]) (L := [8, 9, 10, 4, 31, 32, 14, 13, 5, 15, 11, 16, 17]) (by decide) h) (fun q h => mL (L' := [8, 5, 15, 11, 10]) (L := [8, 9, 10, 4, 31, 32, 14, 13, 5, 15, 11, 16, 17]) (by decide) h) (fun U_22 t H locs ht hvm hwr_21 hB hz hk hS => ?_)
          have hT : TX E G U_22 R H := by rw [ht] at hB; exact hB
          have hWr_21 : TW G U_22 R := hwr_21.1
          have hW := hWr_21
          have hFr_21 : Fr G [8, 5, 15, 11, 10] U_18 U_22 := hwr_21.2.1
          have hCr_21 : C_X3_fail G U_18 R h0 r_17 (5 : Int32) U_22 := hwr_21.2.2
          refine lv_goto (tgt := 107) hx hb dX3_takeIn_74 (by decide) ?_
          exact W.vret hx hb hr (fun t ht hW9 => ⟨⟨U_22, rfl, ⟨hW, (Fr.c (Fr.c Fr.rf hFr_17 (by decide)) hFr_21 (by decide)), (Or.inr (Or.inr (Or.inr (Or.inl ⟨c_2, c_4, c_5, r_17, U_18, hFr_17, hCr_17, c_19, U_22, hFr_21, hCr_21, rfl⟩))))⟩, (by show TX E G U_22 R t.heap; rw [ht]; exact hT)⟩, hS.F ht⟩) hS.2.2 dX3_takeIn_107
    · simp only [lt_I, le_I, eq_I, i_0, i_1, i_2, i_3, i_4, i_5, i_6, i_7, i_8, i_10, i_12, i_16, i_20, i_23, i_24, i_31, i_32, i_63, i_64, i_m1] at c_4
      refine lv_aload_n hx hb dX3_takeIn_17 rfl (lv_at hl 0 rfl) ?_
      have hg_23 : G (R h0 1) = 10 := (tw_8 hW hG).2
      refine va_get (D := DG E) (ci := 3) (v := .ref (R h0 1)) (C := RX3) (T := TX3) (N := 3) hx hb hts iw_X3 hown hK.1 (va_one ha_1) 0 rfl rfl 1 (by decide) (hts _ fl_X3_15) (fun _ h9 => h9) rfl dX3_takeIn_18 ?_
      refine lv_aload_n hx hb dX3_takeIn_21 rfl (lv_at hl 1 rfl) ?_
      have ha_24 := tx_10 hT hg_23
      refine va_calli (rnV (fun H => TX E G B R H) (As := [.ref p0]) (rest := []) ⟨hx, hb, hml, hown, hts⟩ (x_X8_takeIn l E z0 G hGz B R hW (R h0 1) p0 hg_23 hG0) (cwV 1 hts (gdV ml_X3_56 im_X8_takeIn se_X8_X8_takeIn in_X8 co_X8_takeIn rfl) rfl rfl rfl (by decide +kernel) ⟨Nat.le_of_ble_eq_true rfl, Nat.le_of_ble_eq_true rfl⟩) hT (fun U hU hW => hK.go hW hS hAz hU) (va_recv hK.1 (va_one ha_24) (ci := 8) (q0 := 0) rfl rfl) rfl rfl hl.1 rfl (lv_room (Nat.le_of_ble_eq_true rfl)) dX3_takeIn_22 ⟨Nat.le_of_ble_eq_true rfl, Nat.le_of_ble_eq_true rfl⟩) hS (fun q _ h => mL (L' := [10, 4, 31, 32, 14, 13, 5, 15, 11, 16, 17]) (L := [8, 9, 10, 4, 31, 32, 14, 13, 5, 15, 11, 16, 17]) (by decide) h) (fun q h => mL (L' := [10, 4, 31, 32, 14, 13, 5, 15, 11, 16, 17]) (L := [8, 9, 10, 4, 31, 32, 14, 13, 5, 15, 11, 16, 17]) (by decide) h) (fun r_25 U_26 t H locs ht hvm hwr_25 hB hz hk hS => ?_)
      have hT : TX E G U_26 R H := by rw [ht] at hB; exact hB
      have hWr_25 : TW G U_26 R := hwr_25.1
      have hW := hWr_25
      have hFr_25 : Fr G [10, 4, 31, 32, 14, 13, 5, 15, 11, 16, 17] B U_26 := hwr_25.2.1
      have hCr_25 : C_X8_takeIn G B R (R h0 1) p0 U_26 r_25 := hwr_25.2.2
      refine lv_istore_n (lv' := [(2, .int r_25), (0, .ref h0), (1, .ref p0)]) hx hb dX3_takeIn_25 rfl hl (by decide) rfl (fun ls hl => ?_)
      refine lv_iload_n hx hb dX3_takeIn_26 rfl (lv_at hl 0 rfl) ?_
      refine lv_if_eq (tgt := 36) hx hb dX3_takeIn_27 (by decide) (fun c_27 => ?_) (fun c_27 => ?_)
      · simp only [lt_I, le_I, eq_I, i_0, i_1, i_2, i_3, i_4, i_5, i_6, i_7, i_8, i_10, i_12, i_16, i_20, i_23, i_24, i_31, i_32, i_63, i_64, i_m1] at c_27
        refine lv_goto (tgt := 107) hx hb dX3_takeIn_36 (by decide) ?_
        exact W.vret hx hb hr (fun t ht hW9 => ⟨⟨U_26, rfl, ⟨hW, (Fr.c Fr.rf hFr_25 (by decide)), (Or.inr (Or.inr (Or.inr (Or.inr (Or.inl ⟨c_2, c_4, r_25, U_26, hFr_25, hCr_25, c_27, rfl⟩)))))⟩, (by show TX E G U_26 R t.heap; rw [ht]; exact hT)⟩, hS.F ht⟩) hS.2.2 dX3_takeIn_107
      · simp only [lt_I, le_I, eq_I, i_0, i_1, i_2, i_3, i_4, i_5, i_6, i_7, i_8, i_10, i_12, i_16, i_20, i_23, i_24, i_31, i_32, i_63, i_64, i_m1] at c_27
        refine lv_aload_n hx hb dX3_takeIn_30 rfl (lv_at hl 1 rfl) ?_
        refine lv_iconst (v := 5) hx hb dX3_takeIn_31 (by decide) ?_
        refine lv_iload_n hx hb dX3_takeIn_32 rfl (lv_at hl 0 rfl) ?_
        have ha_28 := tx_8 hT hG
        refine va_callv (rnV (fun H => TX E G U_26 R H) (As := [.int 5, .int r_25]) (rest := []) ⟨hx, hb, hml, hown, hts⟩ (x_X3_fail l E z0 G hGz U_26 R hW h0 (5 : Int32) r_25 hG) (cwV 2 hts (gdV ml_X3_60 im_X3_fail se_X3_X3_fail in_X3 co_X3_fail rfl) rfl rfl rfl (by decide +kernel) ⟨Nat.le_of_ble_eq_true rfl, Nat.le_of_ble_eq_true rfl⟩) hT (fun U hU hW => hK.go hW hS hAz hU) (va_recv hK.1 (va_one ha_28) (ci := 3) (q0 := 0) rfl rfl) rfl rfl hl.1 rfl (lv_room (Nat.le_of_ble_eq_true rfl)) dX3_takeIn_33 ⟨Nat.le_of_ble_eq_true rfl, Nat.le_of_ble_eq_true rfl⟩) hS (fun q _ h => mL (L' := [8, 5, 15, 11, 10]) (L := [8, 9, 10, 4, 31, 32, 14, 13, 5, 15, 11, 16, 17]) (by decide) h) (fun q h => mL (L' := [8, 5, 15, 11, 10]) (L := [8, 9, 10, 4, 31, 32, 14, 13, 5, 15, 11, 16, 17]) (by decide) h) (fun U_30 t H locs ht hvm hwr_29 hB hz hk hS => ?_)
        have hT : TX E G U_30 R H := by rw [ht] at hB; exact hB
        have hWr_29 : TW G U_30 R := hwr_29.1
        have hW := hWr_29
        have hFr_29 : Fr G [8, 5, 15, 11, 10] U_26 U_30 := hwr_29.2.1
        have hCr_29 : C_X3_fail G U_26 R h0 (5 : Int32) r_25 U_30 := hwr_29.2.2
        refine lv_goto (tgt := 107) hx hb dX3_takeIn_36 (by decide) ?_
        exact W.vret hx hb hr (fun t ht hW9 => ⟨⟨U_30, rfl, ⟨hW, (Fr.c (Fr.c Fr.rf hFr_25 (by decide)) hFr_29 (by decide)), (Or.inr (Or.inr (Or.inr (Or.inr (Or.inr (Or.inl ⟨c_2, c_4, r_25, U_26, hFr_25, hCr_25, c_27, U_30, hFr_29, hCr_29, rfl⟩))))))⟩, (by show TX E G U_30 R t.heap; rw [ht]; exact hT)⟩, hS.F ht⟩) hS.2.2 dX3_takeIn_107
  · simp only [lt_I, le_I, eq_I, i_0, i_1, i_2, i_3, i_4, i_5, i_6, i_7, i_8, i_10, i_12, i_16, i_20, i_23, i_24, i_31, i_32, i_63, i_64, i_m1] at c_2
    exact W.vret hx hb hr (fun t ht hW9 => ⟨⟨B, rfl, ⟨hW, Fr.rf, (Or.inr (Or.inr (Or.inr (Or.inr (Or.inr (Or.inr ⟨c_2, rfl⟩))))))⟩, (by show TX E G B R t.heap; rw [ht]; exact hT)⟩, hS.F ht⟩) hS.2.2 dX3_takeIn_8
theorem gdX3_tell_0 : (decode cX3_tell 0 = .ok (.iload_n 1, 1)) ∧ (decode cX3_tell 1 = .ok (.iconst 1, 1)) ∧ (decode cX3_tell 2 = .ok (.if_icmp .lt 18, 3)) ∧ (decode cX3_tell 5 = .ok (.iload_n 1, 1)) ∧ (decode cX3_tell 6 = .ok (.iconst 4, 1)) ∧ (decode cX3_tell 7 = .ok (.if_icmp .gt 13, 3)) ∧ (decode cX3_tell 10 = .ok (.aload_n 0, 1)) ∧ (decode cX3_tell 11 = .ok (.getfield 19, 3)) ∧ (decode cX3_tell 14 = .ok (.iconst 1, 1)) ∧ (decode cX3_tell 15 = .ok (.if_icmp .eq 5, 3)) ∧ (decode cX3_tell 18 = .ok (.iconst (-1), 1)) ∧ (decode cX3_tell 19 = .ok (.ireturn, 1)) ∧ (decode cX3_tell 20 = .ok (.iload_n 1, 1)) ∧ (decode cX3_tell 21 = .ok (.tableswitch 122 0 7 #[47, 52, 60, 68, 76, 84, 95, 106], 47)) ∧ (decode cX3_tell 68 = .ok (.aload_n 0, 1)) ∧ (decode cX3_tell 69 = .ok (.getfield 19, 3)) := by decide +kernel
theorem dX3_tell_0 : decode cX3_tell 0 = .ok (.iload_n 1, 1) := gdX3_tell_0.1
theorem dX3_tell_1 : decode cX3_tell 1 = .ok (.iconst 1, 1) := gdX3_tell_0.2.1
theorem dX3_tell_2 : decode cX3_tell 2 = .ok (.if_icmp .lt 18, 3) := gdX3_tell_0.2.2.1
theorem dX3_tell_5 : decode cX3_tell 5 = .ok (.iload_n 1, 1) := gdX3_tell_0.2.2.2.1
theorem dX3_tell_6 : decode cX3_tell 6 = .ok (.iconst 4, 1) := gdX3_tell_0.2.2.2.2.1
theorem dX3_tell_7 : decode cX3_tell 7 = .ok (.if_icmp .gt 13, 3) := gdX3_tell_0.2.2.2.2.2.1
theorem dX3_tell_10 : decode cX3_tell 10 = .ok (.aload_n 0, 1) := gdX3_tell_0.2.2.2.2.2.2.1
theorem dX3_tell_11 : decode cX3_tell 11 = .ok (.getfield 19, 3) := gdX3_tell_0.2.2.2.2.2.2.2.1
theorem dX3_tell_14 : decode cX3_tell 14 = .ok (.iconst 1, 1) := gdX3_tell_0.2.2.2.2.2.2.2.2.1
theorem dX3_tell_15 : decode cX3_tell 15 = .ok (.if_icmp .eq 5, 3) := gdX3_tell_0.2.2.2.2.2.2.2.2.2.1
theorem dX3_tell_18 : decode cX3_tell 18 = .ok (.iconst (-1), 1) := gdX3_tell_0.2.2.2.2.2.2.2.2.2.2.1
theorem dX3_tell_19 : decode cX3_tell 19 = .ok (.ireturn, 1) := gdX3_tell_0.2.2.2.2.2.2.2.2.2.2.2.1
theorem dX3_tell_20 : decode cX3_tell 20 = .ok (.iload_n 1, 1) := gdX3_tell_0.2.2.2.2.2.2.2.2.2.2.2.2.1
theorem dX3_tell_21 : decode cX3_tell 21 = .ok (.tableswitch 122 0 7 #[47, 52, 60, 68, 76, 84, 95, 106], 47) := gdX3_tell_0.2.2.2.2.2.2.2.2.2.2.2.2.2.1
theorem dX3_tell_68 : decode cX3_tell 68 = .ok (.aload_n 0, 1) := gdX3_tell_0.2.2.2.2.2.2.2.2.2.2.2.2.2.2.1
theorem dX3_tell_69 : decode cX3_tell 69 = .ok (.getfield 19, 3) := gdX3_tell_0.2.2.2.2.2.2.2.2.2.2.2.2.2.2.2
theorem gdX3_tell_72 : (decode cX3_tell 72 = .ok (.ireturn, 1)) ∧ (decode cX3_tell 73 = .ok (.aload_n 0, 1)) ∧ (decode cX3_tell 74 = .ok (.getfield 9, 3)) ∧ (decode cX3_tell 77 = .ok (.getfield 88, 3)) ∧ (decode cX3_tell 80 = .ok (.ireturn, 1)) ∧ (decode cX3_tell 81 = .ok (.aload_n 0, 1)) ∧ (decode cX3_tell 82 = .ok (.getfield 9, 3)) ∧ (decode cX3_tell 85 = .ok (.getfield 91, 3)) ∧ (decode cX3_tell 88 = .ok (.ireturn, 1)) ∧ (decode cX3_tell 89 = .ok (.aload_n 0, 1)) ∧ (decode cX3_tell 90 = .ok (.getfield 9, 3)) ∧ (decode cX3_tell 93 = .ok (.getfield 94, 3)) ∧ (decode cX3_tell 96 = .ok (.ireturn, 1)) ∧ (decode cX3_tell 97 = .ok (.aload_n 0, 1)) ∧ (decode cX3_tell 98 = .ok (.getfield 15, 3)) ∧ (decode cX3_tell 101 = .ok (.getfield 35, 3)) := by decide +kernel
theorem dX3_tell_72 : decode cX3_tell 72 = .ok (.ireturn, 1) := gdX3_tell_72.1
theorem dX3_tell_73 : decode cX3_tell 73 = .ok (.aload_n 0, 1) := gdX3_tell_72.2.1
theorem dX3_tell_74 : decode cX3_tell 74 = .ok (.getfield 9, 3) := gdX3_tell_72.2.2.1
theorem dX3_tell_77 : decode cX3_tell 77 = .ok (.getfield 88, 3) := gdX3_tell_72.2.2.2.1
theorem dX3_tell_80 : decode cX3_tell 80 = .ok (.ireturn, 1) := gdX3_tell_72.2.2.2.2.1
theorem dX3_tell_81 : decode cX3_tell 81 = .ok (.aload_n 0, 1) := gdX3_tell_72.2.2.2.2.2.1
theorem dX3_tell_82 : decode cX3_tell 82 = .ok (.getfield 9, 3) := gdX3_tell_72.2.2.2.2.2.2.1
theorem dX3_tell_85 : decode cX3_tell 85 = .ok (.getfield 91, 3) := gdX3_tell_72.2.2.2.2.2.2.2.1
theorem dX3_tell_88 : decode cX3_tell 88 = .ok (.ireturn, 1) := gdX3_tell_72.2.2.2.2.2.2.2.2.1
theorem dX3_tell_89 : decode cX3_tell 89 = .ok (.aload_n 0, 1) := gdX3_tell_72.2.2.2.2.2.2.2.2.2.1
theorem dX3_tell_90 : decode cX3_tell 90 = .ok (.getfield 9, 3) := gdX3_tell_72.2.2.2.2.2.2.2.2.2.2.1
theorem dX3_tell_93 : decode cX3_tell 93 = .ok (.getfield 94, 3) := gdX3_tell_72.2.2.2.2.2.2.2.2.2.2.2.1
theorem dX3_tell_96 : decode cX3_tell 96 = .ok (.ireturn, 1) := gdX3_tell_72.2.2.2.2.2.2.2.2.2.2.2.2.1
theorem dX3_tell_97 : decode cX3_tell 97 = .ok (.aload_n 0, 1) := gdX3_tell_72.2.2.2.2.2.2.2.2.2.2.2.2.2.1
theorem dX3_tell_98 : decode cX3_tell 98 = .ok (.getfield 15, 3) := gdX3_tell_72.2.2.2.2.2.2.2.2.2.2.2.2.2.2.1
theorem dX3_tell_101 : decode cX3_tell 101 = .ok (.getfield 35, 3) := gdX3_tell_72.2.2.2.2.2.2.2.2.2.2.2.2.2.2.2
theorem gdX3_tell_104 : (decode cX3_tell 104 = .ok (.ireturn, 1)) ∧ (decode cX3_tell 105 = .ok (.aload_n 0, 1)) ∧ (decode cX3_tell 106 = .ok (.getfield 9, 3)) ∧ (decode cX3_tell 109 = .ok (.getfield 38, 3)) ∧ (decode cX3_tell 112 = .ok (.getfield 97, 3)) ∧ (decode cX3_tell 115 = .ok (.ireturn, 1)) ∧ (decode cX3_tell 116 = .ok (.aload_n 0, 1)) ∧ (decode cX3_tell 117 = .ok (.getfield 15, 3)) ∧ (decode cX3_tell 120 = .ok (.getfield 48, 3)) ∧ (decode cX3_tell 123 = .ok (.getfield 97, 3)) ∧ (decode cX3_tell 126 = .ok (.ireturn, 1)) ∧ (decode cX3_tell 127 = .ok (.aload_n 0, 1)) ∧ (decode cX3_tell 128 = .ok (.getfield 9, 3)) ∧ (decode cX3_tell 131 = .ok (.getfield 100, 3)) ∧ (decode cX3_tell 134 = .ok (.ifCond .eq 7, 3)) ∧ (decode cX3_tell 137 = .ok (.iconst 1, 1)) := by decide +kernel
theorem dX3_tell_104 : decode cX3_tell 104 = .ok (.ireturn, 1) := gdX3_tell_104.1
theorem dX3_tell_105 : decode cX3_tell 105 = .ok (.aload_n 0, 1) := gdX3_tell_104.2.1
theorem dX3_tell_106 : decode cX3_tell 106 = .ok (.getfield 9, 3) := gdX3_tell_104.2.2.1
theorem dX3_tell_109 : decode cX3_tell 109 = .ok (.getfield 38, 3) := gdX3_tell_104.2.2.2.1
theorem dX3_tell_112 : decode cX3_tell 112 = .ok (.getfield 97, 3) := gdX3_tell_104.2.2.2.2.1
theorem dX3_tell_115 : decode cX3_tell 115 = .ok (.ireturn, 1) := gdX3_tell_104.2.2.2.2.2.1
theorem dX3_tell_116 : decode cX3_tell 116 = .ok (.aload_n 0, 1) := gdX3_tell_104.2.2.2.2.2.2.1
theorem dX3_tell_117 : decode cX3_tell 117 = .ok (.getfield 15, 3) := gdX3_tell_104.2.2.2.2.2.2.2.1
theorem dX3_tell_120 : decode cX3_tell 120 = .ok (.getfield 48, 3) := gdX3_tell_104.2.2.2.2.2.2.2.2.1
theorem dX3_tell_123 : decode cX3_tell 123 = .ok (.getfield 97, 3) := gdX3_tell_104.2.2.2.2.2.2.2.2.2.1
theorem dX3_tell_126 : decode cX3_tell 126 = .ok (.ireturn, 1) := gdX3_tell_104.2.2.2.2.2.2.2.2.2.2.1
theorem dX3_tell_127 : decode cX3_tell 127 = .ok (.aload_n 0, 1) := gdX3_tell_104.2.2.2.2.2.2.2.2.2.2.2.1
theorem dX3_tell_128 : decode cX3_tell 128 = .ok (.getfield 9, 3) := gdX3_tell_104.2.2.2.2.2.2.2.2.2.2.2.2.1
theorem dX3_tell_131 : decode cX3_tell 131 = .ok (.getfield 100, 3) := gdX3_tell_104.2.2.2.2.2.2.2.2.2.2.2.2.2.1
theorem dX3_tell_134 : decode cX3_tell 134 = .ok (.ifCond .eq 7, 3) := gdX3_tell_104.2.2.2.2.2.2.2.2.2.2.2.2.2.2.1
theorem dX3_tell_137 : decode cX3_tell 137 = .ok (.iconst 1, 1) := gdX3_tell_104.2.2.2.2.2.2.2.2.2.2.2.2.2.2.2
theorem gdX3_tell_138 : (decode cX3_tell 138 = .ok (.goto 4, 3)) ∧ (decode cX3_tell 141 = .ok (.iconst 0, 1)) ∧ (decode cX3_tell 142 = .ok (.ireturn, 1)) ∧ (decode cX3_tell 143 = .ok (.iconst (-1), 1)) ∧ (decode cX3_tell 144 = .ok (.ireturn, 1)) := by decide +kernel
theorem dX3_tell_138 : decode cX3_tell 138 = .ok (.goto 4, 3) := gdX3_tell_138.1
theorem dX3_tell_141 : decode cX3_tell 141 = .ok (.iconst 0, 1) := gdX3_tell_138.2.1
theorem dX3_tell_142 : decode cX3_tell 142 = .ok (.ireturn, 1) := gdX3_tell_138.2.2.1
theorem dX3_tell_143 : decode cX3_tell 143 = .ok (.iconst (-1), 1) := gdX3_tell_138.2.2.2.1
theorem dX3_tell_144 : decode cX3_tell 144 = .ok (.ireturn, 1) := gdX3_tell_138.2.2.2.2
set_option maxHeartbeats 8000000 in
set_option maxRecDepth 100000 in
theorem x_X3_tell (l : Launch) (E : EE) (z0 : Nat) (G : Nat → Nat) (hGz : ∀ q, G q ≠ 0 → z0 ≤ q) (B : AA) (R : RR) (hW : TW G B R) (h0 : Nat) (p0 : Int32) (hG : G h0 = 8) : Met l yX3_tell [Cond.code yX3_tell cX3_tell 2 (some .int)] ({ frames := 0, cells := 0, slots := 0, locals := 0 } : Room) (va_Pc [.ref h0, .int p0] (fun U => TX E G B R U.heap ∧ KS E z0 U)) (va_Qi (fun (r : Int32) (u : Unit) => (C_X3_tell G B R h0 p0 r)) (fun u t => True) (fun _ : Nat => False)) 0 0 (fun _ : Nat => False) := by
  refine Met.ofW (cc := cX3_tell) (maxL := 2) (ret := (some .int)) (by decide) rfl ?_
  intro p e s m args below meth c s₁ B9 hml hv
  obtain ⟨rfl, hT, hK⟩ := hv
  have hx := B9.exec
  have hb := B9.bytes
  have hr := B9.returns
  have hts : ∀ w ∈ TS, w.before ([.ref h0, .int p0] : List Value).toArray s = true := fun w hw => hK.2.1 w hw _
  have hown : s.vm.findClass RX3 = some m.cls := findClass_of_methodNamed B9.named
  have hlocks := B9.notSynchronized
  have hS : va_S (fun _ : Nat => False) s.heap s.heap [] := va_S.rf
  have hAz : ∀ q, (fun _ : Nat => False) q → z0 ≤ q := fun _ h => h.elim
  have hW_0 := hW
  have hl := lv_entry ([.ref h0, .int p0]) (n := 2) (Nat.le_of_ble_eq_true rfl)
  rw [lg_entry_eq]
  generalize (lg_sl ([.ref h0, .int p0]) ++ List.replicate (2 - (lg_sl ([.ref h0, .int p0])).length) Slot.unset).toArray = ls at hl ⊢
  have hl : lv_has ls 2 [(0, .ref h0), (1, .int p0)] := hl
  refine lv_iload_n hx hb dX3_tell_0 rfl (lv_at hl 1 rfl) ?_
  refine lv_iconst (v := 1) hx hb dX3_tell_1 (by decide) ?_
  refine lv_icmp_lt (tgt := 20) hx hb dX3_tell_2 (by decide) (fun c_1 => ?_) (fun c_1 => ?_)
  · simp only [lt_I, le_I, eq_I, i_0, i_1, i_2, i_3, i_4, i_5, i_6, i_7, i_8, i_10, i_12, i_16, i_20, i_23, i_24, i_31, i_32, i_63, i_64, i_m1] at c_1
    refine lv_iload_n hx hb dX3_tell_20 rfl (lv_at hl 1 rfl) ?_
    rcases (show p0.toInt = 0 ∨ p0.toInt = 1 ∨ p0.toInt = 2 ∨ p0.toInt = 3 ∨ p0.toInt = 4 ∨ p0.toInt = 5 ∨ p0.toInt = 6 ∨ p0.toInt = 7 ∨ (p0.toInt < 0 ∨ 7 < p0.toInt) by omega) with c_2 | c_2 | c_2 | c_2 | c_2 | c_2 | c_2 | c_2 | c_2
    · refine lv_tableIn (tgt := 68) (off := 47) hx hb dX3_tell_21 (by omega) (by omega) (by rw [c_2]; rfl) (by decide) ?_
      refine lv_aload_n hx hb dX3_tell_68 rfl (lv_at hl 0 rfl) ?_
      have ha_3 := tx_8 hT hG
      refine va_get (D := DG E) (ci := 3) (v := .int (B h0 2)) (C := RX3) (T := TX3) (N := 3) hx hb hts iw_X3 hown hK.1 (va_one ha_3) 0 rfl rfl 2 (by decide) (hts _ fl_X3_19) (fun _ h9 => h9) rfl dX3_tell_69 ?_
      exact W.iret (v := (B h0 2)) hx hb hr (fun t ht hW9 => ⟨⟨(B h0 2), (), rfl, (Or.inl ⟨c_1, c_2, rfl⟩), trivial⟩, hS.F ht⟩) hS.2.2 dX3_tell_72
    · refine lv_tableIn (tgt := 73) (off := 52) hx hb dX3_tell_21 (by omega) (by omega) (by rw [c_2]; rfl) (by decide) ?_
      refine lv_aload_n hx hb dX3_tell_73 rfl (lv_at hl 0 rfl) ?_
      have ha_4 := tx_8 hT hG
      have hg_5 : G (R h0 0) = 9 := (tw_8 hW hG).1
      refine va_get (D := DG E) (ci := 3) (v := .ref (R h0 0)) (C := RX3) (T := TX3) (N := 3) hx hb hts iw_X3 hown hK.1 (va_one ha_4) 0 rfl rfl 0 (by decide) (hts _ fl_X3_9) (fun _ h9 => h9) rfl dX3_tell_74 ?_
      have ha_6 := tx_9 hT hg_5
      refine va_get (D := DG E) (ci := 7) (v := .int (B (R h0 0) 7)) (C := RX7) (T := TX7) (N := 14) hx hb hts iw_X7 hown hK.1 (va_one ha_6) 0 rfl rfl 7 (by decide) (hts _ fl_X3_88) (fun _ h9 => h9) rfl dX3_tell_77 ?_
      exact W.iret (v := (B (R h0 0) 7)) hx hb hr (fun t ht hW9 => ⟨⟨(B (R h0 0) 7), (), rfl, (Or.inr (Or.inl ⟨c_1, c_2, rfl⟩)), trivial⟩, hS.F ht⟩) hS.2.2 dX3_tell_80
    · refine lv_tableIn (tgt := 81) (off := 60) hx hb dX3_tell_21 (by omega) (by omega) (by rw [c_2]; rfl) (by decide) ?_
      refine lv_aload_n hx hb dX3_tell_81 rfl (lv_at hl 0 rfl) ?_
      have ha_7 := tx_8 hT hG
      have hg_8 : G (R h0 0) = 9 := (tw_8 hW hG).1
      refine va_get (D := DG E) (ci := 3) (v := .ref (R h0 0)) (C := RX3) (T := TX3) (N := 3) hx hb hts iw_X3 hown hK.1 (va_one ha_7) 0 rfl rfl 0 (by decide) (hts _ fl_X3_9) (fun _ h9 => h9) rfl dX3_tell_82 ?_
      have ha_9 := tx_9 hT hg_8
      refine va_get (D := DG E) (ci := 7) (v := .int (B (R h0 0) 8)) (C := RX7) (T := TX7) (N := 14) hx hb hts iw_X7 hown hK.1 (va_one ha_9) 0 rfl rfl 8 (by decide) (hts _ fl_X3_91) (fun _ h9 => h9) rfl dX3_tell_85 ?_
      exact W.iret (v := (B (R h0 0) 8)) hx hb hr (fun t ht hW9 => ⟨⟨(B (R h0 0) 8), (), rfl, (Or.inr (Or.inr (Or.inl ⟨c_1, c_2, rfl⟩))), trivial⟩, hS.F ht⟩) hS.2.2 dX3_tell_88
    · refine lv_tableIn (tgt := 89) (off := 68) hx hb dX3_tell_21 (by omega) (by omega) (by rw [c_2]; rfl) (by decide) ?_
      refine lv_aload_n hx hb dX3_tell_89 rfl (lv_at hl 0 rfl) ?_
      have ha_10 := tx_8 hT hG
      have hg_11 : G (R h0 0) = 9 := (tw_8 hW hG).1
      refine va_get (D := DG E) (ci := 3) (v := .ref (R h0 0)) (C := RX3) (T := TX3) (N := 3) hx hb hts iw_X3 hown hK.1 (va_one ha_10) 0 rfl rfl 0 (by decide) (hts _ fl_X3_9) (fun _ h9 => h9) rfl dX3_tell_90 ?_
      have ha_12 := tx_9 hT hg_11
      refine va_get (D := DG E) (ci := 7) (v := .int (B (R h0 0) 9)) (C := RX7) (T := TX7) (N := 14) hx hb hts iw_X7 hown hK.1 (va_one ha_12) 0 rfl rfl 9 (by decide) (hts _ fl_X3_94) (fun _ h9 => h9) rfl dX3_tell_93 ?_
      exact W.iret (v := (B (R h0 0) 9)) hx hb hr (fun t ht hW9 => ⟨⟨(B (R h0 0) 9), (), rfl, (Or.inr (Or.inr (Or.inr (Or.inl ⟨c_1, c_2, rfl⟩)))), trivial⟩, hS.F ht⟩) hS.2.2 dX3_tell_96
    · refine lv_tableIn (tgt := 97) (off := 76) hx hb dX3_tell_21 (by omega) (by omega) (by rw [c_2]; rfl) (by decide) ?_
      refine lv_aload_n hx hb dX3_tell_97 rfl (lv_at hl 0 rfl) ?_
      have ha_13 := tx_8 hT hG
      have hg_14 : G (R h0 1) = 10 := (tw_8 hW hG).2
      refine va_get (D := DG E) (ci := 3) (v := .ref (R h0 1)) (C := RX3) (T := TX3) (N := 3) hx hb hts iw_X3 hown hK.1 (va_one ha_13) 0 rfl rfl 1 (by decide) (hts _ fl_X3_15) (fun _ h9 => h9) rfl dX3_tell_98 ?_
      have ha_15 := tx_10 hT hg_14
      refine va_get (D := DG E) (ci := 8) (v := .int (B (R h0 1) 4)) (C := RX8) (T := TX8) (N := 9) hx hb hts iw_X8 hown hK.1 (va_one ha_15) 0 rfl rfl 4 (by decide) (hts _ fl_X3_35) (fun _ h9 => h9) rfl dX3_tell_101 ?_
      exact W.iret (v := (B (R h0 1) 4)) hx hb hr (fun t ht hW9 => ⟨⟨(B (R h0 1) 4), (), rfl, (Or.inr (Or.inr (Or.inr (Or.inr (Or.inl ⟨c_1, c_2, rfl⟩))))), trivial⟩, hS.F ht⟩) hS.2.2 dX3_tell_104
    · refine lv_tableIn (tgt := 105) (off := 84) hx hb dX3_tell_21 (by omega) (by omega) (by rw [c_2]; rfl) (by decide) ?_
      refine lv_aload_n hx hb dX3_tell_105 rfl (lv_at hl 0 rfl) ?_
      have ha_16 := tx_8 hT hG
      have hg_17 : G (R h0 0) = 9 := (tw_8 hW hG).1
      refine va_get (D := DG E) (ci := 3) (v := .ref (R h0 0)) (C := RX3) (T := TX3) (N := 3) hx hb hts iw_X3 hown hK.1 (va_one ha_16) 0 rfl rfl 0 (by decide) (hts _ fl_X3_9) (fun _ h9 => h9) rfl dX3_tell_106 ?_
      have ha_18 := tx_9 hT hg_17
      have hg_19 : G (R (R h0 0) 6) = 11 := (tw_9 hW hg_17).2.2.2
      refine va_get (D := DG E) (ci := 7) (v := .ref (R (R h0 0) 6)) (C := RX7) (T := TX7) (N := 14) hx hb hts iw_X7 hown hK.1 (va_one ha_18) 0 rfl rfl 6 (by decide) (hts _ fl_X3_38) (fun _ h9 => h9) rfl dX3_tell_109 ?_
      have ha_20 := tx_11 hT hg_19
      have hb_21 := (tw_11 hW_0 hg_19).2.2.2
      refine va_get (D := DG E) (ci := 5) (v := .int (B (R (R h0 0) 6) 4)) (C := RX5) (T := TX5) (N := 6) hx hb hts iw_X5 hown hK.1 (va_one ha_20) 0 rfl rfl 4 (by decide) (hts _ fl_X3_97) (fun _ h9 => h9) rfl dX3_tell_112 ?_
      exact W.iret (v := (B (R (R h0 0) 6) 4)) hx hb hr (fun t ht hW9 => ⟨⟨(B (R (R h0 0) 6) 4), (), rfl, (Or.inr (Or.inr (Or.inr (Or.inr (Or.inr (Or.inl ⟨c_1, c_2, rfl⟩)))))), trivial⟩, hS.F ht⟩) hS.2.2 dX3_tell_115
    · refine lv_tableIn (tgt := 116) (off := 95) hx hb dX3_tell_21 (by omega) (by omega) (by rw [c_2]; rfl) (by decide) ?_
      refine lv_aload_n hx hb dX3_tell_116 rfl (lv_at hl 0 rfl) ?_
      have ha_22 := tx_8 hT hG
      have hg_23 : G (R h0 1) = 10 := (tw_8 hW hG).2
      refine va_get (D := DG E) (ci := 3) (v := .ref (R h0 1)) (C := RX3) (T := TX3) (N := 3) hx hb hts iw_X3 hown hK.1 (va_one ha_22) 0 rfl rfl 1 (by decide) (hts _ fl_X3_15) (fun _ h9 => h9) rfl dX3_tell_117 ?_
      have ha_24 := tx_10 hT hg_23
      have hg_25 : G (R (R h0 1) 3) = 11 := (tw_10 hW hg_23).2.2.2.1
      refine va_get (D := DG E) (ci := 8) (v := .ref (R (R h0 1) 3)) (C := RX8) (T := TX8) (N := 9) hx hb hts iw_X8 hown hK.1 (va_one ha_24) 0 rfl rfl 3 (by decide) (hts _ fl_X3_48) (fun _ h9 => h9) rfl dX3_tell_120 ?_
      have ha_26 := tx_11 hT hg_25
      have hb_27 := (tw_11 hW_0 hg_25).2.2.2
      refine va_get (D := DG E) (ci := 5) (v := .int (B (R (R h0 1) 3) 4)) (C := RX5) (T := TX5) (N := 6) hx hb hts iw_X5 hown hK.1 (va_one ha_26) 0 rfl rfl 4 (by decide) (hts _ fl_X3_97) (fun _ h9 => h9) rfl dX3_tell_123 ?_
      exact W.iret (v := (B (R (R h0 1) 3) 4)) hx hb hr (fun t ht hW9 => ⟨⟨(B (R (R h0 1) 3) 4), (), rfl, (Or.inr (Or.inr (Or.inr (Or.inr (Or.inr (Or.inr (Or.inl ⟨c_1, c_2, rfl⟩))))))), trivial⟩, hS.F ht⟩) hS.2.2 dX3_tell_126
    · refine lv_tableIn (tgt := 127) (off := 106) hx hb dX3_tell_21 (by omega) (by omega) (by rw [c_2]; rfl) (by decide) ?_
      refine lv_aload_n hx hb dX3_tell_127 rfl (lv_at hl 0 rfl) ?_
      have ha_28 := tx_8 hT hG
      have hg_29 : G (R h0 0) = 9 := (tw_8 hW hG).1
      refine va_get (D := DG E) (ci := 3) (v := .ref (R h0 0)) (C := RX3) (T := TX3) (N := 3) hx hb hts iw_X3 hown hK.1 (va_one ha_28) 0 rfl rfl 0 (by decide) (hts _ fl_X3_9) (fun _ h9 => h9) rfl dX3_tell_128 ?_
      have ha_30 := tx_9 hT hg_29
      refine va_get (D := DG E) (ci := 7) (v := .int (B (R h0 0) 13)) (C := RX7) (T := TX7) (N := 14) hx hb hts iw_X7 hown hK.1 (va_one ha_30) 0 rfl rfl 13 (by decide) (hts _ fl_X3_100) (fun _ h9 => h9) rfl dX3_tell_131 ?_
      refine lv_if_eq (tgt := 141) hx hb dX3_tell_134 (by decide) (fun c_31 => ?_) (fun c_31 => ?_)
      · simp only [lt_I, le_I, eq_I, i_0, i_1, i_2, i_3, i_4, i_5, i_6, i_7, i_8, i_10, i_12, i_16, i_20, i_23, i_24, i_31, i_32, i_63, i_64, i_m1] at c_31
        refine lv_iconst (v := 0) hx hb dX3_tell_141 (by decide) ?_
        exact W.iret (v := 0) hx hb hr (fun t ht hW9 => ⟨⟨0, (), rfl, (Or.inr (Or.inr (Or.inr (Or.inr (Or.inr (Or.inr (Or.inr (Or.inl ⟨c_1, c_2, c_31, rfl⟩)))))))), trivial⟩, hS.F ht⟩) hS.2.2 dX3_tell_142
      · simp only [lt_I, le_I, eq_I, i_0, i_1, i_2, i_3, i_4, i_5, i_6, i_7, i_8, i_10, i_12, i_16, i_20, i_23, i_24, i_31, i_32, i_63, i_64, i_m1] at c_31
        refine lv_iconst (v := 1) hx hb dX3_tell_137 (by decide) ?_
        refine lv_goto (tgt := 142) hx hb dX3_tell_138 (by decide) ?_
        exact W.iret (v := 1) hx hb hr (fun t ht hW9 => ⟨⟨1, (), rfl, (Or.inr (Or.inr (Or.inr (Or.inr (Or.inr (Or.inr (Or.inr (Or.inr (Or.inl ⟨c_1, c_2, c_31, rfl⟩))))))))), trivial⟩, hS.F ht⟩) hS.2.2 dX3_tell_142
    · refine lv_tableOut (tgt := 143) hx hb dX3_tell_21 c_2 (by decide) ?_
      refine lv_iconst (v := (-1)) hx hb dX3_tell_143 (by decide) ?_
      exact W.iret (v := (-1)) hx hb hr (fun t ht hW9 => ⟨⟨(-1), (), rfl, (Or.inr (Or.inr (Or.inr (Or.inr (Or.inr (Or.inr (Or.inr (Or.inr (Or.inr (Or.inl ⟨c_1, c_2, rfl⟩)))))))))), trivial⟩, hS.F ht⟩) hS.2.2 dX3_tell_144
  · simp only [lt_I, le_I, eq_I, i_0, i_1, i_2, i_3, i_4, i_5, i_6, i_7, i_8, i_10, i_12, i_16, i_20, i_23, i_24, i_31, i_32, i_63, i_64, i_m1] at c_1
    refine lv_iload_n hx hb dX3_tell_5 rfl (lv_at hl 1 rfl) ?_
    refine lv_iconst (v := 4) hx hb dX3_tell_6 (by decide) ?_
    refine lv_icmp_gt (tgt := 20) hx hb dX3_tell_7 (by decide) (fun c_32 => ?_) (fun c_32 => ?_)
    · simp only [lt_I, le_I, eq_I, i_0, i_1, i_2, i_3, i_4, i_5, i_6, i_7, i_8, i_10, i_12, i_16, i_20, i_23, i_24, i_31, i_32, i_63, i_64, i_m1] at c_32
      refine lv_iload_n hx hb dX3_tell_20 rfl (lv_at hl 1 rfl) ?_
      rcases (show p0.toInt = 0 ∨ p0.toInt = 1 ∨ p0.toInt = 2 ∨ p0.toInt = 3 ∨ p0.toInt = 4 ∨ p0.toInt = 5 ∨ p0.toInt = 6 ∨ p0.toInt = 7 ∨ (p0.toInt < 0 ∨ 7 < p0.toInt) by omega) with c_33 | c_33 | c_33 | c_33 | c_33 | c_33 | c_33 | c_33 | c_33
      · refine lv_tableIn (tgt := 68) (off := 47) hx hb dX3_tell_21 (by omega) (by omega) (by rw [c_33]; rfl) (by decide) ?_
        refine lv_aload_n hx hb dX3_tell_68 rfl (lv_at hl 0 rfl) ?_
        have ha_34 := tx_8 hT hG
        refine va_get (D := DG E) (ci := 3) (v := .int (B h0 2)) (C := RX3) (T := TX3) (N := 3) hx hb hts iw_X3 hown hK.1 (va_one ha_34) 0 rfl rfl 2 (by decide) (hts _ fl_X3_19) (fun _ h9 => h9) rfl dX3_tell_69 ?_
        exact W.iret (v := (B h0 2)) hx hb hr (fun t ht hW9 => ⟨⟨(B h0 2), (), rfl, (Or.inr (Or.inr (Or.inr (Or.inr (Or.inr (Or.inr (Or.inr (Or.inr (Or.inr (Or.inr (Or.inl ⟨c_1, c_32, c_33, rfl⟩))))))))))), trivial⟩, hS.F ht⟩) hS.2.2 dX3_tell_72
      · refine lv_tableIn (tgt := 73) (off := 52) hx hb dX3_tell_21 (by omega) (by omega) (by rw [c_33]; rfl) (by decide) ?_
        refine lv_aload_n hx hb dX3_tell_73 rfl (lv_at hl 0 rfl) ?_
        have ha_35 := tx_8 hT hG
        have hg_36 : G (R h0 0) = 9 := (tw_8 hW hG).1
        refine va_get (D := DG E) (ci := 3) (v := .ref (R h0 0)) (C := RX3) (T := TX3) (N := 3) hx hb hts iw_X3 hown hK.1 (va_one ha_35) 0 rfl rfl 0 (by decide) (hts _ fl_X3_9) (fun _ h9 => h9) rfl dX3_tell_74 ?_
        have ha_37 := tx_9 hT hg_36
        refine va_get (D := DG E) (ci := 7) (v := .int (B (R h0 0) 7)) (C := RX7) (T := TX7) (N := 14) hx hb hts iw_X7 hown hK.1 (va_one ha_37) 0 rfl rfl 7 (by decide) (hts _ fl_X3_88) (fun _ h9 => h9) rfl dX3_tell_77 ?_
        exact W.iret (v := (B (R h0 0) 7)) hx hb hr (fun t ht hW9 => ⟨⟨(B (R h0 0) 7), (), rfl, (Or.inr (Or.inr (Or.inr (Or.inr (Or.inr (Or.inr (Or.inr (Or.inr (Or.inr (Or.inr (Or.inr (Or.inl ⟨c_1, c_32, c_33, rfl⟩)))))))))))), trivial⟩, hS.F ht⟩) hS.2.2 dX3_tell_80
      · refine lv_tableIn (tgt := 81) (off := 60) hx hb dX3_tell_21 (by omega) (by omega) (by rw [c_33]; rfl) (by decide) ?_
        refine lv_aload_n hx hb dX3_tell_81 rfl (lv_at hl 0 rfl) ?_
        have ha_38 := tx_8 hT hG
        have hg_39 : G (R h0 0) = 9 := (tw_8 hW hG).1
        refine va_get (D := DG E) (ci := 3) (v := .ref (R h0 0)) (C := RX3) (T := TX3) (N := 3) hx hb hts iw_X3 hown hK.1 (va_one ha_38) 0 rfl rfl 0 (by decide) (hts _ fl_X3_9) (fun _ h9 => h9) rfl dX3_tell_82 ?_
        have ha_40 := tx_9 hT hg_39
        refine va_get (D := DG E) (ci := 7) (v := .int (B (R h0 0) 8)) (C := RX7) (T := TX7) (N := 14) hx hb hts iw_X7 hown hK.1 (va_one ha_40) 0 rfl rfl 8 (by decide) (hts _ fl_X3_91) (fun _ h9 => h9) rfl dX3_tell_85 ?_
        exact W.iret (v := (B (R h0 0) 8)) hx hb hr (fun t ht hW9 => ⟨⟨(B (R h0 0) 8), (), rfl, (Or.inr (Or.inr (Or.inr (Or.inr (Or.inr (Or.inr (Or.inr (Or.inr (Or.inr (Or.inr (Or.inr (Or.inr (Or.inl ⟨c_1, c_32, c_33, rfl⟩))))))))))))), trivial⟩, hS.F ht⟩) hS.2.2 dX3_tell_88
      · refine lv_tableIn (tgt := 89) (off := 68) hx hb dX3_tell_21 (by omega) (by omega) (by rw [c_33]; rfl) (by decide) ?_
        refine lv_aload_n hx hb dX3_tell_89 rfl (lv_at hl 0 rfl) ?_
        have ha_41 := tx_8 hT hG
        have hg_42 : G (R h0 0) = 9 := (tw_8 hW hG).1
        refine va_get (D := DG E) (ci := 3) (v := .ref (R h0 0)) (C := RX3) (T := TX3) (N := 3) hx hb hts iw_X3 hown hK.1 (va_one ha_41) 0 rfl rfl 0 (by decide) (hts _ fl_X3_9) (fun _ h9 => h9) rfl dX3_tell_90 ?_
        have ha_43 := tx_9 hT hg_42
        refine va_get (D := DG E) (ci := 7) (v := .int (B (R h0 0) 9)) (C := RX7) (T := TX7) (N := 14) hx hb hts iw_X7 hown hK.1 (va_one ha_43) 0 rfl rfl 9 (by decide) (hts _ fl_X3_94) (fun _ h9 => h9) rfl dX3_tell_93 ?_
        exact W.iret (v := (B (R h0 0) 9)) hx hb hr (fun t ht hW9 => ⟨⟨(B (R h0 0) 9), (), rfl, (Or.inr (Or.inr (Or.inr (Or.inr (Or.inr (Or.inr (Or.inr (Or.inr (Or.inr (Or.inr (Or.inr (Or.inr (Or.inr (Or.inl ⟨c_1, c_32, c_33, rfl⟩)))))))))))))), trivial⟩, hS.F ht⟩) hS.2.2 dX3_tell_96
      · refine lv_tableIn (tgt := 97) (off := 76) hx hb dX3_tell_21 (by omega) (by omega) (by rw [c_33]; rfl) (by decide) ?_
        refine lv_aload_n hx hb dX3_tell_97 rfl (lv_at hl 0 rfl) ?_
        have ha_44 := tx_8 hT hG
        have hg_45 : G (R h0 1) = 10 := (tw_8 hW hG).2
        refine va_get (D := DG E) (ci := 3) (v := .ref (R h0 1)) (C := RX3) (T := TX3) (N := 3) hx hb hts iw_X3 hown hK.1 (va_one ha_44) 0 rfl rfl 1 (by decide) (hts _ fl_X3_15) (fun _ h9 => h9) rfl dX3_tell_98 ?_
        have ha_46 := tx_10 hT hg_45
        refine va_get (D := DG E) (ci := 8) (v := .int (B (R h0 1) 4)) (C := RX8) (T := TX8) (N := 9) hx hb hts iw_X8 hown hK.1 (va_one ha_46) 0 rfl rfl 4 (by decide) (hts _ fl_X3_35) (fun _ h9 => h9) rfl dX3_tell_101 ?_
        exact W.iret (v := (B (R h0 1) 4)) hx hb hr (fun t ht hW9 => ⟨⟨(B (R h0 1) 4), (), rfl, (Or.inr (Or.inr (Or.inr (Or.inr (Or.inr (Or.inr (Or.inr (Or.inr (Or.inr (Or.inr (Or.inr (Or.inr (Or.inr (Or.inr (Or.inl ⟨c_1, c_32, c_33, rfl⟩))))))))))))))), trivial⟩, hS.F ht⟩) hS.2.2 dX3_tell_104
      · refine lv_tableIn (tgt := 105) (off := 84) hx hb dX3_tell_21 (by omega) (by omega) (by rw [c_33]; rfl) (by decide) ?_
        refine lv_aload_n hx hb dX3_tell_105 rfl (lv_at hl 0 rfl) ?_
        have ha_47 := tx_8 hT hG
        have hg_48 : G (R h0 0) = 9 := (tw_8 hW hG).1
        refine va_get (D := DG E) (ci := 3) (v := .ref (R h0 0)) (C := RX3) (T := TX3) (N := 3) hx hb hts iw_X3 hown hK.1 (va_one ha_47) 0 rfl rfl 0 (by decide) (hts _ fl_X3_9) (fun _ h9 => h9) rfl dX3_tell_106 ?_
        have ha_49 := tx_9 hT hg_48
        have hg_50 : G (R (R h0 0) 6) = 11 := (tw_9 hW hg_48).2.2.2
        refine va_get (D := DG E) (ci := 7) (v := .ref (R (R h0 0) 6)) (C := RX7) (T := TX7) (N := 14) hx hb hts iw_X7 hown hK.1 (va_one ha_49) 0 rfl rfl 6 (by decide) (hts _ fl_X3_38) (fun _ h9 => h9) rfl dX3_tell_109 ?_
        have ha_51 := tx_11 hT hg_50
        have hb_52 := (tw_11 hW_0 hg_50).2.2.2
        refine va_get (D := DG E) (ci := 5) (v := .int (B (R (R h0 0) 6) 4)) (C := RX5) (T := TX5) (N := 6) hx hb hts iw_X5 hown hK.1 (va_one ha_51) 0 rfl rfl 4 (by decide) (hts _ fl_X3_97) (fun _ h9 => h9) rfl dX3_tell_112 ?_
        exact W.iret (v := (B (R (R h0 0) 6) 4)) hx hb hr (fun t ht hW9 => ⟨⟨(B (R (R h0 0) 6) 4), (), rfl, (Or.inr (Or.inr (Or.inr (Or.inr (Or.inr (Or.inr (Or.inr (Or.inr (Or.inr (Or.inr (Or.inr (Or.inr (Or.inr (Or.inr (Or.inr (Or.inl ⟨c_1, c_32, c_33, rfl⟩)))))))))))))))), trivial⟩, hS.F ht⟩) hS.2.2 dX3_tell_115
      · refine lv_tableIn (tgt := 116) (off := 95) hx hb dX3_tell_21 (by omega) (by omega) (by rw [c_33]; rfl) (by decide) ?_
        refine lv_aload_n hx hb dX3_tell_116 rfl (lv_at hl 0 rfl) ?_
        have ha_53 := tx_8 hT hG
        have hg_54 : G (R h0 1) = 10 := (tw_8 hW hG).2
        refine va_get (D := DG E) (ci := 3) (v := .ref (R h0 1)) (C := RX3) (T := TX3) (N := 3) hx hb hts iw_X3 hown hK.1 (va_one ha_53) 0 rfl rfl 1 (by decide) (hts _ fl_X3_15) (fun _ h9 => h9) rfl dX3_tell_117 ?_
        have ha_55 := tx_10 hT hg_54
        have hg_56 : G (R (R h0 1) 3) = 11 := (tw_10 hW hg_54).2.2.2.1
        refine va_get (D := DG E) (ci := 8) (v := .ref (R (R h0 1) 3)) (C := RX8) (T := TX8) (N := 9) hx hb hts iw_X8 hown hK.1 (va_one ha_55) 0 rfl rfl 3 (by decide) (hts _ fl_X3_48) (fun _ h9 => h9) rfl dX3_tell_120 ?_
        have ha_57 := tx_11 hT hg_56
        have hb_58 := (tw_11 hW_0 hg_56).2.2.2
        refine va_get (D := DG E) (ci := 5) (v := .int (B (R (R h0 1) 3) 4)) (C := RX5) (T := TX5) (N := 6) hx hb hts iw_X5 hown hK.1 (va_one ha_57) 0 rfl rfl 4 (by decide) (hts _ fl_X3_97) (fun _ h9 => h9) rfl dX3_tell_123 ?_
        exact W.iret (v := (B (R (R h0 1) 3) 4)) hx hb hr (fun t ht hW9 => ⟨⟨(B (R (R h0 1) 3) 4), (), rfl, (Or.inr (Or.inr (Or.inr (Or.inr (Or.inr (Or.inr (Or.inr (Or.inr (Or.inr (Or.inr (Or.inr (Or.inr (Or.inr (Or.inr (Or.inr (Or.inr (Or.inl ⟨c_1, c_32, c_33, rfl⟩))))))))))))))))), trivial⟩, hS.F ht⟩) hS.2.2 dX3_tell_126
      · refine lv_tableIn (tgt := 127) (off := 106) hx hb dX3_tell_21 (by omega) (by omega) (by rw [c_33]; rfl) (by decide) ?_
        refine lv_aload_n hx hb dX3_tell_127 rfl (lv_at hl 0 rfl) ?_
        have ha_59 := tx_8 hT hG
        have hg_60 : G (R h0 0) = 9 := (tw_8 hW hG).1
        refine va_get (D := DG E) (ci := 3) (v := .ref (R h0 0)) (C := RX3) (T := TX3) (N := 3) hx hb hts iw_X3 hown hK.1 (va_one ha_59) 0 rfl rfl 0 (by decide) (hts _ fl_X3_9) (fun _ h9 => h9) rfl dX3_tell_128 ?_
        have ha_61 := tx_9 hT hg_60
        refine va_get (D := DG E) (ci := 7) (v := .int (B (R h0 0) 13)) (C := RX7) (T := TX7) (N := 14) hx hb hts iw_X7 hown hK.1 (va_one ha_61) 0 rfl rfl 13 (by decide) (hts _ fl_X3_100) (fun _ h9 => h9) rfl dX3_tell_131 ?_
        refine lv_if_eq (tgt := 141) hx hb dX3_tell_134 (by decide) (fun c_62 => ?_) (fun c_62 => ?_)
        · simp only [lt_I, le_I, eq_I, i_0, i_1, i_2, i_3, i_4, i_5, i_6, i_7, i_8, i_10, i_12, i_16, i_20, i_23, i_24, i_31, i_32, i_63, i_64, i_m1] at c_62
          refine lv_iconst (v := 0) hx hb dX3_tell_141 (by decide) ?_
          exact W.iret (v := 0) hx hb hr (fun t ht hW9 => ⟨⟨0, (), rfl, (Or.inr (Or.inr (Or.inr (Or.inr (Or.inr (Or.inr (Or.inr (Or.inr (Or.inr (Or.inr (Or.inr (Or.inr (Or.inr (Or.inr (Or.inr (Or.inr (Or.inr (Or.inl ⟨c_1, c_32, c_33, c_62, rfl⟩)))))))))))))))))), trivial⟩, hS.F ht⟩) hS.2.2 dX3_tell_142
        · simp only [lt_I, le_I, eq_I, i_0, i_1, i_2, i_3, i_4, i_5, i_6, i_7, i_8, i_10, i_12, i_16, i_20, i_23, i_24, i_31, i_32, i_63, i_64, i_m1] at c_62
          refine lv_iconst (v := 1) hx hb dX3_tell_137 (by decide) ?_
          refine lv_goto (tgt := 142) hx hb dX3_tell_138 (by decide) ?_
          exact W.iret (v := 1) hx hb hr (fun t ht hW9 => ⟨⟨1, (), rfl, (Or.inr (Or.inr (Or.inr (Or.inr (Or.inr (Or.inr (Or.inr (Or.inr (Or.inr (Or.inr (Or.inr (Or.inr (Or.inr (Or.inr (Or.inr (Or.inr (Or.inr (Or.inr (Or.inl ⟨c_1, c_32, c_33, c_62, rfl⟩))))))))))))))))))), trivial⟩, hS.F ht⟩) hS.2.2 dX3_tell_142
      · refine lv_tableOut (tgt := 143) hx hb dX3_tell_21 c_33 (by decide) ?_
        refine lv_iconst (v := (-1)) hx hb dX3_tell_143 (by decide) ?_
        exact W.iret (v := (-1)) hx hb hr (fun t ht hW9 => ⟨⟨(-1), (), rfl, (Or.inr (Or.inr (Or.inr (Or.inr (Or.inr (Or.inr (Or.inr (Or.inr (Or.inr (Or.inr (Or.inr (Or.inr (Or.inr (Or.inr (Or.inr (Or.inr (Or.inr (Or.inr (Or.inr (Or.inl ⟨c_1, c_32, c_33, rfl⟩)))))))))))))))))))), trivial⟩, hS.F ht⟩) hS.2.2 dX3_tell_144
    · simp only [lt_I, le_I, eq_I, i_0, i_1, i_2, i_3, i_4, i_5, i_6, i_7, i_8, i_10, i_12, i_16, i_20, i_23, i_24, i_31, i_32, i_63, i_64, i_m1] at c_32
      refine lv_aload_n hx hb dX3_tell_10 rfl (lv_at hl 0 rfl) ?_
      have ha_63 := tx_8 hT hG
      refine va_get (D := DG E) (ci := 3) (v := .int (B h0 2)) (C := RX3) (T := TX3) (N := 3) hx hb hts iw_X3 hown hK.1 (va_one ha_63) 0 rfl rfl 2 (by decide) (hts _ fl_X3_19) (fun _ h9 => h9) rfl dX3_tell_11 ?_
      refine lv_iconst (v := 1) hx hb dX3_tell_14 (by decide) ?_
      refine lv_icmp_eq (tgt := 20) hx hb dX3_tell_15 (by decide) (fun c_64 => ?_) (fun c_64 => ?_)
      · simp only [lt_I, le_I, eq_I, i_0, i_1, i_2, i_3, i_4, i_5, i_6, i_7, i_8, i_10, i_12, i_16, i_20, i_23, i_24, i_31, i_32, i_63, i_64, i_m1] at c_64
        refine lv_iload_n hx hb dX3_tell_20 rfl (lv_at hl 1 rfl) ?_
        rcases (show p0.toInt = 0 ∨ p0.toInt = 1 ∨ p0.toInt = 2 ∨ p0.toInt = 3 ∨ p0.toInt = 4 ∨ p0.toInt = 5 ∨ p0.toInt = 6 ∨ p0.toInt = 7 ∨ (p0.toInt < 0 ∨ 7 < p0.toInt) by omega) with c_65 | c_65 | c_65 | c_65 | c_65 | c_65 | c_65 | c_65 | c_65
        · refine lv_tableIn (tgt := 68) (off := 47) hx hb dX3_tell_21 (by omega) (by omega) (by rw [c_65]; rfl) (by decide) ?_
          refine lv_aload_n hx hb dX3_tell_68 rfl (lv_at hl 0 rfl) ?_
          refine va_get (D := DG E) (ci := 3) (v := .int (B h0 2)) (C := RX3) (T := TX3) (N := 3) hx hb hts iw_X3 hown hK.1 (va_one ha_63) 0 rfl rfl 2 (by decide) (hts _ fl_X3_19) (fun _ h9 => h9) rfl dX3_tell_69 ?_
          exact W.iret (v := (B h0 2)) hx hb hr (fun t ht hW9 => ⟨⟨(B h0 2), (), rfl, (Or.inr (Or.inr (Or.inr (Or.inr (Or.inr (Or.inr (Or.inr (Or.inr (Or.inr (Or.inr (Or.inr (Or.inr (Or.inr (Or.inr (Or.inr (Or.inr (Or.inr (Or.inr (Or.inr (Or.inr (Or.inl ⟨c_1, c_32, c_64, c_65, rfl⟩))))))))))))))))))))), trivial⟩, hS.F ht⟩) hS.2.2 dX3_tell_72
        · refine lv_tableIn (tgt := 73) (off := 52) hx hb dX3_tell_21 (by omega) (by omega) (by rw [c_65]; rfl) (by decide) ?_
          refine lv_aload_n hx hb dX3_tell_73 rfl (lv_at hl 0 rfl) ?_
          have hg_66 : G (R h0 0) = 9 := (tw_8 hW hG).1
          refine va_get (D := DG E) (ci := 3) (v := .ref (R h0 0)) (C := RX3) (T := TX3) (N := 3) hx hb hts iw_X3 hown hK.1 (va_one ha_63) 0 rfl rfl 0 (by decide) (hts _ fl_X3_9) (fun _ h9 => h9) rfl dX3_tell_74 ?_
          have ha_67 := tx_9 hT hg_66
          refine va_get (D := DG E) (ci := 7) (v := .int (B (R h0 0) 7)) (C := RX7) (T := TX7) (N := 14) hx hb hts iw_X7 hown hK.1 (va_one ha_67) 0 rfl rfl 7 (by decide) (hts _ fl_X3_88) (fun _ h9 => h9) rfl dX3_tell_77 ?_
          exact W.iret (v := (B (R h0 0) 7)) hx hb hr (fun t ht hW9 => ⟨⟨(B (R h0 0) 7), (), rfl, (Or.inr (Or.inr (Or.inr (Or.inr (Or.inr (Or.inr (Or.inr (Or.inr (Or.inr (Or.inr (Or.inr (Or.inr (Or.inr (Or.inr (Or.inr (Or.inr (Or.inr (Or.inr (Or.inr (Or.inr (Or.inr (Or.inl ⟨c_1, c_32, c_64, c_65, rfl⟩)))))))))))))))))))))), trivial⟩, hS.F ht⟩) hS.2.2 dX3_tell_80
        · refine lv_tableIn (tgt := 81) (off := 60) hx hb dX3_tell_21 (by omega) (by omega) (by rw [c_65]; rfl) (by decide) ?_
          refine lv_aload_n hx hb dX3_tell_81 rfl (lv_at hl 0 rfl) ?_
          have hg_68 : G (R h0 0) = 9 := (tw_8 hW hG).1
          refine va_get (D := DG E) (ci := 3) (v := .ref (R h0 0)) (C := RX3) (T := TX3) (N := 3) hx hb hts iw_X3 hown hK.1 (va_one ha_63) 0 rfl rfl 0 (by decide) (hts _ fl_X3_9) (fun _ h9 => h9) rfl dX3_tell_82 ?_
          have ha_69 := tx_9 hT hg_68
          refine va_get (D := DG E) (ci := 7) (v := .int (B (R h0 0) 8)) (C := RX7) (T := TX7) (N := 14) hx hb hts iw_X7 hown hK.1 (va_one ha_69) 0 rfl rfl 8 (by decide) (hts _ fl_X3_91) (fun _ h9 => h9) rfl dX3_tell_85 ?_
          exact W.iret (v := (B (R h0 0) 8)) hx hb hr (fun t ht hW9 => ⟨⟨(B (R h0 0) 8), (), rfl, (Or.inr (Or.inr (Or.inr (Or.inr (Or.inr (Or.inr (Or.inr (Or.inr (Or.inr (Or.inr (Or.inr (Or.inr (Or.inr (Or.inr (Or.inr (Or.inr (Or.inr (Or.inr (Or.inr (Or.inr (Or.inr (Or.inr (Or.inl ⟨c_1, c_32, c_64, c_65, rfl⟩))))))))))))))))))))))), trivial⟩, hS.F ht⟩) hS.2.2 dX3_tell_88
        · refine lv_tableIn (tgt := 89) (off := 68) hx hb dX3_tell_21 (by omega) (by omega) (by rw [c_65]; rfl) (by decide) ?_
          refine lv_aload_n hx hb dX3_tell_89 rfl (lv_at hl 0 rfl) ?_
          have hg_70 : G (R h0 0) = 9 := (tw_8 hW hG).1
          refine va_get (D := DG E) (ci := 3) (v := .ref (R h0 0)) (C := RX3) (T := TX3) (N := 3) hx hb hts iw_X3 hown hK.1 (va_one ha_63) 0 rfl rfl 0 (by decide) (hts _ fl_X3_9) (fun _ h9 => h9) rfl dX3_tell_90 ?_
          have ha_71 := tx_9 hT hg_70
          refine va_get (D := DG E) (ci := 7) (v := .int (B (R h0 0) 9)) (C := RX7) (T := TX7) (N := 14) hx hb hts iw_X7 hown hK.1 (va_one ha_71) 0 rfl rfl 9 (by decide) (hts _ fl_X3_94) (fun _ h9 => h9) rfl dX3_tell_93 ?_
          exact W.iret (v := (B (R h0 0) 9)) hx hb hr (fun t ht hW9 => ⟨⟨(B (R h0 0) 9), (), rfl, (Or.inr (Or.inr (Or.inr (Or.inr (Or.inr (Or.inr (Or.inr (Or.inr (Or.inr (Or.inr (Or.inr (Or.inr (Or.inr (Or.inr (Or.inr (Or.inr (Or.inr (Or.inr (Or.inr (Or.inr (Or.inr (Or.inr (Or.inr (Or.inl ⟨c_1, c_32, c_64, c_65, rfl⟩)))))))))))))))))))))))), trivial⟩, hS.F ht⟩) hS.2.2 dX3_tell_96
        · refine lv_tableIn (tgt := 97) (off := 76) hx hb dX3_tell_21 (by omega) (by omega) (by rw [c_65]; rfl) (by decide) ?_
          refine lv_aload_n hx hb dX3_tell_97 rfl (lv_at hl 0 rfl) ?_
          have hg_72 : G (R h0 1) = 10 := (tw_8 hW hG).2
          refine va_get (D := DG E) (ci := 3) (v := .ref (R h0 1)) (C := RX3) (T := TX3) (N := 3) hx hb hts iw_X3 hown hK.1 (va_one ha_63) 0 rfl rfl 1 (by decide) (hts _ fl_X3_15) (fun _ h9 => h9) rfl dX3_tell_98 ?_
          have ha_73 := tx_10 hT hg_72
          refine va_get (D := DG E) (ci := 8) (v := .int (B (R h0 1) 4)) (C := RX8) (T := TX8) (N := 9) hx hb hts iw_X8 hown hK.1 (va_one ha_73) 0 rfl rfl 4 (by decide) (hts _ fl_X3_35) (fun _ h9 => h9) rfl dX3_tell_101 ?_
          exact W.iret (v := (B (R h0 1) 4)) hx hb hr (fun t ht hW9 => ⟨⟨(B (R h0 1) 4), (), rfl, (Or.inr (Or.inr (Or.inr (Or.inr (Or.inr (Or.inr (Or.inr (Or.inr (Or.inr (Or.inr (Or.inr (Or.inr (Or.inr (Or.inr (Or.inr (Or.inr (Or.inr (Or.inr (Or.inr (Or.inr (Or.inr (Or.inr (Or.inr (Or.inr (Or.inl ⟨c_1, c_32, c_64, c_65, rfl⟩))))))))))))))))))))))))), trivial⟩, hS.F ht⟩) hS.2.2 dX3_tell_104
        · refine lv_tableIn (tgt := 105) (off := 84) hx hb dX3_tell_21 (by omega) (by omega) (by rw [c_65]; rfl) (by decide) ?_
          refine lv_aload_n hx hb dX3_tell_105 rfl (lv_at hl 0 rfl) ?_
          have hg_74 : G (R h0 0) = 9 := (tw_8 hW hG).1
          refine va_get (D := DG E) (ci := 3) (v := .ref (R h0 0)) (C := RX3) (T := TX3) (N := 3) hx hb hts iw_X3 hown hK.1 (va_one ha_63) 0 rfl rfl 0 (by decide) (hts _ fl_X3_9) (fun _ h9 => h9) rfl dX3_tell_106 ?_
          have ha_75 := tx_9 hT hg_74
          have hg_76 : G (R (R h0 0) 6) = 11 := (tw_9 hW hg_74).2.2.2
          refine va_get (D := DG E) (ci := 7) (v := .ref (R (R h0 0) 6)) (C := RX7) (T := TX7) (N := 14) hx hb hts iw_X7 hown hK.1 (va_one ha_75) 0 rfl rfl 6 (by decide) (hts _ fl_X3_38) (fun _ h9 => h9) rfl dX3_tell_109 ?_
          have ha_77 := tx_11 hT hg_76
          have hb_78 := (tw_11 hW_0 hg_76).2.2.2
          refine va_get (D := DG E) (ci := 5) (v := .int (B (R (R h0 0) 6) 4)) (C := RX5) (T := TX5) (N := 6) hx hb hts iw_X5 hown hK.1 (va_one ha_77) 0 rfl rfl 4 (by decide) (hts _ fl_X3_97) (fun _ h9 => h9) rfl dX3_tell_112 ?_
          exact W.iret (v := (B (R (R h0 0) 6) 4)) hx hb hr (fun t ht hW9 => ⟨⟨(B (R (R h0 0) 6) 4), (), rfl, (Or.inr (Or.inr (Or.inr (Or.inr (Or.inr (Or.inr (Or.inr (Or.inr (Or.inr (Or.inr (Or.inr (Or.inr (Or.inr (Or.inr (Or.inr (Or.inr (Or.inr (Or.inr (Or.inr (Or.inr (Or.inr (Or.inr (Or.inr (Or.inr (Or.inr (Or.inl ⟨c_1, c_32, c_64, c_65, rfl⟩)))))))))))))))))))))))))), trivial⟩, hS.F ht⟩) hS.2.2 dX3_tell_115
        · refine lv_tableIn (tgt := 116) (off := 95) hx hb dX3_tell_21 (by omega) (by omega) (by rw [c_65]; rfl) (by decide) ?_
          refine lv_aload_n hx hb dX3_tell_116 rfl (lv_at hl 0 rfl) ?_
          have hg_79 : G (R h0 1) = 10 := (tw_8 hW hG).2
          refine va_get (D := DG E) (ci := 3) (v := .ref (R h0 1)) (C := RX3) (T := TX3) (N := 3) hx hb hts iw_X3 hown hK.1 (va_one ha_63) 0 rfl rfl 1 (by decide) (hts _ fl_X3_15) (fun _ h9 => h9) rfl dX3_tell_117 ?_
          have ha_80 := tx_10 hT hg_79
          have hg_81 : G (R (R h0 1) 3) = 11 := (tw_10 hW hg_79).2.2.2.1
          refine va_get (D := DG E) (ci := 8) (v := .ref (R (R h0 1) 3)) (C := RX8) (T := TX8) (N := 9) hx hb hts iw_X8 hown hK.1 (va_one ha_80) 0 rfl rfl 3 (by decide) (hts _ fl_X3_48) (fun _ h9 => h9) rfl dX3_tell_120 ?_
          have ha_82 := tx_11 hT hg_81
          have hb_83 := (tw_11 hW_0 hg_81).2.2.2
          refine va_get (D := DG E) (ci := 5) (v := .int (B (R (R h0 1) 3) 4)) (C := RX5) (T := TX5) (N := 6) hx hb hts iw_X5 hown hK.1 (va_one ha_82) 0 rfl rfl 4 (by decide) (hts _ fl_X3_97) (fun _ h9 => h9) rfl dX3_tell_123 ?_
          exact W.iret (v := (B (R (R h0 1) 3) 4)) hx hb hr (fun t ht hW9 => ⟨⟨(B (R (R h0 1) 3) 4), (), rfl, (Or.inr (Or.inr (Or.inr (Or.inr (Or.inr (Or.inr (Or.inr (Or.inr (Or.inr (Or.inr (Or.inr (Or.inr (Or.inr (Or.inr (Or.inr (Or.inr (Or.inr (Or.inr (Or.inr (Or.inr (Or.inr (Or.inr (Or.inr (Or.inr (Or.inr (Or.inr (Or.inl ⟨c_1, c_32, c_64, c_65, rfl⟩))))))))))))))))))))))))))), trivial⟩, hS.F ht⟩) hS.2.2 dX3_tell_126
        · refine lv_tableIn (tgt := 127) (off := 106) hx hb dX3_tell_21 (by omega) (by omega) (by rw [c_65]; rfl) (by decide) ?_
          refine lv_aload_n hx hb dX3_tell_127 rfl (lv_at hl 0 rfl) ?_
          have hg_84 : G (R h0 0) = 9 := (tw_8 hW hG).1
          refine va_get (D := DG E) (ci := 3) (v := .ref (R h0 0)) (C := RX3) (T := TX3) (N := 3) hx hb hts iw_X3 hown hK.1 (va_one ha_63) 0 rfl rfl 0 (by decide) (hts _ fl_X3_9) (fun _ h9 => h9) rfl dX3_tell_128 ?_
          have ha_85 := tx_9 hT hg_84
          refine va_get (D := DG E) (ci := 7) (v := .int (B (R h0 0) 13)) (C := RX7) (T := TX7) (N := 14) hx hb hts iw_X7 hown hK.1 (va_one ha_85) 0 rfl rfl 13 (by decide) (hts _ fl_X3_100) (fun _ h9 => h9) rfl dX3_tell_131 ?_
          refine lv_if_eq (tgt := 141) hx hb dX3_tell_134 (by decide) (fun c_86 => ?_) (fun c_86 => ?_)
          · simp only [lt_I, le_I, eq_I, i_0, i_1, i_2, i_3, i_4, i_5, i_6, i_7, i_8, i_10, i_12, i_16, i_20, i_23, i_24, i_31, i_32, i_63, i_64, i_m1] at c_86
            refine lv_iconst (v := 0) hx hb dX3_tell_141 (by decide) ?_
            exact W.iret (v := 0) hx hb hr (fun t ht hW9 => ⟨⟨0, (), rfl, (Or.inr (Or.inr (Or.inr (Or.inr (Or.inr (Or.inr (Or.inr (Or.inr (Or.inr (Or.inr (Or.inr (Or.inr (Or.inr (Or.inr (Or.inr (Or.inr (Or.inr (Or.inr (Or.inr (Or.inr (Or.inr (Or.inr (Or.inr (Or.inr (Or.inr (Or.inr (Or.inr (Or.inl ⟨c_1, c_32, c_64, c_65, c_86, rfl⟩)))))))))))))))))))))))))))), trivial⟩, hS.F ht⟩) hS.2.2 dX3_tell_142
          · simp only [lt_I, le_I, eq_I, i_0, i_1, i_2, i_3, i_4, i_5, i_6, i_7, i_8, i_10, i_12, i_16, i_20, i_23, i_24, i_31, i_32, i_63, i_64, i_m1] at c_86
            refine lv_iconst (v := 1) hx hb dX3_tell_137 (by decide) ?_
            refine lv_goto (tgt := 142) hx hb dX3_tell_138 (by decide) ?_
            exact W.iret (v := 1) hx hb hr (fun t ht hW9 => ⟨⟨1, (), rfl, (Or.inr (Or.inr (Or.inr (Or.inr (Or.inr (Or.inr (Or.inr (Or.inr (Or.inr (Or.inr (Or.inr (Or.inr (Or.inr (Or.inr (Or.inr (Or.inr (Or.inr (Or.inr (Or.inr (Or.inr (Or.inr (Or.inr (Or.inr (Or.inr (Or.inr (Or.inr (Or.inr (Or.inr (Or.inl ⟨c_1, c_32, c_64, c_65, c_86, rfl⟩))))))))))))))))))))))))))))), trivial⟩, hS.F ht⟩) hS.2.2 dX3_tell_142
        · refine lv_tableOut (tgt := 143) hx hb dX3_tell_21 c_65 (by decide) ?_
          refine lv_iconst (v := (-1)) hx hb dX3_tell_143 (by decide) ?_
          exact W.iret (v := (-1)) hx hb hr (fun t ht hW9 => ⟨⟨(-1), (), rfl, (Or.inr (Or.inr (Or.inr (Or.inr (Or.inr (Or.inr (Or.inr (Or.inr (Or.inr (Or.inr (Or.inr (Or.inr (Or.inr (Or.inr (Or.inr (Or.inr (Or.inr (Or.inr (Or.inr (Or.inr (Or.inr (Or.inr (Or.inr (Or.inr (Or.inr (Or.inr (Or.inr (Or.inr (Or.inr (Or.inl ⟨c_1, c_32, c_64, c_65, rfl⟩)))))))))))))))))))))))))))))), trivial⟩, hS.F ht⟩) hS.2.2 dX3_tell_144
      · simp only [lt_I, le_I, eq_I, i_0, i_1, i_2, i_3, i_4, i_5, i_6, i_7, i_8, i_10, i_12, i_16, i_20, i_23, i_24, i_31, i_32, i_63, i_64, i_m1] at c_64
        refine lv_iconst (v := (-1)) hx hb dX3_tell_18 (by decide) ?_
        exact W.iret (v := (-1)) hx hb hr (fun t ht hW9 => ⟨⟨(-1), (), rfl, (Or.inr (Or.inr (Or.inr (Or.inr (Or.inr (Or.inr (Or.inr (Or.inr (Or.inr (Or.inr (Or.inr (Or.inr (Or.inr (Or.inr (Or.inr (Or.inr (Or.inr (Or.inr (Or.inr (Or.inr (Or.inr (Or.inr (Or.inr (Or.inr (Or.inr (Or.inr (Or.inr (Or.inr (Or.inr (Or.inr ⟨c_1, c_32, c_64, rfl⟩)))))))))))))))))))))))))))))), trivial⟩, hS.F ht⟩) hS.2.2 dX3_tell_19
end
section
theorem gdX9_region_0 : (decode cX9_region 0 = .ok (.iload_n 1, 1)) ∧ (decode cX9_region 1 = .ok (.invokestatic 46, 3)) ∧ (decode cX9_region 4 = .ok (.ifCond .eq 26, 3)) ∧ (decode cX9_region 7 = .ok (.iload_n 2, 1)) ∧ (decode cX9_region 8 = .ok (.invokestatic 50, 3)) ∧ (decode cX9_region 11 = .ok (.ifCond .eq 19, 3)) ∧ (decode cX9_region 14 = .ok (.iload 5, 2)) ∧ (decode cX9_region 16 = .ok (.ifCond .lt 14, 3)) ∧ (decode cX9_region 19 = .ok (.iload 5, 2)) ∧ (decode cX9_region 21 = .ok (.bipush 7, 2)) ∧ (decode cX9_region 23 = .ok (.if_icmp .gt 7, 3)) ∧ (decode cX9_region 26 = .ok (.iconst 1, 1)) ∧ (decode cX9_region 27 = .ok (.goto 4, 3)) ∧ (decode cX9_region 30 = .ok (.iconst 0, 1)) ∧ (decode cX9_region 31 = .ok (.invokestatic 53, 3)) ∧ (decode cX9_region 34 = .ok (.iload_n 3, 1)) := by decide +kernel
theorem dX9_region_0 : decode cX9_region 0 = .ok (.iload_n 1, 1) := gdX9_region_0.1
theorem dX9_region_1 : decode cX9_region 1 = .ok (.invokestatic 46, 3) := gdX9_region_0.2.1
theorem dX9_region_4 : decode cX9_region 4 = .ok (.ifCond .eq 26, 3) := gdX9_region_0.2.2.1
theorem dX9_region_7 : decode cX9_region 7 = .ok (.iload_n 2, 1) := gdX9_region_0.2.2.2.1
theorem dX9_region_8 : decode cX9_region 8 = .ok (.invokestatic 50, 3) := gdX9_region_0.2.2.2.2.1
theorem dX9_region_11 : decode cX9_region 11 = .ok (.ifCond .eq 19, 3) := gdX9_region_0.2.2.2.2.2.1
theorem dX9_region_14 : decode cX9_region 14 = .ok (.iload 5, 2) := gdX9_region_0.2.2.2.2.2.2.1
theorem dX9_region_16 : decode cX9_region 16 = .ok (.ifCond .lt 14, 3) := gdX9_region_0.2.2.2.2.2.2.2.1
theorem dX9_region_19 : decode cX9_region 19 = .ok (.iload 5, 2) := gdX9_region_0.2.2.2.2.2.2.2.2.1
theorem dX9_region_21 : decode cX9_region 21 = .ok (.bipush 7, 2) := gdX9_region_0.2.2.2.2.2.2.2.2.2.1
theorem dX9_region_23 : decode cX9_region 23 = .ok (.if_icmp .gt 7, 3) := gdX9_region_0.2.2.2.2.2.2.2.2.2.2.1
theorem dX9_region_26 : decode cX9_region 26 = .ok (.iconst 1, 1) := gdX9_region_0.2.2.2.2.2.2.2.2.2.2.2.1
theorem dX9_region_27 : decode cX9_region 27 = .ok (.goto 4, 3) := gdX9_region_0.2.2.2.2.2.2.2.2.2.2.2.2.1
theorem dX9_region_30 : decode cX9_region 30 = .ok (.iconst 0, 1) := gdX9_region_0.2.2.2.2.2.2.2.2.2.2.2.2.2.1
theorem dX9_region_31 : decode cX9_region 31 = .ok (.invokestatic 53, 3) := gdX9_region_0.2.2.2.2.2.2.2.2.2.2.2.2.2.2.1
theorem dX9_region_34 : decode cX9_region 34 = .ok (.iload_n 3, 1) := gdX9_region_0.2.2.2.2.2.2.2.2.2.2.2.2.2.2.2
theorem gdX9_region_35 : (decode cX9_region 35 = .ok (.ifCond .lt 21, 3)) ∧ (decode cX9_region 38 = .ok (.iload 4, 2)) ∧ (decode cX9_region 40 = .ok (.ifCond .lt 16, 3)) ∧ (decode cX9_region 43 = .ok (.iload 4, 2)) ∧ (decode cX9_region 45 = .ok (.bipush 32, 2)) ∧ (decode cX9_region 47 = .ok (.iload_n 3, 1)) ∧ (decode cX9_region 48 = .ok (.isub, 1)) ∧ (decode cX9_region 49 = .ok (.if_icmp .gt 7, 3)) ∧ (decode cX9_region 52 = .ok (.iconst 1, 1)) ∧ (decode cX9_region 53 = .ok (.goto 4, 3)) ∧ (decode cX9_region 56 = .ok (.iconst 0, 1)) ∧ (decode cX9_region 57 = .ok (.invokestatic 53, 3)) ∧ (decode cX9_region 60 = .ok (.aload_n 0, 1)) ∧ (decode cX9_region 61 = .ok (.getfield 22, 3)) ∧ (decode cX9_region 64 = .ok (.iload_n 1, 1)) ∧ (decode cX9_region 65 = .ok (.aaload, 1)) := by decide +kernel
theorem dX9_region_35 : decode cX9_region 35 = .ok (.ifCond .lt 21, 3) := gdX9_region_35.1
theorem dX9_region_38 : decode cX9_region 38 = .ok (.iload 4, 2) := gdX9_region_35.2.1
theorem dX9_region_40 : decode cX9_region 40 = .ok (.ifCond .lt 16, 3) := gdX9_region_35.2.2.1
theorem dX9_region_43 : decode cX9_region 43 = .ok (.iload 4, 2) := gdX9_region_35.2.2.2.1
theorem dX9_region_45 : decode cX9_region 45 = .ok (.bipush 32, 2) := gdX9_region_35.2.2.2.2.1
theorem dX9_region_47 : decode cX9_region 47 = .ok (.iload_n 3, 1) := gdX9_region_35.2.2.2.2.2.1
theorem dX9_region_48 : decode cX9_region 48 = .ok (.isub, 1) := gdX9_region_35.2.2.2.2.2.2.1
theorem dX9_region_49 : decode cX9_region 49 = .ok (.if_icmp .gt 7, 3) := gdX9_region_35.2.2.2.2.2.2.2.1
theorem dX9_region_52 : decode cX9_region 52 = .ok (.iconst 1, 1) := gdX9_region_35.2.2.2.2.2.2.2.2.1
theorem dX9_region_53 : decode cX9_region 53 = .ok (.goto 4, 3) := gdX9_region_35.2.2.2.2.2.2.2.2.2.1
theorem dX9_region_56 : decode cX9_region 56 = .ok (.iconst 0, 1) := gdX9_region_35.2.2.2.2.2.2.2.2.2.2.1
theorem dX9_region_57 : decode cX9_region 57 = .ok (.invokestatic 53, 3) := gdX9_region_35.2.2.2.2.2.2.2.2.2.2.2.1
theorem dX9_region_60 : decode cX9_region 60 = .ok (.aload_n 0, 1) := gdX9_region_35.2.2.2.2.2.2.2.2.2.2.2.2.1
theorem dX9_region_61 : decode cX9_region 61 = .ok (.getfield 22, 3) := gdX9_region_35.2.2.2.2.2.2.2.2.2.2.2.2.2.1
theorem dX9_region_64 : decode cX9_region 64 = .ok (.iload_n 1, 1) := gdX9_region_35.2.2.2.2.2.2.2.2.2.2.2.2.2.2.1
theorem dX9_region_65 : decode cX9_region 65 = .ok (.aaload, 1) := gdX9_region_35.2.2.2.2.2.2.2.2.2.2.2.2.2.2.2
theorem gdX9_region_66 : (decode cX9_region 66 = .ok (.getfield 57, 3)) ∧ (decode cX9_region 69 = .ok (.iload_n 2, 1)) ∧ (decode cX9_region 70 = .ok (.aaload, 1)) ∧ (decode cX9_region 71 = .ok (.iload_n 3, 1)) ∧ (decode cX9_region 72 = .ok (.iload 4, 2)) ∧ (decode cX9_region 74 = .ok (.iload 5, 2)) ∧ (decode cX9_region 76 = .ok (.invokevirtual 61, 3)) ∧ (decode cX9_region 79 = .ok (.return_, 1)) := by decide +kernel
theorem dX9_region_66 : decode cX9_region 66 = .ok (.getfield 57, 3) := gdX9_region_66.1
theorem dX9_region_69 : decode cX9_region 69 = .ok (.iload_n 2, 1) := gdX9_region_66.2.1
theorem dX9_region_70 : decode cX9_region 70 = .ok (.aaload, 1) := gdX9_region_66.2.2.1
theorem dX9_region_71 : decode cX9_region 71 = .ok (.iload_n 3, 1) := gdX9_region_66.2.2.2.1
theorem dX9_region_72 : decode cX9_region 72 = .ok (.iload 4, 2) := gdX9_region_66.2.2.2.2.1
theorem dX9_region_74 : decode cX9_region 74 = .ok (.iload 5, 2) := gdX9_region_66.2.2.2.2.2.1
theorem dX9_region_76 : decode cX9_region 76 = .ok (.invokevirtual 61, 3) := gdX9_region_66.2.2.2.2.2.2.1
theorem dX9_region_79 : decode cX9_region 79 = .ok (.return_, 1) := gdX9_region_66.2.2.2.2.2.2.2
set_option maxHeartbeats 8000000 in
set_option maxRecDepth 100000 in
theorem x_X9_region (l : Launch) (hst : l.stackTraces = false) (E : EE) (z0 : Nat) (G : Nat → Nat) (hGz : ∀ q, G q ≠ 0 → z0 ≤ q) (B : AA) (R : RR) (hW : TW G B R) (h0 : Nat) (p0 : Int32) (p1 : Int32) (p2 : Int32) (p3 : Int32) (p4 : Int32) (hG : G h0 = 1) : vx_Met l yX9_region [Cond.code yX9_region cX9_region 6 none] ({ frames := 7, cells := 2, slots := 12, locals := 101 } : Room) (va_Pc [.ref h0, .int p0, .int p1, .int p2, .int p3, .int p4] (fun U => TX E G B R U.heap ∧ KS E z0 U)) (va_Qv (fun (u : AA) => (TW G u R) ∧ (Fr G ([7] : List Nat) B u) ∧ (C_X9_region G B R h0 p0 p1 p2 p3 p4 u)) (fun u t => TX E G u R t.heap) (fun q : Nat => G q ∈ ([7] : List Nat))) (vx_X (fun (_ : Unit) => True) (fun En _ t => (X_X9_region G B R h0 p0 p1 p2 p3 p4 En) ∧ TX E G B R t.heap) (fun q : Nat => G q ∈ ([7] : List Nat))) 2 12 (fun q : Nat => G q ∈ ([7] : List Nat)) := by
  refine vx_ofW (cc := cX9_region) (maxL := 6) (ret := none) (by decide) rfl ?_
  intro p e s m args below meth c s₁ B9 hml hne hv
  obtain ⟨rfl, hT, hK⟩ := hv
  have hx := B9.exec
  have hb := B9.bytes
  have hr := B9.returns
  have hts : ∀ w ∈ TS, w.before ([.ref h0, .int p0, .int p1, .int p2, .int p3, .int p4] : List Value).toArray s = true := fun w hw => hK.2.1 w hw _
  have hown : s.vm.findClass RX9 = some m.cls := findClass_of_methodNamed B9.named
  have hlocks := B9.notSynchronized
  have hS : va_S (fun q : Nat => G q ∈ ([7] : List Nat)) s.heap s.heap [] := va_S.rf
  have hAz : ∀ q, (fun q : Nat => G q ∈ ([7] : List Nat)) q → z0 ≤ q := zL hGz (by decide)
  have hW_0 := hW
  have hl := lv_entry ([.ref h0, .int p0, .int p1, .int p2, .int p3, .int p4]) (n := 6) (Nat.le_of_ble_eq_true rfl)
  rw [lg_entry_eq]
  generalize (lg_sl ([.ref h0, .int p0, .int p1, .int p2, .int p3, .int p4]) ++ List.replicate (6 - (lg_sl ([.ref h0, .int p0, .int p1, .int p2, .int p3, .int p4])).length) Slot.unset).toArray = ls at hl ⊢
  have hl : lv_has ls 6 [(0, .ref h0), (1, .int p0), (2, .int p1), (3, .int p2), (4, .int p3), (5, .int p4)] := hl
  refine lv_iload_n hx hb dX9_region_0 rfl (lv_at hl 1 rfl) ?_
  refine W.callR (W.runS (As := [.int p0]) (rest := []) ⟨hx, hb, hml, hown, hts⟩ (c_X9_isNode l p0) (cwS 1 hts (gdS ml_X9_46 st_X9_isNode in_X9 co_X9_isNode rfl) rfl rfl rfl (by decide +kernel) ⟨Nat.le_of_ble_eq_true rfl, Nat.le_of_ble_eq_true rfl⟩) preEq rfl rfl hl.1 rfl (lv_room (Nat.le_of_ble_eq_true rfl)) dX9_region_1 ⟨Nat.le_of_ble_eq_true rfl, Nat.le_of_ble_eq_true rfl⟩) ?_
  refine W.eq (g2 := F0 m 4 ls [.int (bI (0 ≤ p0.toInt ∧ p0.toInt < 2))]) (by rfl) ?_
  refine lv_if_eq (tgt := 30) hx hb dX9_region_4 (by decide) (fun c_1 => ?_) (fun c_1 => ?_)
  · have c_1 := bI_0 c_1
    refine lv_iconst (v := 0) hx hb dX9_region_30 (by decide) ?_
    refine vx_callv (rxS (fun _ => True) (As := [.int 0]) (rest := []) ⟨hx, hb, hml, hown, hts⟩ (c_X9_require l hst E z0 0) (cwS 1 hts (gdS ml_X9_53 st_X9_require in_X9 co_X9_require rfl) rfl rfl rfl (by decide +kernel) ⟨Nat.le_of_ble_eq_true rfl, Nat.le_of_ble_eq_true rfl⟩) trivial (fun U hU hW => hK.go hW hS hAz hU) rfl rfl hl.1 rfl (lv_room (Nat.le_of_ble_eq_true rfl)) dX9_region_31 ⟨Nat.le_of_ble_eq_true rfl, Nat.le_of_ble_eq_true rfl⟩) hS (fun q _ h => h.elim) (fun q h => h.elim) (fun q _ h => h.elim) (fun En ce q9 _ t H locs ht hvm hw_2 hB hz hk hS hc1 hc2 hc3 => ?_) (fun _ t H locs ht hvm hw_2 hB hz hk hS => ?_)
    · have hT : TX E G B R H := hT.kept (fun q hq => hk q hq (fun h => h))
      subst hB
      exact vx_out (fun x hx => (hne x hx).elim) hlocks hc1 hc2 hc3 (fun t ht hA => ⟨(), trivial, ⟨(Or.inl ⟨c_1, rfl⟩), by show TX E G B R t.heap; rw [ht]; exact hT⟩, hS.F ht⟩) hS.2.2 (Nat.le_of_ble_eq_true rfl) (Nat.le_of_ble_eq_true rfl)
    · exact absurd rfl hw_2
  · have c_1 := bI_n c_1
    refine lv_iload_n hx hb dX9_region_7 rfl (lv_at hl 2 rfl) ?_
    refine W.callR (W.runS (As := [.int p1]) (rest := []) ⟨hx, hb, hml, hown, hts⟩ (c_X9_isRegion l p1) (cwS 1 hts (gdS ml_X9_50 st_X9_isRegion in_X9 co_X9_isRegion rfl) rfl rfl rfl (by decide +kernel) ⟨Nat.le_of_ble_eq_true rfl, Nat.le_of_ble_eq_true rfl⟩) preEq rfl rfl hl.1 rfl (lv_room (Nat.le_of_ble_eq_true rfl)) dX9_region_8 ⟨Nat.le_of_ble_eq_true rfl, Nat.le_of_ble_eq_true rfl⟩) ?_
    refine W.eq (g2 := F0 m 11 ls [.int (bI (0 ≤ p1.toInt ∧ p1.toInt < 6))]) (by rfl) ?_
    refine lv_if_eq (tgt := 30) hx hb dX9_region_11 (by decide) (fun c_3 => ?_) (fun c_3 => ?_)
    · have c_3 := bI_0 c_3
      refine lv_iconst (v := 0) hx hb dX9_region_30 (by decide) ?_
      refine vx_callv (rxS (fun _ => True) (As := [.int 0]) (rest := []) ⟨hx, hb, hml, hown, hts⟩ (c_X9_require l hst E z0 0) (cwS 1 hts (gdS ml_X9_53 st_X9_require in_X9 co_X9_require rfl) rfl rfl rfl (by decide +kernel) ⟨Nat.le_of_ble_eq_true rfl, Nat.le_of_ble_eq_true rfl⟩) trivial (fun U hU hW => hK.go hW hS hAz hU) rfl rfl hl.1 rfl (lv_room (Nat.le_of_ble_eq_true rfl)) dX9_region_31 ⟨Nat.le_of_ble_eq_true rfl, Nat.le_of_ble_eq_true rfl⟩) hS (fun q _ h => h.elim) (fun q h => h.elim) (fun q _ h => h.elim) (fun En ce q9 _ t H locs ht hvm hw_4 hB hz hk hS hc1 hc2 hc3 => ?_) (fun _ t H locs ht hvm hw_4 hB hz hk hS => ?_)
      · have hT : TX E G B R H := hT.kept (fun q hq => hk q hq (fun h => h))
        subst hB
        exact vx_out (fun x hx => (hne x hx).elim) hlocks hc1 hc2 hc3 (fun t ht hA => ⟨(), trivial, ⟨(Or.inr (Or.inl ⟨c_1, c_3, rfl⟩)), by show TX E G B R t.heap; rw [ht]; exact hT⟩, hS.F ht⟩) hS.2.2 (Nat.le_of_ble_eq_true rfl) (Nat.le_of_ble_eq_true rfl)
      · exact absurd rfl hw_4
    · have c_3 := bI_n c_3
      refine lv_iload hx hb dX9_region_14 (lv_at hl 5 rfl) ?_
      refine lv_if_lt (tgt := 30) hx hb dX9_region_16 (by decide) (fun c_5 => ?_) (fun c_5 => ?_)
      · simp only [lt_I, le_I, eq_I, i_0, i_1, i_2, i_3, i_4, i_5, i_6, i_7, i_8, i_10, i_12, i_16, i_20, i_23, i_24, i_31, i_32, i_63, i_64, i_m1] at c_5
        refine lv_iconst (v := 0) hx hb dX9_region_30 (by decide) ?_
        refine vx_callv (rxS (fun _ => True) (As := [.int 0]) (rest := []) ⟨hx, hb, hml, hown, hts⟩ (c_X9_require l hst E z0 0) (cwS 1 hts (gdS ml_X9_53 st_X9_require in_X9 co_X9_require rfl) rfl rfl rfl (by decide +kernel) ⟨Nat.le_of_ble_eq_true rfl, Nat.le_of_ble_eq_true rfl⟩) trivial (fun U hU hW => hK.go hW hS hAz hU) rfl rfl hl.1 rfl (lv_room (Nat.le_of_ble_eq_true rfl)) dX9_region_31 ⟨Nat.le_of_ble_eq_true rfl, Nat.le_of_ble_eq_true rfl⟩) hS (fun q _ h => h.elim) (fun q h => h.elim) (fun q _ h => h.elim) (fun En ce q9 _ t H locs ht hvm hw_6 hB hz hk hS hc1 hc2 hc3 => ?_) (fun _ t H locs ht hvm hw_6 hB hz hk hS => ?_)
        · have hT : TX E G B R H := hT.kept (fun q hq => hk q hq (fun h => h))
          subst hB
          exact vx_out (fun x hx => (hne x hx).elim) hlocks hc1 hc2 hc3 (fun t ht hA => ⟨(), trivial, ⟨(Or.inr (Or.inr (Or.inl ⟨c_1, c_3, c_5, rfl⟩))), by show TX E G B R t.heap; rw [ht]; exact hT⟩, hS.F ht⟩) hS.2.2 (Nat.le_of_ble_eq_true rfl) (Nat.le_of_ble_eq_true rfl)
        · exact absurd rfl hw_6
      · simp only [lt_I, le_I, eq_I, i_0, i_1, i_2, i_3, i_4, i_5, i_6, i_7, i_8, i_10, i_12, i_16, i_20, i_23, i_24, i_31, i_32, i_63, i_64, i_m1] at c_5
        refine lv_iload hx hb dX9_region_19 (lv_at hl 5 rfl) ?_
        refine lv_bipush (v := 7) hx hb dX9_region_21 (by decide) ?_
        refine lv_icmp_gt (tgt := 30) hx hb dX9_region_23 (by decide) (fun c_7 => ?_) (fun c_7 => ?_)
        · simp only [lt_I, le_I, eq_I, i_0, i_1, i_2, i_3, i_4, i_5, i_6, i_7, i_8, i_10, i_12, i_16, i_20, i_23, i_24, i_31, i_32, i_63, i_64, i_m1] at c_7
          refine lv_iconst (v := 0) hx hb dX9_region_30 (by decide) ?_
          refine vx_callv (rxS (fun _ => True) (As := [.int 0]) (rest := []) ⟨hx, hb, hml, hown, hts⟩ (c_X9_require l hst E z0 0) (cwS 1 hts (gdS ml_X9_53 st_X9_require in_X9 co_X9_require rfl) rfl rfl rfl (by decide +kernel) ⟨Nat.le_of_ble_eq_true rfl, Nat.le_of_ble_eq_true rfl⟩) trivial (fun U hU hW => hK.go hW hS hAz hU) rfl rfl hl.1 rfl (lv_room (Nat.le_of_ble_eq_true rfl)) dX9_region_31 ⟨Nat.le_of_ble_eq_true rfl, Nat.le_of_ble_eq_true rfl⟩) hS (fun q _ h => h.elim) (fun q h => h.elim) (fun q _ h => h.elim) (fun En ce q9 _ t H locs ht hvm hw_8 hB hz hk hS hc1 hc2 hc3 => ?_) (fun _ t H locs ht hvm hw_8 hB hz hk hS => ?_)
          · have hT : TX E G B R H := hT.kept (fun q hq => hk q hq (fun h => h))
            subst hB
            exact vx_out (fun x hx => (hne x hx).elim) hlocks hc1 hc2 hc3 (fun t ht hA => ⟨(), trivial, ⟨(Or.inr (Or.inr (Or.inr (Or.inl ⟨c_1, c_3, c_5, c_7, rfl⟩)))), by show TX E G B R t.heap; rw [ht]; exact hT⟩, hS.F ht⟩) hS.2.2 (Nat.le_of_ble_eq_true rfl) (Nat.le_of_ble_eq_true rfl)
          · exact absurd rfl hw_8
        · simp only [lt_I, le_I, eq_I, i_0, i_1, i_2, i_3, i_4, i_5, i_6, i_7, i_8, i_10, i_12, i_16, i_20, i_23, i_24, i_31, i_32, i_63, i_64, i_m1] at c_7
          refine lv_iconst (v := 1) hx hb dX9_region_26 (by decide) ?_
          refine lv_goto (tgt := 31) hx hb dX9_region_27 (by decide) ?_
          refine vx_callv (rxS (fun _ => True) (As := [.int 1]) (rest := []) ⟨hx, hb, hml, hown, hts⟩ (c_X9_require l hst E z0 1) (cwS 1 hts (gdS ml_X9_53 st_X9_require in_X9 co_X9_require rfl) rfl rfl rfl (by decide +kernel) ⟨Nat.le_of_ble_eq_true rfl, Nat.le_of_ble_eq_true rfl⟩) trivial (fun U hU hW => hK.go hW hS hAz hU) rfl rfl hl.1 rfl (lv_room (Nat.le_of_ble_eq_true rfl)) dX9_region_31 ⟨Nat.le_of_ble_eq_true rfl, Nat.le_of_ble_eq_true rfl⟩) hS (fun q _ h => h.elim) (fun q h => h.elim) (fun q _ h => h.elim) (fun En ce q9 _ t H locs ht hvm hw_9 hB hz hk hS hc1 hc2 hc3 => ?_) (fun _ t H locs ht hvm hw_9 hB hz hk hS => ?_)
          · exact absurd hw_9 (by decide)
          · have hT : TX E G B R H := hT.kept (fun q hq => hk q hq (fun h => h))
            refine lv_iload_n hx hb dX9_region_34 rfl (lv_at hl 3 rfl) ?_
            refine lv_if_lt (tgt := 56) hx hb dX9_region_35 (by decide) (fun c_10 => ?_) (fun c_10 => ?_)
            · simp only [lt_I, le_I, eq_I, i_0, i_1, i_2, i_3, i_4, i_5, i_6, i_7, i_8, i_10, i_12, i_16, i_20, i_23, i_24, i_31, i_32, i_63, i_64, i_m1] at c_10
              refine lv_iconst (v := 0) hx hb dX9_region_56 (by decide) ?_
              refine vx_callv (rxS (fun _ => True) (As := [.int 0]) (rest := []) ⟨hx, hb, hml, hown, hts⟩ (c_X9_require l hst E z0 0) (cwS 1 hts (gdS ml_X9_53 st_X9_require in_X9 co_X9_require rfl) rfl rfl rfl (by decide +kernel) ⟨Nat.le_of_ble_eq_true rfl, Nat.le_of_ble_eq_true rfl⟩) trivial (fun U hU hW => hK.go hW hS hAz hU) rfl rfl hl.1 rfl (lv_room (Nat.le_of_ble_eq_true rfl)) dX9_region_57 ⟨Nat.le_of_ble_eq_true rfl, Nat.le_of_ble_eq_true rfl⟩) hS (fun q _ h => h.elim) (fun q h => h.elim) (fun q _ h => h.elim) (fun En ce q9 _ t H locs ht hvm hw_11 hB hz hk hS hc1 hc2 hc3 => ?_) (fun _ t H locs ht hvm hw_11 hB hz hk hS => ?_)
              · have hT : TX E G B R H := hT.kept (fun q hq => hk q hq (fun h => h))
                subst hB
                exact vx_out (fun x hx => (hne x hx).elim) hlocks hc1 hc2 hc3 (fun t ht hA => ⟨(), trivial, ⟨(Or.inr (Or.inr (Or.inr (Or.inr (Or.inl ⟨c_1, c_3, c_5, c_7, c_10, rfl⟩))))), by show TX E G B R t.heap; rw [ht]; exact hT⟩, hS.F ht⟩) hS.2.2 (Nat.le_of_ble_eq_true rfl) (Nat.le_of_ble_eq_true rfl)
              · exact absurd rfl hw_11
            · simp only [lt_I, le_I, eq_I, i_0, i_1, i_2, i_3, i_4, i_5, i_6, i_7, i_8, i_10, i_12, i_16, i_20, i_23, i_24, i_31, i_32, i_63, i_64, i_m1] at c_10
              refine lv_iload hx hb dX9_region_38 (lv_at hl 4 rfl) ?_
              refine lv_if_lt (tgt := 56) hx hb dX9_region_40 (by decide) (fun c_12 => ?_) (fun c_12 => ?_)
              · simp only [lt_I, le_I, eq_I, i_0, i_1, i_2, i_3, i_4, i_5, i_6, i_7, i_8, i_10, i_12, i_16, i_20, i_23, i_24, i_31, i_32, i_63, i_64, i_m1] at c_12
                refine lv_iconst (v := 0) hx hb dX9_region_56 (by decide) ?_
                refine vx_callv (rxS (fun _ => True) (As := [.int 0]) (rest := []) ⟨hx, hb, hml, hown, hts⟩ (c_X9_require l hst E z0 0) (cwS 1 hts (gdS ml_X9_53 st_X9_require in_X9 co_X9_require rfl) rfl rfl rfl (by decide +kernel) ⟨Nat.le_of_ble_eq_true rfl, Nat.le_of_ble_eq_true rfl⟩) trivial (fun U hU hW => hK.go hW hS hAz hU) rfl rfl hl.1 rfl (lv_room (Nat.le_of_ble_eq_true rfl)) dX9_region_57 ⟨Nat.le_of_ble_eq_true rfl, Nat.le_of_ble_eq_true rfl⟩) hS (fun q _ h => h.elim) (fun q h => h.elim) (fun q _ h => h.elim) (fun En ce q9 _ t H locs ht hvm hw_13 hB hz hk hS hc1 hc2 hc3 => ?_) (fun _ t H locs ht hvm hw_13 hB hz hk hS => ?_)
                · have hT : TX E G B R H := hT.kept (fun q hq => hk q hq (fun h => h))
                  subst hB
                  exact vx_out (fun x hx => (hne x hx).elim) hlocks hc1 hc2 hc3 (fun t ht hA => ⟨(), trivial, ⟨(Or.inr (Or.inr (Or.inr (Or.inr (Or.inr (Or.inl ⟨c_1, c_3, c_5, c_7, c_10, c_12, rfl⟩)))))), by show TX E G B R t.heap; rw [ht]; exact hT⟩, hS.F ht⟩) hS.2.2 (Nat.le_of_ble_eq_true rfl) (Nat.le_of_ble_eq_true rfl)
                · exact absurd rfl hw_13
              · simp only [lt_I, le_I, eq_I, i_0, i_1, i_2, i_3, i_4, i_5, i_6, i_7, i_8, i_10, i_12, i_16, i_20, i_23, i_24, i_31, i_32, i_63, i_64, i_m1] at c_12
                refine lv_iload hx hb dX9_region_43 (lv_at hl 4 rfl) ?_
                refine lv_bipush (v := 32) hx hb dX9_region_45 (by decide) ?_
                refine lv_iload_n hx hb dX9_region_47 rfl (lv_at hl 3 rfl) ?_
                refine lv_isub hx hb dX9_region_48 ?_
                have bd_14 := s_bd p2
                refine lv_topi (fun x_15 ex_15 => ?_)
                have fx_15 : x_15.toInt = 32 - p2.toInt := by have h9 := s_sub (x := 32) (y := p2) (by rw [i_32]; omega) (by rw [i_32]; omega); rw [i_32] at h9; rw [ex_15]; exact h9
                refine lv_icmp_gt (tgt := 56) hx hb dX9_region_49 (by decide) (fun c_16 => ?_) (fun c_16 => ?_)
                · simp only [lt_I, le_I, eq_I, i_0, i_1, i_2, i_3, i_4, i_5, i_6, i_7, i_8, i_10, i_12, i_16, i_20, i_23, i_24, i_31, i_32, i_63, i_64, i_m1] at c_16
                  refine lv_iconst (v := 0) hx hb dX9_region_56 (by decide) ?_
                  refine vx_callv (rxS (fun _ => True) (As := [.int 0]) (rest := []) ⟨hx, hb, hml, hown, hts⟩ (c_X9_require l hst E z0 0) (cwS 1 hts (gdS ml_X9_53 st_X9_require in_X9 co_X9_require rfl) rfl rfl rfl (by decide +kernel) ⟨Nat.le_of_ble_eq_true rfl, Nat.le_of_ble_eq_true rfl⟩) trivial (fun U hU hW => hK.go hW hS hAz hU) rfl rfl hl.1 rfl (lv_room (Nat.le_of_ble_eq_true rfl)) dX9_region_57 ⟨Nat.le_of_ble_eq_true rfl, Nat.le_of_ble_eq_true rfl⟩) hS (fun q _ h => h.elim) (fun q h => h.elim) (fun q _ h => h.elim) (fun En ce q9 _ t H locs ht hvm hw_17 hB hz hk hS hc1 hc2 hc3 => ?_) (fun _ t H locs ht hvm hw_17 hB hz hk hS => ?_)
                  · have hT : TX E G B R H := hT.kept (fun q hq => hk q hq (fun h => h))
                    subst hB
                    exact vx_out (fun x hx => (hne x hx).elim) hlocks hc1 hc2 hc3 (fun t ht hA => ⟨(), trivial, ⟨(Or.inr (Or.inr (Or.inr (Or.inr (Or.inr (Or.inr ⟨c_1, c_3, c_5, c_7, c_10, c_12, x_15, ex_15, fx_15, c_16, rfl⟩)))))), by show TX E G B R t.heap; rw [ht]; exact hT⟩, hS.F ht⟩) hS.2.2 (Nat.le_of_ble_eq_true rfl) (Nat.le_of_ble_eq_true rfl)
                  · exact absurd rfl hw_17
                · simp only [lt_I, le_I, eq_I, i_0, i_1, i_2, i_3, i_4, i_5, i_6, i_7, i_8, i_10, i_12, i_16, i_20, i_23, i_24, i_31, i_32, i_63, i_64, i_m1] at c_16
                  refine lv_iconst (v := 1) hx hb dX9_region_52 (by decide) ?_
                  refine lv_goto (tgt := 57) hx hb dX9_region_53 (by decide) ?_
                  refine vx_callv (rxS (fun _ => True) (As := [.int 1]) (rest := []) ⟨hx, hb, hml, hown, hts⟩ (c_X9_require l hst E z0 1) (cwS 1 hts (gdS ml_X9_53 st_X9_require in_X9 co_X9_require rfl) rfl rfl rfl (by decide +kernel) ⟨Nat.le_of_ble_eq_true rfl, Nat.le_of_ble_eq_true rfl⟩) trivial (fun U hU hW => hK.go hW hS hAz hU) rfl rfl hl.1 rfl (lv_room (Nat.le_of_ble_eq_true rfl)) dX9_region_57 ⟨Nat.le_of_ble_eq_true rfl, Nat.le_of_ble_eq_true rfl⟩) hS (fun q _ h => h.elim) (fun q h => h.elim) (fun q _ h => h.elim) (fun En ce q9 _ t H locs ht hvm hw_18 hB hz hk hS hc1 hc2 hc3 => ?_) (fun _ t H locs ht hvm hw_18 hB hz hk hS => ?_)
                  · exact absurd hw_18 (by decide)
                  · have hT : TX E G B R H := hT.kept (fun q hq => hk q hq (fun h => h))
                    refine lv_aload_n hx hb dX9_region_60 rfl (lv_at hl 0 rfl) ?_
                    have ha_19 := tx_1 hT hG
                    have hg_20 : G (R h0 0) = 2 := (tw_1 hW hG).1
                    refine va_get (D := DG E) (ci := 9) (v := .ref (R h0 0)) (C := RX9) (T := TX9) (N := 3) hx hb hts iw_X9 hown hK.1 (va_one ha_19) 0 rfl rfl 0 (by decide) (hts _ fl_X9_22) (fun _ h9 => h9) rfl dX9_region_61 ?_
                    refine lv_iload_n hx hb dX9_region_64 rfl (lv_at hl 1 rfl) ?_
                    have ha_21 := tx_2 hT hg_20
                    have hi_22 : vp_in p0 2 := vp_in_iff.mpr (by omega)
                    obtain ⟨n_23, hn_23, en_23⟩ := x_nat (x := p0) (by omega)
                    have hg_24 : G (R (R h0 0) n_23) = 5 := (tw_2 hW hg_20) n_23 (by omega)
                    refine va_aldq (D := DG E) hx hb hK.1 (va_one ha_21) 0 3 rfl rfl hi_22 dX9_region_65 ?_
                    refine W.eq (g2 := F0 m 66 ls [.ref (R (R h0 0) n_23)]) (by rw [en_23]; rfl) ?_
                    have ha_25 := tx_5 hT hg_24
                    have hg_26 : G (R (R (R h0 0) n_23) 1) = 6 := (tw_5 hW hg_24).2.1
                    refine va_get (D := DG E) (ci := 1) (v := .ref (R (R (R h0 0) n_23) 1)) (C := RX1) (T := TX1) (N := 5) hx hb hts iw_X1 hown hK.1 (va_one ha_25) 0 rfl rfl 1 (by decide) (hts _ fl_X9_57) (fun _ h9 => h9) rfl dX9_region_66 ?_
                    refine lv_iload_n hx hb dX9_region_69 rfl (lv_at hl 2 rfl) ?_
                    have ha_27 := tx_6 hT hg_26
                    have hi_28 : vp_in p1 6 := vp_in_iff.mpr (by omega)
                    obtain ⟨n_29, hn_29, en_29⟩ := x_nat (x := p1) (by omega)
                    have hg_30 : G (R (R (R (R h0 0) n_23) 1) n_29) = 7 := (tw_6 hW hg_26) n_29 (by omega)
                    refine va_aldq (D := DG E) hx hb hK.1 (va_one ha_27) 0 4 rfl rfl hi_28 dX9_region_70 ?_
                    refine W.eq (g2 := F0 m 71 ls [.ref (R (R (R (R h0 0) n_23) 1) n_29)]) (by rw [en_29]; rfl) ?_
                    refine lv_iload_n hx hb dX9_region_71 rfl (lv_at hl 3 rfl) ?_
                    refine lv_iload hx hb dX9_region_72 (lv_at hl 4 rfl) ?_
                    refine lv_iload hx hb dX9_region_74 (lv_at hl 5 rfl) ?_
                    have ha_31 := tx_7 hT hg_30
                    refine va_callv (rnV (fun H => TX E G B R H) (As := [.int p2, .int p3, .int p4]) (rest := []) ⟨hx, hb, hml, hown, hts⟩ (x_X6_become l E z0 G hGz B R hW (R (R (R (R h0 0) n_23) 1) n_29) p2 p3 p4 hg_30) (cwV 3 hts (gdV ml_X9_61 im_X6_become se_X6_X6_become in_X6 co_X6_become rfl) rfl rfl rfl (by decide +kernel) ⟨Nat.le_of_ble_eq_true rfl, Nat.le_of_ble_eq_true rfl⟩) hT (fun U hU hW => hK.go hW hS hAz hU) (va_recv hK.1 (va_one ha_31) (ci := 6) (q0 := 0) rfl rfl) rfl rfl hl.1 rfl (lv_room (Nat.le_of_ble_eq_true rfl)) dX9_region_76 ⟨Nat.le_of_ble_eq_true rfl, Nat.le_of_ble_eq_true rfl⟩) hS (fun q _ h => mL (L' := [7]) (L := [7]) (by decide) h) (fun q h => mL (L' := [7]) (L := [7]) (by decide) h) (fun U_33 t H locs ht hvm hwr_32 hB hz hk hS => ?_)
                    have hT : TX E G U_33 R H := by rw [ht] at hB; exact hB
                    have hWr_32 : TW G U_33 R := hwr_32.1
                    have hW := hWr_32
                    have hFr_32 : Fr G [7] B U_33 := hwr_32.2.1
                    have hCr_32 : C_X6_become G B R (R (R (R (R h0 0) n_23) 1) n_29) p2 p3 p4 U_33 := hwr_32.2.2
                    refine vx_ret ?_
                    refine W.widen (k := 2) (n := 12) (Nat.le_of_ble_eq_true rfl) (Nat.le_of_ble_eq_true rfl) ?_
                    exact W.vret hx hb hr (fun t ht hW9 => ⟨⟨U_33, rfl, ⟨hW, (Fr.c Fr.rf hFr_32 (by decide)), ⟨c_1, c_3, c_5, c_7, c_10, c_12, x_15, ex_15, fx_15, c_16, n_23, hn_23, n_29, hn_29, U_33, hFr_32, hCr_32, rfl⟩⟩, (by show TX E G U_33 R t.heap; rw [ht]; exact hT)⟩, hS.F ht⟩) hS.2.2 dX9_region_79
theorem dX9_store_0 : decode cX9_store 0 = .ok (.iload_n 1, 1) := by decide +kernel
theorem dX9_store_1 : decode cX9_store 1 = .ok (.invokestatic 46, 3) := by decide +kernel
theorem dX9_store_4 : decode cX9_store 4 = .ok (.ifCond .eq 14, 3) := by decide +kernel
theorem dX9_store_7 : decode cX9_store 7 = .ok (.iload_n 2, 1) := by decide +kernel
theorem dX9_store_8 : decode cX9_store 8 = .ok (.invokestatic 67, 3) := by decide +kernel
theorem dX9_store_11 : decode cX9_store 11 = .ok (.ifCond .eq 7, 3) := by decide +kernel
theorem dX9_store_14 : decode cX9_store 14 = .ok (.iconst 1, 1) := by decide +kernel
theorem dX9_store_15 : decode cX9_store 15 = .ok (.goto 4, 3) := by decide +kernel
theorem dX9_store_18 : decode cX9_store 18 = .ok (.iconst 0, 1) := by decide +kernel
theorem dX9_store_19 : decode cX9_store 19 = .ok (.invokestatic 53, 3) := by decide +kernel
theorem dX9_store_22 : decode cX9_store 22 = .ok (.aload_n 0, 1) := by decide +kernel
theorem dX9_store_23 : decode cX9_store 23 = .ok (.getfield 22, 3) := by decide +kernel
theorem dX9_store_26 : decode cX9_store 26 = .ok (.iload_n 1, 1) := by decide +kernel
theorem dX9_store_27 : decode cX9_store 27 = .ok (.aaload, 1) := by decide +kernel
theorem dX9_store_28 : decode cX9_store 28 = .ok (.iload_n 2, 1) := by decide +kernel
theorem dX9_store_29 : decode cX9_store 29 = .ok (.iload_n 3, 1) := by decide +kernel
theorem dX9_store_30 : decode cX9_store 30 = .ok (.invokevirtual 70, 3) := by decide +kernel
theorem dX9_store_33 : decode cX9_store 33 = .ok (.return_, 1) := by decide +kernel
set_option maxHeartbeats 8000000 in
set_option maxRecDepth 100000 in
theorem x_X9_store (l : Launch) (hst : l.stackTraces = false) (E : EE) (z0 : Nat) (G : Nat → Nat) (hGz : ∀ q, G q ≠ 0 → z0 ≤ q) (B : AA) (R : RR) (hW : TW G B R) (h0 : Nat) (p0 : Int32) (p1 : Int32) (p2 : Int32) (hG : G h0 = 1) : vx_Met l yX9_store [Cond.code yX9_store cX9_store 4 none] ({ frames := 7, cells := 1, slots := 6, locals := 101 } : Room) (va_Pc [.ref h0, .int p0, .int p1, .int p2] (fun U => TX E G B R U.heap ∧ KS E z0 U)) (va_Qv (fun (u : AA) => (TW G u R) ∧ (Fr G ([14] : List Nat) B u) ∧ (C_X9_store G B R h0 p0 p1 p2 u)) (fun u t => TX E G u R t.heap) (fun q : Nat => G q ∈ ([14] : List Nat))) (vx_X (fun (_ : Unit) => True) (fun En _ t => (X_X9_store G B R h0 p0 p1 p2 En) ∧ TX E G B R t.heap) (fun q : Nat => G q ∈ ([14] : List Nat))) 1 6 (fun q : Nat => G q ∈ ([14] : List Nat)) := by
  refine vx_ofW (cc := cX9_store) (maxL := 4) (ret := none) (by decide) rfl ?_
  intro p e s m args below meth c s₁ B9 hml hne hv
  obtain ⟨rfl, hT, hK⟩ := hv
  have hx := B9.exec
  have hb := B9.bytes
  have hr := B9.returns
  have hts : ∀ w ∈ TS, w.before ([.ref h0, .int p0, .int p1, .int p2] : List Value).toArray s = true := fun w hw => hK.2.1 w hw _
  have hown : s.vm.findClass RX9 = some m.cls := findClass_of_methodNamed B9.named
  have hlocks := B9.notSynchronized
  have hS : va_S (fun q : Nat => G q ∈ ([14] : List Nat)) s.heap s.heap [] := va_S.rf
  have hAz : ∀ q, (fun q : Nat => G q ∈ ([14] : List Nat)) q → z0 ≤ q := zL hGz (by decide)
  have hW_0 := hW
  have hl := lv_entry ([.ref h0, .int p0, .int p1, .int p2]) (n := 4) (Nat.le_of_ble_eq_true rfl)
  rw [lg_entry_eq]
  generalize (lg_sl ([.ref h0, .int p0, .int p1, .int p2]) ++ List.replicate (4 - (lg_sl ([.ref h0, .int p0, .int p1, .int p2])).length) Slot.unset).toArray = ls at hl ⊢
  have hl : lv_has ls 4 [(0, .ref h0), (1, .int p0), (2, .int p1), (3, .int p2)] := hl
  refine lv_iload_n hx hb dX9_store_0 rfl (lv_at hl 1 rfl) ?_
  refine W.callR (W.runS (As := [.int p0]) (rest := []) ⟨hx, hb, hml, hown, hts⟩ (c_X9_isNode l p0) (cwS 1 hts (gdS ml_X9_46 st_X9_isNode in_X9 co_X9_isNode rfl) rfl rfl rfl (by decide +kernel) ⟨Nat.le_of_ble_eq_true rfl, Nat.le_of_ble_eq_true rfl⟩) preEq rfl rfl hl.1 rfl (lv_room (Nat.le_of_ble_eq_true rfl)) dX9_store_1 ⟨Nat.le_of_ble_eq_true rfl, Nat.le_of_ble_eq_true rfl⟩) ?_
  refine W.eq (g2 := F0 m 4 ls [.int (bI (0 ≤ p0.toInt ∧ p0.toInt < 2))]) (by rfl) ?_
  refine lv_if_eq (tgt := 18) hx hb dX9_store_4 (by decide) (fun c_1 => ?_) (fun c_1 => ?_)
  · have c_1 := bI_0 c_1
    refine lv_iconst (v := 0) hx hb dX9_store_18 (by decide) ?_
    refine vx_callv (rxS (fun _ => True) (As := [.int 0]) (rest := []) ⟨hx, hb, hml, hown, hts⟩ (c_X9_require l hst E z0 0) (cwS 1 hts (gdS ml_X9_53 st_X9_require in_X9 co_X9_require rfl) rfl rfl rfl (by decide +kernel) ⟨Nat.le_of_ble_eq_true rfl, Nat.le_of_ble_eq_true rfl⟩) trivial (fun U hU hW => hK.go hW hS hAz hU) rfl rfl hl.1 rfl (lv_room (Nat.le_of_ble_eq_true rfl)) dX9_store_19 ⟨Nat.le_of_ble_eq_true rfl, Nat.le_of_ble_eq_true rfl⟩) hS (fun q _ h => h.elim) (fun q h => h.elim) (fun q _ h => h.elim) (fun En ce q9 _ t H locs ht hvm hw_2 hB hz hk hS hc1 hc2 hc3 => ?_) (fun _ t H locs ht hvm hw_2 hB hz hk hS => ?_)
    · have hT : TX E G B R H := hT.kept (fun q hq => hk q hq (fun h => h))
      subst hB
      exact vx_out (fun x hx => (hne x hx).elim) hlocks hc1 hc2 hc3 (fun t ht hA => ⟨(), trivial, ⟨(Or.inl ⟨c_1, rfl⟩), by show TX E G B R t.heap; rw [ht]; exact hT⟩, hS.F ht⟩) hS.2.2 (Nat.le_of_ble_eq_true rfl) (Nat.le_of_ble_eq_true rfl)
    · exact absurd rfl hw_2
  · have c_1 := bI_n c_1
    refine lv_iload_n hx hb dX9_store_7 rfl (lv_at hl 2 rfl) ?_
    refine W.callR (W.runS (As := [.int p1]) (rest := []) ⟨hx, hb, hml, hown, hts⟩ (c_X9_isCell l p1) (cwS 1 hts (gdS ml_X9_67 st_X9_isCell in_X9 co_X9_isCell rfl) rfl rfl rfl (by decide +kernel) ⟨Nat.le_of_ble_eq_true rfl, Nat.le_of_ble_eq_true rfl⟩) preEq rfl rfl hl.1 rfl (lv_room (Nat.le_of_ble_eq_true rfl)) dX9_store_8 ⟨Nat.le_of_ble_eq_true rfl, Nat.le_of_ble_eq_true rfl⟩) ?_
    refine W.eq (g2 := F0 m 11 ls [.int (bI (0 ≤ p1.toInt ∧ p1.toInt < 32))]) (by rfl) ?_
    refine lv_if_eq (tgt := 18) hx hb dX9_store_11 (by decide) (fun c_3 => ?_) (fun c_3 => ?_)
    · have c_3 := bI_0 c_3
      refine lv_iconst (v := 0) hx hb dX9_store_18 (by decide) ?_
      refine vx_callv (rxS (fun _ => True) (As := [.int 0]) (rest := []) ⟨hx, hb, hml, hown, hts⟩ (c_X9_require l hst E z0 0) (cwS 1 hts (gdS ml_X9_53 st_X9_require in_X9 co_X9_require rfl) rfl rfl rfl (by decide +kernel) ⟨Nat.le_of_ble_eq_true rfl, Nat.le_of_ble_eq_true rfl⟩) trivial (fun U hU hW => hK.go hW hS hAz hU) rfl rfl hl.1 rfl (lv_room (Nat.le_of_ble_eq_true rfl)) dX9_store_19 ⟨Nat.le_of_ble_eq_true rfl, Nat.le_of_ble_eq_true rfl⟩) hS (fun q _ h => h.elim) (fun q h => h.elim) (fun q _ h => h.elim) (fun En ce q9 _ t H locs ht hvm hw_4 hB hz hk hS hc1 hc2 hc3 => ?_) (fun _ t H locs ht hvm hw_4 hB hz hk hS => ?_)
      · have hT : TX E G B R H := hT.kept (fun q hq => hk q hq (fun h => h))
        subst hB
        exact vx_out (fun x hx => (hne x hx).elim) hlocks hc1 hc2 hc3 (fun t ht hA => ⟨(), trivial, ⟨(Or.inr ⟨c_1, c_3, rfl⟩), by show TX E G B R t.heap; rw [ht]; exact hT⟩, hS.F ht⟩) hS.2.2 (Nat.le_of_ble_eq_true rfl) (Nat.le_of_ble_eq_true rfl)
      · exact absurd rfl hw_4
    · have c_3 := bI_n c_3
      refine lv_iconst (v := 1) hx hb dX9_store_14 (by decide) ?_
      refine lv_goto (tgt := 19) hx hb dX9_store_15 (by decide) ?_
      refine vx_callv (rxS (fun _ => True) (As := [.int 1]) (rest := []) ⟨hx, hb, hml, hown, hts⟩ (c_X9_require l hst E z0 1) (cwS 1 hts (gdS ml_X9_53 st_X9_require in_X9 co_X9_require rfl) rfl rfl rfl (by decide +kernel) ⟨Nat.le_of_ble_eq_true rfl, Nat.le_of_ble_eq_true rfl⟩) trivial (fun U hU hW => hK.go hW hS hAz hU) rfl rfl hl.1 rfl (lv_room (Nat.le_of_ble_eq_true rfl)) dX9_store_19 ⟨Nat.le_of_ble_eq_true rfl, Nat.le_of_ble_eq_true rfl⟩) hS (fun q _ h => h.elim) (fun q h => h.elim) (fun q _ h => h.elim) (fun En ce q9 _ t H locs ht hvm hw_5 hB hz hk hS hc1 hc2 hc3 => ?_) (fun _ t H locs ht hvm hw_5 hB hz hk hS => ?_)
      · exact absurd hw_5 (by decide)
      · have hT : TX E G B R H := hT.kept (fun q hq => hk q hq (fun h => h))
        refine lv_aload_n hx hb dX9_store_22 rfl (lv_at hl 0 rfl) ?_
        have ha_6 := tx_1 hT hG
        have hg_7 : G (R h0 0) = 2 := (tw_1 hW hG).1
        refine va_get (D := DG E) (ci := 9) (v := .ref (R h0 0)) (C := RX9) (T := TX9) (N := 3) hx hb hts iw_X9 hown hK.1 (va_one ha_6) 0 rfl rfl 0 (by decide) (hts _ fl_X9_22) (fun _ h9 => h9) rfl dX9_store_23 ?_
        refine lv_iload_n hx hb dX9_store_26 rfl (lv_at hl 1 rfl) ?_
        have ha_8 := tx_2 hT hg_7
        have hi_9 : vp_in p0 2 := vp_in_iff.mpr (by omega)
        obtain ⟨n_10, hn_10, en_10⟩ := x_nat (x := p0) (by omega)
        have hg_11 : G (R (R h0 0) n_10) = 5 := (tw_2 hW hg_7) n_10 (by omega)
        refine va_aldq (D := DG E) hx hb hK.1 (va_one ha_8) 0 3 rfl rfl hi_9 dX9_store_27 ?_
        refine W.eq (g2 := F0 m 28 ls [.ref (R (R h0 0) n_10)]) (by rw [en_10]; rfl) ?_
        refine lv_iload_n hx hb dX9_store_28 rfl (lv_at hl 2 rfl) ?_
        refine lv_iload_n hx hb dX9_store_29 rfl (lv_at hl 3 rfl) ?_
        have ha_12 := tx_5 hT hg_11
        refine va_callv (rnV (fun H => TX E G B R H) (As := [.int p1, .int p2]) (rest := []) ⟨hx, hb, hml, hown, hts⟩ (x_X1_put l E z0 G hGz B R hW (R (R h0 0) n_10) p1 p2 hg_11) (cwV 2 hts (gdV ml_X9_70 im_X1_put se_X1_X1_put in_X1 co_X1_put rfl) rfl rfl rfl (by decide +kernel) ⟨Nat.le_of_ble_eq_true rfl, Nat.le_of_ble_eq_true rfl⟩) hT (fun U hU hW => hK.go hW hS hAz hU) (va_recv hK.1 (va_one ha_12) (ci := 1) (q0 := 0) rfl rfl) rfl rfl hl.1 rfl (lv_room (Nat.le_of_ble_eq_true rfl)) dX9_store_30 ⟨Nat.le_of_ble_eq_true rfl, Nat.le_of_ble_eq_true rfl⟩) hS (fun q _ h => mL (L' := [14]) (L := [14]) (by decide) h) (fun q h => mL (L' := [14]) (L := [14]) (by decide) h) (fun U_14 t H locs ht hvm hwr_13 hB hz hk hS => ?_)
        have hT : TX E G U_14 R H := by rw [ht] at hB; exact hB
        have hWr_13 : TW G U_14 R := hwr_13.1
        have hW := hWr_13
        have hFr_13 : Fr G [14] B U_14 := hwr_13.2.1
        have hCr_13 : C_X1_put G B R (R (R h0 0) n_10) p1 p2 U_14 := hwr_13.2.2
        refine vx_ret ?_
        refine W.widen (k := 1) (n := 6) (Nat.le_of_ble_eq_true rfl) (Nat.le_of_ble_eq_true rfl) ?_
        exact W.vret hx hb hr (fun t ht hW9 => ⟨⟨U_14, rfl, ⟨hW, (Fr.c Fr.rf hFr_13 (by decide)), ⟨c_1, c_3, n_10, hn_10, U_14, hFr_13, hCr_13, rfl⟩⟩, (by show TX E G U_14 R t.heap; rw [ht]; exact hT)⟩, hS.F ht⟩) hS.2.2 dX9_store_33
theorem dX9_cell_0 : decode cX9_cell 0 = .ok (.iload_n 1, 1) := by decide +kernel
theorem dX9_cell_1 : decode cX9_cell 1 = .ok (.invokestatic 46, 3) := by decide +kernel
theorem dX9_cell_4 : decode cX9_cell 4 = .ok (.ifCond .eq 16, 3) := by decide +kernel
theorem dX9_cell_7 : decode cX9_cell 7 = .ok (.aload_n 0, 1) := by decide +kernel
theorem dX9_cell_8 : decode cX9_cell 8 = .ok (.getfield 22, 3) := by decide +kernel
theorem dX9_cell_11 : decode cX9_cell 11 = .ok (.iload_n 1, 1) := by decide +kernel
theorem dX9_cell_12 : decode cX9_cell 12 = .ok (.aaload, 1) := by decide +kernel
theorem dX9_cell_13 : decode cX9_cell 13 = .ok (.iload_n 2, 1) := by decide +kernel
theorem dX9_cell_14 : decode cX9_cell 14 = .ok (.invokevirtual 74, 3) := by decide +kernel
theorem dX9_cell_17 : decode cX9_cell 17 = .ok (.goto 4, 3) := by decide +kernel
theorem dX9_cell_20 : decode cX9_cell 20 = .ok (.iconst 0, 1) := by decide +kernel
theorem dX9_cell_21 : decode cX9_cell 21 = .ok (.ireturn, 1) := by decide +kernel
set_option maxHeartbeats 8000000 in
set_option maxRecDepth 100000 in
theorem x_X9_cell (l : Launch) (E : EE) (z0 : Nat) (G : Nat → Nat) (hGz : ∀ q, G q ≠ 0 → z0 ≤ q) (B : AA) (R : RR) (hW : TW G B R) (h0 : Nat) (p0 : Int32) (p1 : Int32) (hG : G h0 = 1) : Met l yX9_cell [Cond.code yX9_cell cX9_cell 3 (some .int)] ({ frames := 2, cells := 0, slots := 0, locals := 41 } : Room) (va_Pc [.ref h0, .int p0, .int p1] (fun U => TX E G B R U.heap ∧ KS E z0 U)) (va_Qi (fun (r : Int32) (u : Unit) => (C_X9_cell G B R h0 p0 p1 r)) (fun u t => True) (fun _ : Nat => False)) 0 0 (fun _ : Nat => False) := by
  refine Met.ofW (cc := cX9_cell) (maxL := 3) (ret := (some .int)) (by decide) rfl ?_
  intro p e s m args below meth c s₁ B9 hml hv
  obtain ⟨rfl, hT, hK⟩ := hv
  have hx := B9.exec
  have hb := B9.bytes
  have hr := B9.returns
  have hts : ∀ w ∈ TS, w.before ([.ref h0, .int p0, .int p1] : List Value).toArray s = true := fun w hw => hK.2.1 w hw _
  have hown : s.vm.findClass RX9 = some m.cls := findClass_of_methodNamed B9.named
  have hlocks := B9.notSynchronized
  have hS : va_S (fun _ : Nat => False) s.heap s.heap [] := va_S.rf
  have hAz : ∀ q, (fun _ : Nat => False) q → z0 ≤ q := fun _ h => h.elim
  have hW_0 := hW
  have hl := lv_entry ([.ref h0, .int p0, .int p1]) (n := 3) (Nat.le_of_ble_eq_true rfl)
  rw [lg_entry_eq]
  generalize (lg_sl ([.ref h0, .int p0, .int p1]) ++ List.replicate (3 - (lg_sl ([.ref h0, .int p0, .int p1])).length) Slot.unset).toArray = ls at hl ⊢
  have hl : lv_has ls 3 [(0, .ref h0), (1, .int p0), (2, .int p1)] := hl
  refine lv_iload_n hx hb dX9_cell_0 rfl (lv_at hl 1 rfl) ?_
  refine W.callR (W.runS (As := [.int p0]) (rest := []) ⟨hx, hb, hml, hown, hts⟩ (c_X9_isNode l p0) (cwS 1 hts (gdS ml_X9_46 st_X9_isNode in_X9 co_X9_isNode rfl) rfl rfl rfl (by decide +kernel) ⟨Nat.le_of_ble_eq_true rfl, Nat.le_of_ble_eq_true rfl⟩) preEq rfl rfl hl.1 rfl (lv_room (Nat.le_of_ble_eq_true rfl)) dX9_cell_1 ⟨Nat.le_of_ble_eq_true rfl, Nat.le_of_ble_eq_true rfl⟩) ?_
  refine W.eq (g2 := F0 m 4 ls [.int (bI (0 ≤ p0.toInt ∧ p0.toInt < 2))]) (by rfl) ?_
  refine lv_if_eq (tgt := 20) hx hb dX9_cell_4 (by decide) (fun c_1 => ?_) (fun c_1 => ?_)
  · have c_1 := bI_0 c_1
    refine lv_iconst (v := 0) hx hb dX9_cell_20 (by decide) ?_
    exact W.iret (v := 0) hx hb hr (fun t ht hW9 => ⟨⟨0, (), rfl, (Or.inl ⟨c_1, rfl⟩), trivial⟩, hS.F ht⟩) hS.2.2 dX9_cell_21
  · have c_1 := bI_n c_1
    refine lv_aload_n hx hb dX9_cell_7 rfl (lv_at hl 0 rfl) ?_
    have ha_2 := tx_1 hT hG
    have hg_3 : G (R h0 0) = 2 := (tw_1 hW hG).1
    refine va_get (D := DG E) (ci := 9) (v := .ref (R h0 0)) (C := RX9) (T := TX9) (N := 3) hx hb hts iw_X9 hown hK.1 (va_one ha_2) 0 rfl rfl 0 (by decide) (hts _ fl_X9_22) (fun _ h9 => h9) rfl dX9_cell_8 ?_
    refine lv_iload_n hx hb dX9_cell_11 rfl (lv_at hl 1 rfl) ?_
    have ha_4 := tx_2 hT hg_3
    have hi_5 : vp_in p0 2 := vp_in_iff.mpr (by omega)
    obtain ⟨n_6, hn_6, en_6⟩ := x_nat (x := p0) (by omega)
    have hg_7 : G (R (R h0 0) n_6) = 5 := (tw_2 hW hg_3) n_6 (by omega)
    refine va_aldq (D := DG E) hx hb hK.1 (va_one ha_4) 0 3 rfl rfl hi_5 dX9_cell_12 ?_
    refine W.eq (g2 := F0 m 13 ls [.ref (R (R h0 0) n_6)]) (by rw [en_6]; rfl) ?_
    refine lv_iload_n hx hb dX9_cell_13 rfl (lv_at hl 2 rfl) ?_
    have ha_8 := tx_5 hT hg_7
    refine va_calli (rnV (fun H => TX E G B R H) (As := [.int p1]) (rest := []) ⟨hx, hb, hml, hown, hts⟩ (x_X1_at l E z0 G hGz B R hW (R (R h0 0) n_6) p1 hg_7) (cwV 1 hts (gdV ml_X9_74 im_X1_at se_X1_X1_at in_X1 co_X1_at rfl) rfl rfl rfl (by decide +kernel) ⟨Nat.le_of_ble_eq_true rfl, Nat.le_of_ble_eq_true rfl⟩) hT (fun U hU hW => hK.go hW hS hAz hU) (va_recv hK.1 (va_one ha_8) (ci := 1) (q0 := 0) rfl rfl) rfl rfl hl.1 rfl (lv_room (Nat.le_of_ble_eq_true rfl)) dX9_cell_14 ⟨Nat.le_of_ble_eq_true rfl, Nat.le_of_ble_eq_true rfl⟩) hS (fun q _ h => h.elim) (fun q h => h.elim) (fun r_9 _ t H locs ht hvm hwr_9 hB hz hk hS => ?_)
    have hT : TX E G B R H := hT.kept (fun q hq => hk q hq (fun h => h))
    have hCr_9 : C_X1_at G B R (R (R h0 0) n_6) p1 r_9 := hwr_9
    refine lv_goto (tgt := 21) hx hb dX9_cell_17 (by decide) ?_
    exact W.iret (v := r_9) hx hb hr (fun t ht hW9 => ⟨⟨r_9, (), rfl, (Or.inr ⟨c_1, n_6, hn_6, r_9, hCr_9, rfl⟩), trivial⟩, hS.F ht⟩) hS.2.2 dX9_cell_21
theorem gdX9_ready_0 : (decode cX9_ready 0 = .ok (.iload_n 1, 1)) ∧ (decode cX9_ready 1 = .ok (.invokestatic 78, 3)) ∧ (decode cX9_ready 4 = .ok (.ifCond .eq 21, 3)) ∧ (decode cX9_ready 7 = .ok (.iload_n 2, 1)) ∧ (decode cX9_ready 8 = .ok (.invokestatic 81, 3)) ∧ (decode cX9_ready 11 = .ok (.ifCond .eq 14, 3)) ∧ (decode cX9_ready 14 = .ok (.iload_n 3, 1)) ∧ (decode cX9_ready 15 = .ok (.invokestatic 81, 3)) ∧ (decode cX9_ready 18 = .ok (.ifCond .eq 7, 3)) ∧ (decode cX9_ready 21 = .ok (.iconst 1, 1)) ∧ (decode cX9_ready 22 = .ok (.goto 4, 3)) ∧ (decode cX9_ready 25 = .ok (.iconst 0, 1)) ∧ (decode cX9_ready 26 = .ok (.invokestatic 53, 3)) ∧ (decode cX9_ready 29 = .ok (.aload_n 0, 1)) ∧ (decode cX9_ready 30 = .ok (.getfield 29, 3)) ∧ (decode cX9_ready 33 = .ok (.iload_n 1, 1)) := by decide +kernel
theorem dX9_ready_0 : decode cX9_ready 0 = .ok (.iload_n 1, 1) := gdX9_ready_0.1
theorem dX9_ready_1 : decode cX9_ready 1 = .ok (.invokestatic 78, 3) := gdX9_ready_0.2.1
theorem dX9_ready_4 : decode cX9_ready 4 = .ok (.ifCond .eq 21, 3) := gdX9_ready_0.2.2.1
theorem dX9_ready_7 : decode cX9_ready 7 = .ok (.iload_n 2, 1) := gdX9_ready_0.2.2.2.1
theorem dX9_ready_8 : decode cX9_ready 8 = .ok (.invokestatic 81, 3) := gdX9_ready_0.2.2.2.2.1
theorem dX9_ready_11 : decode cX9_ready 11 = .ok (.ifCond .eq 14, 3) := gdX9_ready_0.2.2.2.2.2.1
theorem dX9_ready_14 : decode cX9_ready 14 = .ok (.iload_n 3, 1) := gdX9_ready_0.2.2.2.2.2.2.1
theorem dX9_ready_15 : decode cX9_ready 15 = .ok (.invokestatic 81, 3) := gdX9_ready_0.2.2.2.2.2.2.2.1
theorem dX9_ready_18 : decode cX9_ready 18 = .ok (.ifCond .eq 7, 3) := gdX9_ready_0.2.2.2.2.2.2.2.2.1
theorem dX9_ready_21 : decode cX9_ready 21 = .ok (.iconst 1, 1) := gdX9_ready_0.2.2.2.2.2.2.2.2.2.1
theorem dX9_ready_22 : decode cX9_ready 22 = .ok (.goto 4, 3) := gdX9_ready_0.2.2.2.2.2.2.2.2.2.2.1
theorem dX9_ready_25 : decode cX9_ready 25 = .ok (.iconst 0, 1) := gdX9_ready_0.2.2.2.2.2.2.2.2.2.2.2.1
theorem dX9_ready_26 : decode cX9_ready 26 = .ok (.invokestatic 53, 3) := gdX9_ready_0.2.2.2.2.2.2.2.2.2.2.2.2.1
theorem dX9_ready_29 : decode cX9_ready 29 = .ok (.aload_n 0, 1) := gdX9_ready_0.2.2.2.2.2.2.2.2.2.2.2.2.2.1
theorem dX9_ready_30 : decode cX9_ready 30 = .ok (.getfield 29, 3) := gdX9_ready_0.2.2.2.2.2.2.2.2.2.2.2.2.2.2.1
theorem dX9_ready_33 : decode cX9_ready 33 = .ok (.iload_n 1, 1) := gdX9_ready_0.2.2.2.2.2.2.2.2.2.2.2.2.2.2.2
theorem gdX9_ready_34 : (decode cX9_ready 34 = .ok (.aaload, 1)) ∧ (decode cX9_ready 35 = .ok (.getfield 84, 3)) ∧ (decode cX9_ready 38 = .ok (.ifCond .ne 7, 3)) ∧ (decode cX9_ready 41 = .ok (.iconst 1, 1)) ∧ (decode cX9_ready 42 = .ok (.goto 4, 3)) ∧ (decode cX9_ready 45 = .ok (.iconst 0, 1)) ∧ (decode cX9_ready 46 = .ok (.invokestatic 88, 3)) ∧ (decode cX9_ready 49 = .ok (.aload_n 0, 1)) ∧ (decode cX9_ready 50 = .ok (.getfield 29, 3)) ∧ (decode cX9_ready 53 = .ok (.iload_n 1, 1)) ∧ (decode cX9_ready 54 = .ok (.aaload, 1)) ∧ (decode cX9_ready 55 = .ok (.iload_n 2, 1)) ∧ (decode cX9_ready 56 = .ok (.iload_n 3, 1)) ∧ (decode cX9_ready 57 = .ok (.invokevirtual 91, 3)) ∧ (decode cX9_ready 60 = .ok (.return_, 1)) := by decide +kernel
theorem dX9_ready_34 : decode cX9_ready 34 = .ok (.aaload, 1) := gdX9_ready_34.1
theorem dX9_ready_35 : decode cX9_ready 35 = .ok (.getfield 84, 3) := gdX9_ready_34.2.1
theorem dX9_ready_38 : decode cX9_ready 38 = .ok (.ifCond .ne 7, 3) := gdX9_ready_34.2.2.1
theorem dX9_ready_41 : decode cX9_ready 41 = .ok (.iconst 1, 1) := gdX9_ready_34.2.2.2.1
theorem dX9_ready_42 : decode cX9_ready 42 = .ok (.goto 4, 3) := gdX9_ready_34.2.2.2.2.1
theorem dX9_ready_45 : decode cX9_ready 45 = .ok (.iconst 0, 1) := gdX9_ready_34.2.2.2.2.2.1
theorem dX9_ready_46 : decode cX9_ready 46 = .ok (.invokestatic 88, 3) := gdX9_ready_34.2.2.2.2.2.2.1
theorem dX9_ready_49 : decode cX9_ready 49 = .ok (.aload_n 0, 1) := gdX9_ready_34.2.2.2.2.2.2.2.1
theorem dX9_ready_50 : decode cX9_ready 50 = .ok (.getfield 29, 3) := gdX9_ready_34.2.2.2.2.2.2.2.2.1
theorem dX9_ready_53 : decode cX9_ready 53 = .ok (.iload_n 1, 1) := gdX9_ready_34.2.2.2.2.2.2.2.2.2.1
theorem dX9_ready_54 : decode cX9_ready 54 = .ok (.aaload, 1) := gdX9_ready_34.2.2.2.2.2.2.2.2.2.2.1
theorem dX9_ready_55 : decode cX9_ready 55 = .ok (.iload_n 2, 1) := gdX9_ready_34.2.2.2.2.2.2.2.2.2.2.2.1
theorem dX9_ready_56 : decode cX9_ready 56 = .ok (.iload_n 3, 1) := gdX9_ready_34.2.2.2.2.2.2.2.2.2.2.2.2.1
theorem dX9_ready_57 : decode cX9_ready 57 = .ok (.invokevirtual 91, 3) := gdX9_ready_34.2.2.2.2.2.2.2.2.2.2.2.2.2.1
theorem dX9_ready_60 : decode cX9_ready 60 = .ok (.return_, 1) := gdX9_ready_34.2.2.2.2.2.2.2.2.2.2.2.2.2.2
set_option maxHeartbeats 8000000 in
set_option maxRecDepth 100000 in
theorem x_X9_ready (l : Launch) (hst : l.stackTraces = false) (E : EE) (z0 : Nat) (G : Nat → Nat) (hGz : ∀ q, G q ≠ 0 → z0 ≤ q) (B : AA) (R : RR) (hW : TW G B R) (h0 : Nat) (p0 : Int32) (p1 : Int32) (p2 : Int32) (hG : G h0 = 1) : vx_Met l yX9_ready [Cond.code yX9_ready cX9_ready 4 none] ({ frames := 7, cells := 2, slots := 12, locals := 101 } : Room) (va_Pc [.ref h0, .int p0, .int p1, .int p2] (fun U => TX E G B R U.heap ∧ KS E z0 U)) (va_Qv (fun (u : AA) => (TW G u R) ∧ (Fr G ([8, 9, 10] : List Nat) B u) ∧ (C_X9_ready G B R h0 p0 p1 p2 u)) (fun u t => TX E G u R t.heap) (fun q : Nat => G q ∈ ([8, 9, 10] : List Nat))) (vx_X (fun (_ : Unit) => True) (fun En _ t => (X_X9_ready G B R h0 p0 p1 p2 En) ∧ TX E G B R t.heap) (fun q : Nat => G q ∈ ([8, 9, 10] : List Nat))) 2 12 (fun q : Nat => G q ∈ ([8, 9, 10] : List Nat)) := by
  refine vx_ofW (cc := cX9_ready) (maxL := 4) (ret := none) (by decide) rfl ?_
  intro p e s m args below meth c s₁ B9 hml hne hv
  obtain ⟨rfl, hT, hK⟩ := hv
  have hx := B9.exec
  have hb := B9.bytes
  have hr := B9.returns
  have hts : ∀ w ∈ TS, w.before ([.ref h0, .int p0, .int p1, .int p2] : List Value).toArray s = true := fun w hw => hK.2.1 w hw _
  have hown : s.vm.findClass RX9 = some m.cls := findClass_of_methodNamed B9.named
  have hlocks := B9.notSynchronized
  have hS : va_S (fun q : Nat => G q ∈ ([8, 9, 10] : List Nat)) s.heap s.heap [] := va_S.rf
  have hAz : ∀ q, (fun q : Nat => G q ∈ ([8, 9, 10] : List Nat)) q → z0 ≤ q := zL hGz (by decide)
  have hW_0 := hW
  have hl := lv_entry ([.ref h0, .int p0, .int p1, .int p2]) (n := 4) (Nat.le_of_ble_eq_true rfl)
  rw [lg_entry_eq]
  generalize (lg_sl ([.ref h0, .int p0, .int p1, .int p2]) ++ List.replicate (4 - (lg_sl ([.ref h0, .int p0, .int p1, .int p2])).length) Slot.unset).toArray = ls at hl ⊢
  have hl : lv_has ls 4 [(0, .ref h0), (1, .int p0), (2, .int p1), (3, .int p2)] := hl
  refine lv_iload_n hx hb dX9_ready_0 rfl (lv_at hl 1 rfl) ?_
  refine W.callR (W.runS (As := [.int p0]) (rest := []) ⟨hx, hb, hml, hown, hts⟩ (c_X9_isPair l p0) (cwS 1 hts (gdS ml_X9_78 st_X9_isPair in_X9 co_X9_isPair rfl) rfl rfl rfl (by decide +kernel) ⟨Nat.le_of_ble_eq_true rfl, Nat.le_of_ble_eq_true rfl⟩) preEq rfl rfl hl.1 rfl (lv_room (Nat.le_of_ble_eq_true rfl)) dX9_ready_1 ⟨Nat.le_of_ble_eq_true rfl, Nat.le_of_ble_eq_true rfl⟩) ?_
  refine W.eq (g2 := F0 m 4 ls [.int (bI (0 ≤ p0.toInt ∧ p0.toInt < 4))]) (by rfl) ?_
  refine lv_if_eq (tgt := 25) hx hb dX9_ready_4 (by decide) (fun c_1 => ?_) (fun c_1 => ?_)
  · have c_1 := bI_0 c_1
    refine lv_iconst (v := 0) hx hb dX9_ready_25 (by decide) ?_
    refine vx_callv (rxS (fun _ => True) (As := [.int 0]) (rest := []) ⟨hx, hb, hml, hown, hts⟩ (c_X9_require l hst E z0 0) (cwS 1 hts (gdS ml_X9_53 st_X9_require in_X9 co_X9_require rfl) rfl rfl rfl (by decide +kernel) ⟨Nat.le_of_ble_eq_true rfl, Nat.le_of_ble_eq_true rfl⟩) trivial (fun U hU hW => hK.go hW hS hAz hU) rfl rfl hl.1 rfl (lv_room (Nat.le_of_ble_eq_true rfl)) dX9_ready_26 ⟨Nat.le_of_ble_eq_true rfl, Nat.le_of_ble_eq_true rfl⟩) hS (fun q _ h => h.elim) (fun q h => h.elim) (fun q _ h => h.elim) (fun En ce q9 _ t H locs ht hvm hw_2 hB hz hk hS hc1 hc2 hc3 => ?_) (fun _ t H locs ht hvm hw_2 hB hz hk hS => ?_)
    · have hT : TX E G B R H := hT.kept (fun q hq => hk q hq (fun h => h))
      subst hB
      exact vx_out (fun x hx => (hne x hx).elim) hlocks hc1 hc2 hc3 (fun t ht hA => ⟨(), trivial, ⟨(Or.inl ⟨c_1, rfl⟩), by show TX E G B R t.heap; rw [ht]; exact hT⟩, hS.F ht⟩) hS.2.2 (Nat.le_of_ble_eq_true rfl) (Nat.le_of_ble_eq_true rfl)
    · exact absurd rfl hw_2
  · have c_1 := bI_n c_1
    refine lv_iload_n hx hb dX9_ready_7 rfl (lv_at hl 2 rfl) ?_
    refine W.callR (W.runS (As := [.int p1]) (rest := []) ⟨hx, hb, hml, hown, hts⟩ (c_X9_isNumber l p1) (cwS 1 hts (gdS ml_X9_81 st_X9_isNumber in_X9 co_X9_isNumber rfl) rfl rfl rfl (by decide +kernel) ⟨Nat.le_of_ble_eq_true rfl, Nat.le_of_ble_eq_true rfl⟩) preEq rfl rfl hl.1 rfl (lv_room (Nat.le_of_ble_eq_true rfl)) dX9_ready_8 ⟨Nat.le_of_ble_eq_true rfl, Nat.le_of_ble_eq_true rfl⟩) ?_
    refine W.eq (g2 := F0 m 11 ls [.int (bI (0 ≤ p1.toInt ∧ p1.toInt < 64))]) (by rfl) ?_
    refine lv_if_eq (tgt := 25) hx hb dX9_ready_11 (by decide) (fun c_3 => ?_) (fun c_3 => ?_)
    · have c_3 := bI_0 c_3
      refine lv_iconst (v := 0) hx hb dX9_ready_25 (by decide) ?_
      refine vx_callv (rxS (fun _ => True) (As := [.int 0]) (rest := []) ⟨hx, hb, hml, hown, hts⟩ (c_X9_require l hst E z0 0) (cwS 1 hts (gdS ml_X9_53 st_X9_require in_X9 co_X9_require rfl) rfl rfl rfl (by decide +kernel) ⟨Nat.le_of_ble_eq_true rfl, Nat.le_of_ble_eq_true rfl⟩) trivial (fun U hU hW => hK.go hW hS hAz hU) rfl rfl hl.1 rfl (lv_room (Nat.le_of_ble_eq_true rfl)) dX9_ready_26 ⟨Nat.le_of_ble_eq_true rfl, Nat.le_of_ble_eq_true rfl⟩) hS (fun q _ h => h.elim) (fun q h => h.elim) (fun q _ h => h.elim) (fun En ce q9 _ t H locs ht hvm hw_4 hB hz hk hS hc1 hc2 hc3 => ?_) (fun _ t H locs ht hvm hw_4 hB hz hk hS => ?_)
      · have hT : TX E G B R H := hT.kept (fun q hq => hk q hq (fun h => h))
        subst hB
        exact vx_out (fun x hx => (hne x hx).elim) hlocks hc1 hc2 hc3 (fun t ht hA => ⟨(), trivial, ⟨(Or.inr (Or.inl ⟨c_1, c_3, rfl⟩)), by show TX E G B R t.heap; rw [ht]; exact hT⟩, hS.F ht⟩) hS.2.2 (Nat.le_of_ble_eq_true rfl) (Nat.le_of_ble_eq_true rfl)
      · exact absurd rfl hw_4
    · have c_3 := bI_n c_3
      refine lv_iload_n hx hb dX9_ready_14 rfl (lv_at hl 3 rfl) ?_
      refine W.callR (W.runS (As := [.int p2]) (rest := []) ⟨hx, hb, hml, hown, hts⟩ (c_X9_isNumber l p2) (cwS 1 hts (gdS ml_X9_81 st_X9_isNumber in_X9 co_X9_isNumber rfl) rfl rfl rfl (by decide +kernel) ⟨Nat.le_of_ble_eq_true rfl, Nat.le_of_ble_eq_true rfl⟩) preEq rfl rfl hl.1 rfl (lv_room (Nat.le_of_ble_eq_true rfl)) dX9_ready_15 ⟨Nat.le_of_ble_eq_true rfl, Nat.le_of_ble_eq_true rfl⟩) ?_
      refine W.eq (g2 := F0 m 18 ls [.int (bI (0 ≤ p2.toInt ∧ p2.toInt < 64))]) (by rfl) ?_
      refine lv_if_eq (tgt := 25) hx hb dX9_ready_18 (by decide) (fun c_5 => ?_) (fun c_5 => ?_)
      · have c_5 := bI_0 c_5
        refine lv_iconst (v := 0) hx hb dX9_ready_25 (by decide) ?_
        refine vx_callv (rxS (fun _ => True) (As := [.int 0]) (rest := []) ⟨hx, hb, hml, hown, hts⟩ (c_X9_require l hst E z0 0) (cwS 1 hts (gdS ml_X9_53 st_X9_require in_X9 co_X9_require rfl) rfl rfl rfl (by decide +kernel) ⟨Nat.le_of_ble_eq_true rfl, Nat.le_of_ble_eq_true rfl⟩) trivial (fun U hU hW => hK.go hW hS hAz hU) rfl rfl hl.1 rfl (lv_room (Nat.le_of_ble_eq_true rfl)) dX9_ready_26 ⟨Nat.le_of_ble_eq_true rfl, Nat.le_of_ble_eq_true rfl⟩) hS (fun q _ h => h.elim) (fun q h => h.elim) (fun q _ h => h.elim) (fun En ce q9 _ t H locs ht hvm hw_6 hB hz hk hS hc1 hc2 hc3 => ?_) (fun _ t H locs ht hvm hw_6 hB hz hk hS => ?_)
        · have hT : TX E G B R H := hT.kept (fun q hq => hk q hq (fun h => h))
          subst hB
          exact vx_out (fun x hx => (hne x hx).elim) hlocks hc1 hc2 hc3 (fun t ht hA => ⟨(), trivial, ⟨(Or.inr (Or.inr (Or.inl ⟨c_1, c_3, c_5, rfl⟩))), by show TX E G B R t.heap; rw [ht]; exact hT⟩, hS.F ht⟩) hS.2.2 (Nat.le_of_ble_eq_true rfl) (Nat.le_of_ble_eq_true rfl)
        · exact absurd rfl hw_6
      · have c_5 := bI_n c_5
        refine lv_iconst (v := 1) hx hb dX9_ready_21 (by decide) ?_
        refine lv_goto (tgt := 26) hx hb dX9_ready_22 (by decide) ?_
        refine vx_callv (rxS (fun _ => True) (As := [.int 1]) (rest := []) ⟨hx, hb, hml, hown, hts⟩ (c_X9_require l hst E z0 1) (cwS 1 hts (gdS ml_X9_53 st_X9_require in_X9 co_X9_require rfl) rfl rfl rfl (by decide +kernel) ⟨Nat.le_of_ble_eq_true rfl, Nat.le_of_ble_eq_true rfl⟩) trivial (fun U hU hW => hK.go hW hS hAz hU) rfl rfl hl.1 rfl (lv_room (Nat.le_of_ble_eq_true rfl)) dX9_ready_26 ⟨Nat.le_of_ble_eq_true rfl, Nat.le_of_ble_eq_true rfl⟩) hS (fun q _ h => h.elim) (fun q h => h.elim) (fun q _ h => h.elim) (fun En ce q9 _ t H locs ht hvm hw_7 hB hz hk hS hc1 hc2 hc3 => ?_) (fun _ t H locs ht hvm hw_7 hB hz hk hS => ?_)
        · exact absurd hw_7 (by decide)
        · have hT : TX E G B R H := hT.kept (fun q hq => hk q hq (fun h => h))
          refine lv_aload_n hx hb dX9_ready_29 rfl (lv_at hl 0 rfl) ?_
          have ha_8 := tx_1 hT hG
          have hg_9 : G (R h0 1) = 3 := (tw_1 hW hG).2.1
          refine va_get (D := DG E) (ci := 9) (v := .ref (R h0 1)) (C := RX9) (T := TX9) (N := 3) hx hb hts iw_X9 hown hK.1 (va_one ha_8) 0 rfl rfl 1 (by decide) (hts _ fl_X9_29) (fun _ h9 => h9) rfl dX9_ready_30 ?_
          refine lv_iload_n hx hb dX9_ready_33 rfl (lv_at hl 1 rfl) ?_
          have ha_10 := tx_3 hT hg_9
          have hi_11 : vp_in p0 4 := vp_in_iff.mpr (by omega)
          obtain ⟨n_12, hn_12, en_12⟩ := x_nat (x := p0) (by omega)
          have hg_13 : G (R (R h0 1) n_12) = 8 := (tw_3 hW hg_9) n_12 (by omega)
          refine va_aldq (D := DG E) hx hb hK.1 (va_one ha_10) 0 5 rfl rfl hi_11 dX9_ready_34 ?_
          refine W.eq (g2 := F0 m 35 ls [.ref (R (R h0 1) n_12)]) (by rw [en_12]; rfl) ?_
          have ha_14 := tx_8 hT hg_13
          refine va_get (D := DG E) (ci := 3) (v := .int (B (R (R h0 1) n_12) 2)) (C := RX3) (T := TX3) (N := 3) hx hb hts iw_X3 hown hK.1 (va_one ha_14) 0 rfl rfl 2 (by decide) (hts _ fl_X9_84) (fun _ h9 => h9) rfl dX9_ready_35 ?_
          refine lv_if_ne (tgt := 45) hx hb dX9_ready_38 (by decide) (fun c_15 => ?_) (fun c_15 => ?_)
          · simp only [lt_I, le_I, eq_I, i_0, i_1, i_2, i_3, i_4, i_5, i_6, i_7, i_8, i_10, i_12, i_16, i_20, i_23, i_24, i_31, i_32, i_63, i_64, i_m1] at c_15
            refine lv_iconst (v := 0) hx hb dX9_ready_45 (by decide) ?_
            refine vx_callv (rxS (fun _ => True) (As := [.int 0]) (rest := []) ⟨hx, hb, hml, hown, hts⟩ (c_X9_requireState l hst E z0 0) (cwS 1 hts (gdS ml_X9_88 st_X9_requireState in_X9 co_X9_requireState rfl) rfl rfl rfl (by decide +kernel) ⟨Nat.le_of_ble_eq_true rfl, Nat.le_of_ble_eq_true rfl⟩) trivial (fun U hU hW => hK.go hW hS hAz hU) rfl rfl hl.1 rfl (lv_room (Nat.le_of_ble_eq_true rfl)) dX9_ready_46 ⟨Nat.le_of_ble_eq_true rfl, Nat.le_of_ble_eq_true rfl⟩) hS (fun q _ h => h.elim) (fun q h => h.elim) (fun q _ h => h.elim) (fun En ce q9 _ t H locs ht hvm hw_16 hB hz hk hS hc1 hc2 hc3 => ?_) (fun _ t H locs ht hvm hw_16 hB hz hk hS => ?_)
            · have hT : TX E G B R H := hT.kept (fun q hq => hk q hq (fun h => h))
              subst hB
              exact vx_out (fun x hx => (hne x hx).elim) hlocks hc1 hc2 hc3 (fun t ht hA => ⟨(), trivial, ⟨(Or.inr (Or.inr (Or.inr ⟨c_1, c_3, c_5, n_12, hn_12, c_15, rfl⟩))), by show TX E G B R t.heap; rw [ht]; exact hT⟩, hS.F ht⟩) hS.2.2 (Nat.le_of_ble_eq_true rfl) (Nat.le_of_ble_eq_true rfl)
            · exact absurd rfl hw_16
          · simp only [lt_I, le_I, eq_I, i_0, i_1, i_2, i_3, i_4, i_5, i_6, i_7, i_8, i_10, i_12, i_16, i_20, i_23, i_24, i_31, i_32, i_63, i_64, i_m1] at c_15
            refine lv_iconst (v := 1) hx hb dX9_ready_41 (by decide) ?_
            refine lv_goto (tgt := 46) hx hb dX9_ready_42 (by decide) ?_
            refine vx_callv (rxS (fun _ => True) (As := [.int 1]) (rest := []) ⟨hx, hb, hml, hown, hts⟩ (c_X9_requireState l hst E z0 1) (cwS 1 hts (gdS ml_X9_88 st_X9_requireState in_X9 co_X9_requireState rfl) rfl rfl rfl (by decide +kernel) ⟨Nat.le_of_ble_eq_true rfl, Nat.le_of_ble_eq_true rfl⟩) trivial (fun U hU hW => hK.go hW hS hAz hU) rfl rfl hl.1 rfl (lv_room (Nat.le_of_ble_eq_true rfl)) dX9_ready_46 ⟨Nat.le_of_ble_eq_true rfl, Nat.le_of_ble_eq_true rfl⟩) hS (fun q _ h => h.elim) (fun q h => h.elim) (fun q _ h => h.elim) (fun En ce q9 _ t H locs ht hvm hw_17 hB hz hk hS hc1 hc2 hc3 => ?_) (fun _ t H locs ht hvm hw_17 hB hz hk hS => ?_)
            · exact absurd hw_17 (by decide)
            · have hT : TX E G B R H := hT.kept (fun q hq => hk q hq (fun h => h))
              refine lv_aload_n hx hb dX9_ready_49 rfl (lv_at hl 0 rfl) ?_
              have ha_18 := tx_1 hT hG
              refine va_get (D := DG E) (ci := 9) (v := .ref (R h0 1)) (C := RX9) (T := TX9) (N := 3) hx hb hts iw_X9 hown hK.1 (va_one ha_18) 0 rfl rfl 1 (by decide) (hts _ fl_X9_29) (fun _ h9 => h9) rfl dX9_ready_50 ?_
              refine lv_iload_n hx hb dX9_ready_53 rfl (lv_at hl 1 rfl) ?_
              have ha_19 := tx_3 hT hg_9
              refine va_aldq (D := DG E) hx hb hK.1 (va_one ha_19) 0 5 rfl rfl hi_11 dX9_ready_54 ?_
              refine W.eq (g2 := F0 m 55 ls [.ref (R (R h0 1) n_12)]) (by rw [en_12]; rfl) ?_
              refine lv_iload_n hx hb dX9_ready_55 rfl (lv_at hl 2 rfl) ?_
              refine lv_iload_n hx hb dX9_ready_56 rfl (lv_at hl 3 rfl) ?_
              have ha_20 := tx_8 hT hg_13
              refine va_callv (rnV (fun H => TX E G B R H) (As := [.int p1, .int p2]) (rest := []) ⟨hx, hb, hml, hown, hts⟩ (x_X3_start l E z0 G hGz B R hW (R (R h0 1) n_12) p1 p2 hg_13) (cwV 2 hts (gdV ml_X9_91 im_X3_start se_X3_X3_start in_X3 co_X3_start rfl) rfl rfl rfl (by decide +kernel) ⟨Nat.le_of_ble_eq_true rfl, Nat.le_of_ble_eq_true rfl⟩) hT (fun U hU hW => hK.go hW hS hAz hU) (va_recv hK.1 (va_one ha_20) (ci := 3) (q0 := 0) rfl rfl) rfl rfl hl.1 rfl (lv_room (Nat.le_of_ble_eq_true rfl)) dX9_ready_57 ⟨Nat.le_of_ble_eq_true rfl, Nat.le_of_ble_eq_true rfl⟩) hS (fun q _ h => mL (L' := [8, 9, 10]) (L := [8, 9, 10]) (by decide) h) (fun q h => mL (L' := [8, 9, 10]) (L := [8, 9, 10]) (by decide) h) (fun U_22 t H locs ht hvm hwr_21 hB hz hk hS => ?_)
              have hT : TX E G U_22 R H := by rw [ht] at hB; exact hB
              have hWr_21 : TW G U_22 R := hwr_21.1
              have hW := hWr_21
              have hFr_21 : Fr G [8, 9, 10] B U_22 := hwr_21.2.1
              have hCr_21 : C_X3_start G B R (R (R h0 1) n_12) p1 p2 U_22 := hwr_21.2.2
              refine vx_ret ?_
              refine W.widen (k := 2) (n := 12) (Nat.le_of_ble_eq_true rfl) (Nat.le_of_ble_eq_true rfl) ?_
              exact W.vret hx hb hr (fun t ht hW9 => ⟨⟨U_22, rfl, ⟨hW, (Fr.c Fr.rf hFr_21 (by decide)), ⟨c_1, c_3, c_5, n_12, hn_12, c_15, U_22, hFr_21, hCr_21, rfl⟩⟩, (by show TX E G U_22 R t.heap; rw [ht]; exact hT)⟩, hS.F ht⟩) hS.2.2 dX9_ready_60
theorem dX9_reset_0 : decode cX9_reset 0 = .ok (.iload_n 1, 1) := by decide +kernel
theorem dX9_reset_1 : decode cX9_reset 1 = .ok (.invokestatic 78, 3) := by decide +kernel
theorem dX9_reset_4 : decode cX9_reset 4 = .ok (.ifCond .ne 5, 3) := by decide +kernel
theorem dX9_reset_7 : decode cX9_reset 7 = .ok (.iconst 0, 1) := by decide +kernel
theorem dX9_reset_8 : decode cX9_reset 8 = .ok (.ireturn, 1) := by decide +kernel
theorem dX9_reset_9 : decode cX9_reset 9 = .ok (.aload_n 0, 1) := by decide +kernel
theorem dX9_reset_10 : decode cX9_reset 10 = .ok (.getfield 29, 3) := by decide +kernel
theorem dX9_reset_13 : decode cX9_reset 13 = .ok (.iload_n 1, 1) := by decide +kernel
theorem dX9_reset_14 : decode cX9_reset 14 = .ok (.aaload, 1) := by decide +kernel
theorem dX9_reset_15 : decode cX9_reset 15 = .ok (.invokevirtual 94, 3) := by decide +kernel
theorem dX9_reset_18 : decode cX9_reset 18 = .ok (.iconst 1, 1) := by decide +kernel
theorem dX9_reset_19 : decode cX9_reset 19 = .ok (.ireturn, 1) := by decide +kernel
set_option maxHeartbeats 8000000 in
set_option maxRecDepth 100000 in
theorem x_X9_reset (l : Launch) (E : EE) (z0 : Nat) (G : Nat → Nat) (hGz : ∀ q, G q ≠ 0 → z0 ≤ q) (B : AA) (R : RR) (hW : TW G B R) (h0 : Nat) (p0 : Int32) (hG : G h0 = 1) : Met l yX9_reset [Cond.code yX9_reset cX9_reset 2 (some .boolean)] ({ frames := 3, cells := 0, slots := 0, locals := 61 } : Room) (va_Pc [.ref h0, .int p0] (fun U => TX E G B R U.heap ∧ KS E z0 U)) (va_Qi (fun (r : Int32) (u : AA) => (TW G u R) ∧ (Fr G ([8, 9, 10, 11, 16, 17] : List Nat) B u) ∧ (r = 0 ∨ r = 1) ∧ (C_X9_reset G B R h0 p0 u r)) (fun u t => TX E G u R t.heap) (fun q : Nat => G q ∈ ([8, 9, 10, 11, 16, 17] : List Nat))) 0 0 (fun q : Nat => G q ∈ ([8, 9, 10, 11, 16, 17] : List Nat)) := by
  refine Met.ofW (cc := cX9_reset) (maxL := 2) (ret := (some .boolean)) (by decide) rfl ?_
  intro p e s m args below meth c s₁ B9 hml hv
  obtain ⟨rfl, hT, hK⟩ := hv
  have hx := B9.exec
  have hb := B9.bytes
  have hr := B9.returns
  have hts : ∀ w ∈ TS, w.before ([.ref h0, .int p0] : List Value).toArray s = true := fun w hw => hK.2.1 w hw _
  have hown : s.vm.findClass RX9 = some m.cls := findClass_of_methodNamed B9.named
  have hlocks := B9.notSynchronized
  have hS : va_S (fun q : Nat => G q ∈ ([8, 9, 10, 11, 16, 17] : List Nat)) s.heap s.heap [] := va_S.rf
  have hAz : ∀ q, (fun q : Nat => G q ∈ ([8, 9, 10, 11, 16, 17] : List Nat)) q → z0 ≤ q := zL hGz (by decide)
  have hW_0 := hW
  have hl := lv_entry ([.ref h0, .int p0]) (n := 2) (Nat.le_of_ble_eq_true rfl)
  rw [lg_entry_eq]
  generalize (lg_sl ([.ref h0, .int p0]) ++ List.replicate (2 - (lg_sl ([.ref h0, .int p0])).length) Slot.unset).toArray = ls at hl ⊢
  have hl : lv_has ls 2 [(0, .ref h0), (1, .int p0)] := hl
  refine lv_iload_n hx hb dX9_reset_0 rfl (lv_at hl 1 rfl) ?_
  refine W.callR (W.runS (As := [.int p0]) (rest := []) ⟨hx, hb, hml, hown, hts⟩ (c_X9_isPair l p0) (cwS 1 hts (gdS ml_X9_78 st_X9_isPair in_X9 co_X9_isPair rfl) rfl rfl rfl (by decide +kernel) ⟨Nat.le_of_ble_eq_true rfl, Nat.le_of_ble_eq_true rfl⟩) preEq rfl rfl hl.1 rfl (lv_room (Nat.le_of_ble_eq_true rfl)) dX9_reset_1 ⟨Nat.le_of_ble_eq_true rfl, Nat.le_of_ble_eq_true rfl⟩) ?_
  refine W.eq (g2 := F0 m 4 ls [.int (bI (0 ≤ p0.toInt ∧ p0.toInt < 4))]) (by rfl) ?_
  refine lv_if_ne (tgt := 9) hx hb dX9_reset_4 (by decide) (fun c_1 => ?_) (fun c_1 => ?_)
  · have c_1 := bI_n c_1
    refine lv_aload_n hx hb dX9_reset_9 rfl (lv_at hl 0 rfl) ?_
    have ha_2 := tx_1 hT hG
    have hg_3 : G (R h0 1) = 3 := (tw_1 hW hG).2.1
    refine va_get (D := DG E) (ci := 9) (v := .ref (R h0 1)) (C := RX9) (T := TX9) (N := 3) hx hb hts iw_X9 hown hK.1 (va_one ha_2) 0 rfl rfl 1 (by decide) (hts _ fl_X9_29) (fun _ h9 => h9) rfl dX9_reset_10 ?_
    refine lv_iload_n hx hb dX9_reset_13 rfl (lv_at hl 1 rfl) ?_
    have ha_4 := tx_3 hT hg_3
    have hi_5 : vp_in p0 4 := vp_in_iff.mpr (by omega)
    obtain ⟨n_6, hn_6, en_6⟩ := x_nat (x := p0) (by omega)
    have hg_7 : G (R (R h0 1) n_6) = 8 := (tw_3 hW hg_3) n_6 (by omega)
    refine va_aldq (D := DG E) hx hb hK.1 (va_one ha_4) 0 5 rfl rfl hi_5 dX9_reset_14 ?_
    refine W.eq (g2 := F0 m 15 ls [.ref (R (R h0 1) n_6)]) (by rw [en_6]; rfl) ?_
    have ha_8 := tx_8 hT hg_7
    refine va_callv (rnV (fun H => TX E G B R H) (As := []) (rest := []) ⟨hx, hb, hml, hown, hts⟩ (x_X3_clear l E z0 G hGz B R hW (R (R h0 1) n_6) hg_7) (cwV 0 hts (gdV ml_X9_94 im_X3_clear se_X3_X3_clear in_X3 co_X3_clear rfl) rfl rfl rfl (by decide +kernel) ⟨Nat.le_of_ble_eq_true rfl, Nat.le_of_ble_eq_true rfl⟩) hT (fun U hU hW => hK.go hW hS hAz hU) (va_recv hK.1 (va_one ha_8) (ci := 3) (q0 := 0) rfl rfl) rfl rfl hl.1 rfl (lv_room (Nat.le_of_ble_eq_true rfl)) dX9_reset_15 ⟨Nat.le_of_ble_eq_true rfl, Nat.le_of_ble_eq_true rfl⟩) hS (fun q _ h => mL (L' := [8, 9, 10, 11, 16, 17]) (L := [8, 9, 10, 11, 16, 17]) (by decide) h) (fun q h => mL (L' := [8, 9, 10, 11, 16, 17]) (L := [8, 9, 10, 11, 16, 17]) (by decide) h) (fun U_10 t H locs ht hvm hwr_9 hB hz hk hS => ?_)
    have hT : TX E G U_10 R H := by rw [ht] at hB; exact hB
    have hWr_9 : TW G U_10 R := hwr_9.1
    have hW := hWr_9
    have hFr_9 : Fr G [8, 9, 10, 11, 16, 17] B U_10 := hwr_9.2.1
    have hCr_9 : C_X3_clear G B R (R (R h0 1) n_6) U_10 := hwr_9.2.2
    refine lv_iconst (v := 1) hx hb dX9_reset_18 (by decide) ?_
    exact W.zret (v := 1) (ty := .boolean) hx hb hr rfl (fun t ht hW9 => ⟨⟨1, U_10, rfl, ⟨hW, (Fr.c Fr.rf hFr_9 (by decide)), (by decide), (Or.inl ⟨c_1, n_6, hn_6, U_10, hFr_9, hCr_9, rfl, rfl⟩)⟩, (by show TX E G U_10 R t.heap; rw [ht]; exact hT)⟩, hS.F ht⟩) hS.2.2 dX9_reset_19
  · have c_1 := bI_0 c_1
    refine lv_iconst (v := 0) hx hb dX9_reset_7 (by decide) ?_
    exact W.zret (v := 0) (ty := .boolean) hx hb hr rfl (fun t ht hW9 => ⟨⟨0, B, rfl, ⟨hW, Fr.rf, (by decide), (Or.inr ⟨c_1, rfl, rfl⟩)⟩, (by show TX E G B R t.heap; rw [ht]; exact hT)⟩, hS.F ht⟩) hS.2.2 dX9_reset_8
theorem dX9_send_0 : decode cX9_send 0 = .ok (.iload_n 1, 1) := by decide +kernel
theorem dX9_send_1 : decode cX9_send 1 = .ok (.invokestatic 78, 3) := by decide +kernel
theorem dX9_send_4 : decode cX9_send 4 = .ok (.ifCond .eq 15, 3) := by decide +kernel
theorem dX9_send_7 : decode cX9_send 7 = .ok (.iload_n 2, 1) := by decide +kernel
theorem dX9_send_8 : decode cX9_send 8 = .ok (.iload_n 3, 1) := by decide +kernel
theorem dX9_send_9 : decode cX9_send 9 = .ok (.invokestatic 97, 3) := by decide +kernel
theorem dX9_send_12 : decode cX9_send 12 = .ok (.ifCond .eq 7, 3) := by decide +kernel
theorem dX9_send_15 : decode cX9_send 15 = .ok (.iconst 1, 1) := by decide +kernel
theorem dX9_send_16 : decode cX9_send 16 = .ok (.goto 4, 3) := by decide +kernel
theorem dX9_send_19 : decode cX9_send 19 = .ok (.iconst 0, 1) := by decide +kernel
theorem dX9_send_20 : decode cX9_send 20 = .ok (.invokestatic 53, 3) := by decide +kernel
theorem dX9_send_23 : decode cX9_send 23 = .ok (.aload_n 0, 1) := by decide +kernel
theorem dX9_send_24 : decode cX9_send 24 = .ok (.getfield 29, 3) := by decide +kernel
theorem dX9_send_27 : decode cX9_send 27 = .ok (.iload_n 1, 1) := by decide +kernel
theorem dX9_send_28 : decode cX9_send 28 = .ok (.aaload, 1) := by decide +kernel
theorem dX9_send_29 : decode cX9_send 29 = .ok (.invokevirtual 101, 3) := by decide +kernel
theorem dX9_send_32 : decode cX9_send 32 = .ok (.invokestatic 88, 3) := by decide +kernel
theorem dX9_send_35 : decode cX9_send 35 = .ok (.aload_n 0, 1) := by decide +kernel
theorem dX9_send_36 : decode cX9_send 36 = .ok (.getfield 29, 3) := by decide +kernel
theorem dX9_send_39 : decode cX9_send 39 = .ok (.iload_n 1, 1) := by decide +kernel
theorem dX9_send_40 : decode cX9_send 40 = .ok (.aaload, 1) := by decide +kernel
theorem dX9_send_41 : decode cX9_send 41 = .ok (.getfield 105, 3) := by decide +kernel
theorem dX9_send_44 : decode cX9_send 44 = .ok (.iconst 0, 1) := by decide +kernel
theorem dX9_send_45 : decode cX9_send 45 = .ok (.iload_n 2, 1) := by decide +kernel
theorem dX9_send_46 : decode cX9_send 46 = .ok (.iload_n 3, 1) := by decide +kernel
theorem dX9_send_47 : decode cX9_send 47 = .ok (.iconst (-1), 1) := by decide +kernel
theorem dX9_send_48 : decode cX9_send 48 = .ok (.iconst (-1), 1) := by decide +kernel
theorem dX9_send_49 : decode cX9_send 49 = .ok (.iconst 0, 1) := by decide +kernel
theorem dX9_send_50 : decode cX9_send 50 = .ok (.invokevirtual 109, 3) := by decide +kernel
theorem dX9_send_53 : decode cX9_send 53 = .ok (.ireturn, 1) := by decide +kernel
set_option maxHeartbeats 8000000 in
set_option maxRecDepth 100000 in
theorem x_X9_send (l : Launch) (hst : l.stackTraces = false) (E : EE) (z0 : Nat) (G : Nat → Nat) (hGz : ∀ q, G q ≠ 0 → z0 ≤ q) (B : AA) (R : RR) (hW : TW G B R) (h0 : Nat) (p0 : Int32) (p1 : Int32) (p2 : Int32) (hG : G h0 = 1) : vx_Met l yX9_send [Cond.code yX9_send cX9_send 4 (some .int)] ({ frames := 7, cells := 2, slots := 12, locals := 101 } : Room) (va_Pc [.ref h0, .int p0, .int p1, .int p2] (fun U => TX E G B R U.heap ∧ KS E z0 U)) (va_Qi (fun (r : Int32) (u : AA) => (TW G u R) ∧ (Fr G ([9, 11, 13] : List Nat) B u) ∧ (C_X9_send G B R h0 p0 p1 p2 u r)) (fun u t => TX E G u R t.heap) (fun q : Nat => G q ∈ ([9, 11, 13] : List Nat))) (vx_X (fun (_ : Unit) => True) (fun En _ t => (X_X9_send G B R h0 p0 p1 p2 En) ∧ TX E G B R t.heap) (fun q : Nat => G q ∈ ([9, 11, 13] : List Nat))) 2 12 (fun q : Nat => G q ∈ ([9, 11, 13] : List Nat)) := by
  refine vx_ofW (cc := cX9_send) (maxL := 4) (ret := (some .int)) (by decide) rfl ?_
  intro p e s m args below meth c s₁ B9 hml hne hv
  obtain ⟨rfl, hT, hK⟩ := hv
  have hx := B9.exec
  have hb := B9.bytes
  have hr := B9.returns
  have hts : ∀ w ∈ TS, w.before ([.ref h0, .int p0, .int p1, .int p2] : List Value).toArray s = true := fun w hw => hK.2.1 w hw _
  have hown : s.vm.findClass RX9 = some m.cls := findClass_of_methodNamed B9.named
  have hlocks := B9.notSynchronized
  have hS : va_S (fun q : Nat => G q ∈ ([9, 11, 13] : List Nat)) s.heap s.heap [] := va_S.rf
  have hAz : ∀ q, (fun q : Nat => G q ∈ ([9, 11, 13] : List Nat)) q → z0 ≤ q := zL hGz (by decide)
  have hW_0 := hW
  have hl := lv_entry ([.ref h0, .int p0, .int p1, .int p2]) (n := 4) (Nat.le_of_ble_eq_true rfl)
  rw [lg_entry_eq]
  generalize (lg_sl ([.ref h0, .int p0, .int p1, .int p2]) ++ List.replicate (4 - (lg_sl ([.ref h0, .int p0, .int p1, .int p2])).length) Slot.unset).toArray = ls at hl ⊢
  have hl : lv_has ls 4 [(0, .ref h0), (1, .int p0), (2, .int p1), (3, .int p2)] := hl
  refine lv_iload_n hx hb dX9_send_0 rfl (lv_at hl 1 rfl) ?_
  refine W.callR (W.runS (As := [.int p0]) (rest := []) ⟨hx, hb, hml, hown, hts⟩ (c_X9_isPair l p0) (cwS 1 hts (gdS ml_X9_78 st_X9_isPair in_X9 co_X9_isPair rfl) rfl rfl rfl (by decide +kernel) ⟨Nat.le_of_ble_eq_true rfl, Nat.le_of_ble_eq_true rfl⟩) preEq rfl rfl hl.1 rfl (lv_room (Nat.le_of_ble_eq_true rfl)) dX9_send_1 ⟨Nat.le_of_ble_eq_true rfl, Nat.le_of_ble_eq_true rfl⟩) ?_
  refine W.eq (g2 := F0 m 4 ls [.int (bI (0 ≤ p0.toInt ∧ p0.toInt < 4))]) (by rfl) ?_
  refine lv_if_eq (tgt := 19) hx hb dX9_send_4 (by decide) (fun c_1 => ?_) (fun c_1 => ?_)
  · have c_1 := bI_0 c_1
    refine lv_iconst (v := 0) hx hb dX9_send_19 (by decide) ?_
    refine vx_callv (rxS (fun _ => True) (As := [.int 0]) (rest := []) ⟨hx, hb, hml, hown, hts⟩ (c_X9_require l hst E z0 0) (cwS 1 hts (gdS ml_X9_53 st_X9_require in_X9 co_X9_require rfl) rfl rfl rfl (by decide +kernel) ⟨Nat.le_of_ble_eq_true rfl, Nat.le_of_ble_eq_true rfl⟩) trivial (fun U hU hW => hK.go hW hS hAz hU) rfl rfl hl.1 rfl (lv_room (Nat.le_of_ble_eq_true rfl)) dX9_send_20 ⟨Nat.le_of_ble_eq_true rfl, Nat.le_of_ble_eq_true rfl⟩) hS (fun q _ h => h.elim) (fun q h => h.elim) (fun q _ h => h.elim) (fun En ce q9 _ t H locs ht hvm hw_2 hB hz hk hS hc1 hc2 hc3 => ?_) (fun _ t H locs ht hvm hw_2 hB hz hk hS => ?_)
    · have hT : TX E G B R H := hT.kept (fun q hq => hk q hq (fun h => h))
      subst hB
      exact vx_out (fun x hx => (hne x hx).elim) hlocks hc1 hc2 hc3 (fun t ht hA => ⟨(), trivial, ⟨(Or.inl ⟨c_1, rfl⟩), by show TX E G B R t.heap; rw [ht]; exact hT⟩, hS.F ht⟩) hS.2.2 (Nat.le_of_ble_eq_true rfl) (Nat.le_of_ble_eq_true rfl)
    · exact absurd rfl hw_2
  · have c_1 := bI_n c_1
    refine lv_iload_n hx hb dX9_send_7 rfl (lv_at hl 2 rfl) ?_
    refine lv_iload_n hx hb dX9_send_8 rfl (lv_at hl 3 rfl) ?_
    refine W.callR (W.runS (As := [.int p1, .int p2]) (rest := []) ⟨hx, hb, hml, hown, hts⟩ (c_X9_areCells l p1 p2) (cwS 2 hts (gdS ml_X9_97 st_X9_areCells in_X9 co_X9_areCells rfl) rfl rfl rfl (by decide +kernel) ⟨Nat.le_of_ble_eq_true rfl, Nat.le_of_ble_eq_true rfl⟩) preEq rfl rfl hl.1 rfl (lv_room (Nat.le_of_ble_eq_true rfl)) dX9_send_9 ⟨Nat.le_of_ble_eq_true rfl, Nat.le_of_ble_eq_true rfl⟩) ?_
    refine W.eq (g2 := F0 m 12 ls [.int (bI (1 ≤ p2.toInt ∧ p2.toInt ≤ 12 ∧ 0 ≤ p1.toInt ∧ p1.toInt ≤ 32 - p2.toInt))]) (by rfl) ?_
    refine lv_if_eq (tgt := 19) hx hb dX9_send_12 (by decide) (fun c_3 => ?_) (fun c_3 => ?_)
    · have c_3 := bI_0 c_3
      refine lv_iconst (v := 0) hx hb dX9_send_19 (by decide) ?_
      refine vx_callv (rxS (fun _ => True) (As := [.int 0]) (rest := []) ⟨hx, hb, hml, hown, hts⟩ (c_X9_require l hst E z0 0) (cwS 1 hts (gdS ml_X9_53 st_X9_require in_X9 co_X9_require rfl) rfl rfl rfl (by decide +kernel) ⟨Nat.le_of_ble_eq_true rfl, Nat.le_of_ble_eq_true rfl⟩) trivial (fun U hU hW => hK.go hW hS hAz hU) rfl rfl hl.1 rfl (lv_room (Nat.le_of_ble_eq_true rfl)) dX9_send_20 ⟨Nat.le_of_ble_eq_true rfl, Nat.le_of_ble_eq_true rfl⟩) hS (fun q _ h => h.elim) (fun q h => h.elim) (fun q _ h => h.elim) (fun En ce q9 _ t H locs ht hvm hw_4 hB hz hk hS hc1 hc2 hc3 => ?_) (fun _ t H locs ht hvm hw_4 hB hz hk hS => ?_)
      · have hT : TX E G B R H := hT.kept (fun q hq => hk q hq (fun h => h))
        subst hB
        exact vx_out (fun x hx => (hne x hx).elim) hlocks hc1 hc2 hc3 (fun t ht hA => ⟨(), trivial, ⟨(Or.inr (Or.inl ⟨c_1, c_3, rfl⟩)), by show TX E G B R t.heap; rw [ht]; exact hT⟩, hS.F ht⟩) hS.2.2 (Nat.le_of_ble_eq_true rfl) (Nat.le_of_ble_eq_true rfl)
      · exact absurd rfl hw_4
    · have c_3 := bI_n c_3
      refine lv_iconst (v := 1) hx hb dX9_send_15 (by decide) ?_
      refine lv_goto (tgt := 20) hx hb dX9_send_16 (by decide) ?_
      refine vx_callv (rxS (fun _ => True) (As := [.int 1]) (rest := []) ⟨hx, hb, hml, hown, hts⟩ (c_X9_require l hst E z0 1) (cwS 1 hts (gdS ml_X9_53 st_X9_require in_X9 co_X9_require rfl) rfl rfl rfl (by decide +kernel) ⟨Nat.le_of_ble_eq_true rfl, Nat.le_of_ble_eq_true rfl⟩) trivial (fun U hU hW => hK.go hW hS hAz hU) rfl rfl hl.1 rfl (lv_room (Nat.le_of_ble_eq_true rfl)) dX9_send_20 ⟨Nat.le_of_ble_eq_true rfl, Nat.le_of_ble_eq_true rfl⟩) hS (fun q _ h => h.elim) (fun q h => h.elim) (fun q _ h => h.elim) (fun En ce q9 _ t H locs ht hvm hw_5 hB hz hk hS hc1 hc2 hc3 => ?_) (fun _ t H locs ht hvm hw_5 hB hz hk hS => ?_)
      · exact absurd hw_5 (by decide)
      · have hT : TX E G B R H := hT.kept (fun q hq => hk q hq (fun h => h))
        refine lv_aload_n hx hb dX9_send_23 rfl (lv_at hl 0 rfl) ?_
        have ha_6 := tx_1 hT hG
        have hg_7 : G (R h0 1) = 3 := (tw_1 hW hG).2.1
        refine va_get (D := DG E) (ci := 9) (v := .ref (R h0 1)) (C := RX9) (T := TX9) (N := 3) hx hb hts iw_X9 hown hK.1 (va_one ha_6) 0 rfl rfl 1 (by decide) (hts _ fl_X9_29) (fun _ h9 => h9) rfl dX9_send_24 ?_
        refine lv_iload_n hx hb dX9_send_27 rfl (lv_at hl 1 rfl) ?_
        have ha_8 := tx_3 hT hg_7
        have hi_9 : vp_in p0 4 := vp_in_iff.mpr (by omega)
        obtain ⟨n_10, hn_10, en_10⟩ := x_nat (x := p0) (by omega)
        have hg_11 : G (R (R h0 1) n_10) = 8 := (tw_3 hW hg_7) n_10 (by omega)
        refine va_aldq (D := DG E) hx hb hK.1 (va_one ha_8) 0 5 rfl rfl hi_9 dX9_send_28 ?_
        refine W.eq (g2 := F0 m 29 ls [.ref (R (R h0 1) n_10)]) (by rw [en_10]; rfl) ?_
        have ha_12 := tx_8 hT hg_11
        refine va_calli (rnV (fun H => TX E G B R H) (As := []) (rest := []) ⟨hx, hb, hml, hown, hts⟩ (x_X3_takesRequests l E z0 G hGz B R hW (R (R h0 1) n_10) hg_11) (cwV 0 hts (gdV ml_X9_101 im_X3_takesRequests se_X3_X3_takesRequests in_X3 co_X3_takesRequests rfl) rfl rfl rfl (by decide +kernel) ⟨Nat.le_of_ble_eq_true rfl, Nat.le_of_ble_eq_true rfl⟩) hT (fun U hU hW => hK.go hW hS hAz hU) (va_recv hK.1 (va_one ha_12) (ci := 3) (q0 := 0) rfl rfl) rfl rfl hl.1 rfl (lv_room (Nat.le_of_ble_eq_true rfl)) dX9_send_29 ⟨Nat.le_of_ble_eq_true rfl, Nat.le_of_ble_eq_true rfl⟩) hS (fun q _ h => h.elim) (fun q h => h.elim) (fun r_13 _ t H locs ht hvm hwr_13 hB hz hk hS => ?_)
        have hT : TX E G B R H := hT.kept (fun q hq => hk q hq (fun h => h))
        have hbr_13 : r_13 = 0 ∨ r_13 = 1 := hwr_13.1
        have hp0r_13 : r_13.toInt = 0 ∨ (B (R (R (R (R h0 1) n_10) 0) 6) 4).toInt ≤ 3 := hwr_13.2.1
        have hCr_13 : C_X3_takesRequests G B R (R (R h0 1) n_10) r_13 := hwr_13.2.2
        have hzr_13 := s_rng hbr_13
        refine vx_callv (rxS (fun _ => True) (As := [.int r_13]) (rest := []) ⟨hx, hb, hml, hown, hts⟩ (c_X9_requireState l hst E z0 r_13) (cwS 1 hts (gdS ml_X9_88 st_X9_requireState in_X9 co_X9_requireState rfl) rfl rfl rfl (by decide +kernel) ⟨Nat.le_of_ble_eq_true rfl, Nat.le_of_ble_eq_true rfl⟩) trivial (fun U hU hW => hK.go hW hS hAz hU) rfl rfl hl.1 rfl (lv_room (Nat.le_of_ble_eq_true rfl)) dX9_send_32 ⟨Nat.le_of_ble_eq_true rfl, Nat.le_of_ble_eq_true rfl⟩) hS (fun q _ h => h.elim) (fun q h => h.elim) (fun q _ h => h.elim) (fun En ce q9 _ t H locs ht hvm hw_14 hB hz hk hS hc1 hc2 hc3 => ?_) (fun _ t H locs ht hvm hw_14 hB hz hk hS => ?_)
        · have hT : TX E G B R H := hT.kept (fun q hq => hk q hq (fun h => h))
          simp only [lt_I, le_I, eq_I, i_0, i_1, i_2, i_3, i_4, i_5, i_6, i_7, i_8, i_10, i_12, i_16, i_20, i_23, i_24, i_31, i_32, i_63, i_64, i_m1] at hw_14
          subst hB
          exact vx_out (fun x hx => (hne x hx).elim) hlocks hc1 hc2 hc3 (fun t ht hA => ⟨(), trivial, ⟨(Or.inr (Or.inr ⟨c_1, c_3, n_10, hn_10, r_13, hCr_13, hw_14, rfl⟩)), by show TX E G B R t.heap; rw [ht]; exact hT⟩, hS.F ht⟩) hS.2.2 (Nat.le_of_ble_eq_true rfl) (Nat.le_of_ble_eq_true rfl)
        · have hT : TX E G B R H := hT.kept (fun q hq => hk q hq (fun h => h))
          simp only [lt_I, le_I, eq_I, i_0, i_1, i_2, i_3, i_4, i_5, i_6, i_7, i_8, i_10, i_12, i_16, i_20, i_23, i_24, i_31, i_32, i_63, i_64, i_m1] at hw_14
          refine lv_aload_n hx hb dX9_send_35 rfl (lv_at hl 0 rfl) ?_
          have ha_15 := tx_1 hT hG
          refine va_get (D := DG E) (ci := 9) (v := .ref (R h0 1)) (C := RX9) (T := TX9) (N := 3) hx hb hts iw_X9 hown hK.1 (va_one ha_15) 0 rfl rfl 1 (by decide) (hts _ fl_X9_29) (fun _ h9 => h9) rfl dX9_send_36 ?_
          refine lv_iload_n hx hb dX9_send_39 rfl (lv_at hl 1 rfl) ?_
          have ha_16 := tx_3 hT hg_7
          refine va_aldq (D := DG E) hx hb hK.1 (va_one ha_16) 0 5 rfl rfl hi_9 dX9_send_40 ?_
          refine W.eq (g2 := F0 m 41 ls [.ref (R (R h0 1) n_10)]) (by rw [en_10]; rfl) ?_
          have ha_17 := tx_8 hT hg_11
          have hg_18 : G (R (R (R h0 1) n_10) 0) = 9 := (tw_8 hW hg_11).1
          refine va_get (D := DG E) (ci := 3) (v := .ref (R (R (R h0 1) n_10) 0)) (C := RX3) (T := TX3) (N := 3) hx hb hts iw_X3 hown hK.1 (va_one ha_17) 0 rfl rfl 0 (by decide) (hts _ fl_X9_105) (fun _ h9 => h9) rfl dX9_send_41 ?_
          refine lv_iconst (v := 0) hx hb dX9_send_44 (by decide) ?_
          refine lv_iload_n hx hb dX9_send_45 rfl (lv_at hl 2 rfl) ?_
          refine lv_iload_n hx hb dX9_send_46 rfl (lv_at hl 3 rfl) ?_
          refine lv_iconst (v := (-1)) hx hb dX9_send_47 (by decide) ?_
          refine lv_iconst (v := (-1)) hx hb dX9_send_48 (by decide) ?_
          refine lv_iconst (v := 0) hx hb dX9_send_49 (by decide) ?_
          have hg_19 : G (R (R (R (R h0 1) n_10) 0) 6) = 11 := (tw_9 hW hg_18).2.2.2
          have hb_20 := (tw_11 hW_0 hg_19).2.2.2
          have ha_21 := tx_9 hT hg_18
          refine va_calli (rnV (fun H => TX E G B R H) (As := [.int 0, .int p1, .int p2, .int (-1), .int (-1), .int 0]) (rest := []) ⟨hx, hb, hml, hown, hts⟩ (x_X7_post l E z0 G hGz B R hW (R (R (R h0 1) n_10) 0) (0 : Int32) p1 p2 (-1 : Int32) (-1 : Int32) (0 : Int32) hg_18 (show 0 ≤ p2.toInt ∧ p2.toInt ≤ 12 from by have := i_0; have := i_m1; have := i_m1; have := i_0; first | decide | omega) (show (B (R (R (R (R h0 1) n_10) 0) 6) 4).toInt ≤ 3 from by have := i_0; have := i_m1; have := i_m1; have := i_0; first | decide | omega)) (cwV 6 hts (gdV ml_X9_109 im_X7_post se_X7_X7_post in_X7 co_X7_post rfl) rfl rfl rfl (by decide +kernel) ⟨Nat.le_of_ble_eq_true rfl, Nat.le_of_ble_eq_true rfl⟩) hT (fun U hU hW => hK.go hW hS hAz hU) (va_recv hK.1 (va_one ha_21) (ci := 7) (q0 := 0) rfl rfl) rfl rfl hl.1 rfl (lv_room (Nat.le_of_ble_eq_true rfl)) dX9_send_50 ⟨Nat.le_of_ble_eq_true rfl, Nat.le_of_ble_eq_true rfl⟩) hS (fun q _ h => mL (L' := [9, 11, 13]) (L := [9, 11, 13]) (by decide) h) (fun q h => mL (L' := [9, 11, 13]) (L := [9, 11, 13]) (by decide) h) (fun r_22 U_23 t H locs ht hvm hwr_22 hB hz hk hS => ?_)
          have hT : TX E G U_23 R H := by rw [ht] at hB; exact hB
          have hWr_22 : TW G U_23 R := hwr_22.1
          have hW := hWr_22
          have hFr_22 : Fr G [9, 11, 13] B U_23 := hwr_22.2.1
          have hCr_22 : C_X7_post G B R (R (R (R h0 1) n_10) 0) (0 : Int32) p1 p2 (-1 : Int32) (-1 : Int32) (0 : Int32) U_23 r_22 := hwr_22.2.2
          refine vx_ret ?_
          refine W.widen (k := 2) (n := 12) (Nat.le_of_ble_eq_true rfl) (Nat.le_of_ble_eq_true rfl) ?_
          exact W.iret (v := r_22) hx hb hr (fun t ht hW9 => ⟨⟨r_22, U_23, rfl, ⟨hW, (Fr.c Fr.rf hFr_22 (by decide)), ⟨c_1, c_3, n_10, hn_10, r_13, hCr_13, hw_14, r_22, U_23, hFr_22, hCr_22, rfl, rfl⟩⟩, (by show TX E G U_23 R t.heap; rw [ht]; exact hT)⟩, hS.F ht⟩) hS.2.2 dX9_send_53
theorem gdX9_move_0 : (decode cX9_move 0 = .ok (.iload_n 1, 1)) ∧ (decode cX9_move 1 = .ok (.invokestatic 78, 3)) ∧ (decode cX9_move 4 = .ok (.ifCond .eq 32, 3)) ∧ (decode cX9_move 7 = .ok (.iload_n 3, 1)) ∧ (decode cX9_move 8 = .ok (.iload 4, 2)) ∧ (decode cX9_move 10 = .ok (.invokestatic 97, 3)) ∧ (decode cX9_move 13 = .ok (.ifCond .eq 23, 3)) ∧ (decode cX9_move 16 = .ok (.iload 5, 2)) ∧ (decode cX9_move 18 = .ok (.invokestatic 50, 3)) ∧ (decode cX9_move 21 = .ok (.ifCond .eq 15, 3)) ∧ (decode cX9_move 24 = .ok (.iload 6, 2)) ∧ (decode cX9_move 26 = .ok (.invokestatic 67, 3)) ∧ (decode cX9_move 29 = .ok (.ifCond .eq 7, 3)) ∧ (decode cX9_move 32 = .ok (.iconst 1, 1)) ∧ (decode cX9_move 33 = .ok (.goto 4, 3)) ∧ (decode cX9_move 36 = .ok (.iconst 0, 1)) := by decide +kernel
theorem dX9_move_0 : decode cX9_move 0 = .ok (.iload_n 1, 1) := gdX9_move_0.1
theorem dX9_move_1 : decode cX9_move 1 = .ok (.invokestatic 78, 3) := gdX9_move_0.2.1
theorem dX9_move_4 : decode cX9_move 4 = .ok (.ifCond .eq 32, 3) := gdX9_move_0.2.2.1
theorem dX9_move_7 : decode cX9_move 7 = .ok (.iload_n 3, 1) := gdX9_move_0.2.2.2.1
theorem dX9_move_8 : decode cX9_move 8 = .ok (.iload 4, 2) := gdX9_move_0.2.2.2.2.1
theorem dX9_move_10 : decode cX9_move 10 = .ok (.invokestatic 97, 3) := gdX9_move_0.2.2.2.2.2.1
theorem dX9_move_13 : decode cX9_move 13 = .ok (.ifCond .eq 23, 3) := gdX9_move_0.2.2.2.2.2.2.1
theorem dX9_move_16 : decode cX9_move 16 = .ok (.iload 5, 2) := gdX9_move_0.2.2.2.2.2.2.2.1
theorem dX9_move_18 : decode cX9_move 18 = .ok (.invokestatic 50, 3) := gdX9_move_0.2.2.2.2.2.2.2.2.1
theorem dX9_move_21 : decode cX9_move 21 = .ok (.ifCond .eq 15, 3) := gdX9_move_0.2.2.2.2.2.2.2.2.2.1
theorem dX9_move_24 : decode cX9_move 24 = .ok (.iload 6, 2) := gdX9_move_0.2.2.2.2.2.2.2.2.2.2.1
theorem dX9_move_26 : decode cX9_move 26 = .ok (.invokestatic 67, 3) := gdX9_move_0.2.2.2.2.2.2.2.2.2.2.2.1
theorem dX9_move_29 : decode cX9_move 29 = .ok (.ifCond .eq 7, 3) := gdX9_move_0.2.2.2.2.2.2.2.2.2.2.2.2.1
theorem dX9_move_32 : decode cX9_move 32 = .ok (.iconst 1, 1) := gdX9_move_0.2.2.2.2.2.2.2.2.2.2.2.2.2.1
theorem dX9_move_33 : decode cX9_move 33 = .ok (.goto 4, 3) := gdX9_move_0.2.2.2.2.2.2.2.2.2.2.2.2.2.2.1
theorem dX9_move_36 : decode cX9_move 36 = .ok (.iconst 0, 1) := gdX9_move_0.2.2.2.2.2.2.2.2.2.2.2.2.2.2.2
theorem gdX9_move_37 : (decode cX9_move 37 = .ok (.invokestatic 53, 3)) ∧ (decode cX9_move 40 = .ok (.aload_n 0, 1)) ∧ (decode cX9_move 41 = .ok (.getfield 29, 3)) ∧ (decode cX9_move 44 = .ok (.iload_n 1, 1)) ∧ (decode cX9_move 45 = .ok (.aaload, 1)) ∧ (decode cX9_move 46 = .ok (.invokevirtual 101, 3)) ∧ (decode cX9_move 49 = .ok (.invokestatic 88, 3)) ∧ (decode cX9_move 52 = .ok (.aload_n 0, 1)) ∧ (decode cX9_move 53 = .ok (.getfield 29, 3)) ∧ (decode cX9_move 56 = .ok (.iload_n 1, 1)) ∧ (decode cX9_move 57 = .ok (.aaload, 1)) ∧ (decode cX9_move 58 = .ok (.getfield 105, 3)) ∧ (decode cX9_move 61 = .ok (.iload_n 2, 1)) ∧ (decode cX9_move 62 = .ok (.ifCond .eq 7, 3)) ∧ (decode cX9_move 65 = .ok (.iconst 2, 1)) ∧ (decode cX9_move 66 = .ok (.goto 4, 3)) := by decide +kernel
theorem dX9_move_37 : decode cX9_move 37 = .ok (.invokestatic 53, 3) := gdX9_move_37.1
theorem dX9_move_40 : decode cX9_move 40 = .ok (.aload_n 0, 1) := gdX9_move_37.2.1
theorem dX9_move_41 : decode cX9_move 41 = .ok (.getfield 29, 3) := gdX9_move_37.2.2.1
theorem dX9_move_44 : decode cX9_move 44 = .ok (.iload_n 1, 1) := gdX9_move_37.2.2.2.1
theorem dX9_move_45 : decode cX9_move 45 = .ok (.aaload, 1) := gdX9_move_37.2.2.2.2.1
theorem dX9_move_46 : decode cX9_move 46 = .ok (.invokevirtual 101, 3) := gdX9_move_37.2.2.2.2.2.1
theorem dX9_move_49 : decode cX9_move 49 = .ok (.invokestatic 88, 3) := gdX9_move_37.2.2.2.2.2.2.1
theorem dX9_move_52 : decode cX9_move 52 = .ok (.aload_n 0, 1) := gdX9_move_37.2.2.2.2.2.2.2.1
theorem dX9_move_53 : decode cX9_move 53 = .ok (.getfield 29, 3) := gdX9_move_37.2.2.2.2.2.2.2.2.1
theorem dX9_move_56 : decode cX9_move 56 = .ok (.iload_n 1, 1) := gdX9_move_37.2.2.2.2.2.2.2.2.2.1
theorem dX9_move_57 : decode cX9_move 57 = .ok (.aaload, 1) := gdX9_move_37.2.2.2.2.2.2.2.2.2.2.1
theorem dX9_move_58 : decode cX9_move 58 = .ok (.getfield 105, 3) := gdX9_move_37.2.2.2.2.2.2.2.2.2.2.2.1
theorem dX9_move_61 : decode cX9_move 61 = .ok (.iload_n 2, 1) := gdX9_move_37.2.2.2.2.2.2.2.2.2.2.2.2.1
theorem dX9_move_62 : decode cX9_move 62 = .ok (.ifCond .eq 7, 3) := gdX9_move_37.2.2.2.2.2.2.2.2.2.2.2.2.2.1
theorem dX9_move_65 : decode cX9_move 65 = .ok (.iconst 2, 1) := gdX9_move_37.2.2.2.2.2.2.2.2.2.2.2.2.2.2.1
theorem dX9_move_66 : decode cX9_move 66 = .ok (.goto 4, 3) := gdX9_move_37.2.2.2.2.2.2.2.2.2.2.2.2.2.2.2
theorem gdX9_move_69 : (decode cX9_move 69 = .ok (.iconst 1, 1)) ∧ (decode cX9_move 70 = .ok (.iload_n 3, 1)) ∧ (decode cX9_move 71 = .ok (.iload 4, 2)) ∧ (decode cX9_move 73 = .ok (.iload 5, 2)) ∧ (decode cX9_move 75 = .ok (.iload 6, 2)) ∧ (decode cX9_move 77 = .ok (.iconst 0, 1)) ∧ (decode cX9_move 78 = .ok (.invokevirtual 109, 3)) ∧ (decode cX9_move 81 = .ok (.ireturn, 1)) := by decide +kernel
theorem dX9_move_69 : decode cX9_move 69 = .ok (.iconst 1, 1) := gdX9_move_69.1
theorem dX9_move_70 : decode cX9_move 70 = .ok (.iload_n 3, 1) := gdX9_move_69.2.1
theorem dX9_move_71 : decode cX9_move 71 = .ok (.iload 4, 2) := gdX9_move_69.2.2.1
theorem dX9_move_73 : decode cX9_move 73 = .ok (.iload 5, 2) := gdX9_move_69.2.2.2.1
theorem dX9_move_75 : decode cX9_move 75 = .ok (.iload 6, 2) := gdX9_move_69.2.2.2.2.1
theorem dX9_move_77 : decode cX9_move 77 = .ok (.iconst 0, 1) := gdX9_move_69.2.2.2.2.2.1
theorem dX9_move_78 : decode cX9_move 78 = .ok (.invokevirtual 109, 3) := gdX9_move_69.2.2.2.2.2.2.1
theorem dX9_move_81 : decode cX9_move 81 = .ok (.ireturn, 1) := gdX9_move_69.2.2.2.2.2.2.2
set_option maxHeartbeats 8000000 in
set_option maxRecDepth 100000 in
theorem x_X9_move (l : Launch) (hst : l.stackTraces = false) (E : EE) (z0 : Nat) (G : Nat → Nat) (hGz : ∀ q, G q ≠ 0 → z0 ≤ q) (B : AA) (R : RR) (hW : TW G B R) (h0 : Nat) (p0 : Int32) (p1 : Int32) (p2 : Int32) (p3 : Int32) (p4 : Int32) (p5 : Int32) (hG : G h0 = 1) : vx_Met l yX9_move [Cond.code yX9_move cX9_move 7 (some .int)] ({ frames := 7, cells := 2, slots := 12, locals := 101 } : Room) (va_Pc [.ref h0, .int p0, .int p1, .int p2, .int p3, .int p4, .int p5] (fun U => TX E G B R U.heap ∧ KS E z0 U)) (va_Qi (fun (r : Int32) (u : AA) => (TW G u R) ∧ (Fr G ([9, 11, 13] : List Nat) B u) ∧ (C_X9_move G B R h0 p0 p1 p2 p3 p4 p5 u r)) (fun u t => TX E G u R t.heap) (fun q : Nat => G q ∈ ([9, 11, 13] : List Nat))) (vx_X (fun (_ : Unit) => True) (fun En _ t => (X_X9_move G B R h0 p0 p1 p2 p3 p4 p5 En) ∧ TX E G B R t.heap) (fun q : Nat => G q ∈ ([9, 11, 13] : List Nat))) 2 12 (fun q : Nat => G q ∈ ([9, 11, 13] : List Nat)) := by
  refine vx_ofW (cc := cX9_move) (maxL := 7) (ret := (some .int)) (by decide) rfl ?_
  intro p e s m args below meth c s₁ B9 hml hne hv
  obtain ⟨rfl, hT, hK⟩ := hv
  have hx := B9.exec
  have hb := B9.bytes
  have hr := B9.returns
  have hts : ∀ w ∈ TS, w.before ([.ref h0, .int p0, .int p1, .int p2, .int p3, .int p4, .int p5] : List Value).toArray s = true := fun w hw => hK.2.1 w hw _
  have hown : s.vm.findClass RX9 = some m.cls := findClass_of_methodNamed B9.named
  have hlocks := B9.notSynchronized
  have hS : va_S (fun q : Nat => G q ∈ ([9, 11, 13] : List Nat)) s.heap s.heap [] := va_S.rf
  have hAz : ∀ q, (fun q : Nat => G q ∈ ([9, 11, 13] : List Nat)) q → z0 ≤ q := zL hGz (by decide)
  have hW_0 := hW
  have hl := lv_entry ([.ref h0, .int p0, .int p1, .int p2, .int p3, .int p4, .int p5]) (n := 7) (Nat.le_of_ble_eq_true rfl)
  rw [lg_entry_eq]
  generalize (lg_sl ([.ref h0, .int p0, .int p1, .int p2, .int p3, .int p4, .int p5]) ++ List.replicate (7 - (lg_sl ([.ref h0, .int p0, .int p1, .int p2, .int p3, .int p4, .int p5])).length) Slot.unset).toArray = ls at hl ⊢
  have hl : lv_has ls 7 [(0, .ref h0), (1, .int p0), (2, .int p1), (3, .int p2), (4, .int p3), (5, .int p4), (6, .int p5)] := hl
  refine lv_iload_n hx hb dX9_move_0 rfl (lv_at hl 1 rfl) ?_
  refine W.callR (W.runS (As := [.int p0]) (rest := []) ⟨hx, hb, hml, hown, hts⟩ (c_X9_isPair l p0) (cwS 1 hts (gdS ml_X9_78 st_X9_isPair in_X9 co_X9_isPair rfl) rfl rfl rfl (by decide +kernel) ⟨Nat.le_of_ble_eq_true rfl, Nat.le_of_ble_eq_true rfl⟩) preEq rfl rfl hl.1 rfl (lv_room (Nat.le_of_ble_eq_true rfl)) dX9_move_1 ⟨Nat.le_of_ble_eq_true rfl, Nat.le_of_ble_eq_true rfl⟩) ?_
  refine W.eq (g2 := F0 m 4 ls [.int (bI (0 ≤ p0.toInt ∧ p0.toInt < 4))]) (by rfl) ?_
  refine lv_if_eq (tgt := 36) hx hb dX9_move_4 (by decide) (fun c_1 => ?_) (fun c_1 => ?_)
  · have c_1 := bI_0 c_1
    refine lv_iconst (v := 0) hx hb dX9_move_36 (by decide) ?_
    refine vx_callv (rxS (fun _ => True) (As := [.int 0]) (rest := []) ⟨hx, hb, hml, hown, hts⟩ (c_X9_require l hst E z0 0) (cwS 1 hts (gdS ml_X9_53 st_X9_require in_X9 co_X9_require rfl) rfl rfl rfl (by decide +kernel) ⟨Nat.le_of_ble_eq_true rfl, Nat.le_of_ble_eq_true rfl⟩) trivial (fun U hU hW => hK.go hW hS hAz hU) rfl rfl hl.1 rfl (lv_room (Nat.le_of_ble_eq_true rfl)) dX9_move_37 ⟨Nat.le_of_ble_eq_true rfl, Nat.le_of_ble_eq_true rfl⟩) hS (fun q _ h => h.elim) (fun q h => h.elim) (fun q _ h => h.elim) (fun En ce q9 _ t H locs ht hvm hw_2 hB hz hk hS hc1 hc2 hc3 => ?_) (fun _ t H locs ht hvm hw_2 hB hz hk hS => ?_)
    · have hT : TX E G B R H := hT.kept (fun q hq => hk q hq (fun h => h))
      subst hB
      exact vx_out (fun x hx => (hne x hx).elim) hlocks hc1 hc2 hc3 (fun t ht hA => ⟨(), trivial, ⟨(Or.inl ⟨c_1, rfl⟩), by show TX E G B R t.heap; rw [ht]; exact hT⟩, hS.F ht⟩) hS.2.2 (Nat.le_of_ble_eq_true rfl) (Nat.le_of_ble_eq_true rfl)
    · exact absurd rfl hw_2
  · have c_1 := bI_n c_1
    refine lv_iload_n hx hb dX9_move_7 rfl (lv_at hl 3 rfl) ?_
    refine lv_iload hx hb dX9_move_8 (lv_at hl 4 rfl) ?_
    refine W.callR (W.runS (As := [.int p2, .int p3]) (rest := []) ⟨hx, hb, hml, hown, hts⟩ (c_X9_areCells l p2 p3) (cwS 2 hts (gdS ml_X9_97 st_X9_areCells in_X9 co_X9_areCells rfl) rfl rfl rfl (by decide +kernel) ⟨Nat.le_of_ble_eq_true rfl, Nat.le_of_ble_eq_true rfl⟩) preEq rfl rfl hl.1 rfl (lv_room (Nat.le_of_ble_eq_true rfl)) dX9_move_10 ⟨Nat.le_of_ble_eq_true rfl, Nat.le_of_ble_eq_true rfl⟩) ?_
    refine W.eq (g2 := F0 m 13 ls [.int (bI (1 ≤ p3.toInt ∧ p3.toInt ≤ 12 ∧ 0 ≤ p2.toInt ∧ p2.toInt ≤ 32 - p3.toInt))]) (by rfl) ?_
    refine lv_if_eq (tgt := 36) hx hb dX9_move_13 (by decide) (fun c_3 => ?_) (fun c_3 => ?_)
    · have c_3 := bI_0 c_3
      refine lv_iconst (v := 0) hx hb dX9_move_36 (by decide) ?_
      refine vx_callv (rxS (fun _ => True) (As := [.int 0]) (rest := []) ⟨hx, hb, hml, hown, hts⟩ (c_X9_require l hst E z0 0) (cwS 1 hts (gdS ml_X9_53 st_X9_require in_X9 co_X9_require rfl) rfl rfl rfl (by decide +kernel) ⟨Nat.le_of_ble_eq_true rfl, Nat.le_of_ble_eq_true rfl⟩) trivial (fun U hU hW => hK.go hW hS hAz hU) rfl rfl hl.1 rfl (lv_room (Nat.le_of_ble_eq_true rfl)) dX9_move_37 ⟨Nat.le_of_ble_eq_true rfl, Nat.le_of_ble_eq_true rfl⟩) hS (fun q _ h => h.elim) (fun q h => h.elim) (fun q _ h => h.elim) (fun En ce q9 _ t H locs ht hvm hw_4 hB hz hk hS hc1 hc2 hc3 => ?_) (fun _ t H locs ht hvm hw_4 hB hz hk hS => ?_)
      · have hT : TX E G B R H := hT.kept (fun q hq => hk q hq (fun h => h))
        subst hB
        exact vx_out (fun x hx => (hne x hx).elim) hlocks hc1 hc2 hc3 (fun t ht hA => ⟨(), trivial, ⟨(Or.inr (Or.inl ⟨c_1, c_3, rfl⟩)), by show TX E G B R t.heap; rw [ht]; exact hT⟩, hS.F ht⟩) hS.2.2 (Nat.le_of_ble_eq_true rfl) (Nat.le_of_ble_eq_true rfl)
      · exact absurd rfl hw_4
    · have c_3 := bI_n c_3
      refine lv_iload hx hb dX9_move_16 (lv_at hl 5 rfl) ?_
      refine W.callR (W.runS (As := [.int p4]) (rest := []) ⟨hx, hb, hml, hown, hts⟩ (c_X9_isRegion l p4) (cwS 1 hts (gdS ml_X9_50 st_X9_isRegion in_X9 co_X9_isRegion rfl) rfl rfl rfl (by decide +kernel) ⟨Nat.le_of_ble_eq_true rfl, Nat.le_of_ble_eq_true rfl⟩) preEq rfl rfl hl.1 rfl (lv_room (Nat.le_of_ble_eq_true rfl)) dX9_move_18 ⟨Nat.le_of_ble_eq_true rfl, Nat.le_of_ble_eq_true rfl⟩) ?_
      refine W.eq (g2 := F0 m 21 ls [.int (bI (0 ≤ p4.toInt ∧ p4.toInt < 6))]) (by rfl) ?_
      refine lv_if_eq (tgt := 36) hx hb dX9_move_21 (by decide) (fun c_5 => ?_) (fun c_5 => ?_)
      · have c_5 := bI_0 c_5
        refine lv_iconst (v := 0) hx hb dX9_move_36 (by decide) ?_
        refine vx_callv (rxS (fun _ => True) (As := [.int 0]) (rest := []) ⟨hx, hb, hml, hown, hts⟩ (c_X9_require l hst E z0 0) (cwS 1 hts (gdS ml_X9_53 st_X9_require in_X9 co_X9_require rfl) rfl rfl rfl (by decide +kernel) ⟨Nat.le_of_ble_eq_true rfl, Nat.le_of_ble_eq_true rfl⟩) trivial (fun U hU hW => hK.go hW hS hAz hU) rfl rfl hl.1 rfl (lv_room (Nat.le_of_ble_eq_true rfl)) dX9_move_37 ⟨Nat.le_of_ble_eq_true rfl, Nat.le_of_ble_eq_true rfl⟩) hS (fun q _ h => h.elim) (fun q h => h.elim) (fun q _ h => h.elim) (fun En ce q9 _ t H locs ht hvm hw_6 hB hz hk hS hc1 hc2 hc3 => ?_) (fun _ t H locs ht hvm hw_6 hB hz hk hS => ?_)
        · have hT : TX E G B R H := hT.kept (fun q hq => hk q hq (fun h => h))
          subst hB
          exact vx_out (fun x hx => (hne x hx).elim) hlocks hc1 hc2 hc3 (fun t ht hA => ⟨(), trivial, ⟨(Or.inr (Or.inr (Or.inl ⟨c_1, c_3, c_5, rfl⟩))), by show TX E G B R t.heap; rw [ht]; exact hT⟩, hS.F ht⟩) hS.2.2 (Nat.le_of_ble_eq_true rfl) (Nat.le_of_ble_eq_true rfl)
        · exact absurd rfl hw_6
      · have c_5 := bI_n c_5
        refine lv_iload hx hb dX9_move_24 (lv_at hl 6 rfl) ?_
        refine W.callR (W.runS (As := [.int p5]) (rest := []) ⟨hx, hb, hml, hown, hts⟩ (c_X9_isCell l p5) (cwS 1 hts (gdS ml_X9_67 st_X9_isCell in_X9 co_X9_isCell rfl) rfl rfl rfl (by decide +kernel) ⟨Nat.le_of_ble_eq_true rfl, Nat.le_of_ble_eq_true rfl⟩) preEq rfl rfl hl.1 rfl (lv_room (Nat.le_of_ble_eq_true rfl)) dX9_move_26 ⟨Nat.le_of_ble_eq_true rfl, Nat.le_of_ble_eq_true rfl⟩) ?_
        refine W.eq (g2 := F0 m 29 ls [.int (bI (0 ≤ p5.toInt ∧ p5.toInt < 32))]) (by rfl) ?_
        refine lv_if_eq (tgt := 36) hx hb dX9_move_29 (by decide) (fun c_7 => ?_) (fun c_7 => ?_)
        · have c_7 := bI_0 c_7
          refine lv_iconst (v := 0) hx hb dX9_move_36 (by decide) ?_
          refine vx_callv (rxS (fun _ => True) (As := [.int 0]) (rest := []) ⟨hx, hb, hml, hown, hts⟩ (c_X9_require l hst E z0 0) (cwS 1 hts (gdS ml_X9_53 st_X9_require in_X9 co_X9_require rfl) rfl rfl rfl (by decide +kernel) ⟨Nat.le_of_ble_eq_true rfl, Nat.le_of_ble_eq_true rfl⟩) trivial (fun U hU hW => hK.go hW hS hAz hU) rfl rfl hl.1 rfl (lv_room (Nat.le_of_ble_eq_true rfl)) dX9_move_37 ⟨Nat.le_of_ble_eq_true rfl, Nat.le_of_ble_eq_true rfl⟩) hS (fun q _ h => h.elim) (fun q h => h.elim) (fun q _ h => h.elim) (fun En ce q9 _ t H locs ht hvm hw_8 hB hz hk hS hc1 hc2 hc3 => ?_) (fun _ t H locs ht hvm hw_8 hB hz hk hS => ?_)
          · have hT : TX E G B R H := hT.kept (fun q hq => hk q hq (fun h => h))
            subst hB
            exact vx_out (fun x hx => (hne x hx).elim) hlocks hc1 hc2 hc3 (fun t ht hA => ⟨(), trivial, ⟨(Or.inr (Or.inr (Or.inr (Or.inl ⟨c_1, c_3, c_5, c_7, rfl⟩)))), by show TX E G B R t.heap; rw [ht]; exact hT⟩, hS.F ht⟩) hS.2.2 (Nat.le_of_ble_eq_true rfl) (Nat.le_of_ble_eq_true rfl)
          · exact absurd rfl hw_8
        · have c_7 := bI_n c_7
          refine lv_iconst (v := 1) hx hb dX9_move_32 (by decide) ?_
          refine lv_goto (tgt := 37) hx hb dX9_move_33 (by decide) ?_
          refine vx_callv (rxS (fun _ => True) (As := [.int 1]) (rest := []) ⟨hx, hb, hml, hown, hts⟩ (c_X9_require l hst E z0 1) (cwS 1 hts (gdS ml_X9_53 st_X9_require in_X9 co_X9_require rfl) rfl rfl rfl (by decide +kernel) ⟨Nat.le_of_ble_eq_true rfl, Nat.le_of_ble_eq_true rfl⟩) trivial (fun U hU hW => hK.go hW hS hAz hU) rfl rfl hl.1 rfl (lv_room (Nat.le_of_ble_eq_true rfl)) dX9_move_37 ⟨Nat.le_of_ble_eq_true rfl, Nat.le_of_ble_eq_true rfl⟩) hS (fun q _ h => h.elim) (fun q h => h.elim) (fun q _ h => h.elim) (fun En ce q9 _ t H locs ht hvm hw_9 hB hz hk hS hc1 hc2 hc3 => ?_) (fun _ t H locs ht hvm hw_9 hB hz hk hS => ?_)
          · exact absurd hw_9 (by decide)
          · have hT : TX E G B R H := hT.kept (fun q hq => hk q hq (fun h => h))
            refine lv_aload_n hx hb dX9_move_40 rfl (lv_at hl 0 rfl) ?_
            have ha_10 := tx_1 hT hG
            have hg_11 : G (R h0 1) = 3 := (tw_1 hW hG).2.1
            refine va_get (D := DG E) (ci := 9) (v := .ref (R h0 1)) (C := RX9) (T := TX9) (N := 3) hx hb hts iw_X9 hown hK.1 (va_one ha_10) 0 rfl rfl 1 (by decide) (hts _ fl_X9_29) (fun _ h9 => h9) rfl dX9_move_41 ?_
            refine lv_iload_n hx hb dX9_move_44 rfl (lv_at hl 1 rfl) ?_
            have ha_12 := tx_3 hT hg_11
            have hi_13 : vp_in p0 4 := vp_in_iff.mpr (by omega)
            obtain ⟨n_14, hn_14, en_14⟩ := x_nat (x := p0) (by omega)
            have hg_15 : G (R (R h0 1) n_14) = 8 := (tw_3 hW hg_11) n_14 (by omega)
            refine va_aldq (D := DG E) hx hb hK.1 (va_one ha_12) 0 5 rfl rfl hi_13 dX9_move_45 ?_
            refine W.eq (g2 := F0 m 46 ls [.ref (R (R h0 1) n_14)]) (by rw [en_14]; rfl) ?_
            have ha_16 := tx_8 hT hg_15
            refine va_calli (rnV (fun H => TX E G B R H) (As := []) (rest := []) ⟨hx, hb, hml, hown, hts⟩ (x_X3_takesRequests l E z0 G hGz B R hW (R (R h0 1) n_14) hg_15) (cwV 0 hts (gdV ml_X9_101 im_X3_takesRequests se_X3_X3_takesRequests in_X3 co_X3_takesRequests rfl) rfl rfl rfl (by decide +kernel) ⟨Nat.le_of_ble_eq_true rfl, Nat.le_of_ble_eq_true rfl⟩) hT (fun U hU hW => hK.go hW hS hAz hU) (va_recv hK.1 (va_one ha_16) (ci := 3) (q0 := 0) rfl rfl) rfl rfl hl.1 rfl (lv_room (Nat.le_of_ble_eq_true rfl)) dX9_move_46 ⟨Nat.le_of_ble_eq_true rfl, Nat.le_of_ble_eq_true rfl⟩) hS (fun q _ h => h.elim) (fun q h => h.elim) (fun r_17 _ t H locs ht hvm hwr_17 hB hz hk hS => ?_)
            have hT : TX E G B R H := hT.kept (fun q hq => hk q hq (fun h => h))
            have hbr_17 : r_17 = 0 ∨ r_17 = 1 := hwr_17.1
            have hp0r_17 : r_17.toInt = 0 ∨ (B (R (R (R (R h0 1) n_14) 0) 6) 4).toInt ≤ 3 := hwr_17.2.1
            have hCr_17 : C_X3_takesRequests G B R (R (R h0 1) n_14) r_17 := hwr_17.2.2
            have hzr_17 := s_rng hbr_17
            refine vx_callv (rxS (fun _ => True) (As := [.int r_17]) (rest := []) ⟨hx, hb, hml, hown, hts⟩ (c_X9_requireState l hst E z0 r_17) (cwS 1 hts (gdS ml_X9_88 st_X9_requireState in_X9 co_X9_requireState rfl) rfl rfl rfl (by decide +kernel) ⟨Nat.le_of_ble_eq_true rfl, Nat.le_of_ble_eq_true rfl⟩) trivial (fun U hU hW => hK.go hW hS hAz hU) rfl rfl hl.1 rfl (lv_room (Nat.le_of_ble_eq_true rfl)) dX9_move_49 ⟨Nat.le_of_ble_eq_true rfl, Nat.le_of_ble_eq_true rfl⟩) hS (fun q _ h => h.elim) (fun q h => h.elim) (fun q _ h => h.elim) (fun En ce q9 _ t H locs ht hvm hw_18 hB hz hk hS hc1 hc2 hc3 => ?_) (fun _ t H locs ht hvm hw_18 hB hz hk hS => ?_)
            · have hT : TX E G B R H := hT.kept (fun q hq => hk q hq (fun h => h))
              simp only [lt_I, le_I, eq_I, i_0, i_1, i_2, i_3, i_4, i_5, i_6, i_7, i_8, i_10, i_12, i_16, i_20, i_23, i_24, i_31, i_32, i_63, i_64, i_m1] at hw_18
              subst hB
              exact vx_out (fun x hx => (hne x hx).elim) hlocks hc1 hc2 hc3 (fun t ht hA => ⟨(), trivial, ⟨(Or.inr (Or.inr (Or.inr (Or.inr ⟨c_1, c_3, c_5, c_7, n_14, hn_14, r_17, hCr_17, hw_18, rfl⟩)))), by show TX E G B R t.heap; rw [ht]; exact hT⟩, hS.F ht⟩) hS.2.2 (Nat.le_of_ble_eq_true rfl) (Nat.le_of_ble_eq_true rfl)
            · have hT : TX E G B R H := hT.kept (fun q hq => hk q hq (fun h => h))
              simp only [lt_I, le_I, eq_I, i_0, i_1, i_2, i_3, i_4, i_5, i_6, i_7, i_8, i_10, i_12, i_16, i_20, i_23, i_24, i_31, i_32, i_63, i_64, i_m1] at hw_18
              refine lv_aload_n hx hb dX9_move_52 rfl (lv_at hl 0 rfl) ?_
              have ha_19 := tx_1 hT hG
              refine va_get (D := DG E) (ci := 9) (v := .ref (R h0 1)) (C := RX9) (T := TX9) (N := 3) hx hb hts iw_X9 hown hK.1 (va_one ha_19) 0 rfl rfl 1 (by decide) (hts _ fl_X9_29) (fun _ h9 => h9) rfl dX9_move_53 ?_
              refine lv_iload_n hx hb dX9_move_56 rfl (lv_at hl 1 rfl) ?_
              have ha_20 := tx_3 hT hg_11
              refine va_aldq (D := DG E) hx hb hK.1 (va_one ha_20) 0 5 rfl rfl hi_13 dX9_move_57 ?_
              refine W.eq (g2 := F0 m 58 ls [.ref (R (R h0 1) n_14)]) (by rw [en_14]; rfl) ?_
              have ha_21 := tx_8 hT hg_15
              have hg_22 : G (R (R (R h0 1) n_14) 0) = 9 := (tw_8 hW hg_15).1
              refine va_get (D := DG E) (ci := 3) (v := .ref (R (R (R h0 1) n_14) 0)) (C := RX3) (T := TX3) (N := 3) hx hb hts iw_X3 hown hK.1 (va_one ha_21) 0 rfl rfl 0 (by decide) (hts _ fl_X9_105) (fun _ h9 => h9) rfl dX9_move_58 ?_
              refine lv_iload_n hx hb dX9_move_61 rfl (lv_at hl 2 rfl) ?_
              refine lv_if_eq (tgt := 69) hx hb dX9_move_62 (by decide) (fun c_23 => ?_) (fun c_23 => ?_)
              · simp only [lt_I, le_I, eq_I, i_0, i_1, i_2, i_3, i_4, i_5, i_6, i_7, i_8, i_10, i_12, i_16, i_20, i_23, i_24, i_31, i_32, i_63, i_64, i_m1] at c_23
                refine lv_iconst (v := 1) hx hb dX9_move_69 (by decide) ?_
                refine lv_iload_n hx hb dX9_move_70 rfl (lv_at hl 3 rfl) ?_
                refine lv_iload hx hb dX9_move_71 (lv_at hl 4 rfl) ?_
                refine lv_iload hx hb dX9_move_73 (lv_at hl 5 rfl) ?_
                refine lv_iload hx hb dX9_move_75 (lv_at hl 6 rfl) ?_
                refine lv_iconst (v := 0) hx hb dX9_move_77 (by decide) ?_
                have hg_24 : G (R (R (R (R h0 1) n_14) 0) 6) = 11 := (tw_9 hW hg_22).2.2.2
                have hb_25 := (tw_11 hW_0 hg_24).2.2.2
                have ha_26 := tx_9 hT hg_22
                refine va_calli (rnV (fun H => TX E G B R H) (As := [.int 1, .int p2, .int p3, .int p4, .int p5, .int 0]) (rest := []) ⟨hx, hb, hml, hown, hts⟩ (x_X7_post l E z0 G hGz B R hW (R (R (R h0 1) n_14) 0) (1 : Int32) p2 p3 p4 p5 (0 : Int32) hg_22 (show 0 ≤ p3.toInt ∧ p3.toInt ≤ 12 from by have := i_1; have := i_0; first | decide | omega) (show (B (R (R (R (R h0 1) n_14) 0) 6) 4).toInt ≤ 3 from by have := i_1; have := i_0; first | decide | omega)) (cwV 6 hts (gdV ml_X9_109 im_X7_post se_X7_X7_post in_X7 co_X7_post rfl) rfl rfl rfl (by decide +kernel) ⟨Nat.le_of_ble_eq_true rfl, Nat.le_of_ble_eq_true rfl⟩) hT (fun U hU hW => hK.go hW hS hAz hU) (va_recv hK.1 (va_one ha_26) (ci := 7) (q0 := 0) rfl rfl) rfl rfl hl.1 rfl (lv_room (Nat.le_of_ble_eq_true rfl)) dX9_move_78 ⟨Nat.le_of_ble_eq_true rfl, Nat.le_of_ble_eq_true rfl⟩) hS (fun q _ h => mL (L' := [9, 11, 13]) (L := [9, 11, 13]) (by decide) h) (fun q h => mL (L' := [9, 11, 13]) (L := [9, 11, 13]) (by decide) h) (fun r_27 U_28 t H locs ht hvm hwr_27 hB hz hk hS => ?_)
                have hT : TX E G U_28 R H := by rw [ht] at hB; exact hB
                have hWr_27 : TW G U_28 R := hwr_27.1
                have hW := hWr_27
                have hFr_27 : Fr G [9, 11, 13] B U_28 := hwr_27.2.1
                have hCr_27 : C_X7_post G B R (R (R (R h0 1) n_14) 0) (1 : Int32) p2 p3 p4 p5 (0 : Int32) U_28 r_27 := hwr_27.2.2
                refine vx_ret ?_
                refine W.widen (k := 2) (n := 12) (Nat.le_of_ble_eq_true rfl) (Nat.le_of_ble_eq_true rfl) ?_
                exact W.iret (v := r_27) hx hb hr (fun t ht hW9 => ⟨⟨r_27, U_28, rfl, ⟨hW, (Fr.c Fr.rf hFr_27 (by decide)), (Or.inl ⟨c_1, c_3, c_5, c_7, n_14, hn_14, r_17, hCr_17, hw_18, c_23, r_27, U_28, hFr_27, hCr_27, rfl, rfl⟩)⟩, (by show TX E G U_28 R t.heap; rw [ht]; exact hT)⟩, hS.F ht⟩) hS.2.2 dX9_move_81
              · simp only [lt_I, le_I, eq_I, i_0, i_1, i_2, i_3, i_4, i_5, i_6, i_7, i_8, i_10, i_12, i_16, i_20, i_23, i_24, i_31, i_32, i_63, i_64, i_m1] at c_23
                refine lv_iconst (v := 2) hx hb dX9_move_65 (by decide) ?_
                refine lv_goto (tgt := 70) hx hb dX9_move_66 (by decide) ?_
                refine lv_iload_n hx hb dX9_move_70 rfl (lv_at hl 3 rfl) ?_
                refine lv_iload hx hb dX9_move_71 (lv_at hl 4 rfl) ?_
                refine lv_iload hx hb dX9_move_73 (lv_at hl 5 rfl) ?_
                refine lv_iload hx hb dX9_move_75 (lv_at hl 6 rfl) ?_
                refine lv_iconst (v := 0) hx hb dX9_move_77 (by decide) ?_
                have hg_29 : G (R (R (R (R h0 1) n_14) 0) 6) = 11 := (tw_9 hW hg_22).2.2.2
                have hb_30 := (tw_11 hW_0 hg_29).2.2.2
                have ha_31 := tx_9 hT hg_22
                refine va_calli (rnV (fun H => TX E G B R H) (As := [.int 2, .int p2, .int p3, .int p4, .int p5, .int 0]) (rest := []) ⟨hx, hb, hml, hown, hts⟩ (x_X7_post l E z0 G hGz B R hW (R (R (R h0 1) n_14) 0) (2 : Int32) p2 p3 p4 p5 (0 : Int32) hg_22 (show 0 ≤ p3.toInt ∧ p3.toInt ≤ 12 from by have := i_2; have := i_0; first | decide | omega) (show (B (R (R (R (R h0 1) n_14) 0) 6) 4).toInt ≤ 3 from by have := i_2; have := i_0; first | decide | omega)) (cwV 6 hts (gdV ml_X9_109 im_X7_post se_X7_X7_post in_X7 co_X7_post rfl) rfl rfl rfl (by decide +kernel) ⟨Nat.le_of_ble_eq_true rfl, Nat.le_of_ble_eq_true rfl⟩) hT (fun U hU hW => hK.go hW hS hAz hU) (va_recv hK.1 (va_one ha_31) (ci := 7) (q0 := 0) rfl rfl) rfl rfl hl.1 rfl (lv_room (Nat.le_of_ble_eq_true rfl)) dX9_move_78 ⟨Nat.le_of_ble_eq_true rfl, Nat.le_of_ble_eq_true rfl⟩) hS (fun q _ h => mL (L' := [9, 11, 13]) (L := [9, 11, 13]) (by decide) h) (fun q h => mL (L' := [9, 11, 13]) (L := [9, 11, 13]) (by decide) h) (fun r_32 U_33 t H locs ht hvm hwr_32 hB hz hk hS => ?_)
                have hT : TX E G U_33 R H := by rw [ht] at hB; exact hB
                have hWr_32 : TW G U_33 R := hwr_32.1
                have hW := hWr_32
                have hFr_32 : Fr G [9, 11, 13] B U_33 := hwr_32.2.1
                have hCr_32 : C_X7_post G B R (R (R (R h0 1) n_14) 0) (2 : Int32) p2 p3 p4 p5 (0 : Int32) U_33 r_32 := hwr_32.2.2
                refine vx_ret ?_
                refine W.widen (k := 2) (n := 12) (Nat.le_of_ble_eq_true rfl) (Nat.le_of_ble_eq_true rfl) ?_
                exact W.iret (v := r_32) hx hb hr (fun t ht hW9 => ⟨⟨r_32, U_33, rfl, ⟨hW, (Fr.c Fr.rf hFr_32 (by decide)), (Or.inr ⟨c_1, c_3, c_5, c_7, n_14, hn_14, r_17, hCr_17, hw_18, c_23, r_32, U_33, hFr_32, hCr_32, rfl, rfl⟩)⟩, (by show TX E G U_33 R t.heap; rw [ht]; exact hT)⟩, hS.F ht⟩) hS.2.2 dX9_move_81
theorem gdX9_add_0 : (decode cX9_add 0 = .ok (.iload_n 1, 1)) ∧ (decode cX9_add 1 = .ok (.invokestatic 78, 3)) ∧ (decode cX9_add 4 = .ok (.ifCond .eq 29, 3)) ∧ (decode cX9_add 7 = .ok (.iload_n 2, 1)) ∧ (decode cX9_add 8 = .ok (.invokestatic 67, 3)) ∧ (decode cX9_add 11 = .ok (.ifCond .eq 22, 3)) ∧ (decode cX9_add 14 = .ok (.iload_n 3, 1)) ∧ (decode cX9_add 15 = .ok (.invokestatic 50, 3)) ∧ (decode cX9_add 18 = .ok (.ifCond .eq 15, 3)) ∧ (decode cX9_add 21 = .ok (.iload 4, 2)) ∧ (decode cX9_add 23 = .ok (.invokestatic 67, 3)) ∧ (decode cX9_add 26 = .ok (.ifCond .eq 7, 3)) ∧ (decode cX9_add 29 = .ok (.iconst 1, 1)) ∧ (decode cX9_add 30 = .ok (.goto 4, 3)) ∧ (decode cX9_add 33 = .ok (.iconst 0, 1)) ∧ (decode cX9_add 34 = .ok (.invokestatic 53, 3)) := by decide +kernel
theorem dX9_add_0 : decode cX9_add 0 = .ok (.iload_n 1, 1) := gdX9_add_0.1
theorem dX9_add_1 : decode cX9_add 1 = .ok (.invokestatic 78, 3) := gdX9_add_0.2.1
theorem dX9_add_4 : decode cX9_add 4 = .ok (.ifCond .eq 29, 3) := gdX9_add_0.2.2.1
theorem dX9_add_7 : decode cX9_add 7 = .ok (.iload_n 2, 1) := gdX9_add_0.2.2.2.1
theorem dX9_add_8 : decode cX9_add 8 = .ok (.invokestatic 67, 3) := gdX9_add_0.2.2.2.2.1
theorem dX9_add_11 : decode cX9_add 11 = .ok (.ifCond .eq 22, 3) := gdX9_add_0.2.2.2.2.2.1
theorem dX9_add_14 : decode cX9_add 14 = .ok (.iload_n 3, 1) := gdX9_add_0.2.2.2.2.2.2.1
theorem dX9_add_15 : decode cX9_add 15 = .ok (.invokestatic 50, 3) := gdX9_add_0.2.2.2.2.2.2.2.1
theorem dX9_add_18 : decode cX9_add 18 = .ok (.ifCond .eq 15, 3) := gdX9_add_0.2.2.2.2.2.2.2.2.1
theorem dX9_add_21 : decode cX9_add 21 = .ok (.iload 4, 2) := gdX9_add_0.2.2.2.2.2.2.2.2.2.1
theorem dX9_add_23 : decode cX9_add 23 = .ok (.invokestatic 67, 3) := gdX9_add_0.2.2.2.2.2.2.2.2.2.2.1
theorem dX9_add_26 : decode cX9_add 26 = .ok (.ifCond .eq 7, 3) := gdX9_add_0.2.2.2.2.2.2.2.2.2.2.2.1
theorem dX9_add_29 : decode cX9_add 29 = .ok (.iconst 1, 1) := gdX9_add_0.2.2.2.2.2.2.2.2.2.2.2.2.1
theorem dX9_add_30 : decode cX9_add 30 = .ok (.goto 4, 3) := gdX9_add_0.2.2.2.2.2.2.2.2.2.2.2.2.2.1
theorem dX9_add_33 : decode cX9_add 33 = .ok (.iconst 0, 1) := gdX9_add_0.2.2.2.2.2.2.2.2.2.2.2.2.2.2.1
theorem dX9_add_34 : decode cX9_add 34 = .ok (.invokestatic 53, 3) := gdX9_add_0.2.2.2.2.2.2.2.2.2.2.2.2.2.2.2
theorem gdX9_add_37 : (decode cX9_add 37 = .ok (.aload_n 0, 1)) ∧ (decode cX9_add 38 = .ok (.getfield 29, 3)) ∧ (decode cX9_add 41 = .ok (.iload_n 1, 1)) ∧ (decode cX9_add 42 = .ok (.aaload, 1)) ∧ (decode cX9_add 43 = .ok (.invokevirtual 101, 3)) ∧ (decode cX9_add 46 = .ok (.invokestatic 88, 3)) ∧ (decode cX9_add 49 = .ok (.aload_n 0, 1)) ∧ (decode cX9_add 50 = .ok (.getfield 29, 3)) ∧ (decode cX9_add 53 = .ok (.iload_n 1, 1)) ∧ (decode cX9_add 54 = .ok (.aaload, 1)) ∧ (decode cX9_add 55 = .ok (.getfield 105, 3)) ∧ (decode cX9_add 58 = .ok (.iconst 3, 1)) ∧ (decode cX9_add 59 = .ok (.iload_n 2, 1)) ∧ (decode cX9_add 60 = .ok (.iconst 1, 1)) ∧ (decode cX9_add 61 = .ok (.iload_n 3, 1)) ∧ (decode cX9_add 62 = .ok (.iload 4, 2)) := by decide +kernel
theorem dX9_add_37 : decode cX9_add 37 = .ok (.aload_n 0, 1) := gdX9_add_37.1
theorem dX9_add_38 : decode cX9_add 38 = .ok (.getfield 29, 3) := gdX9_add_37.2.1
theorem dX9_add_41 : decode cX9_add 41 = .ok (.iload_n 1, 1) := gdX9_add_37.2.2.1
theorem dX9_add_42 : decode cX9_add 42 = .ok (.aaload, 1) := gdX9_add_37.2.2.2.1
theorem dX9_add_43 : decode cX9_add 43 = .ok (.invokevirtual 101, 3) := gdX9_add_37.2.2.2.2.1
theorem dX9_add_46 : decode cX9_add 46 = .ok (.invokestatic 88, 3) := gdX9_add_37.2.2.2.2.2.1
theorem dX9_add_49 : decode cX9_add 49 = .ok (.aload_n 0, 1) := gdX9_add_37.2.2.2.2.2.2.1
theorem dX9_add_50 : decode cX9_add 50 = .ok (.getfield 29, 3) := gdX9_add_37.2.2.2.2.2.2.2.1
theorem dX9_add_53 : decode cX9_add 53 = .ok (.iload_n 1, 1) := gdX9_add_37.2.2.2.2.2.2.2.2.1
theorem dX9_add_54 : decode cX9_add 54 = .ok (.aaload, 1) := gdX9_add_37.2.2.2.2.2.2.2.2.2.1
theorem dX9_add_55 : decode cX9_add 55 = .ok (.getfield 105, 3) := gdX9_add_37.2.2.2.2.2.2.2.2.2.2.1
theorem dX9_add_58 : decode cX9_add 58 = .ok (.iconst 3, 1) := gdX9_add_37.2.2.2.2.2.2.2.2.2.2.2.1
theorem dX9_add_59 : decode cX9_add 59 = .ok (.iload_n 2, 1) := gdX9_add_37.2.2.2.2.2.2.2.2.2.2.2.2.1
theorem dX9_add_60 : decode cX9_add 60 = .ok (.iconst 1, 1) := gdX9_add_37.2.2.2.2.2.2.2.2.2.2.2.2.2.1
theorem dX9_add_61 : decode cX9_add 61 = .ok (.iload_n 3, 1) := gdX9_add_37.2.2.2.2.2.2.2.2.2.2.2.2.2.2.1
theorem dX9_add_62 : decode cX9_add 62 = .ok (.iload 4, 2) := gdX9_add_37.2.2.2.2.2.2.2.2.2.2.2.2.2.2.2
theorem gdX9_add_64 : (decode cX9_add 64 = .ok (.iload 5, 2)) ∧ (decode cX9_add 66 = .ok (.invokevirtual 109, 3)) ∧ (decode cX9_add 69 = .ok (.ireturn, 1)) := by decide +kernel
theorem dX9_add_64 : decode cX9_add 64 = .ok (.iload 5, 2) := gdX9_add_64.1
theorem dX9_add_66 : decode cX9_add 66 = .ok (.invokevirtual 109, 3) := gdX9_add_64.2.1
theorem dX9_add_69 : decode cX9_add 69 = .ok (.ireturn, 1) := gdX9_add_64.2.2
set_option maxHeartbeats 8000000 in
set_option maxRecDepth 100000 in
theorem x_X9_add (l : Launch) (hst : l.stackTraces = false) (E : EE) (z0 : Nat) (G : Nat → Nat) (hGz : ∀ q, G q ≠ 0 → z0 ≤ q) (B : AA) (R : RR) (hW : TW G B R) (h0 : Nat) (p0 : Int32) (p1 : Int32) (p2 : Int32) (p3 : Int32) (p4 : Int32) (hG : G h0 = 1) : vx_Met l yX9_add [Cond.code yX9_add cX9_add 6 (some .int)] ({ frames := 7, cells := 2, slots := 12, locals := 101 } : Room) (va_Pc [.ref h0, .int p0, .int p1, .int p2, .int p3, .int p4] (fun U => TX E G B R U.heap ∧ KS E z0 U)) (va_Qi (fun (r : Int32) (u : AA) => (TW G u R) ∧ (Fr G ([9, 11, 13] : List Nat) B u) ∧ (C_X9_add G B R h0 p0 p1 p2 p3 p4 u r)) (fun u t => TX E G u R t.heap) (fun q : Nat => G q ∈ ([9, 11, 13] : List Nat))) (vx_X (fun (_ : Unit) => True) (fun En _ t => (X_X9_add G B R h0 p0 p1 p2 p3 p4 En) ∧ TX E G B R t.heap) (fun q : Nat => G q ∈ ([9, 11, 13] : List Nat))) 2 12 (fun q : Nat => G q ∈ ([9, 11, 13] : List Nat)) := by
  refine vx_ofW (cc := cX9_add) (maxL := 6) (ret := (some .int)) (by decide) rfl ?_
  intro p e s m args below meth c s₁ B9 hml hne hv
  obtain ⟨rfl, hT, hK⟩ := hv
  have hx := B9.exec
  have hb := B9.bytes
  have hr := B9.returns
  have hts : ∀ w ∈ TS, w.before ([.ref h0, .int p0, .int p1, .int p2, .int p3, .int p4] : List Value).toArray s = true := fun w hw => hK.2.1 w hw _
  have hown : s.vm.findClass RX9 = some m.cls := findClass_of_methodNamed B9.named
  have hlocks := B9.notSynchronized
  have hS : va_S (fun q : Nat => G q ∈ ([9, 11, 13] : List Nat)) s.heap s.heap [] := va_S.rf
  have hAz : ∀ q, (fun q : Nat => G q ∈ ([9, 11, 13] : List Nat)) q → z0 ≤ q := zL hGz (by decide)
  have hW_0 := hW
  have hl := lv_entry ([.ref h0, .int p0, .int p1, .int p2, .int p3, .int p4]) (n := 6) (Nat.le_of_ble_eq_true rfl)
  rw [lg_entry_eq]
  generalize (lg_sl ([.ref h0, .int p0, .int p1, .int p2, .int p3, .int p4]) ++ List.replicate (6 - (lg_sl ([.ref h0, .int p0, .int p1, .int p2, .int p3, .int p4])).length) Slot.unset).toArray = ls at hl ⊢
  have hl : lv_has ls 6 [(0, .ref h0), (1, .int p0), (2, .int p1), (3, .int p2), (4, .int p3), (5, .int p4)] := hl
  refine lv_iload_n hx hb dX9_add_0 rfl (lv_at hl 1 rfl) ?_
  refine W.callR (W.runS (As := [.int p0]) (rest := []) ⟨hx, hb, hml, hown, hts⟩ (c_X9_isPair l p0) (cwS 1 hts (gdS ml_X9_78 st_X9_isPair in_X9 co_X9_isPair rfl) rfl rfl rfl (by decide +kernel) ⟨Nat.le_of_ble_eq_true rfl, Nat.le_of_ble_eq_true rfl⟩) preEq rfl rfl hl.1 rfl (lv_room (Nat.le_of_ble_eq_true rfl)) dX9_add_1 ⟨Nat.le_of_ble_eq_true rfl, Nat.le_of_ble_eq_true rfl⟩) ?_
  refine W.eq (g2 := F0 m 4 ls [.int (bI (0 ≤ p0.toInt ∧ p0.toInt < 4))]) (by rfl) ?_
  refine lv_if_eq (tgt := 33) hx hb dX9_add_4 (by decide) (fun c_1 => ?_) (fun c_1 => ?_)
  · have c_1 := bI_0 c_1
    refine lv_iconst (v := 0) hx hb dX9_add_33 (by decide) ?_
    refine vx_callv (rxS (fun _ => True) (As := [.int 0]) (rest := []) ⟨hx, hb, hml, hown, hts⟩ (c_X9_require l hst E z0 0) (cwS 1 hts (gdS ml_X9_53 st_X9_require in_X9 co_X9_require rfl) rfl rfl rfl (by decide +kernel) ⟨Nat.le_of_ble_eq_true rfl, Nat.le_of_ble_eq_true rfl⟩) trivial (fun U hU hW => hK.go hW hS hAz hU) rfl rfl hl.1 rfl (lv_room (Nat.le_of_ble_eq_true rfl)) dX9_add_34 ⟨Nat.le_of_ble_eq_true rfl, Nat.le_of_ble_eq_true rfl⟩) hS (fun q _ h => h.elim) (fun q h => h.elim) (fun q _ h => h.elim) (fun En ce q9 _ t H locs ht hvm hw_2 hB hz hk hS hc1 hc2 hc3 => ?_) (fun _ t H locs ht hvm hw_2 hB hz hk hS => ?_)
    · have hT : TX E G B R H := hT.kept (fun q hq => hk q hq (fun h => h))
      subst hB
      exact vx_out (fun x hx => (hne x hx).elim) hlocks hc1 hc2 hc3 (fun t ht hA => ⟨(), trivial, ⟨(Or.inl ⟨c_1, rfl⟩), by show TX E G B R t.heap; rw [ht]; exact hT⟩, hS.F ht⟩) hS.2.2 (Nat.le_of_ble_eq_true rfl) (Nat.le_of_ble_eq_true rfl)
    · exact absurd rfl hw_2
  · have c_1 := bI_n c_1
    refine lv_iload_n hx hb dX9_add_7 rfl (lv_at hl 2 rfl) ?_
    refine W.callR (W.runS (As := [.int p1]) (rest := []) ⟨hx, hb, hml, hown, hts⟩ (c_X9_isCell l p1) (cwS 1 hts (gdS ml_X9_67 st_X9_isCell in_X9 co_X9_isCell rfl) rfl rfl rfl (by decide +kernel) ⟨Nat.le_of_ble_eq_true rfl, Nat.le_of_ble_eq_true rfl⟩) preEq rfl rfl hl.1 rfl (lv_room (Nat.le_of_ble_eq_true rfl)) dX9_add_8 ⟨Nat.le_of_ble_eq_true rfl, Nat.le_of_ble_eq_true rfl⟩) ?_
    refine W.eq (g2 := F0 m 11 ls [.int (bI (0 ≤ p1.toInt ∧ p1.toInt < 32))]) (by rfl) ?_
    refine lv_if_eq (tgt := 33) hx hb dX9_add_11 (by decide) (fun c_3 => ?_) (fun c_3 => ?_)
    · have c_3 := bI_0 c_3
      refine lv_iconst (v := 0) hx hb dX9_add_33 (by decide) ?_
      refine vx_callv (rxS (fun _ => True) (As := [.int 0]) (rest := []) ⟨hx, hb, hml, hown, hts⟩ (c_X9_require l hst E z0 0) (cwS 1 hts (gdS ml_X9_53 st_X9_require in_X9 co_X9_require rfl) rfl rfl rfl (by decide +kernel) ⟨Nat.le_of_ble_eq_true rfl, Nat.le_of_ble_eq_true rfl⟩) trivial (fun U hU hW => hK.go hW hS hAz hU) rfl rfl hl.1 rfl (lv_room (Nat.le_of_ble_eq_true rfl)) dX9_add_34 ⟨Nat.le_of_ble_eq_true rfl, Nat.le_of_ble_eq_true rfl⟩) hS (fun q _ h => h.elim) (fun q h => h.elim) (fun q _ h => h.elim) (fun En ce q9 _ t H locs ht hvm hw_4 hB hz hk hS hc1 hc2 hc3 => ?_) (fun _ t H locs ht hvm hw_4 hB hz hk hS => ?_)
      · have hT : TX E G B R H := hT.kept (fun q hq => hk q hq (fun h => h))
        subst hB
        exact vx_out (fun x hx => (hne x hx).elim) hlocks hc1 hc2 hc3 (fun t ht hA => ⟨(), trivial, ⟨(Or.inr (Or.inl ⟨c_1, c_3, rfl⟩)), by show TX E G B R t.heap; rw [ht]; exact hT⟩, hS.F ht⟩) hS.2.2 (Nat.le_of_ble_eq_true rfl) (Nat.le_of_ble_eq_true rfl)
      · exact absurd rfl hw_4
    · have c_3 := bI_n c_3
      refine lv_iload_n hx hb dX9_add_14 rfl (lv_at hl 3 rfl) ?_
      refine W.callR (W.runS (As := [.int p2]) (rest := []) ⟨hx, hb, hml, hown, hts⟩ (c_X9_isRegion l p2) (cwS 1 hts (gdS ml_X9_50 st_X9_isRegion in_X9 co_X9_isRegion rfl) rfl rfl rfl (by decide +kernel) ⟨Nat.le_of_ble_eq_true rfl, Nat.le_of_ble_eq_true rfl⟩) preEq rfl rfl hl.1 rfl (lv_room (Nat.le_of_ble_eq_true rfl)) dX9_add_15 ⟨Nat.le_of_ble_eq_true rfl, Nat.le_of_ble_eq_true rfl⟩) ?_
      refine W.eq (g2 := F0 m 18 ls [.int (bI (0 ≤ p2.toInt ∧ p2.toInt < 6))]) (by rfl) ?_
      refine lv_if_eq (tgt := 33) hx hb dX9_add_18 (by decide) (fun c_5 => ?_) (fun c_5 => ?_)
      · have c_5 := bI_0 c_5
        refine lv_iconst (v := 0) hx hb dX9_add_33 (by decide) ?_
        refine vx_callv (rxS (fun _ => True) (As := [.int 0]) (rest := []) ⟨hx, hb, hml, hown, hts⟩ (c_X9_require l hst E z0 0) (cwS 1 hts (gdS ml_X9_53 st_X9_require in_X9 co_X9_require rfl) rfl rfl rfl (by decide +kernel) ⟨Nat.le_of_ble_eq_true rfl, Nat.le_of_ble_eq_true rfl⟩) trivial (fun U hU hW => hK.go hW hS hAz hU) rfl rfl hl.1 rfl (lv_room (Nat.le_of_ble_eq_true rfl)) dX9_add_34 ⟨Nat.le_of_ble_eq_true rfl, Nat.le_of_ble_eq_true rfl⟩) hS (fun q _ h => h.elim) (fun q h => h.elim) (fun q _ h => h.elim) (fun En ce q9 _ t H locs ht hvm hw_6 hB hz hk hS hc1 hc2 hc3 => ?_) (fun _ t H locs ht hvm hw_6 hB hz hk hS => ?_)
        · have hT : TX E G B R H := hT.kept (fun q hq => hk q hq (fun h => h))
          subst hB
          exact vx_out (fun x hx => (hne x hx).elim) hlocks hc1 hc2 hc3 (fun t ht hA => ⟨(), trivial, ⟨(Or.inr (Or.inr (Or.inl ⟨c_1, c_3, c_5, rfl⟩))), by show TX E G B R t.heap; rw [ht]; exact hT⟩, hS.F ht⟩) hS.2.2 (Nat.le_of_ble_eq_true rfl) (Nat.le_of_ble_eq_true rfl)
        · exact absurd rfl hw_6
      · have c_5 := bI_n c_5
        refine lv_iload hx hb dX9_add_21 (lv_at hl 4 rfl) ?_
        refine W.callR (W.runS (As := [.int p3]) (rest := []) ⟨hx, hb, hml, hown, hts⟩ (c_X9_isCell l p3) (cwS 1 hts (gdS ml_X9_67 st_X9_isCell in_X9 co_X9_isCell rfl) rfl rfl rfl (by decide +kernel) ⟨Nat.le_of_ble_eq_true rfl, Nat.le_of_ble_eq_true rfl⟩) preEq rfl rfl hl.1 rfl (lv_room (Nat.le_of_ble_eq_true rfl)) dX9_add_23 ⟨Nat.le_of_ble_eq_true rfl, Nat.le_of_ble_eq_true rfl⟩) ?_
        refine W.eq (g2 := F0 m 26 ls [.int (bI (0 ≤ p3.toInt ∧ p3.toInt < 32))]) (by rfl) ?_
        refine lv_if_eq (tgt := 33) hx hb dX9_add_26 (by decide) (fun c_7 => ?_) (fun c_7 => ?_)
        · have c_7 := bI_0 c_7
          refine lv_iconst (v := 0) hx hb dX9_add_33 (by decide) ?_
          refine vx_callv (rxS (fun _ => True) (As := [.int 0]) (rest := []) ⟨hx, hb, hml, hown, hts⟩ (c_X9_require l hst E z0 0) (cwS 1 hts (gdS ml_X9_53 st_X9_require in_X9 co_X9_require rfl) rfl rfl rfl (by decide +kernel) ⟨Nat.le_of_ble_eq_true rfl, Nat.le_of_ble_eq_true rfl⟩) trivial (fun U hU hW => hK.go hW hS hAz hU) rfl rfl hl.1 rfl (lv_room (Nat.le_of_ble_eq_true rfl)) dX9_add_34 ⟨Nat.le_of_ble_eq_true rfl, Nat.le_of_ble_eq_true rfl⟩) hS (fun q _ h => h.elim) (fun q h => h.elim) (fun q _ h => h.elim) (fun En ce q9 _ t H locs ht hvm hw_8 hB hz hk hS hc1 hc2 hc3 => ?_) (fun _ t H locs ht hvm hw_8 hB hz hk hS => ?_)
          · have hT : TX E G B R H := hT.kept (fun q hq => hk q hq (fun h => h))
            subst hB
            exact vx_out (fun x hx => (hne x hx).elim) hlocks hc1 hc2 hc3 (fun t ht hA => ⟨(), trivial, ⟨(Or.inr (Or.inr (Or.inr (Or.inl ⟨c_1, c_3, c_5, c_7, rfl⟩)))), by show TX E G B R t.heap; rw [ht]; exact hT⟩, hS.F ht⟩) hS.2.2 (Nat.le_of_ble_eq_true rfl) (Nat.le_of_ble_eq_true rfl)
          · exact absurd rfl hw_8
        · have c_7 := bI_n c_7
          refine lv_iconst (v := 1) hx hb dX9_add_29 (by decide) ?_
          refine lv_goto (tgt := 34) hx hb dX9_add_30 (by decide) ?_
          refine vx_callv (rxS (fun _ => True) (As := [.int 1]) (rest := []) ⟨hx, hb, hml, hown, hts⟩ (c_X9_require l hst E z0 1) (cwS 1 hts (gdS ml_X9_53 st_X9_require in_X9 co_X9_require rfl) rfl rfl rfl (by decide +kernel) ⟨Nat.le_of_ble_eq_true rfl, Nat.le_of_ble_eq_true rfl⟩) trivial (fun U hU hW => hK.go hW hS hAz hU) rfl rfl hl.1 rfl (lv_room (Nat.le_of_ble_eq_true rfl)) dX9_add_34 ⟨Nat.le_of_ble_eq_true rfl, Nat.le_of_ble_eq_true rfl⟩) hS (fun q _ h => h.elim) (fun q h => h.elim) (fun q _ h => h.elim) (fun En ce q9 _ t H locs ht hvm hw_9 hB hz hk hS hc1 hc2 hc3 => ?_) (fun _ t H locs ht hvm hw_9 hB hz hk hS => ?_)
          · exact absurd hw_9 (by decide)
          · have hT : TX E G B R H := hT.kept (fun q hq => hk q hq (fun h => h))
            refine lv_aload_n hx hb dX9_add_37 rfl (lv_at hl 0 rfl) ?_
            have ha_10 := tx_1 hT hG
            have hg_11 : G (R h0 1) = 3 := (tw_1 hW hG).2.1
            refine va_get (D := DG E) (ci := 9) (v := .ref (R h0 1)) (C := RX9) (T := TX9) (N := 3) hx hb hts iw_X9 hown hK.1 (va_one ha_10) 0 rfl rfl 1 (by decide) (hts _ fl_X9_29) (fun _ h9 => h9) rfl dX9_add_38 ?_
            refine lv_iload_n hx hb dX9_add_41 rfl (lv_at hl 1 rfl) ?_
            have ha_12 := tx_3 hT hg_11
            have hi_13 : vp_in p0 4 := vp_in_iff.mpr (by omega)
            obtain ⟨n_14, hn_14, en_14⟩ := x_nat (x := p0) (by omega)
            have hg_15 : G (R (R h0 1) n_14) = 8 := (tw_3 hW hg_11) n_14 (by omega)
            refine va_aldq (D := DG E) hx hb hK.1 (va_one ha_12) 0 5 rfl rfl hi_13 dX9_add_42 ?_
            refine W.eq (g2 := F0 m 43 ls [.ref (R (R h0 1) n_14)]) (by rw [en_14]; rfl) ?_
            have ha_16 := tx_8 hT hg_15
            refine va_calli (rnV (fun H => TX E G B R H) (As := []) (rest := []) ⟨hx, hb, hml, hown, hts⟩ (x_X3_takesRequests l E z0 G hGz B R hW (R (R h0 1) n_14) hg_15) (cwV 0 hts (gdV ml_X9_101 im_X3_takesRequests se_X3_X3_takesRequests in_X3 co_X3_takesRequests rfl) rfl rfl rfl (by decide +kernel) ⟨Nat.le_of_ble_eq_true rfl, Nat.le_of_ble_eq_true rfl⟩) hT (fun U hU hW => hK.go hW hS hAz hU) (va_recv hK.1 (va_one ha_16) (ci := 3) (q0 := 0) rfl rfl) rfl rfl hl.1 rfl (lv_room (Nat.le_of_ble_eq_true rfl)) dX9_add_43 ⟨Nat.le_of_ble_eq_true rfl, Nat.le_of_ble_eq_true rfl⟩) hS (fun q _ h => h.elim) (fun q h => h.elim) (fun r_17 _ t H locs ht hvm hwr_17 hB hz hk hS => ?_)
            have hT : TX E G B R H := hT.kept (fun q hq => hk q hq (fun h => h))
            have hbr_17 : r_17 = 0 ∨ r_17 = 1 := hwr_17.1
            have hp0r_17 : r_17.toInt = 0 ∨ (B (R (R (R (R h0 1) n_14) 0) 6) 4).toInt ≤ 3 := hwr_17.2.1
            have hCr_17 : C_X3_takesRequests G B R (R (R h0 1) n_14) r_17 := hwr_17.2.2
            have hzr_17 := s_rng hbr_17
            refine vx_callv (rxS (fun _ => True) (As := [.int r_17]) (rest := []) ⟨hx, hb, hml, hown, hts⟩ (c_X9_requireState l hst E z0 r_17) (cwS 1 hts (gdS ml_X9_88 st_X9_requireState in_X9 co_X9_requireState rfl) rfl rfl rfl (by decide +kernel) ⟨Nat.le_of_ble_eq_true rfl, Nat.le_of_ble_eq_true rfl⟩) trivial (fun U hU hW => hK.go hW hS hAz hU) rfl rfl hl.1 rfl (lv_room (Nat.le_of_ble_eq_true rfl)) dX9_add_46 ⟨Nat.le_of_ble_eq_true rfl, Nat.le_of_ble_eq_true rfl⟩) hS (fun q _ h => h.elim) (fun q h => h.elim) (fun q _ h => h.elim) (fun En ce q9 _ t H locs ht hvm hw_18 hB hz hk hS hc1 hc2 hc3 => ?_) (fun _ t H locs ht hvm hw_18 hB hz hk hS => ?_)
            · have hT : TX E G B R H := hT.kept (fun q hq => hk q hq (fun h => h))
              simp only [lt_I, le_I, eq_I, i_0, i_1, i_2, i_3, i_4, i_5, i_6, i_7, i_8, i_10, i_12, i_16, i_20, i_23, i_24, i_31, i_32, i_63, i_64, i_m1] at hw_18
              subst hB
              exact vx_out (fun x hx => (hne x hx).elim) hlocks hc1 hc2 hc3 (fun t ht hA => ⟨(), trivial, ⟨(Or.inr (Or.inr (Or.inr (Or.inr ⟨c_1, c_3, c_5, c_7, n_14, hn_14, r_17, hCr_17, hw_18, rfl⟩)))), by show TX E G B R t.heap; rw [ht]; exact hT⟩, hS.F ht⟩) hS.2.2 (Nat.le_of_ble_eq_true rfl) (Nat.le_of_ble_eq_true rfl)
            · have hT : TX E G B R H := hT.kept (fun q hq => hk q hq (fun h => h))
              simp only [lt_I, le_I, eq_I, i_0, i_1, i_2, i_3, i_4, i_5, i_6, i_7, i_8, i_10, i_12, i_16, i_20, i_23, i_24, i_31, i_32, i_63, i_64, i_m1] at hw_18
              refine lv_aload_n hx hb dX9_add_49 rfl (lv_at hl 0 rfl) ?_
              have ha_19 := tx_1 hT hG
              refine va_get (D := DG E) (ci := 9) (v := .ref (R h0 1)) (C := RX9) (T := TX9) (N := 3) hx hb hts iw_X9 hown hK.1 (va_one ha_19) 0 rfl rfl 1 (by decide) (hts _ fl_X9_29) (fun _ h9 => h9) rfl dX9_add_50 ?_
              refine lv_iload_n hx hb dX9_add_53 rfl (lv_at hl 1 rfl) ?_
              have ha_20 := tx_3 hT hg_11
              refine va_aldq (D := DG E) hx hb hK.1 (va_one ha_20) 0 5 rfl rfl hi_13 dX9_add_54 ?_
              refine W.eq (g2 := F0 m 55 ls [.ref (R (R h0 1) n_14)]) (by rw [en_14]; rfl) ?_
              have ha_21 := tx_8 hT hg_15
              have hg_22 : G (R (R (R h0 1) n_14) 0) = 9 := (tw_8 hW hg_15).1
              refine va_get (D := DG E) (ci := 3) (v := .ref (R (R (R h0 1) n_14) 0)) (C := RX3) (T := TX3) (N := 3) hx hb hts iw_X3 hown hK.1 (va_one ha_21) 0 rfl rfl 0 (by decide) (hts _ fl_X9_105) (fun _ h9 => h9) rfl dX9_add_55 ?_
              refine lv_iconst (v := 3) hx hb dX9_add_58 (by decide) ?_
              refine lv_iload_n hx hb dX9_add_59 rfl (lv_at hl 2 rfl) ?_
              refine lv_iconst (v := 1) hx hb dX9_add_60 (by decide) ?_
              refine lv_iload_n hx hb dX9_add_61 rfl (lv_at hl 3 rfl) ?_
              refine lv_iload hx hb dX9_add_62 (lv_at hl 4 rfl) ?_
              refine lv_iload hx hb dX9_add_64 (lv_at hl 5 rfl) ?_
              have hg_23 : G (R (R (R (R h0 1) n_14) 0) 6) = 11 := (tw_9 hW hg_22).2.2.2
              have hb_24 := (tw_11 hW_0 hg_23).2.2.2
              have ha_25 := tx_9 hT hg_22
              refine va_calli (rnV (fun H => TX E G B R H) (As := [.int 3, .int p1, .int 1, .int p2, .int p3, .int p4]) (rest := []) ⟨hx, hb, hml, hown, hts⟩ (x_X7_post l E z0 G hGz B R hW (R (R (R h0 1) n_14) 0) (3 : Int32) p1 (1 : Int32) p2 p3 p4 hg_22 (show 0 ≤ (1 : Int32).toInt ∧ (1 : Int32).toInt ≤ 12 from by have := i_3; have := i_1; first | decide | omega) (show (B (R (R (R (R h0 1) n_14) 0) 6) 4).toInt ≤ 3 from by have := i_3; have := i_1; first | decide | omega)) (cwV 6 hts (gdV ml_X9_109 im_X7_post se_X7_X7_post in_X7 co_X7_post rfl) rfl rfl rfl (by decide +kernel) ⟨Nat.le_of_ble_eq_true rfl, Nat.le_of_ble_eq_true rfl⟩) hT (fun U hU hW => hK.go hW hS hAz hU) (va_recv hK.1 (va_one ha_25) (ci := 7) (q0 := 0) rfl rfl) rfl rfl hl.1 rfl (lv_room (Nat.le_of_ble_eq_true rfl)) dX9_add_66 ⟨Nat.le_of_ble_eq_true rfl, Nat.le_of_ble_eq_true rfl⟩) hS (fun q _ h => mL (L' := [9, 11, 13]) (L := [9, 11, 13]) (by decide) h) (fun q h => mL (L' := [9, 11, 13]) (L := [9, 11, 13]) (by decide) h) (fun r_26 U_27 t H locs ht hvm hwr_26 hB hz hk hS => ?_)
              have hT : TX E G U_27 R H := by rw [ht] at hB; exact hB
              have hWr_26 : TW G U_27 R := hwr_26.1
              have hW := hWr_26
              have hFr_26 : Fr G [9, 11, 13] B U_27 := hwr_26.2.1
              have hCr_26 : C_X7_post G B R (R (R (R h0 1) n_14) 0) (3 : Int32) p1 (1 : Int32) p2 p3 p4 U_27 r_26 := hwr_26.2.2
              refine vx_ret ?_
              refine W.widen (k := 2) (n := 12) (Nat.le_of_ble_eq_true rfl) (Nat.le_of_ble_eq_true rfl) ?_
              exact W.iret (v := r_26) hx hb hr (fun t ht hW9 => ⟨⟨r_26, U_27, rfl, ⟨hW, (Fr.c Fr.rf hFr_26 (by decide)), ⟨c_1, c_3, c_5, c_7, n_14, hn_14, r_17, hCr_17, hw_18, r_26, U_27, hFr_26, hCr_26, rfl, rfl⟩⟩, (by show TX E G U_27 R t.heap; rw [ht]; exact hT)⟩, hS.F ht⟩) hS.2.2 dX9_add_69
theorem dX9_receive_0 : decode cX9_receive 0 = .ok (.iload_n 1, 1) := by decide +kernel
theorem dX9_receive_1 : decode cX9_receive 1 = .ok (.invokestatic 78, 3) := by decide +kernel
theorem dX9_receive_4 : decode cX9_receive 4 = .ok (.ifCond .eq 15, 3) := by decide +kernel
theorem dX9_receive_7 : decode cX9_receive 7 = .ok (.iload_n 2, 1) := by decide +kernel
theorem dX9_receive_8 : decode cX9_receive 8 = .ok (.iload_n 3, 1) := by decide +kernel
theorem dX9_receive_9 : decode cX9_receive 9 = .ok (.invokestatic 97, 3) := by decide +kernel
theorem dX9_receive_12 : decode cX9_receive 12 = .ok (.ifCond .eq 7, 3) := by decide +kernel
theorem dX9_receive_15 : decode cX9_receive 15 = .ok (.iconst 1, 1) := by decide +kernel
theorem dX9_receive_16 : decode cX9_receive 16 = .ok (.goto 4, 3) := by decide +kernel
theorem dX9_receive_19 : decode cX9_receive 19 = .ok (.iconst 0, 1) := by decide +kernel
theorem dX9_receive_20 : decode cX9_receive 20 = .ok (.invokestatic 53, 3) := by decide +kernel
theorem dX9_receive_23 : decode cX9_receive 23 = .ok (.aload_n 0, 1) := by decide +kernel
theorem dX9_receive_24 : decode cX9_receive 24 = .ok (.getfield 29, 3) := by decide +kernel
theorem dX9_receive_27 : decode cX9_receive 27 = .ok (.iload_n 1, 1) := by decide +kernel
theorem dX9_receive_28 : decode cX9_receive 28 = .ok (.aaload, 1) := by decide +kernel
theorem dX9_receive_29 : decode cX9_receive 29 = .ok (.invokevirtual 113, 3) := by decide +kernel
theorem dX9_receive_32 : decode cX9_receive 32 = .ok (.invokestatic 88, 3) := by decide +kernel
theorem dX9_receive_35 : decode cX9_receive 35 = .ok (.aload_n 0, 1) := by decide +kernel
theorem dX9_receive_36 : decode cX9_receive 36 = .ok (.getfield 29, 3) := by decide +kernel
theorem dX9_receive_39 : decode cX9_receive 39 = .ok (.iload_n 1, 1) := by decide +kernel
theorem dX9_receive_40 : decode cX9_receive 40 = .ok (.aaload, 1) := by decide +kernel
theorem dX9_receive_41 : decode cX9_receive 41 = .ok (.getfield 116, 3) := by decide +kernel
theorem dX9_receive_44 : decode cX9_receive 44 = .ok (.getfield 120, 3) := by decide +kernel
theorem dX9_receive_47 : decode cX9_receive 47 = .ok (.iconst 4, 1) := by decide +kernel
theorem dX9_receive_48 : decode cX9_receive 48 = .ok (.iload_n 2, 1) := by decide +kernel
theorem dX9_receive_49 : decode cX9_receive 49 = .ok (.iload_n 3, 1) := by decide +kernel
theorem dX9_receive_50 : decode cX9_receive 50 = .ok (.invokevirtual 124, 3) := by decide +kernel
theorem dX9_receive_53 : decode cX9_receive 53 = .ok (.getfield 130, 3) := by decide +kernel
theorem dX9_receive_56 : decode cX9_receive 56 = .ok (.ireturn, 1) := by decide +kernel
set_option maxHeartbeats 8000000 in
set_option maxRecDepth 100000 in
theorem x_X9_receive (l : Launch) (hst : l.stackTraces = false) (E : EE) (z0 : Nat) (G : Nat → Nat) (hGz : ∀ q, G q ≠ 0 → z0 ≤ q) (B : AA) (R : RR) (hW : TW G B R) (h0 : Nat) (p0 : Int32) (p1 : Int32) (p2 : Int32) (hG : G h0 = 1) : vx_Met l yX9_receive [Cond.code yX9_receive cX9_receive 4 (some .int)] ({ frames := 7, cells := 2, slots := 12, locals := 101 } : Room) (va_Pc [.ref h0, .int p0, .int p1, .int p2] (fun U => TX E G B R U.heap ∧ KS E z0 U)) (va_Qi (fun (r : Int32) (u : AA) => (TW G u R) ∧ (Fr G ([11, 13] : List Nat) B u) ∧ (C_X9_receive G B R h0 p0 p1 p2 u r)) (fun u t => TX E G u R t.heap) (fun q : Nat => G q ∈ ([11, 13] : List Nat))) (vx_X (fun (_ : Unit) => True) (fun En _ t => (X_X9_receive G B R h0 p0 p1 p2 En) ∧ TX E G B R t.heap) (fun q : Nat => G q ∈ ([11, 13] : List Nat))) 2 12 (fun q : Nat => G q ∈ ([11, 13] : List Nat)) := by
  refine vx_ofW (cc := cX9_receive) (maxL := 4) (ret := (some .int)) (by decide) rfl ?_
  intro p e s m args below meth c s₁ B9 hml hne hv
  obtain ⟨rfl, hT, hK⟩ := hv
  have hx := B9.exec
  have hb := B9.bytes
  have hr := B9.returns
  have hts : ∀ w ∈ TS, w.before ([.ref h0, .int p0, .int p1, .int p2] : List Value).toArray s = true := fun w hw => hK.2.1 w hw _
  have hown : s.vm.findClass RX9 = some m.cls := findClass_of_methodNamed B9.named
  have hlocks := B9.notSynchronized
  have hS : va_S (fun q : Nat => G q ∈ ([11, 13] : List Nat)) s.heap s.heap [] := va_S.rf
  have hAz : ∀ q, (fun q : Nat => G q ∈ ([11, 13] : List Nat)) q → z0 ≤ q := zL hGz (by decide)
  have hW_0 := hW
  have hl := lv_entry ([.ref h0, .int p0, .int p1, .int p2]) (n := 4) (Nat.le_of_ble_eq_true rfl)
  rw [lg_entry_eq]
  generalize (lg_sl ([.ref h0, .int p0, .int p1, .int p2]) ++ List.replicate (4 - (lg_sl ([.ref h0, .int p0, .int p1, .int p2])).length) Slot.unset).toArray = ls at hl ⊢
  have hl : lv_has ls 4 [(0, .ref h0), (1, .int p0), (2, .int p1), (3, .int p2)] := hl
  refine lv_iload_n hx hb dX9_receive_0 rfl (lv_at hl 1 rfl) ?_
  refine W.callR (W.runS (As := [.int p0]) (rest := []) ⟨hx, hb, hml, hown, hts⟩ (c_X9_isPair l p0) (cwS 1 hts (gdS ml_X9_78 st_X9_isPair in_X9 co_X9_isPair rfl) rfl rfl rfl (by decide +kernel) ⟨Nat.le_of_ble_eq_true rfl, Nat.le_of_ble_eq_true rfl⟩) preEq rfl rfl hl.1 rfl (lv_room (Nat.le_of_ble_eq_true rfl)) dX9_receive_1 ⟨Nat.le_of_ble_eq_true rfl, Nat.le_of_ble_eq_true rfl⟩) ?_
  refine W.eq (g2 := F0 m 4 ls [.int (bI (0 ≤ p0.toInt ∧ p0.toInt < 4))]) (by rfl) ?_
  refine lv_if_eq (tgt := 19) hx hb dX9_receive_4 (by decide) (fun c_1 => ?_) (fun c_1 => ?_)
  · have c_1 := bI_0 c_1
    refine lv_iconst (v := 0) hx hb dX9_receive_19 (by decide) ?_
    refine vx_callv (rxS (fun _ => True) (As := [.int 0]) (rest := []) ⟨hx, hb, hml, hown, hts⟩ (c_X9_require l hst E z0 0) (cwS 1 hts (gdS ml_X9_53 st_X9_require in_X9 co_X9_require rfl) rfl rfl rfl (by decide +kernel) ⟨Nat.le_of_ble_eq_true rfl, Nat.le_of_ble_eq_true rfl⟩) trivial (fun U hU hW => hK.go hW hS hAz hU) rfl rfl hl.1 rfl (lv_room (Nat.le_of_ble_eq_true rfl)) dX9_receive_20 ⟨Nat.le_of_ble_eq_true rfl, Nat.le_of_ble_eq_true rfl⟩) hS (fun q _ h => h.elim) (fun q h => h.elim) (fun q _ h => h.elim) (fun En ce q9 _ t H locs ht hvm hw_2 hB hz hk hS hc1 hc2 hc3 => ?_) (fun _ t H locs ht hvm hw_2 hB hz hk hS => ?_)
    · have hT : TX E G B R H := hT.kept (fun q hq => hk q hq (fun h => h))
      subst hB
      exact vx_out (fun x hx => (hne x hx).elim) hlocks hc1 hc2 hc3 (fun t ht hA => ⟨(), trivial, ⟨(Or.inl ⟨c_1, rfl⟩), by show TX E G B R t.heap; rw [ht]; exact hT⟩, hS.F ht⟩) hS.2.2 (Nat.le_of_ble_eq_true rfl) (Nat.le_of_ble_eq_true rfl)
    · exact absurd rfl hw_2
  · have c_1 := bI_n c_1
    refine lv_iload_n hx hb dX9_receive_7 rfl (lv_at hl 2 rfl) ?_
    refine lv_iload_n hx hb dX9_receive_8 rfl (lv_at hl 3 rfl) ?_
    refine W.callR (W.runS (As := [.int p1, .int p2]) (rest := []) ⟨hx, hb, hml, hown, hts⟩ (c_X9_areCells l p1 p2) (cwS 2 hts (gdS ml_X9_97 st_X9_areCells in_X9 co_X9_areCells rfl) rfl rfl rfl (by decide +kernel) ⟨Nat.le_of_ble_eq_true rfl, Nat.le_of_ble_eq_true rfl⟩) preEq rfl rfl hl.1 rfl (lv_room (Nat.le_of_ble_eq_true rfl)) dX9_receive_9 ⟨Nat.le_of_ble_eq_true rfl, Nat.le_of_ble_eq_true rfl⟩) ?_
    refine W.eq (g2 := F0 m 12 ls [.int (bI (1 ≤ p2.toInt ∧ p2.toInt ≤ 12 ∧ 0 ≤ p1.toInt ∧ p1.toInt ≤ 32 - p2.toInt))]) (by rfl) ?_
    refine lv_if_eq (tgt := 19) hx hb dX9_receive_12 (by decide) (fun c_3 => ?_) (fun c_3 => ?_)
    · have c_3 := bI_0 c_3
      refine lv_iconst (v := 0) hx hb dX9_receive_19 (by decide) ?_
      refine vx_callv (rxS (fun _ => True) (As := [.int 0]) (rest := []) ⟨hx, hb, hml, hown, hts⟩ (c_X9_require l hst E z0 0) (cwS 1 hts (gdS ml_X9_53 st_X9_require in_X9 co_X9_require rfl) rfl rfl rfl (by decide +kernel) ⟨Nat.le_of_ble_eq_true rfl, Nat.le_of_ble_eq_true rfl⟩) trivial (fun U hU hW => hK.go hW hS hAz hU) rfl rfl hl.1 rfl (lv_room (Nat.le_of_ble_eq_true rfl)) dX9_receive_20 ⟨Nat.le_of_ble_eq_true rfl, Nat.le_of_ble_eq_true rfl⟩) hS (fun q _ h => h.elim) (fun q h => h.elim) (fun q _ h => h.elim) (fun En ce q9 _ t H locs ht hvm hw_4 hB hz hk hS hc1 hc2 hc3 => ?_) (fun _ t H locs ht hvm hw_4 hB hz hk hS => ?_)
      · have hT : TX E G B R H := hT.kept (fun q hq => hk q hq (fun h => h))
        subst hB
        exact vx_out (fun x hx => (hne x hx).elim) hlocks hc1 hc2 hc3 (fun t ht hA => ⟨(), trivial, ⟨(Or.inr (Or.inl ⟨c_1, c_3, rfl⟩)), by show TX E G B R t.heap; rw [ht]; exact hT⟩, hS.F ht⟩) hS.2.2 (Nat.le_of_ble_eq_true rfl) (Nat.le_of_ble_eq_true rfl)
      · exact absurd rfl hw_4
    · have c_3 := bI_n c_3
      refine lv_iconst (v := 1) hx hb dX9_receive_15 (by decide) ?_
      refine lv_goto (tgt := 20) hx hb dX9_receive_16 (by decide) ?_
      refine vx_callv (rxS (fun _ => True) (As := [.int 1]) (rest := []) ⟨hx, hb, hml, hown, hts⟩ (c_X9_require l hst E z0 1) (cwS 1 hts (gdS ml_X9_53 st_X9_require in_X9 co_X9_require rfl) rfl rfl rfl (by decide +kernel) ⟨Nat.le_of_ble_eq_true rfl, Nat.le_of_ble_eq_true rfl⟩) trivial (fun U hU hW => hK.go hW hS hAz hU) rfl rfl hl.1 rfl (lv_room (Nat.le_of_ble_eq_true rfl)) dX9_receive_20 ⟨Nat.le_of_ble_eq_true rfl, Nat.le_of_ble_eq_true rfl⟩) hS (fun q _ h => h.elim) (fun q h => h.elim) (fun q _ h => h.elim) (fun En ce q9 _ t H locs ht hvm hw_5 hB hz hk hS hc1 hc2 hc3 => ?_) (fun _ t H locs ht hvm hw_5 hB hz hk hS => ?_)
      · exact absurd hw_5 (by decide)
      · have hT : TX E G B R H := hT.kept (fun q hq => hk q hq (fun h => h))
        refine lv_aload_n hx hb dX9_receive_23 rfl (lv_at hl 0 rfl) ?_
        have ha_6 := tx_1 hT hG
        have hg_7 : G (R h0 1) = 3 := (tw_1 hW hG).2.1
        refine va_get (D := DG E) (ci := 9) (v := .ref (R h0 1)) (C := RX9) (T := TX9) (N := 3) hx hb hts iw_X9 hown hK.1 (va_one ha_6) 0 rfl rfl 1 (by decide) (hts _ fl_X9_29) (fun _ h9 => h9) rfl dX9_receive_24 ?_
        refine lv_iload_n hx hb dX9_receive_27 rfl (lv_at hl 1 rfl) ?_
        have ha_8 := tx_3 hT hg_7
        have hi_9 : vp_in p0 4 := vp_in_iff.mpr (by omega)
        obtain ⟨n_10, hn_10, en_10⟩ := x_nat (x := p0) (by omega)
        have hg_11 : G (R (R h0 1) n_10) = 8 := (tw_3 hW hg_7) n_10 (by omega)
        refine va_aldq (D := DG E) hx hb hK.1 (va_one ha_8) 0 5 rfl rfl hi_9 dX9_receive_28 ?_
        refine W.eq (g2 := F0 m 29 ls [.ref (R (R h0 1) n_10)]) (by rw [en_10]; rfl) ?_
        have ha_12 := tx_8 hT hg_11
        refine va_calli (rnV (fun H => TX E G B R H) (As := []) (rest := []) ⟨hx, hb, hml, hown, hts⟩ (x_X3_takesReceives l E z0 G hGz B R hW (R (R h0 1) n_10) hg_11) (cwV 0 hts (gdV ml_X9_113 im_X3_takesReceives se_X3_X3_takesReceives in_X3 co_X3_takesReceives rfl) rfl rfl rfl (by decide +kernel) ⟨Nat.le_of_ble_eq_true rfl, Nat.le_of_ble_eq_true rfl⟩) hT (fun U hU hW => hK.go hW hS hAz hU) (va_recv hK.1 (va_one ha_12) (ci := 3) (q0 := 0) rfl rfl) rfl rfl hl.1 rfl (lv_room (Nat.le_of_ble_eq_true rfl)) dX9_receive_29 ⟨Nat.le_of_ble_eq_true rfl, Nat.le_of_ble_eq_true rfl⟩) hS (fun q _ h => h.elim) (fun q h => h.elim) (fun r_13 _ t H locs ht hvm hwr_13 hB hz hk hS => ?_)
        have hT : TX E G B R H := hT.kept (fun q hq => hk q hq (fun h => h))
        have hbr_13 : r_13 = 0 ∨ r_13 = 1 := hwr_13.1
        have hp0r_13 : r_13.toInt = 0 ∨ (B (R (R (R (R h0 1) n_10) 1) 3) 4).toInt ≤ 3 := hwr_13.2.1
        have hCr_13 : C_X3_takesReceives G B R (R (R h0 1) n_10) r_13 := hwr_13.2.2
        have hzr_13 := s_rng hbr_13
        refine vx_callv (rxS (fun _ => True) (As := [.int r_13]) (rest := []) ⟨hx, hb, hml, hown, hts⟩ (c_X9_requireState l hst E z0 r_13) (cwS 1 hts (gdS ml_X9_88 st_X9_requireState in_X9 co_X9_requireState rfl) rfl rfl rfl (by decide +kernel) ⟨Nat.le_of_ble_eq_true rfl, Nat.le_of_ble_eq_true rfl⟩) trivial (fun U hU hW => hK.go hW hS hAz hU) rfl rfl hl.1 rfl (lv_room (Nat.le_of_ble_eq_true rfl)) dX9_receive_32 ⟨Nat.le_of_ble_eq_true rfl, Nat.le_of_ble_eq_true rfl⟩) hS (fun q _ h => h.elim) (fun q h => h.elim) (fun q _ h => h.elim) (fun En ce q9 _ t H locs ht hvm hw_14 hB hz hk hS hc1 hc2 hc3 => ?_) (fun _ t H locs ht hvm hw_14 hB hz hk hS => ?_)
        · have hT : TX E G B R H := hT.kept (fun q hq => hk q hq (fun h => h))
          simp only [lt_I, le_I, eq_I, i_0, i_1, i_2, i_3, i_4, i_5, i_6, i_7, i_8, i_10, i_12, i_16, i_20, i_23, i_24, i_31, i_32, i_63, i_64, i_m1] at hw_14
          subst hB
          exact vx_out (fun x hx => (hne x hx).elim) hlocks hc1 hc2 hc3 (fun t ht hA => ⟨(), trivial, ⟨(Or.inr (Or.inr ⟨c_1, c_3, n_10, hn_10, r_13, hCr_13, hw_14, rfl⟩)), by show TX E G B R t.heap; rw [ht]; exact hT⟩, hS.F ht⟩) hS.2.2 (Nat.le_of_ble_eq_true rfl) (Nat.le_of_ble_eq_true rfl)
        · have hT : TX E G B R H := hT.kept (fun q hq => hk q hq (fun h => h))
          simp only [lt_I, le_I, eq_I, i_0, i_1, i_2, i_3, i_4, i_5, i_6, i_7, i_8, i_10, i_12, i_16, i_20, i_23, i_24, i_31, i_32, i_63, i_64, i_m1] at hw_14
          refine lv_aload_n hx hb dX9_receive_35 rfl (lv_at hl 0 rfl) ?_
          have ha_15 := tx_1 hT hG
          refine va_get (D := DG E) (ci := 9) (v := .ref (R h0 1)) (C := RX9) (T := TX9) (N := 3) hx hb hts iw_X9 hown hK.1 (va_one ha_15) 0 rfl rfl 1 (by decide) (hts _ fl_X9_29) (fun _ h9 => h9) rfl dX9_receive_36 ?_
          refine lv_iload_n hx hb dX9_receive_39 rfl (lv_at hl 1 rfl) ?_
          have ha_16 := tx_3 hT hg_7
          refine va_aldq (D := DG E) hx hb hK.1 (va_one ha_16) 0 5 rfl rfl hi_9 dX9_receive_40 ?_
          refine W.eq (g2 := F0 m 41 ls [.ref (R (R h0 1) n_10)]) (by rw [en_10]; rfl) ?_
          have ha_17 := tx_8 hT hg_11
          have hg_18 : G (R (R (R h0 1) n_10) 1) = 10 := (tw_8 hW hg_11).2
          refine va_get (D := DG E) (ci := 3) (v := .ref (R (R (R h0 1) n_10) 1)) (C := RX3) (T := TX3) (N := 3) hx hb hts iw_X3 hown hK.1 (va_one ha_17) 0 rfl rfl 1 (by decide) (hts _ fl_X9_116) (fun _ h9 => h9) rfl dX9_receive_41 ?_
          have ha_19 := tx_10 hT hg_18
          have hg_20 : G (R (R (R (R h0 1) n_10) 1) 3) = 11 := (tw_10 hW hg_18).2.2.2.1
          refine va_get (D := DG E) (ci := 8) (v := .ref (R (R (R (R h0 1) n_10) 1) 3)) (C := RX8) (T := TX8) (N := 9) hx hb hts iw_X8 hown hK.1 (va_one ha_19) 0 rfl rfl 3 (by decide) (hts _ fl_X9_120) (fun _ h9 => h9) rfl dX9_receive_44 ?_
          refine lv_iconst (v := 4) hx hb dX9_receive_47 (by decide) ?_
          refine lv_iload_n hx hb dX9_receive_48 rfl (lv_at hl 2 rfl) ?_
          refine lv_iload_n hx hb dX9_receive_49 rfl (lv_at hl 3 rfl) ?_
          have hb_21 := (tw_11 hW_0 hg_20).2.2.2
          have ha_22 := tx_11 hT hg_20
          refine va_callr (rnV (fun H => TX E G B R H) (As := [.int 4, .int p1, .int p2]) (rest := []) ⟨hx, hb, hml, hown, hts⟩ (x_X5_append l E z0 G hGz B R hW (R (R (R (R h0 1) n_10) 1) 3) (4 : Int32) p1 p2 hg_20 (show 0 ≤ p2.toInt ∧ p2.toInt ≤ 12 from by have := i_4; first | decide | omega) (show (B (R (R (R (R h0 1) n_10) 1) 3) 4).toInt ≤ 3 from by have := i_4; first | decide | omega)) (cwV 3 hts (gdV ml_X9_124 im_X5_append se_X5_X5_append in_X5 co_X5_append rfl) rfl rfl rfl (by decide +kernel) ⟨Nat.le_of_ble_eq_true rfl, Nat.le_of_ble_eq_true rfl⟩) hT (fun U hU hW => hK.go hW hS hAz hU) (va_recv hK.1 (va_one ha_22) (ci := 5) (q0 := 0) rfl rfl) rfl rfl hl.1 rfl (lv_room (Nat.le_of_ble_eq_true rfl)) dX9_receive_50 ⟨Nat.le_of_ble_eq_true rfl, Nat.le_of_ble_eq_true rfl⟩) hS (fun q _ h => mL (L' := [11, 13]) (L := [11, 13]) (by decide) h) (fun q h => mL (L' := [11, 13]) (L := [11, 13]) (by decide) h) (fun U_24 r_23 t H locs ht hvm hwr_23 hB hz hk hS => ?_)
          have hRr_23 := hB.1
          have hB := hB.2
          have hT : TX E G U_24 R H := by rw [ht] at hB; exact hB
          have hgr_23 : G r_23 = 13 := hRr_23.1
          have hWr_23 : TW G U_24 R := hRr_23.2.1
          have hW := hWr_23
          have hFr_23 : Fr G [11, 13] B U_24 := hRr_23.2.2.1
          have hCr_23 : C_X5_append G B R (R (R (R (R h0 1) n_10) 1) 3) (4 : Int32) p1 p2 U_24 r_23 := hRr_23.2.2.2
          have ha_25 := tx_13 hT hgr_23
          refine va_get (D := DG E) (ci := 4) (v := .int (U_24 r_23 1)) (C := RX4) (T := TX4) (N := 10) hx hb hts iw_X4 hown hK.1 (va_one ha_25) 0 rfl rfl 1 (by decide) (hts _ fl_X9_130) (fun _ h9 => h9) rfl dX9_receive_53 ?_
          refine vx_ret ?_
          refine W.widen (k := 2) (n := 12) (Nat.le_of_ble_eq_true rfl) (Nat.le_of_ble_eq_true rfl) ?_
          exact W.iret (v := (U_24 r_23 1)) hx hb hr (fun t ht hW9 => ⟨⟨(U_24 r_23 1), U_24, rfl, ⟨hW, (Fr.c Fr.rf hFr_23 (by decide)), ⟨c_1, c_3, n_10, hn_10, r_13, hCr_13, hw_14, r_23, U_24, hFr_23, hCr_23, rfl, rfl⟩⟩, (by show TX E G U_24 R t.heap; rw [ht]; exact hT)⟩, hS.F ht⟩) hS.2.2 dX9_receive_56
theorem dX9_push_0 : decode cX9_push 0 = .ok (.iload_n 1, 1) := by decide +kernel
theorem dX9_push_1 : decode cX9_push 1 = .ok (.invokestatic 78, 3) := by decide +kernel
theorem dX9_push_4 : decode cX9_push 4 = .ok (.ifCond .eq 31, 3) := by decide +kernel
theorem dX9_push_7 : decode cX9_push 7 = .ok (.aload_n 0, 1) := by decide +kernel
theorem dX9_push_8 : decode cX9_push 8 = .ok (.getfield 29, 3) := by decide +kernel
theorem dX9_push_11 : decode cX9_push 11 = .ok (.iload_n 1, 1) := by decide +kernel
theorem dX9_push_12 : decode cX9_push 12 = .ok (.aaload, 1) := by decide +kernel
theorem dX9_push_13 : decode cX9_push 13 = .ok (.getfield 84, 3) := by decide +kernel
theorem dX9_push_16 : decode cX9_push 16 = .ok (.iconst 1, 1) := by decide +kernel
theorem dX9_push_17 : decode cX9_push 17 = .ok (.if_icmp .ne 18, 3) := by decide +kernel
theorem dX9_push_20 : decode cX9_push 20 = .ok (.aload_n 0, 1) := by decide +kernel
theorem dX9_push_21 : decode cX9_push 21 = .ok (.getfield 29, 3) := by decide +kernel
theorem dX9_push_24 : decode cX9_push 24 = .ok (.iload_n 1, 1) := by decide +kernel
theorem dX9_push_25 : decode cX9_push 25 = .ok (.aaload, 1) := by decide +kernel
theorem dX9_push_26 : decode cX9_push 26 = .ok (.getfield 105, 3) := by decide +kernel
theorem dX9_push_29 : decode cX9_push 29 = .ok (.invokevirtual 135, 3) := by decide +kernel
theorem dX9_push_32 : decode cX9_push 32 = .ok (.goto 4, 3) := by decide +kernel
theorem dX9_push_35 : decode cX9_push 35 = .ok (.iconst (-1), 1) := by decide +kernel
theorem dX9_push_36 : decode cX9_push 36 = .ok (.ireturn, 1) := by decide +kernel
set_option maxHeartbeats 8000000 in
set_option maxRecDepth 100000 in
theorem x_X9_push (l : Launch) (E : EE) (z0 : Nat) (G : Nat → Nat) (hGz : ∀ q, G q ≠ 0 → z0 ≤ q) (B : AA) (R : RR) (hW : TW G B R) (h0 : Nat) (p0 : Int32) (hG : G h0 = 1) : Met l yX9_push [Cond.code yX9_push cX9_push 2 (some .int)] ({ frames := 5, cells := 0, slots := 0, locals := 114 } : Room) (va_Pc [.ref h0, .int p0] (fun U => TX E G B R U.heap ∧ KS E z0 U)) (va_Qi (fun (r : Int32) (u : AA) => (TW G u R) ∧ (Fr G ([9, 4, 31, 32] : List Nat) B u) ∧ (C_X9_push G B R h0 p0 u r)) (fun u t => TX E G u R t.heap) (fun q : Nat => G q ∈ ([9, 4, 31, 32] : List Nat))) 0 0 (fun q : Nat => G q ∈ ([9, 4, 31, 32] : List Nat)) := by
  refine Met.ofW (cc := cX9_push) (maxL := 2) (ret := (some .int)) (by decide) rfl ?_
  intro p e s m args below meth c s₁ B9 hml hv
  obtain ⟨rfl, hT, hK⟩ := hv
  have hx := B9.exec
  have hb := B9.bytes
  have hr := B9.returns
  have hts : ∀ w ∈ TS, w.before ([.ref h0, .int p0] : List Value).toArray s = true := fun w hw => hK.2.1 w hw _
  have hown : s.vm.findClass RX9 = some m.cls := findClass_of_methodNamed B9.named
  have hlocks := B9.notSynchronized
  have hS : va_S (fun q : Nat => G q ∈ ([9, 4, 31, 32] : List Nat)) s.heap s.heap [] := va_S.rf
  have hAz : ∀ q, (fun q : Nat => G q ∈ ([9, 4, 31, 32] : List Nat)) q → z0 ≤ q := zL hGz (by decide)
  have hW_0 := hW
  have hl := lv_entry ([.ref h0, .int p0]) (n := 2) (Nat.le_of_ble_eq_true rfl)
  rw [lg_entry_eq]
  generalize (lg_sl ([.ref h0, .int p0]) ++ List.replicate (2 - (lg_sl ([.ref h0, .int p0])).length) Slot.unset).toArray = ls at hl ⊢
  have hl : lv_has ls 2 [(0, .ref h0), (1, .int p0)] := hl
  refine lv_iload_n hx hb dX9_push_0 rfl (lv_at hl 1 rfl) ?_
  refine W.callR (W.runS (As := [.int p0]) (rest := []) ⟨hx, hb, hml, hown, hts⟩ (c_X9_isPair l p0) (cwS 1 hts (gdS ml_X9_78 st_X9_isPair in_X9 co_X9_isPair rfl) rfl rfl rfl (by decide +kernel) ⟨Nat.le_of_ble_eq_true rfl, Nat.le_of_ble_eq_true rfl⟩) preEq rfl rfl hl.1 rfl (lv_room (Nat.le_of_ble_eq_true rfl)) dX9_push_1 ⟨Nat.le_of_ble_eq_true rfl, Nat.le_of_ble_eq_true rfl⟩) ?_
  refine W.eq (g2 := F0 m 4 ls [.int (bI (0 ≤ p0.toInt ∧ p0.toInt < 4))]) (by rfl) ?_
  refine lv_if_eq (tgt := 35) hx hb dX9_push_4 (by decide) (fun c_1 => ?_) (fun c_1 => ?_)
  · have c_1 := bI_0 c_1
    refine lv_iconst (v := (-1)) hx hb dX9_push_35 (by decide) ?_
    exact W.iret (v := (-1)) hx hb hr (fun t ht hW9 => ⟨⟨(-1), B, rfl, ⟨hW, Fr.rf, (Or.inl ⟨c_1, rfl, rfl⟩)⟩, (by show TX E G B R t.heap; rw [ht]; exact hT)⟩, hS.F ht⟩) hS.2.2 dX9_push_36
  · have c_1 := bI_n c_1
    refine lv_aload_n hx hb dX9_push_7 rfl (lv_at hl 0 rfl) ?_
    have ha_2 := tx_1 hT hG
    have hg_3 : G (R h0 1) = 3 := (tw_1 hW hG).2.1
    refine va_get (D := DG E) (ci := 9) (v := .ref (R h0 1)) (C := RX9) (T := TX9) (N := 3) hx hb hts iw_X9 hown hK.1 (va_one ha_2) 0 rfl rfl 1 (by decide) (hts _ fl_X9_29) (fun _ h9 => h9) rfl dX9_push_8 ?_
    refine lv_iload_n hx hb dX9_push_11 rfl (lv_at hl 1 rfl) ?_
    have ha_4 := tx_3 hT hg_3
    have hi_5 : vp_in p0 4 := vp_in_iff.mpr (by omega)
    obtain ⟨n_6, hn_6, en_6⟩ := x_nat (x := p0) (by omega)
    have hg_7 : G (R (R h0 1) n_6) = 8 := (tw_3 hW hg_3) n_6 (by omega)
    refine va_aldq (D := DG E) hx hb hK.1 (va_one ha_4) 0 5 rfl rfl hi_5 dX9_push_12 ?_
    refine W.eq (g2 := F0 m 13 ls [.ref (R (R h0 1) n_6)]) (by rw [en_6]; rfl) ?_
    have ha_8 := tx_8 hT hg_7
    refine va_get (D := DG E) (ci := 3) (v := .int (B (R (R h0 1) n_6) 2)) (C := RX3) (T := TX3) (N := 3) hx hb hts iw_X3 hown hK.1 (va_one ha_8) 0 rfl rfl 2 (by decide) (hts _ fl_X9_84) (fun _ h9 => h9) rfl dX9_push_13 ?_
    refine lv_iconst (v := 1) hx hb dX9_push_16 (by decide) ?_
    refine lv_icmp_ne (tgt := 35) hx hb dX9_push_17 (by decide) (fun c_9 => ?_) (fun c_9 => ?_)
    · simp only [lt_I, le_I, eq_I, i_0, i_1, i_2, i_3, i_4, i_5, i_6, i_7, i_8, i_10, i_12, i_16, i_20, i_23, i_24, i_31, i_32, i_63, i_64, i_m1] at c_9
      refine lv_iconst (v := (-1)) hx hb dX9_push_35 (by decide) ?_
      exact W.iret (v := (-1)) hx hb hr (fun t ht hW9 => ⟨⟨(-1), B, rfl, ⟨hW, Fr.rf, (Or.inr (Or.inl ⟨c_1, n_6, hn_6, c_9, rfl, rfl⟩))⟩, (by show TX E G B R t.heap; rw [ht]; exact hT)⟩, hS.F ht⟩) hS.2.2 dX9_push_36
    · simp only [lt_I, le_I, eq_I, i_0, i_1, i_2, i_3, i_4, i_5, i_6, i_7, i_8, i_10, i_12, i_16, i_20, i_23, i_24, i_31, i_32, i_63, i_64, i_m1] at c_9
      refine lv_aload_n hx hb dX9_push_20 rfl (lv_at hl 0 rfl) ?_
      refine va_get (D := DG E) (ci := 9) (v := .ref (R h0 1)) (C := RX9) (T := TX9) (N := 3) hx hb hts iw_X9 hown hK.1 (va_one ha_2) 0 rfl rfl 1 (by decide) (hts _ fl_X9_29) (fun _ h9 => h9) rfl dX9_push_21 ?_
      refine lv_iload_n hx hb dX9_push_24 rfl (lv_at hl 1 rfl) ?_
      refine va_aldq (D := DG E) hx hb hK.1 (va_one ha_4) 0 5 rfl rfl hi_5 dX9_push_25 ?_
      refine W.eq (g2 := F0 m 26 ls [.ref (R (R h0 1) n_6)]) (by rw [en_6]; rfl) ?_
      have hg_10 : G (R (R (R h0 1) n_6) 0) = 9 := (tw_8 hW hg_7).1
      refine va_get (D := DG E) (ci := 3) (v := .ref (R (R (R h0 1) n_6) 0)) (C := RX3) (T := TX3) (N := 3) hx hb hts iw_X3 hown hK.1 (va_one ha_8) 0 rfl rfl 0 (by decide) (hts _ fl_X9_105) (fun _ h9 => h9) rfl dX9_push_26 ?_
      have ha_11 := tx_9 hT hg_10
      refine va_calli (rnV (fun H => TX E G B R H) (As := []) (rest := []) ⟨hx, hb, hml, hown, hts⟩ (x_X7_sendNext l E z0 G hGz B R hW (R (R (R h0 1) n_6) 0) hg_10) (cwV 0 hts (gdV ml_X9_135 im_X7_sendNext se_X7_X7_sendNext in_X7 co_X7_sendNext rfl) rfl rfl rfl (by decide +kernel) ⟨Nat.le_of_ble_eq_true rfl, Nat.le_of_ble_eq_true rfl⟩) hT (fun U hU hW => hK.go hW hS hAz hU) (va_recv hK.1 (va_one ha_11) (ci := 7) (q0 := 0) rfl rfl) rfl rfl hl.1 rfl (lv_room (Nat.le_of_ble_eq_true rfl)) dX9_push_29 ⟨Nat.le_of_ble_eq_true rfl, Nat.le_of_ble_eq_true rfl⟩) hS (fun q _ h => mL (L' := [9, 4, 31, 32]) (L := [9, 4, 31, 32]) (by decide) h) (fun q h => mL (L' := [9, 4, 31, 32]) (L := [9, 4, 31, 32]) (by decide) h) (fun r_12 U_13 t H locs ht hvm hwr_12 hB hz hk hS => ?_)
      have hT : TX E G U_13 R H := by rw [ht] at hB; exact hB
      have hWr_12 : TW G U_13 R := hwr_12.1
      have hW := hWr_12
      have hFr_12 : Fr G [9, 4, 31, 32] B U_13 := hwr_12.2.1
      have hCr_12 : C_X7_sendNext G B R (R (R (R h0 1) n_6) 0) U_13 r_12 := hwr_12.2.2
      refine lv_goto (tgt := 36) hx hb dX9_push_32 (by decide) ?_
      exact W.iret (v := r_12) hx hb hr (fun t ht hW9 => ⟨⟨r_12, U_13, rfl, ⟨hW, (Fr.c Fr.rf hFr_12 (by decide)), (Or.inr (Or.inr ⟨c_1, n_6, hn_6, c_9, r_12, U_13, hFr_12, hCr_12, rfl, rfl⟩))⟩, (by show TX E G U_13 R t.heap; rw [ht]; exact hT)⟩, hS.F ht⟩) hS.2.2 dX9_push_36
theorem dX9_deliver_0 : decode cX9_deliver 0 = .ok (.aload_n 0, 1) := by decide +kernel
theorem dX9_deliver_1 : decode cX9_deliver 1 = .ok (.getfield 16, 3) := by decide +kernel
theorem dX9_deliver_4 : decode cX9_deliver 4 = .ok (.iload_n 1, 1) := by decide +kernel
theorem dX9_deliver_5 : decode cX9_deliver 5 = .ok (.invokevirtual 139, 3) := by decide +kernel
theorem dX9_deliver_8 : decode cX9_deliver 8 = .ok (.ifCond .ne 5, 3) := by decide +kernel
theorem dX9_deliver_11 : decode cX9_deliver 11 = .ok (.iconst 0, 1) := by decide +kernel
theorem dX9_deliver_12 : decode cX9_deliver 12 = .ok (.ireturn, 1) := by decide +kernel
theorem dX9_deliver_13 : decode cX9_deliver 13 = .ok (.aload_n 0, 1) := by decide +kernel
theorem dX9_deliver_14 : decode cX9_deliver 14 = .ok (.getfield 16, 3) := by decide +kernel
theorem dX9_deliver_17 : decode cX9_deliver 17 = .ok (.iload_n 1, 1) := by decide +kernel
theorem dX9_deliver_18 : decode cX9_deliver 18 = .ok (.invokevirtual 142, 3) := by decide +kernel
theorem dX9_deliver_21 : decode cX9_deliver 21 = .ok (.astore_n 2, 1) := by decide +kernel
theorem dX9_deliver_22 : decode cX9_deliver 22 = .ok (.aload_n 0, 1) := by decide +kernel
theorem dX9_deliver_23 : decode cX9_deliver 23 = .ok (.getfield 29, 3) := by decide +kernel
theorem dX9_deliver_26 : decode cX9_deliver 26 = .ok (.aload_n 2, 1) := by decide +kernel
theorem dX9_deliver_27 : decode cX9_deliver 27 = .ok (.getfield 146, 3) := by decide +kernel
theorem dX9_deliver_30 : decode cX9_deliver 30 = .ok (.aaload, 1) := by decide +kernel
theorem dX9_deliver_31 : decode cX9_deliver 31 = .ok (.aload_n 2, 1) := by decide +kernel
theorem dX9_deliver_32 : decode cX9_deliver 32 = .ok (.invokevirtual 151, 3) := by decide +kernel
theorem dX9_deliver_35 : decode cX9_deliver 35 = .ok (.iconst 1, 1) := by decide +kernel
theorem dX9_deliver_36 : decode cX9_deliver 36 = .ok (.ireturn, 1) := by decide +kernel
set_option maxHeartbeats 8000000 in
set_option maxRecDepth 100000 in
theorem x_X9_deliver (l : Launch) (E : EE) (z0 : Nat) (G : Nat → Nat) (hGz : ∀ q, G q ≠ 0 → z0 ≤ q) (B : AA) (R : RR) (hW : TW G B R) (h0 : Nat) (p0 : Int32) (hG : G h0 = 1) : Met l yX9_deliver [Cond.code yX9_deliver cX9_deliver 3 (some .boolean)] ({ frames := 7, cells := 0, slots := 0, locals := 154 } : Room) (va_Pc [.ref h0, .int p0] (fun U => TX E G B R U.heap ∧ KS E z0 U)) (va_Qi (fun (r : Int32) (u : AA × RR) => (TW G u.1 u.2) ∧ (Fr G ([8, 9, 10, 4, 31, 32, 14, 13, 5, 15, 11, 16, 17, 30] : List Nat) B u.1) ∧ (FrR G ([8, 9, 10, 4, 31, 32, 14, 13, 5, 15, 11, 16, 17, 30] : List Nat) R u.2) ∧ (r = 0 ∨ r = 1) ∧ (C_X9_deliver G B R h0 p0 u.1 u.2 r)) (fun u t => TX E G u.1 u.2 t.heap) (fun q : Nat => G q ∈ ([8, 9, 10, 4, 31, 32, 14, 13, 5, 15, 11, 16, 17, 30] : List Nat))) 0 0 (fun q : Nat => G q ∈ ([8, 9, 10, 4, 31, 32, 14, 13, 5, 15, 11, 16, 17, 30] : List Nat)) := by
  refine Met.ofW (cc := cX9_deliver) (maxL := 3) (ret := (some .boolean)) (by decide) rfl ?_
  intro p e s m args below meth c s₁ B9 hml hv
  obtain ⟨rfl, hT, hK⟩ := hv
  have hx := B9.exec
  have hb := B9.bytes
  have hr := B9.returns
  have hts : ∀ w ∈ TS, w.before ([.ref h0, .int p0] : List Value).toArray s = true := fun w hw => hK.2.1 w hw _
  have hown : s.vm.findClass RX9 = some m.cls := findClass_of_methodNamed B9.named
  have hlocks := B9.notSynchronized
  have hS : va_S (fun q : Nat => G q ∈ ([8, 9, 10, 4, 31, 32, 14, 13, 5, 15, 11, 16, 17, 30] : List Nat)) s.heap s.heap [] := va_S.rf
  have hAz : ∀ q, (fun q : Nat => G q ∈ ([8, 9, 10, 4, 31, 32, 14, 13, 5, 15, 11, 16, 17, 30] : List Nat)) q → z0 ≤ q := zL hGz (by decide)
  have hW_0 := hW
  have hl := lv_entry ([.ref h0, .int p0]) (n := 3) (Nat.le_of_ble_eq_true rfl)
  rw [lg_entry_eq]
  generalize (lg_sl ([.ref h0, .int p0]) ++ List.replicate (3 - (lg_sl ([.ref h0, .int p0])).length) Slot.unset).toArray = ls at hl ⊢
  have hl : lv_has ls 3 [(0, .ref h0), (1, .int p0)] := hl
  refine lv_aload_n hx hb dX9_deliver_0 rfl (lv_at hl 0 rfl) ?_
  have ha_1 := tx_1 hT hG
  have hg_2 : G (R h0 2) = 4 := (tw_1 hW hG).2.2
  refine va_get (D := DG E) (ci := 9) (v := .ref (R h0 2)) (C := RX9) (T := TX9) (N := 3) hx hb hts iw_X9 hown hK.1 (va_one ha_1) 0 rfl rfl 2 (by decide) (hts _ fl_X9_16) (fun _ h9 => h9) rfl dX9_deliver_1 ?_
  refine lv_iload_n hx hb dX9_deliver_4 rfl (lv_at hl 1 rfl) ?_
  have ha_3 := tx_4 hT hg_2
  refine va_calli (rnV (fun H => TX E G B R H) (As := [.int p0]) (rest := []) ⟨hx, hb, hml, hown, hts⟩ (x_X0_has l E z0 G hGz B R hW (R h0 2) p0 hg_2) (cwV 1 hts (gdV ml_X9_139 im_X0_has se_X0_X0_has in_X0 co_X0_has rfl) rfl rfl rfl (by decide +kernel) ⟨Nat.le_of_ble_eq_true rfl, Nat.le_of_ble_eq_true rfl⟩) hT (fun U hU hW => hK.go hW hS hAz hU) (va_recv hK.1 (va_one ha_3) (ci := 0) (q0 := 0) rfl rfl) rfl rfl hl.1 rfl (lv_room (Nat.le_of_ble_eq_true rfl)) dX9_deliver_5 ⟨Nat.le_of_ble_eq_true rfl, Nat.le_of_ble_eq_true rfl⟩) hS (fun q _ h => h.elim) (fun q h => h.elim) (fun r_4 _ t H locs ht hvm hwr_4 hB hz hk hS => ?_)
  have hT : TX E G B R H := hT.kept (fun q hq => hk q hq (fun h => h))
  have hbr_4 : r_4 = 0 ∨ r_4 = 1 := hwr_4.1
  have hp0r_4 : r_4.toInt = 0 ∨ (0 ≤ p0.toInt ∧ p0.toInt < (B (R h0 2) 1).toInt ∧ (B (R h0 2) 1).toInt ≤ 24) := hwr_4.2.1
  have hCr_4 : C_X0_has G B R (R h0 2) p0 r_4 := hwr_4.2.2
  have hzr_4 := s_rng hbr_4
  refine lv_if_ne (tgt := 13) hx hb dX9_deliver_8 (by decide) (fun c_5 => ?_) (fun c_5 => ?_)
  · simp only [lt_I, le_I, eq_I, i_0, i_1, i_2, i_3, i_4, i_5, i_6, i_7, i_8, i_10, i_12, i_16, i_20, i_23, i_24, i_31, i_32, i_63, i_64, i_m1] at c_5
    refine lv_aload_n hx hb dX9_deliver_13 rfl (lv_at hl 0 rfl) ?_
    have ha_6 := tx_1 hT hG
    refine va_get (D := DG E) (ci := 9) (v := .ref (R h0 2)) (C := RX9) (T := TX9) (N := 3) hx hb hts iw_X9 hown hK.1 (va_one ha_6) 0 rfl rfl 2 (by decide) (hts _ fl_X9_16) (fun _ h9 => h9) rfl dX9_deliver_14 ?_
    refine lv_iload_n hx hb dX9_deliver_17 rfl (lv_at hl 1 rfl) ?_
    have hb_7 := (tw_4 hW_0 hg_2).2.1
    have ha_8 := tx_4 hT hg_2
    refine va_callr (rnV (fun H => TX E G B R H) (As := [.int p0]) (rest := []) ⟨hx, hb, hml, hown, hts⟩ (x_X0_takeOut l E z0 G hGz B R hW (R h0 2) p0 hg_2 (show 0 ≤ p0.toInt ∧ p0.toInt ≤ 23 from by first | decide | omega) (show p0.toInt < (B (R h0 2) 1).toInt from by first | decide | omega)) (cwV 1 hts (gdV ml_X9_142 im_X0_takeOut se_X0_X0_takeOut in_X0 co_X0_takeOut rfl) rfl rfl rfl (by decide +kernel) ⟨Nat.le_of_ble_eq_true rfl, Nat.le_of_ble_eq_true rfl⟩) hT (fun U hU hW => hK.go hW hS hAz hU) (va_recv hK.1 (va_one ha_8) (ci := 0) (q0 := 0) rfl rfl) rfl rfl hl.1 rfl (lv_room (Nat.le_of_ble_eq_true rfl)) dX9_deliver_18 ⟨Nat.le_of_ble_eq_true rfl, Nat.le_of_ble_eq_true rfl⟩) hS (fun q _ h => mL (L' := [4, 30]) (L := [8, 9, 10, 4, 31, 32, 14, 13, 5, 15, 11, 16, 17, 30]) (by decide) h) (fun q h => mL (L' := [4, 30]) (L := [8, 9, 10, 4, 31, 32, 14, 13, 5, 15, 11, 16, 17, 30]) (by decide) h) (fun U_10 r_9 t H locs ht hvm hwr_9 hB hz hk hS => ?_)
    obtain ⟨B_11, R_12⟩ := U_10
    have hRr_9 := hB.1
    have hB := hB.2
    have hT : TX E G B_11 R_12 H := by rw [ht] at hB; exact hB
    have hgr_9 : G r_9 = 31 := hRr_9.1
    have hWr_9 : TW G B_11 R_12 := hRr_9.2.1
    have hW := hWr_9
    have hFr_9 : Fr G [4, 30] B B_11 := hRr_9.2.2.1
    have hQr_9 : FrR G [4, 30] R R_12 := hRr_9.2.2.2.1
    have hCr_9 : C_X0_takeOut G B R (R h0 2) p0 B_11 R_12 r_9 := hRr_9.2.2.2.2
    refine lv_astore_n (lv' := [(2, .ref r_9), (0, .ref h0), (1, .int p0)]) hx hb dX9_deliver_21 rfl hl (by decide) rfl (fun ls hl => ?_)
    refine lv_aload_n hx hb dX9_deliver_22 rfl (lv_at hl 1 rfl) ?_
    have ha_13 := tx_1 hT hG
    have hg_14 : G (R_12 h0 1) = 3 := (tw_1 hW hG).2.1
    refine va_get (D := DG E) (ci := 9) (v := .ref (R_12 h0 1)) (C := RX9) (T := TX9) (N := 3) hx hb hts iw_X9 hown hK.1 (va_one ha_13) 0 rfl rfl 1 (by decide) (hts _ fl_X9_29) (fun _ h9 => h9) rfl dX9_deliver_23 ?_
    refine lv_aload_n hx hb dX9_deliver_26 rfl (lv_at hl 0 rfl) ?_
    have ha_15 := tx_31 hT hgr_9
    have l_16 : B_11 r_9 0 = (B r_9 0) := (congrFun (hFr_9 r_9 (by rw [hgr_9]; decide)) 0)
    have hb_17 := (tw_31 hW_0 hgr_9).1
    refine va_get (D := DG E) (ci := 2) (v := .int (B_11 r_9 0)) (C := RX2) (T := TX2) (N := 8) hx hb hts iw_X2 hown hK.1 (va_one ha_15) 0 rfl rfl 0 (by decide) (hts _ fl_X9_146) (fun _ h9 => h9) rfl dX9_deliver_27 ?_
    refine W.eq (g2 := F0 m 30 ls [.int (B r_9 0), .ref (R_12 h0 1)]) (by rw [l_16]) ?_
    have ha_18 := tx_3 hT hg_14
    have hi_19 : vp_in (B r_9 0) 4 := vp_in_iff.mpr (by omega)
    obtain ⟨n_20, hn_20, en_20⟩ := x_nat (x := (B r_9 0)) (by omega)
    have hg_21 : G (R_12 (R_12 h0 1) n_20) = 8 := (tw_3 hW hg_14) n_20 (by omega)
    refine va_aldq (D := DG E) hx hb hK.1 (va_one ha_18) 0 5 rfl rfl hi_19 dX9_deliver_30 ?_
    refine W.eq (g2 := F0 m 31 ls [.ref (R_12 (R_12 h0 1) n_20)]) (by rw [en_20]; rfl) ?_
    refine lv_aload_n hx hb dX9_deliver_31 rfl (lv_at hl 0 rfl) ?_
    have ha_22 := tx_8 hT hg_21
    refine va_callv (rnV (fun H => TX E G B_11 R_12 H) (As := [.ref r_9]) (rest := []) ⟨hx, hb, hml, hown, hts⟩ (x_X3_takeIn l E z0 G hGz B_11 R_12 hW (R_12 (R_12 h0 1) n_20) r_9 hg_21 hgr_9) (cwV 1 hts (gdV ml_X9_151 im_X3_takeIn se_X3_X3_takeIn in_X3 co_X3_takeIn rfl) rfl rfl rfl (by decide +kernel) ⟨Nat.le_of_ble_eq_true rfl, Nat.le_of_ble_eq_true rfl⟩) hT (fun U hU hW => hK.go hW hS hAz hU) (va_recv hK.1 (va_one ha_22) (ci := 3) (q0 := 0) rfl rfl) rfl rfl hl.1 rfl (lv_room (Nat.le_of_ble_eq_true rfl)) dX9_deliver_32 ⟨Nat.le_of_ble_eq_true rfl, Nat.le_of_ble_eq_true rfl⟩) hS (fun q _ h => mL (L' := [8, 9, 10, 4, 31, 32, 14, 13, 5, 15, 11, 16, 17]) (L := [8, 9, 10, 4, 31, 32, 14, 13, 5, 15, 11, 16, 17, 30]) (by decide) h) (fun q h => mL (L' := [8, 9, 10, 4, 31, 32, 14, 13, 5, 15, 11, 16, 17]) (L := [8, 9, 10, 4, 31, 32, 14, 13, 5, 15, 11, 16, 17, 30]) (by decide) h) (fun U_24 t H locs ht hvm hwr_23 hB hz hk hS => ?_)
    have hT : TX E G U_24 R_12 H := by rw [ht] at hB; exact hB
    have hWr_23 : TW G U_24 R_12 := hwr_23.1
    have hW := hWr_23
    have hFr_23 : Fr G [8, 9, 10, 4, 31, 32, 14, 13, 5, 15, 11, 16, 17] B_11 U_24 := hwr_23.2.1
    have hCr_23 : C_X3_takeIn G B_11 R_12 (R_12 (R_12 h0 1) n_20) r_9 U_24 := hwr_23.2.2
    refine lv_iconst (v := 1) hx hb dX9_deliver_35 (by decide) ?_
    exact W.zret (v := 1) (ty := .boolean) hx hb hr rfl (fun t ht hW9 => ⟨⟨1, (U_24, R_12), rfl, ⟨hW, (Fr.c (Fr.c Fr.rf hFr_9 (by decide)) hFr_23 (by decide)), (FrR.c FrR.rf hQr_9 (by decide)), (by decide), (Or.inl ⟨r_4, hCr_4, c_5, r_9, B_11, R_12, hFr_9, hQr_9, hCr_9, n_20, hn_20, U_24, hFr_23, hCr_23, rfl, rfl, rfl⟩)⟩, (by show TX E G U_24 R_12 t.heap; rw [ht]; exact hT)⟩, hS.F ht⟩) hS.2.2 dX9_deliver_36
  · simp only [lt_I, le_I, eq_I, i_0, i_1, i_2, i_3, i_4, i_5, i_6, i_7, i_8, i_10, i_12, i_16, i_20, i_23, i_24, i_31, i_32, i_63, i_64, i_m1] at c_5
    refine lv_iconst (v := 0) hx hb dX9_deliver_11 (by decide) ?_
    exact W.zret (v := 0) (ty := .boolean) hx hb hr rfl (fun t ht hW9 => ⟨⟨0, (B, R), rfl, ⟨hW, Fr.rf, FrR.rf, (by decide), (Or.inr ⟨r_4, hCr_4, c_5, rfl, rfl, rfl⟩)⟩, (by show TX E G B R t.heap; rw [ht]; exact hT)⟩, hS.F ht⟩) hS.2.2 dX9_deliver_12
theorem dX9_spoil_0 : decode cX9_spoil 0 = .ok (.aload_n 0, 1) := by decide +kernel
theorem dX9_spoil_1 : decode cX9_spoil 1 = .ok (.getfield 16, 3) := by decide +kernel
theorem dX9_spoil_4 : decode cX9_spoil 4 = .ok (.iload_n 1, 1) := by decide +kernel
theorem dX9_spoil_5 : decode cX9_spoil 5 = .ok (.invokevirtual 139, 3) := by decide +kernel
theorem dX9_spoil_8 : decode cX9_spoil 8 = .ok (.ifCond .eq 17, 3) := by decide +kernel
theorem dX9_spoil_11 : decode cX9_spoil 11 = .ok (.iload_n 2, 1) := by decide +kernel
theorem dX9_spoil_12 : decode cX9_spoil 12 = .ok (.ifCond .eq 15, 3) := by decide +kernel
theorem dX9_spoil_15 : decode cX9_spoil 15 = .ok (.aload_n 0, 1) := by decide +kernel
theorem dX9_spoil_16 : decode cX9_spoil 16 = .ok (.getfield 16, 3) := by decide +kernel
theorem dX9_spoil_19 : decode cX9_spoil 19 = .ok (.invokevirtual 155, 3) := by decide +kernel
theorem dX9_spoil_22 : decode cX9_spoil 22 = .ok (.ifCond .eq 5, 3) := by decide +kernel
theorem dX9_spoil_25 : decode cX9_spoil 25 = .ok (.iconst 0, 1) := by decide +kernel
theorem dX9_spoil_26 : decode cX9_spoil 26 = .ok (.ireturn, 1) := by decide +kernel
theorem dX9_spoil_27 : decode cX9_spoil 27 = .ok (.iload_n 2, 1) := by decide +kernel
theorem dX9_spoil_28 : decode cX9_spoil 28 = .ok (.ifCond .eq 14, 3) := by decide +kernel
theorem dX9_spoil_31 : decode cX9_spoil 31 = .ok (.aload_n 0, 1) := by decide +kernel
theorem dX9_spoil_32 : decode cX9_spoil 32 = .ok (.getfield 16, 3) := by decide +kernel
theorem dX9_spoil_35 : decode cX9_spoil 35 = .ok (.iload_n 1, 1) := by decide +kernel
theorem dX9_spoil_36 : decode cX9_spoil 36 = .ok (.invokevirtual 158, 3) := by decide +kernel
theorem dX9_spoil_39 : decode cX9_spoil 39 = .ok (.goto 12, 3) := by decide +kernel
theorem dX9_spoil_42 : decode cX9_spoil 42 = .ok (.aload_n 0, 1) := by decide +kernel
theorem dX9_spoil_43 : decode cX9_spoil 43 = .ok (.getfield 16, 3) := by decide +kernel
theorem dX9_spoil_46 : decode cX9_spoil 46 = .ok (.iload_n 1, 1) := by decide +kernel
theorem dX9_spoil_47 : decode cX9_spoil 47 = .ok (.invokevirtual 142, 3) := by decide +kernel
theorem dX9_spoil_50 : decode cX9_spoil 50 = .ok (.pop, 1) := by decide +kernel
theorem dX9_spoil_51 : decode cX9_spoil 51 = .ok (.iconst 1, 1) := by decide +kernel
theorem dX9_spoil_52 : decode cX9_spoil 52 = .ok (.ireturn, 1) := by decide +kernel
set_option maxHeartbeats 8000000 in
set_option maxRecDepth 100000 in
theorem x_X9_spoil (l : Launch) (E : EE) (z0 : Nat) (G : Nat → Nat) (hGz : ∀ q, G q ≠ 0 → z0 ≤ q) (B : AA) (R : RR) (hW : TW G B R) (h0 : Nat) (p0 : Int32) (p1 : Int32) (hG : G h0 = 1) : Met l yX9_spoil [Cond.code yX9_spoil cX9_spoil 3 (some .boolean)] ({ frames := 3, cells := 0, slots := 0, locals := 66 } : Room) (va_Pc [.ref h0, .int p0, .int p1] (fun U => TX E G B R U.heap ∧ KS E z0 U)) (va_Qi (fun (r : Int32) (u : AA × RR) => (TW G u.1 u.2) ∧ (Fr G ([4, 30, 31, 32] : List Nat) B u.1) ∧ (FrR G ([4, 30, 31, 32] : List Nat) R u.2) ∧ (r = 0 ∨ r = 1) ∧ (C_X9_spoil G B R h0 p0 p1 u.1 u.2 r)) (fun u t => TX E G u.1 u.2 t.heap) (fun q : Nat => G q ∈ ([4, 30, 31, 32] : List Nat))) 0 0 (fun q : Nat => G q ∈ ([4, 30, 31, 32] : List Nat)) := by
  refine Met.ofW (cc := cX9_spoil) (maxL := 3) (ret := (some .boolean)) (by decide) rfl ?_
  intro p e s m args below meth c s₁ B9 hml hv
  obtain ⟨rfl, hT, hK⟩ := hv
  have hx := B9.exec
  have hb := B9.bytes
  have hr := B9.returns
  have hts : ∀ w ∈ TS, w.before ([.ref h0, .int p0, .int p1] : List Value).toArray s = true := fun w hw => hK.2.1 w hw _
  have hown : s.vm.findClass RX9 = some m.cls := findClass_of_methodNamed B9.named
  have hlocks := B9.notSynchronized
  have hS : va_S (fun q : Nat => G q ∈ ([4, 30, 31, 32] : List Nat)) s.heap s.heap [] := va_S.rf
  have hAz : ∀ q, (fun q : Nat => G q ∈ ([4, 30, 31, 32] : List Nat)) q → z0 ≤ q := zL hGz (by decide)
  have hW_0 := hW
  have hl := lv_entry ([.ref h0, .int p0, .int p1]) (n := 3) (Nat.le_of_ble_eq_true rfl)
  rw [lg_entry_eq]
  generalize (lg_sl ([.ref h0, .int p0, .int p1]) ++ List.replicate (3 - (lg_sl ([.ref h0, .int p0, .int p1])).length) Slot.unset).toArray = ls at hl ⊢
  have hl : lv_has ls 3 [(0, .ref h0), (1, .int p0), (2, .int p1)] := hl
  refine lv_aload_n hx hb dX9_spoil_0 rfl (lv_at hl 0 rfl) ?_
  have ha_1 := tx_1 hT hG
  have hg_2 : G (R h0 2) = 4 := (tw_1 hW hG).2.2
  refine va_get (D := DG E) (ci := 9) (v := .ref (R h0 2)) (C := RX9) (T := TX9) (N := 3) hx hb hts iw_X9 hown hK.1 (va_one ha_1) 0 rfl rfl 2 (by decide) (hts _ fl_X9_16) (fun _ h9 => h9) rfl dX9_spoil_1 ?_
  refine lv_iload_n hx hb dX9_spoil_4 rfl (lv_at hl 1 rfl) ?_
  have ha_3 := tx_4 hT hg_2
  refine va_calli (rnV (fun H => TX E G B R H) (As := [.int p0]) (rest := []) ⟨hx, hb, hml, hown, hts⟩ (x_X0_has l E z0 G hGz B R hW (R h0 2) p0 hg_2) (cwV 1 hts (gdV ml_X9_139 im_X0_has se_X0_X0_has in_X0 co_X0_has rfl) rfl rfl rfl (by decide +kernel) ⟨Nat.le_of_ble_eq_true rfl, Nat.le_of_ble_eq_true rfl⟩) hT (fun U hU hW => hK.go hW hS hAz hU) (va_recv hK.1 (va_one ha_3) (ci := 0) (q0 := 0) rfl rfl) rfl rfl hl.1 rfl (lv_room (Nat.le_of_ble_eq_true rfl)) dX9_spoil_5 ⟨Nat.le_of_ble_eq_true rfl, Nat.le_of_ble_eq_true rfl⟩) hS (fun q _ h => h.elim) (fun q h => h.elim) (fun r_4 _ t H locs ht hvm hwr_4 hB hz hk hS => ?_)
  have hT : TX E G B R H := hT.kept (fun q hq => hk q hq (fun h => h))
  have hbr_4 : r_4 = 0 ∨ r_4 = 1 := hwr_4.1
  have hp0r_4 : r_4.toInt = 0 ∨ (0 ≤ p0.toInt ∧ p0.toInt < (B (R h0 2) 1).toInt ∧ (B (R h0 2) 1).toInt ≤ 24) := hwr_4.2.1
  have hCr_4 : C_X0_has G B R (R h0 2) p0 r_4 := hwr_4.2.2
  have hzr_4 := s_rng hbr_4
  refine lv_if_eq (tgt := 25) hx hb dX9_spoil_8 (by decide) (fun c_5 => ?_) (fun c_5 => ?_)
  · simp only [lt_I, le_I, eq_I, i_0, i_1, i_2, i_3, i_4, i_5, i_6, i_7, i_8, i_10, i_12, i_16, i_20, i_23, i_24, i_31, i_32, i_63, i_64, i_m1] at c_5
    refine lv_iconst (v := 0) hx hb dX9_spoil_25 (by decide) ?_
    exact W.zret (v := 0) (ty := .boolean) hx hb hr rfl (fun t ht hW9 => ⟨⟨0, (B, R), rfl, ⟨hW, Fr.rf, FrR.rf, (by decide), (Or.inl ⟨r_4, hCr_4, c_5, rfl, rfl, rfl⟩)⟩, (by show TX E G B R t.heap; rw [ht]; exact hT)⟩, hS.F ht⟩) hS.2.2 dX9_spoil_26
  · simp only [lt_I, le_I, eq_I, i_0, i_1, i_2, i_3, i_4, i_5, i_6, i_7, i_8, i_10, i_12, i_16, i_20, i_23, i_24, i_31, i_32, i_63, i_64, i_m1] at c_5
    refine lv_iload_n hx hb dX9_spoil_11 rfl (lv_at hl 2 rfl) ?_
    refine lv_if_eq (tgt := 27) hx hb dX9_spoil_12 (by decide) (fun c_6 => ?_) (fun c_6 => ?_)
    · simp only [lt_I, le_I, eq_I, i_0, i_1, i_2, i_3, i_4, i_5, i_6, i_7, i_8, i_10, i_12, i_16, i_20, i_23, i_24, i_31, i_32, i_63, i_64, i_m1] at c_6
      refine lv_iload_n hx hb dX9_spoil_27 rfl (lv_at hl 2 rfl) ?_
      refine lv_if_eq (tgt := 42) hx hb dX9_spoil_28 (by decide) (fun c_7 => ?_) (fun c_7 => ?_)
      · simp only [lt_I, le_I, eq_I, i_0, i_1, i_2, i_3, i_4, i_5, i_6, i_7, i_8, i_10, i_12, i_16, i_20, i_23, i_24, i_31, i_32, i_63, i_64, i_m1] at c_7
        refine lv_aload_n hx hb dX9_spoil_42 rfl (lv_at hl 0 rfl) ?_
        have ha_8 := tx_1 hT hG
        refine va_get (D := DG E) (ci := 9) (v := .ref (R h0 2)) (C := RX9) (T := TX9) (N := 3) hx hb hts iw_X9 hown hK.1 (va_one ha_8) 0 rfl rfl 2 (by decide) (hts _ fl_X9_16) (fun _ h9 => h9) rfl dX9_spoil_43 ?_
        refine lv_iload_n hx hb dX9_spoil_46 rfl (lv_at hl 1 rfl) ?_
        have hb_9 := (tw_4 hW_0 hg_2).2.1
        have ha_10 := tx_4 hT hg_2
        refine va_callr (rnV (fun H => TX E G B R H) (As := [.int p0]) (rest := []) ⟨hx, hb, hml, hown, hts⟩ (x_X0_takeOut l E z0 G hGz B R hW (R h0 2) p0 hg_2 (show 0 ≤ p0.toInt ∧ p0.toInt ≤ 23 from by first | decide | omega) (show p0.toInt < (B (R h0 2) 1).toInt from by first | decide | omega)) (cwV 1 hts (gdV ml_X9_142 im_X0_takeOut se_X0_X0_takeOut in_X0 co_X0_takeOut rfl) rfl rfl rfl (by decide +kernel) ⟨Nat.le_of_ble_eq_true rfl, Nat.le_of_ble_eq_true rfl⟩) hT (fun U hU hW => hK.go hW hS hAz hU) (va_recv hK.1 (va_one ha_10) (ci := 0) (q0 := 0) rfl rfl) rfl rfl hl.1 rfl (lv_room (Nat.le_of_ble_eq_true rfl)) dX9_spoil_47 ⟨Nat.le_of_ble_eq_true rfl, Nat.le_of_ble_eq_true rfl⟩) hS (fun q _ h => mL (L' := [4, 30]) (L := [4, 30, 31, 32]) (by decide) h) (fun q h => mL (L' := [4, 30]) (L := [4, 30, 31, 32]) (by decide) h) (fun U_12 r_11 t H locs ht hvm hwr_11 hB hz hk hS => ?_)
        obtain ⟨B_13, R_14⟩ := U_12
        have hRr_11 := hB.1
        have hB := hB.2
        have hT : TX E G B_13 R_14 H := by rw [ht] at hB; exact hB
        have hgr_11 : G r_11 = 31 := hRr_11.1
        have hWr_11 : TW G B_13 R_14 := hRr_11.2.1
        have hW := hWr_11
        have hFr_11 : Fr G [4, 30] B B_13 := hRr_11.2.2.1
        have hQr_11 : FrR G [4, 30] R R_14 := hRr_11.2.2.2.1
        have hCr_11 : C_X0_takeOut G B R (R h0 2) p0 B_13 R_14 r_11 := hRr_11.2.2.2.2
        refine lv_pop hx hb dX9_spoil_50 rfl ?_
        refine lv_iconst (v := 1) hx hb dX9_spoil_51 (by decide) ?_
        exact W.zret (v := 1) (ty := .boolean) hx hb hr rfl (fun t ht hW9 => ⟨⟨1, (B_13, R_14), rfl, ⟨hW, (Fr.c Fr.rf hFr_11 (by decide)), (FrR.c FrR.rf hQr_11 (by decide)), (by decide), (Or.inr (Or.inl ⟨r_4, hCr_4, c_5, c_6, c_7, r_11, B_13, R_14, hFr_11, hQr_11, hCr_11, rfl, rfl, rfl⟩))⟩, (by show TX E G B_13 R_14 t.heap; rw [ht]; exact hT)⟩, hS.F ht⟩) hS.2.2 dX9_spoil_52
      · simp only [lt_I, le_I, eq_I, i_0, i_1, i_2, i_3, i_4, i_5, i_6, i_7, i_8, i_10, i_12, i_16, i_20, i_23, i_24, i_31, i_32, i_63, i_64, i_m1] at c_7
        refine lv_aload_n hx hb dX9_spoil_31 rfl (lv_at hl 0 rfl) ?_
        have ha_15 := tx_1 hT hG
        refine va_get (D := DG E) (ci := 9) (v := .ref (R h0 2)) (C := RX9) (T := TX9) (N := 3) hx hb hts iw_X9 hown hK.1 (va_one ha_15) 0 rfl rfl 2 (by decide) (hts _ fl_X9_16) (fun _ h9 => h9) rfl dX9_spoil_32 ?_
        refine lv_iload_n hx hb dX9_spoil_35 rfl (lv_at hl 1 rfl) ?_
        have hb_16 := (tw_4 hW_0 hg_2).2.1
        have ha_17 := tx_4 hT hg_2
        refine va_callv (rnV (fun H => TX E G B R H) (As := [.int p0]) (rest := []) ⟨hx, hb, hml, hown, hts⟩ (x_X0_copyToEnd l E z0 G hGz B R hW (R h0 2) p0 hg_2 (show 0 ≤ p0.toInt ∧ p0.toInt ≤ 23 from by first | decide | omega) (show (B (R h0 2) 1).toInt ≤ 23 from by first | decide | omega)) (cwV 1 hts (gdV ml_X9_158 im_X0_copyToEnd se_X0_X0_copyToEnd in_X0 co_X0_copyToEnd rfl) rfl rfl rfl (by decide +kernel) ⟨Nat.le_of_ble_eq_true rfl, Nat.le_of_ble_eq_true rfl⟩) hT (fun U hU hW => hK.go hW hS hAz hU) (va_recv hK.1 (va_one ha_17) (ci := 0) (q0 := 0) rfl rfl) rfl rfl hl.1 rfl (lv_room (Nat.le_of_ble_eq_true rfl)) dX9_spoil_36 ⟨Nat.le_of_ble_eq_true rfl, Nat.le_of_ble_eq_true rfl⟩) hS (fun q _ h => mL (L' := [4, 31, 32]) (L := [4, 30, 31, 32]) (by decide) h) (fun q h => mL (L' := [4, 31, 32]) (L := [4, 30, 31, 32]) (by decide) h) (fun U_19 t H locs ht hvm hwr_18 hB hz hk hS => ?_)
        have hT : TX E G U_19 R H := by rw [ht] at hB; exact hB
        have hWr_18 : TW G U_19 R := hwr_18.1
        have hW := hWr_18
        have hFr_18 : Fr G [4, 31, 32] B U_19 := hwr_18.2.1
        have hCr_18 : C_X0_copyToEnd G B R (R h0 2) p0 U_19 := hwr_18.2.2
        refine lv_goto (tgt := 51) hx hb dX9_spoil_39 (by decide) ?_
        refine lv_iconst (v := 1) hx hb dX9_spoil_51 (by decide) ?_
        exact W.zret (v := 1) (ty := .boolean) hx hb hr rfl (fun t ht hW9 => ⟨⟨1, (U_19, R), rfl, ⟨hW, (Fr.c Fr.rf hFr_18 (by decide)), FrR.rf, (by decide), (Or.inr (Or.inr (Or.inl ⟨r_4, hCr_4, c_5, c_6, c_7, U_19, hFr_18, hCr_18, rfl, rfl, rfl⟩)))⟩, (by show TX E G U_19 R t.heap; rw [ht]; exact hT)⟩, hS.F ht⟩) hS.2.2 dX9_spoil_52
    · simp only [lt_I, le_I, eq_I, i_0, i_1, i_2, i_3, i_4, i_5, i_6, i_7, i_8, i_10, i_12, i_16, i_20, i_23, i_24, i_31, i_32, i_63, i_64, i_m1] at c_6
      refine lv_aload_n hx hb dX9_spoil_15 rfl (lv_at hl 0 rfl) ?_
      have ha_20 := tx_1 hT hG
      refine va_get (D := DG E) (ci := 9) (v := .ref (R h0 2)) (C := RX9) (T := TX9) (N := 3) hx hb hts iw_X9 hown hK.1 (va_one ha_20) 0 rfl rfl 2 (by decide) (hts _ fl_X9_16) (fun _ h9 => h9) rfl dX9_spoil_16 ?_
      have ha_21 := tx_4 hT hg_2
      refine va_calli (rnV (fun H => TX E G B R H) (As := []) (rest := []) ⟨hx, hb, hml, hown, hts⟩ (x_X0_isFull l E z0 G hGz B R hW (R h0 2) hg_2) (cwV 0 hts (gdV ml_X9_155 im_X0_isFull se_X0_X0_isFull in_X0 co_X0_isFull rfl) rfl rfl rfl (by decide +kernel) ⟨Nat.le_of_ble_eq_true rfl, Nat.le_of_ble_eq_true rfl⟩) hT (fun U hU hW => hK.go hW hS hAz hU) (va_recv hK.1 (va_one ha_21) (ci := 0) (q0 := 0) rfl rfl) rfl rfl hl.1 rfl (lv_room (Nat.le_of_ble_eq_true rfl)) dX9_spoil_19 ⟨Nat.le_of_ble_eq_true rfl, Nat.le_of_ble_eq_true rfl⟩) hS (fun q _ h => h.elim) (fun q h => h.elim) (fun r_22 _ t H locs ht hvm hwr_22 hB hz hk hS => ?_)
      have hT : TX E G B R H := hT.kept (fun q hq => hk q hq (fun h => h))
      have hbr_22 : r_22 = 0 ∨ r_22 = 1 := hwr_22.1
      have hp0r_22 : r_22.toInt = 1 ∨ (B (R h0 2) 1).toInt ≤ 23 := hwr_22.2.1
      have hCr_22 : C_X0_isFull G B R (R h0 2) r_22 := hwr_22.2.2
      have hzr_22 := s_rng hbr_22
      refine lv_if_eq (tgt := 27) hx hb dX9_spoil_22 (by decide) (fun c_23 => ?_) (fun c_23 => ?_)
      · simp only [lt_I, le_I, eq_I, i_0, i_1, i_2, i_3, i_4, i_5, i_6, i_7, i_8, i_10, i_12, i_16, i_20, i_23, i_24, i_31, i_32, i_63, i_64, i_m1] at c_23
        refine lv_iload_n hx hb dX9_spoil_27 rfl (lv_at hl 2 rfl) ?_
        refine lv_if_eq (tgt := 42) hx hb dX9_spoil_28 (by decide) (fun c_24 => ?_) (fun c_24 => ?_)
        · simp only [lt_I, le_I, eq_I, i_0, i_1, i_2, i_3, i_4, i_5, i_6, i_7, i_8, i_10, i_12, i_16, i_20, i_23, i_24, i_31, i_32, i_63, i_64, i_m1] at c_24
          refine lv_aload_n hx hb dX9_spoil_42 rfl (lv_at hl 0 rfl) ?_
          have ha_25 := tx_1 hT hG
          refine va_get (D := DG E) (ci := 9) (v := .ref (R h0 2)) (C := RX9) (T := TX9) (N := 3) hx hb hts iw_X9 hown hK.1 (va_one ha_25) 0 rfl rfl 2 (by decide) (hts _ fl_X9_16) (fun _ h9 => h9) rfl dX9_spoil_43 ?_
          refine lv_iload_n hx hb dX9_spoil_46 rfl (lv_at hl 1 rfl) ?_
          have hb_26 := (tw_4 hW_0 hg_2).2.1
          have ha_27 := tx_4 hT hg_2
          refine va_callr (rnV (fun H => TX E G B R H) (As := [.int p0]) (rest := []) ⟨hx, hb, hml, hown, hts⟩ (x_X0_takeOut l E z0 G hGz B R hW (R h0 2) p0 hg_2 (show 0 ≤ p0.toInt ∧ p0.toInt ≤ 23 from by first | decide | omega) (show p0.toInt < (B (R h0 2) 1).toInt from by first | decide | omega)) (cwV 1 hts (gdV ml_X9_142 im_X0_takeOut se_X0_X0_takeOut in_X0 co_X0_takeOut rfl) rfl rfl rfl (by decide +kernel) ⟨Nat.le_of_ble_eq_true rfl, Nat.le_of_ble_eq_true rfl⟩) hT (fun U hU hW => hK.go hW hS hAz hU) (va_recv hK.1 (va_one ha_27) (ci := 0) (q0 := 0) rfl rfl) rfl rfl hl.1 rfl (lv_room (Nat.le_of_ble_eq_true rfl)) dX9_spoil_47 ⟨Nat.le_of_ble_eq_true rfl, Nat.le_of_ble_eq_true rfl⟩) hS (fun q _ h => mL (L' := [4, 30]) (L := [4, 30, 31, 32]) (by decide) h) (fun q h => mL (L' := [4, 30]) (L := [4, 30, 31, 32]) (by decide) h) (fun U_29 r_28 t H locs ht hvm hwr_28 hB hz hk hS => ?_)
          obtain ⟨B_30, R_31⟩ := U_29
          have hRr_28 := hB.1
          have hB := hB.2
          have hT : TX E G B_30 R_31 H := by rw [ht] at hB; exact hB
          have hgr_28 : G r_28 = 31 := hRr_28.1
          have hWr_28 : TW G B_30 R_31 := hRr_28.2.1
          have hW := hWr_28
          have hFr_28 : Fr G [4, 30] B B_30 := hRr_28.2.2.1
          have hQr_28 : FrR G [4, 30] R R_31 := hRr_28.2.2.2.1
          have hCr_28 : C_X0_takeOut G B R (R h0 2) p0 B_30 R_31 r_28 := hRr_28.2.2.2.2
          refine lv_pop hx hb dX9_spoil_50 rfl ?_
          refine lv_iconst (v := 1) hx hb dX9_spoil_51 (by decide) ?_
          exact W.zret (v := 1) (ty := .boolean) hx hb hr rfl (fun t ht hW9 => ⟨⟨1, (B_30, R_31), rfl, ⟨hW, (Fr.c Fr.rf hFr_28 (by decide)), (FrR.c FrR.rf hQr_28 (by decide)), (by decide), (Or.inr (Or.inr (Or.inr (Or.inl ⟨r_4, hCr_4, c_5, c_6, r_22, hCr_22, c_23, c_24, r_28, B_30, R_31, hFr_28, hQr_28, hCr_28, rfl, rfl, rfl⟩))))⟩, (by show TX E G B_30 R_31 t.heap; rw [ht]; exact hT)⟩, hS.F ht⟩) hS.2.2 dX9_spoil_52
        · simp only [lt_I, le_I, eq_I, i_0, i_1, i_2, i_3, i_4, i_5, i_6, i_7, i_8, i_10, i_12, i_16, i_20, i_23, i_24, i_31, i_32, i_63, i_64, i_m1] at c_24
          refine lv_aload_n hx hb dX9_spoil_31 rfl (lv_at hl 0 rfl) ?_
          have ha_32 := tx_1 hT hG
          refine va_get (D := DG E) (ci := 9) (v := .ref (R h0 2)) (C := RX9) (T := TX9) (N := 3) hx hb hts iw_X9 hown hK.1 (va_one ha_32) 0 rfl rfl 2 (by decide) (hts _ fl_X9_16) (fun _ h9 => h9) rfl dX9_spoil_32 ?_
          refine lv_iload_n hx hb dX9_spoil_35 rfl (lv_at hl 1 rfl) ?_
          have hb_33 := (tw_4 hW_0 hg_2).2.1
          have ha_34 := tx_4 hT hg_2
          refine va_callv (rnV (fun H => TX E G B R H) (As := [.int p0]) (rest := []) ⟨hx, hb, hml, hown, hts⟩ (x_X0_copyToEnd l E z0 G hGz B R hW (R h0 2) p0 hg_2 (show 0 ≤ p0.toInt ∧ p0.toInt ≤ 23 from by first | decide | omega) (show (B (R h0 2) 1).toInt ≤ 23 from by first | decide | omega)) (cwV 1 hts (gdV ml_X9_158 im_X0_copyToEnd se_X0_X0_copyToEnd in_X0 co_X0_copyToEnd rfl) rfl rfl rfl (by decide +kernel) ⟨Nat.le_of_ble_eq_true rfl, Nat.le_of_ble_eq_true rfl⟩) hT (fun U hU hW => hK.go hW hS hAz hU) (va_recv hK.1 (va_one ha_34) (ci := 0) (q0 := 0) rfl rfl) rfl rfl hl.1 rfl (lv_room (Nat.le_of_ble_eq_true rfl)) dX9_spoil_36 ⟨Nat.le_of_ble_eq_true rfl, Nat.le_of_ble_eq_true rfl⟩) hS (fun q _ h => mL (L' := [4, 31, 32]) (L := [4, 30, 31, 32]) (by decide) h) (fun q h => mL (L' := [4, 31, 32]) (L := [4, 30, 31, 32]) (by decide) h) (fun U_36 t H locs ht hvm hwr_35 hB hz hk hS => ?_)
          have hT : TX E G U_36 R H := by rw [ht] at hB; exact hB
          have hWr_35 : TW G U_36 R := hwr_35.1
          have hW := hWr_35
          have hFr_35 : Fr G [4, 31, 32] B U_36 := hwr_35.2.1
          have hCr_35 : C_X0_copyToEnd G B R (R h0 2) p0 U_36 := hwr_35.2.2
          refine lv_goto (tgt := 51) hx hb dX9_spoil_39 (by decide) ?_
          refine lv_iconst (v := 1) hx hb dX9_spoil_51 (by decide) ?_
          exact W.zret (v := 1) (ty := .boolean) hx hb hr rfl (fun t ht hW9 => ⟨⟨1, (U_36, R), rfl, ⟨hW, (Fr.c Fr.rf hFr_35 (by decide)), FrR.rf, (by decide), (Or.inr (Or.inr (Or.inr (Or.inr (Or.inl ⟨r_4, hCr_4, c_5, c_6, r_22, hCr_22, c_23, c_24, U_36, hFr_35, hCr_35, rfl, rfl, rfl⟩)))))⟩, (by show TX E G U_36 R t.heap; rw [ht]; exact hT)⟩, hS.F ht⟩) hS.2.2 dX9_spoil_52
      · simp only [lt_I, le_I, eq_I, i_0, i_1, i_2, i_3, i_4, i_5, i_6, i_7, i_8, i_10, i_12, i_16, i_20, i_23, i_24, i_31, i_32, i_63, i_64, i_m1] at c_23
        refine lv_iconst (v := 0) hx hb dX9_spoil_25 (by decide) ?_
        exact W.zret (v := 0) (ty := .boolean) hx hb hr rfl (fun t ht hW9 => ⟨⟨0, (B, R), rfl, ⟨hW, Fr.rf, FrR.rf, (by decide), (Or.inr (Or.inr (Or.inr (Or.inr (Or.inr ⟨r_4, hCr_4, c_5, c_6, r_22, hCr_22, c_23, rfl, rfl, rfl⟩)))))⟩, (by show TX E G B R t.heap; rw [ht]; exact hT)⟩, hS.F ht⟩) hS.2.2 dX9_spoil_26
theorem dX9_tick_0 : decode cX9_tick 0 = .ok (.iconst 0, 1) := by decide +kernel
theorem dX9_tick_1 : decode cX9_tick 1 = .ok (.istore_n 1, 1) := by decide +kernel
theorem dX9_tick_2 : decode cX9_tick 2 = .ok (.iconst 0, 1) := by decide +kernel
theorem dX9_tick_3 : decode cX9_tick 3 = .ok (.istore_n 2, 1) := by decide +kernel
theorem dX9_tick_4 : decode cX9_tick 4 = .ok (.iload_n 2, 1) := by decide +kernel
theorem dX9_tick_5 : decode cX9_tick 5 = .ok (.iconst 4, 1) := by decide +kernel
theorem dX9_tick_6 : decode cX9_tick 6 = .ok (.if_icmp .ge 24, 3) := by decide +kernel
theorem dX9_tick_9 : decode cX9_tick 9 = .ok (.aload_n 0, 1) := by decide +kernel
theorem dX9_tick_10 : decode cX9_tick 10 = .ok (.getfield 29, 3) := by decide +kernel
theorem dX9_tick_13 : decode cX9_tick 13 = .ok (.iload_n 2, 1) := by decide +kernel
theorem dX9_tick_14 : decode cX9_tick 14 = .ok (.aaload, 1) := by decide +kernel
theorem dX9_tick_15 : decode cX9_tick 15 = .ok (.invokevirtual 162, 3) := by decide +kernel
theorem dX9_tick_18 : decode cX9_tick 18 = .ok (.ifCond .eq 6, 3) := by decide +kernel
theorem dX9_tick_21 : decode cX9_tick 21 = .ok (.iinc 1 1, 3) := by decide +kernel
theorem dX9_tick_24 : decode cX9_tick 24 = .ok (.iinc 2 1, 3) := by decide +kernel
theorem dX9_tick_27 : decode cX9_tick 27 = .ok (.goto (-23), 3) := by decide +kernel
theorem dX9_tick_30 : decode cX9_tick 30 = .ok (.iload_n 1, 1) := by decide +kernel
theorem dX9_tick_31 : decode cX9_tick 31 = .ok (.ireturn, 1) := by decide +kernel
set_option maxHeartbeats 8000000 in
set_option maxRecDepth 100000 in
theorem x_X9_tick (l : Launch) (E : EE) (z0 : Nat) (G : Nat → Nat) (hGz : ∀ q, G q ≠ 0 → z0 ≤ q) (B : AA) (R : RR) (hW : TW G B R) (h0 : Nat) (hG : G h0 = 1) : Met l yX9_tick [Cond.code yX9_tick cX9_tick 3 (some .int)] ({ frames := 6, cells := 0, slots := 0, locals := 131 } : Room) (va_Pc [.ref h0] (fun U => TX E G B R U.heap ∧ KS E z0 U)) (va_Qi (fun (r : Int32) (u : AA) => (TW G u R) ∧ (Fr G ([8, 5, 15, 11, 10, 9] : List Nat) B u) ∧ (C_X9_tick G B R h0 u r)) (fun u t => TX E G u R t.heap) (fun q : Nat => G q ∈ ([8, 5, 15, 11, 10, 9] : List Nat))) 0 0 (fun q : Nat => G q ∈ ([8, 5, 15, 11, 10, 9] : List Nat)) := by
  refine Met.ofW (cc := cX9_tick) (maxL := 3) (ret := (some .int)) (by decide) rfl ?_
  intro p e s m args below meth c s₁ B9 hml hv
  obtain ⟨rfl, hT, hK⟩ := hv
  have hx := B9.exec
  have hb := B9.bytes
  have hr := B9.returns
  have hts : ∀ w ∈ TS, w.before ([.ref h0] : List Value).toArray s = true := fun w hw => hK.2.1 w hw _
  have hown : s.vm.findClass RX9 = some m.cls := findClass_of_methodNamed B9.named
  have hlocks := B9.notSynchronized
  have hS : va_S (fun q : Nat => G q ∈ ([8, 5, 15, 11, 10, 9] : List Nat)) s.heap s.heap [] := va_S.rf
  have hAz : ∀ q, (fun q : Nat => G q ∈ ([8, 5, 15, 11, 10, 9] : List Nat)) q → z0 ≤ q := zL hGz (by decide)
  have hW_0 := hW
  have hl := lv_entry ([.ref h0]) (n := 3) (Nat.le_of_ble_eq_true rfl)
  rw [lg_entry_eq]
  generalize (lg_sl ([.ref h0]) ++ List.replicate (3 - (lg_sl ([.ref h0])).length) Slot.unset).toArray = ls at hl ⊢
  have hl : lv_has ls 3 [(0, .ref h0)] := hl
  refine lv_iconst (v := 0) hx hb dX9_tick_0 (by decide) ?_
  refine lv_istore_n (lv' := [(1, .int 0), (0, .ref h0)]) hx hb dX9_tick_1 rfl hl (by decide) rfl (fun ls hl => ?_)
  refine lv_iconst (v := 0) hx hb dX9_tick_2 (by decide) ?_
  refine lv_istore_n (lv' := [(2, .int 0), (1, .int 0), (0, .ref h0)]) hx hb dX9_tick_3 rfl hl (by decide) rfl (fun ls hl => ?_)
  refine lv_iload_n hx hb dX9_tick_4 rfl (lv_at hl 0 rfl) ?_
  refine lv_iconst (v := 4) hx hb dX9_tick_5 (by decide) ?_
  refine lv_icmp_ge (tgt := 30) hx hb dX9_tick_6 (by decide) (fun c_1 => absurd c_1 (by decide)) (fun c_1 => ?_)
  refine lv_aload_n hx hb dX9_tick_9 rfl (lv_at hl 2 rfl) ?_
  have ha_2 := tx_1 hT hG
  have hg_3 : G (R h0 1) = 3 := (tw_1 hW hG).2.1
  refine va_get (D := DG E) (ci := 9) (v := .ref (R h0 1)) (C := RX9) (T := TX9) (N := 3) hx hb hts iw_X9 hown hK.1 (va_one ha_2) 0 rfl rfl 1 (by decide) (hts _ fl_X9_29) (fun _ h9 => h9) rfl dX9_tick_10 ?_
  refine lv_iload_n hx hb dX9_tick_13 rfl (lv_at hl 0 rfl) ?_
  have ha_4 := tx_3 hT hg_3
  have hg_5 : G (R (R h0 1) 0) = 8 := (tw_3 hW hg_3) 0 (by decide)
  refine va_aldq (D := DG E) hx hb hK.1 (va_one ha_4) 0 5 rfl rfl (show vp_in (0) 4 from vp_in_iff.mpr ⟨by decide, by decide⟩) dX9_tick_14 ?_
  refine W.eq (g2 := F0 m 15 ls [.ref (R (R h0 1) 0)]) (by rfl) ?_
  have ha_6 := tx_8 hT hg_5
  refine va_calli (rnV (fun H => TX E G B R H) (As := []) (rest := []) ⟨hx, hb, hml, hown, hts⟩ (x_X3_failsByTime l E z0 G hGz B R hW (R (R h0 1) 0) hg_5) (cwV 0 hts (gdV ml_X9_162 im_X3_failsByTime se_X3_X3_failsByTime in_X3 co_X3_failsByTime rfl) rfl rfl rfl (by decide +kernel) ⟨Nat.le_of_ble_eq_true rfl, Nat.le_of_ble_eq_true rfl⟩) hT (fun U hU hW => hK.go hW hS hAz hU) (va_recv hK.1 (va_one ha_6) (ci := 3) (q0 := 0) rfl rfl) rfl rfl hl.1 rfl (lv_room (Nat.le_of_ble_eq_true rfl)) dX9_tick_15 ⟨Nat.le_of_ble_eq_true rfl, Nat.le_of_ble_eq_true rfl⟩) hS (fun q _ h => mL (L' := [8, 5, 15, 11, 10, 9]) (L := [8, 5, 15, 11, 10, 9]) (by decide) h) (fun q h => mL (L' := [8, 5, 15, 11, 10, 9]) (L := [8, 5, 15, 11, 10, 9]) (by decide) h) (fun r_7 U_8 t H locs ht hvm hwr_7 hB hz hk hS => ?_)
  have hT : TX E G U_8 R H := by rw [ht] at hB; exact hB
  have hWr_7 : TW G U_8 R := hwr_7.1
  have hW := hWr_7
  have hFr_7 : Fr G [8, 5, 15, 11, 10, 9] B U_8 := hwr_7.2.1
  have hbr_7 : r_7 = 0 ∨ r_7 = 1 := hwr_7.2.2.1
  have hCr_7 : C_X3_failsByTime G B R (R (R h0 1) 0) U_8 r_7 := hwr_7.2.2.2
  have hzr_7 := s_rng hbr_7
  refine lv_if_eq (tgt := 24) hx hb dX9_tick_18 (by decide) (fun c_9 => ?_) (fun c_9 => ?_)
  · simp only [lt_I, le_I, eq_I, i_0, i_1, i_2, i_3, i_4, i_5, i_6, i_7, i_8, i_10, i_12, i_16, i_20, i_23, i_24, i_31, i_32, i_63, i_64, i_m1] at c_9
    refine lv_iinc (v := 1) (lv' := [(2, .int 1), (1, .int 0), (0, .ref h0)]) hx hb dX9_tick_24 hl (k := 0) rfl (by decide) (by decide) rfl (fun ls hl => ?_)
    refine lv_goto (tgt := 4) hx hb dX9_tick_27 (by decide) ?_
    refine lv_iload_n hx hb dX9_tick_4 rfl (lv_at hl 0 rfl) ?_
    refine lv_iconst (v := 4) hx hb dX9_tick_5 (by decide) ?_
    refine lv_icmp_ge (tgt := 30) hx hb dX9_tick_6 (by decide) (fun c_10 => absurd c_10 (by decide)) (fun c_10 => ?_)
    refine lv_aload_n hx hb dX9_tick_9 rfl (lv_at hl 2 rfl) ?_
    have ha_11 := tx_1 hT hG
    refine va_get (D := DG E) (ci := 9) (v := .ref (R h0 1)) (C := RX9) (T := TX9) (N := 3) hx hb hts iw_X9 hown hK.1 (va_one ha_11) 0 rfl rfl 1 (by decide) (hts _ fl_X9_29) (fun _ h9 => h9) rfl dX9_tick_10 ?_
    refine lv_iload_n hx hb dX9_tick_13 rfl (lv_at hl 0 rfl) ?_
    have ha_12 := tx_3 hT hg_3
    have hg_13 : G (R (R h0 1) 1) = 8 := (tw_3 hW hg_3) 1 (by decide)
    refine va_aldq (D := DG E) hx hb hK.1 (va_one ha_12) 0 5 rfl rfl (show vp_in (1) 4 from vp_in_iff.mpr ⟨by decide, by decide⟩) dX9_tick_14 ?_
    refine W.eq (g2 := F0 m 15 ls [.ref (R (R h0 1) 1)]) (by rfl) ?_
    have ha_14 := tx_8 hT hg_13
    refine va_calli (rnV (fun H => TX E G U_8 R H) (As := []) (rest := []) ⟨hx, hb, hml, hown, hts⟩ (x_X3_failsByTime l E z0 G hGz U_8 R hW (R (R h0 1) 1) hg_13) (cwV 0 hts (gdV ml_X9_162 im_X3_failsByTime se_X3_X3_failsByTime in_X3 co_X3_failsByTime rfl) rfl rfl rfl (by decide +kernel) ⟨Nat.le_of_ble_eq_true rfl, Nat.le_of_ble_eq_true rfl⟩) hT (fun U hU hW => hK.go hW hS hAz hU) (va_recv hK.1 (va_one ha_14) (ci := 3) (q0 := 0) rfl rfl) rfl rfl hl.1 rfl (lv_room (Nat.le_of_ble_eq_true rfl)) dX9_tick_15 ⟨Nat.le_of_ble_eq_true rfl, Nat.le_of_ble_eq_true rfl⟩) hS (fun q _ h => mL (L' := [8, 5, 15, 11, 10, 9]) (L := [8, 5, 15, 11, 10, 9]) (by decide) h) (fun q h => mL (L' := [8, 5, 15, 11, 10, 9]) (L := [8, 5, 15, 11, 10, 9]) (by decide) h) (fun r_15 U_16 t H locs ht hvm hwr_15 hB hz hk hS => ?_)
    have hT : TX E G U_16 R H := by rw [ht] at hB; exact hB
    have hWr_15 : TW G U_16 R := hwr_15.1
    have hW := hWr_15
    have hFr_15 : Fr G [8, 5, 15, 11, 10, 9] U_8 U_16 := hwr_15.2.1
    have hbr_15 : r_15 = 0 ∨ r_15 = 1 := hwr_15.2.2.1
    have hCr_15 : C_X3_failsByTime G U_8 R (R (R h0 1) 1) U_16 r_15 := hwr_15.2.2.2
    have hzr_15 := s_rng hbr_15
    refine lv_if_eq (tgt := 24) hx hb dX9_tick_18 (by decide) (fun c_17 => ?_) (fun c_17 => ?_)
    · simp only [lt_I, le_I, eq_I, i_0, i_1, i_2, i_3, i_4, i_5, i_6, i_7, i_8, i_10, i_12, i_16, i_20, i_23, i_24, i_31, i_32, i_63, i_64, i_m1] at c_17
      refine lv_iinc (v := 2) (lv' := [(2, .int 2), (1, .int 0), (0, .ref h0)]) hx hb dX9_tick_24 hl (k := 0) rfl (by decide) (by decide) rfl (fun ls hl => ?_)
      refine lv_goto (tgt := 4) hx hb dX9_tick_27 (by decide) ?_
      refine lv_iload_n hx hb dX9_tick_4 rfl (lv_at hl 0 rfl) ?_
      refine lv_iconst (v := 4) hx hb dX9_tick_5 (by decide) ?_
      refine lv_icmp_ge (tgt := 30) hx hb dX9_tick_6 (by decide) (fun c_18 => absurd c_18 (by decide)) (fun c_18 => ?_)
      refine lv_aload_n hx hb dX9_tick_9 rfl (lv_at hl 2 rfl) ?_
      have ha_19 := tx_1 hT hG
      refine va_get (D := DG E) (ci := 9) (v := .ref (R h0 1)) (C := RX9) (T := TX9) (N := 3) hx hb hts iw_X9 hown hK.1 (va_one ha_19) 0 rfl rfl 1 (by decide) (hts _ fl_X9_29) (fun _ h9 => h9) rfl dX9_tick_10 ?_
      refine lv_iload_n hx hb dX9_tick_13 rfl (lv_at hl 0 rfl) ?_
      have ha_20 := tx_3 hT hg_3
      have hg_21 : G (R (R h0 1) 2) = 8 := (tw_3 hW hg_3) 2 (by decide)
      refine va_aldq (D := DG E) hx hb hK.1 (va_one ha_20) 0 5 rfl rfl (show vp_in (2) 4 from vp_in_iff.mpr ⟨by decide, by decide⟩) dX9_tick_14 ?_
      refine W.eq (g2 := F0 m 15 ls [.ref (R (R h0 1) 2)]) (by rfl) ?_
      have ha_22 := tx_8 hT hg_21
      refine va_calli (rnV (fun H => TX E G U_16 R H) (As := []) (rest := []) ⟨hx, hb, hml, hown, hts⟩ (x_X3_failsByTime l E z0 G hGz U_16 R hW (R (R h0 1) 2) hg_21) (cwV 0 hts (gdV ml_X9_162 im_X3_failsByTime se_X3_X3_failsByTime in_X3 co_X3_failsByTime rfl) rfl rfl rfl (by decide +kernel) ⟨Nat.le_of_ble_eq_true rfl, Nat.le_of_ble_eq_true rfl⟩) hT (fun U hU hW => hK.go hW hS hAz hU) (va_recv hK.1 (va_one ha_22) (ci := 3) (q0 := 0) rfl rfl) rfl rfl hl.1 rfl (lv_room (Nat.le_of_ble_eq_true rfl)) dX9_tick_15 ⟨Nat.le_of_ble_eq_true rfl, Nat.le_of_ble_eq_true rfl⟩) hS (fun q _ h => mL (L' := [8, 5, 15, 11, 10, 9]) (L := [8, 5, 15, 11, 10, 9]) (by decide) h) (fun q h => mL (L' := [8, 5, 15, 11, 10, 9]) (L := [8, 5, 15, 11, 10, 9]) (by decide) h) (fun r_23 U_24 t H locs ht hvm hwr_23 hB hz hk hS => ?_)
      have hT : TX E G U_24 R H := by rw [ht] at hB; exact hB
      have hWr_23 : TW G U_24 R := hwr_23.1
      have hW := hWr_23
      have hFr_23 : Fr G [8, 5, 15, 11, 10, 9] U_16 U_24 := hwr_23.2.1
      have hbr_23 : r_23 = 0 ∨ r_23 = 1 := hwr_23.2.2.1
      have hCr_23 : C_X3_failsByTime G U_16 R (R (R h0 1) 2) U_24 r_23 := hwr_23.2.2.2
      have hzr_23 := s_rng hbr_23
      refine lv_if_eq (tgt := 24) hx hb dX9_tick_18 (by decide) (fun c_25 => ?_) (fun c_25 => ?_)
      · simp only [lt_I, le_I, eq_I, i_0, i_1, i_2, i_3, i_4, i_5, i_6, i_7, i_8, i_10, i_12, i_16, i_20, i_23, i_24, i_31, i_32, i_63, i_64, i_m1] at c_25
        refine lv_iinc (v := 3) (lv' := [(2, .int 3), (1, .int 0), (0, .ref h0)]) hx hb dX9_tick_24 hl (k := 0) rfl (by decide) (by decide) rfl (fun ls hl => ?_)
        refine lv_goto (tgt := 4) hx hb dX9_tick_27 (by decide) ?_
        refine lv_iload_n hx hb dX9_tick_4 rfl (lv_at hl 0 rfl) ?_
        refine lv_iconst (v := 4) hx hb dX9_tick_5 (by decide) ?_
        refine lv_icmp_ge (tgt := 30) hx hb dX9_tick_6 (by decide) (fun c_26 => absurd c_26 (by decide)) (fun c_26 => ?_)
        refine lv_aload_n hx hb dX9_tick_9 rfl (lv_at hl 2 rfl) ?_
        have ha_27 := tx_1 hT hG
        refine va_get (D := DG E) (ci := 9) (v := .ref (R h0 1)) (C := RX9) (T := TX9) (N := 3) hx hb hts iw_X9 hown hK.1 (va_one ha_27) 0 rfl rfl 1 (by decide) (hts _ fl_X9_29) (fun _ h9 => h9) rfl dX9_tick_10 ?_
        refine lv_iload_n hx hb dX9_tick_13 rfl (lv_at hl 0 rfl) ?_
        have ha_28 := tx_3 hT hg_3
        have hg_29 : G (R (R h0 1) 3) = 8 := (tw_3 hW hg_3) 3 (by decide)
        refine va_aldq (D := DG E) hx hb hK.1 (va_one ha_28) 0 5 rfl rfl (show vp_in (3) 4 from vp_in_iff.mpr ⟨by decide, by decide⟩) dX9_tick_14 ?_
        refine W.eq (g2 := F0 m 15 ls [.ref (R (R h0 1) 3)]) (by rfl) ?_
        have ha_30 := tx_8 hT hg_29
        refine va_calli (rnV (fun H => TX E G U_24 R H) (As := []) (rest := []) ⟨hx, hb, hml, hown, hts⟩ (x_X3_failsByTime l E z0 G hGz U_24 R hW (R (R h0 1) 3) hg_29) (cwV 0 hts (gdV ml_X9_162 im_X3_failsByTime se_X3_X3_failsByTime in_X3 co_X3_failsByTime rfl) rfl rfl rfl (by decide +kernel) ⟨Nat.le_of_ble_eq_true rfl, Nat.le_of_ble_eq_true rfl⟩) hT (fun U hU hW => hK.go hW hS hAz hU) (va_recv hK.1 (va_one ha_30) (ci := 3) (q0 := 0) rfl rfl) rfl rfl hl.1 rfl (lv_room (Nat.le_of_ble_eq_true rfl)) dX9_tick_15 ⟨Nat.le_of_ble_eq_true rfl, Nat.le_of_ble_eq_true rfl⟩) hS (fun q _ h => mL (L' := [8, 5, 15, 11, 10, 9]) (L := [8, 5, 15, 11, 10, 9]) (by decide) h) (fun q h => mL (L' := [8, 5, 15, 11, 10, 9]) (L := [8, 5, 15, 11, 10, 9]) (by decide) h) (fun r_31 U_32 t H locs ht hvm hwr_31 hB hz hk hS => ?_)
        have hT : TX E G U_32 R H := by rw [ht] at hB; exact hB
        have hWr_31 : TW G U_32 R := hwr_31.1
        have hW := hWr_31
        have hFr_31 : Fr G [8, 5, 15, 11, 10, 9] U_24 U_32 := hwr_31.2.1
        have hbr_31 : r_31 = 0 ∨ r_31 = 1 := hwr_31.2.2.1
        have hCr_31 : C_X3_failsByTime G U_24 R (R (R h0 1) 3) U_32 r_31 := hwr_31.2.2.2
        have hzr_31 := s_rng hbr_31
        refine lv_if_eq (tgt := 24) hx hb dX9_tick_18 (by decide) (fun c_33 => ?_) (fun c_33 => ?_)
        · simp only [lt_I, le_I, eq_I, i_0, i_1, i_2, i_3, i_4, i_5, i_6, i_7, i_8, i_10, i_12, i_16, i_20, i_23, i_24, i_31, i_32, i_63, i_64, i_m1] at c_33
          refine lv_iinc (v := 4) (lv' := [(2, .int 4), (1, .int 0), (0, .ref h0)]) hx hb dX9_tick_24 hl (k := 0) rfl (by decide) (by decide) rfl (fun ls hl => ?_)
          refine lv_goto (tgt := 4) hx hb dX9_tick_27 (by decide) ?_
          refine lv_iload_n hx hb dX9_tick_4 rfl (lv_at hl 0 rfl) ?_
          refine lv_iconst (v := 4) hx hb dX9_tick_5 (by decide) ?_
          refine lv_icmp_ge (tgt := 30) hx hb dX9_tick_6 (by decide) (fun c_34 => ?_) (fun c_34 => absurd c_34 (by decide))
          refine lv_iload_n hx hb dX9_tick_30 rfl (lv_at hl 1 rfl) ?_
          exact W.iret (v := 0) hx hb hr (fun t ht hW9 => ⟨⟨0, U_32, rfl, ⟨hW, (Fr.c (Fr.c (Fr.c (Fr.c Fr.rf hFr_7 (by decide)) hFr_15 (by decide)) hFr_23 (by decide)) hFr_31 (by decide)), (Or.inl ⟨r_7, U_8, hFr_7, hCr_7, c_9, r_15, U_16, hFr_15, hCr_15, c_17, r_23, U_24, hFr_23, hCr_23, c_25, r_31, U_32, hFr_31, hCr_31, c_33, rfl, rfl⟩)⟩, (by show TX E G U_32 R t.heap; rw [ht]; exact hT)⟩, hS.F ht⟩) hS.2.2 dX9_tick_31
        · simp only [lt_I, le_I, eq_I, i_0, i_1, i_2, i_3, i_4, i_5, i_6, i_7, i_8, i_10, i_12, i_16, i_20, i_23, i_24, i_31, i_32, i_63, i_64, i_m1] at c_33
          refine lv_iinc (v := 1) (lv' := [(1, .int 1), (2, .int 3), (0, .ref h0)]) hx hb dX9_tick_21 hl (k := 1) rfl (by decide) (by decide) rfl (fun ls hl => ?_)
          refine lv_iinc (v := 4) (lv' := [(2, .int 4), (1, .int 1), (0, .ref h0)]) hx hb dX9_tick_24 hl (k := 1) rfl (by decide) (by decide) rfl (fun ls hl => ?_)
          refine lv_goto (tgt := 4) hx hb dX9_tick_27 (by decide) ?_
          refine lv_iload_n hx hb dX9_tick_4 rfl (lv_at hl 0 rfl) ?_
          refine lv_iconst (v := 4) hx hb dX9_tick_5 (by decide) ?_
          refine lv_icmp_ge (tgt := 30) hx hb dX9_tick_6 (by decide) (fun c_35 => ?_) (fun c_35 => absurd c_35 (by decide))
          refine lv_iload_n hx hb dX9_tick_30 rfl (lv_at hl 1 rfl) ?_
          exact W.iret (v := 1) hx hb hr (fun t ht hW9 => ⟨⟨1, U_32, rfl, ⟨hW, (Fr.c (Fr.c (Fr.c (Fr.c Fr.rf hFr_7 (by decide)) hFr_15 (by decide)) hFr_23 (by decide)) hFr_31 (by decide)), (Or.inr (Or.inl ⟨r_7, U_8, hFr_7, hCr_7, c_9, r_15, U_16, hFr_15, hCr_15, c_17, r_23, U_24, hFr_23, hCr_23, c_25, r_31, U_32, hFr_31, hCr_31, c_33, rfl, rfl⟩))⟩, (by show TX E G U_32 R t.heap; rw [ht]; exact hT)⟩, hS.F ht⟩) hS.2.2 dX9_tick_31
      · simp only [lt_I, le_I, eq_I, i_0, i_1, i_2, i_3, i_4, i_5, i_6, i_7, i_8, i_10, i_12, i_16, i_20, i_23, i_24, i_31, i_32, i_63, i_64, i_m1] at c_25
        refine lv_iinc (v := 1) (lv' := [(1, .int 1), (2, .int 2), (0, .ref h0)]) hx hb dX9_tick_21 hl (k := 1) rfl (by decide) (by decide) rfl (fun ls hl => ?_)
        refine lv_iinc (v := 3) (lv' := [(2, .int 3), (1, .int 1), (0, .ref h0)]) hx hb dX9_tick_24 hl (k := 1) rfl (by decide) (by decide) rfl (fun ls hl => ?_)
        refine lv_goto (tgt := 4) hx hb dX9_tick_27 (by decide) ?_
        refine lv_iload_n hx hb dX9_tick_4 rfl (lv_at hl 0 rfl) ?_
        refine lv_iconst (v := 4) hx hb dX9_tick_5 (by decide) ?_
        refine lv_icmp_ge (tgt := 30) hx hb dX9_tick_6 (by decide) (fun c_36 => absurd c_36 (by decide)) (fun c_36 => ?_)
        refine lv_aload_n hx hb dX9_tick_9 rfl (lv_at hl 2 rfl) ?_
        have ha_37 := tx_1 hT hG
        refine va_get (D := DG E) (ci := 9) (v := .ref (R h0 1)) (C := RX9) (T := TX9) (N := 3) hx hb hts iw_X9 hown hK.1 (va_one ha_37) 0 rfl rfl 1 (by decide) (hts _ fl_X9_29) (fun _ h9 => h9) rfl dX9_tick_10 ?_
        refine lv_iload_n hx hb dX9_tick_13 rfl (lv_at hl 0 rfl) ?_
        have ha_38 := tx_3 hT hg_3
        have hg_39 : G (R (R h0 1) 3) = 8 := (tw_3 hW hg_3) 3 (by decide)
        refine va_aldq (D := DG E) hx hb hK.1 (va_one ha_38) 0 5 rfl rfl (show vp_in (3) 4 from vp_in_iff.mpr ⟨by decide, by decide⟩) dX9_tick_14 ?_
        refine W.eq (g2 := F0 m 15 ls [.ref (R (R h0 1) 3)]) (by rfl) ?_
        have ha_40 := tx_8 hT hg_39
        refine va_calli (rnV (fun H => TX E G U_24 R H) (As := []) (rest := []) ⟨hx, hb, hml, hown, hts⟩ (x_X3_failsByTime l E z0 G hGz U_24 R hW (R (R h0 1) 3) hg_39) (cwV 0 hts (gdV ml_X9_162 im_X3_failsByTime se_X3_X3_failsByTime in_X3 co_X3_failsByTime rfl) rfl rfl rfl (by decide +kernel) ⟨Nat.le_of_ble_eq_true rfl, Nat.le_of_ble_eq_true rfl⟩) hT (fun U hU hW => hK.go hW hS hAz hU) (va_recv hK.1 (va_one ha_40) (ci := 3) (q0 := 0) rfl rfl) rfl rfl hl.1 rfl (lv_room (Nat.le_of_ble_eq_true rfl)) dX9_tick_15 ⟨Nat.le_of_ble_eq_true rfl, Nat.le_of_ble_eq_true rfl⟩) hS (fun q _ h => mL (L' := [8, 5, 15, 11, 10, 9]) (L := [8, 5, 15, 11, 10, 9]) (by decide) h) (fun q h => mL (L' := [8, 5, 15, 11, 10, 9]) (L := [8, 5, 15, 11, 10, 9]) (by decide) h) (fun r_41 U_42 t H locs ht hvm hwr_41 hB hz hk hS => ?_)
        have hT : TX E G U_42 R H := by rw [ht] at hB; exact hB
        have hWr_41 : TW G U_42 R := hwr_41.1
        have hW := hWr_41
        have hFr_41 : Fr G [8, 5, 15, 11, 10, 9] U_24 U_42 := hwr_41.2.1
        have hbr_41 : r_41 = 0 ∨ r_41 = 1 := hwr_41.2.2.1
        have hCr_41 : C_X3_failsByTime G U_24 R (R (R h0 1) 3) U_42 r_41 := hwr_41.2.2.2
        have hzr_41 := s_rng hbr_41
        refine lv_if_eq (tgt := 24) hx hb dX9_tick_18 (by decide) (fun c_43 => ?_) (fun c_43 => ?_)
        · simp only [lt_I, le_I, eq_I, i_0, i_1, i_2, i_3, i_4, i_5, i_6, i_7, i_8, i_10, i_12, i_16, i_20, i_23, i_24, i_31, i_32, i_63, i_64, i_m1] at c_43
          refine lv_iinc (v := 4) (lv' := [(2, .int 4), (1, .int 1), (0, .ref h0)]) hx hb dX9_tick_24 hl (k := 0) rfl (by decide) (by decide) rfl (fun ls hl => ?_)
          refine lv_goto (tgt := 4) hx hb dX9_tick_27 (by decide) ?_
          refine lv_iload_n hx hb dX9_tick_4 rfl (lv_at hl 0 rfl) ?_
          refine lv_iconst (v := 4) hx hb dX9_tick_5 (by decide) ?_
          refine lv_icmp_ge (tgt := 30) hx hb dX9_tick_6 (by decide) (fun c_44 => ?_) (fun c_44 => absurd c_44 (by decide))
          refine lv_iload_n hx hb dX9_tick_30 rfl (lv_at hl 1 rfl) ?_
          exact W.iret (v := 1) hx hb hr (fun t ht hW9 => ⟨⟨1, U_42, rfl, ⟨hW, (Fr.c (Fr.c (Fr.c (Fr.c Fr.rf hFr_7 (by decide)) hFr_15 (by decide)) hFr_23 (by decide)) hFr_41 (by decide)), (Or.inr (Or.inr (Or.inl ⟨r_7, U_8, hFr_7, hCr_7, c_9, r_15, U_16, hFr_15, hCr_15, c_17, r_23, U_24, hFr_23, hCr_23, c_25, r_41, U_42, hFr_41, hCr_41, c_43, rfl, rfl⟩)))⟩, (by show TX E G U_42 R t.heap; rw [ht]; exact hT)⟩, hS.F ht⟩) hS.2.2 dX9_tick_31
        · simp only [lt_I, le_I, eq_I, i_0, i_1, i_2, i_3, i_4, i_5, i_6, i_7, i_8, i_10, i_12, i_16, i_20, i_23, i_24, i_31, i_32, i_63, i_64, i_m1] at c_43
          refine lv_iinc (v := 2) (lv' := [(1, .int 2), (2, .int 3), (0, .ref h0)]) hx hb dX9_tick_21 hl (k := 1) rfl (by decide) (by decide) rfl (fun ls hl => ?_)
          refine lv_iinc (v := 4) (lv' := [(2, .int 4), (1, .int 2), (0, .ref h0)]) hx hb dX9_tick_24 hl (k := 1) rfl (by decide) (by decide) rfl (fun ls hl => ?_)
          refine lv_goto (tgt := 4) hx hb dX9_tick_27 (by decide) ?_
          refine lv_iload_n hx hb dX9_tick_4 rfl (lv_at hl 0 rfl) ?_
          refine lv_iconst (v := 4) hx hb dX9_tick_5 (by decide) ?_
          refine lv_icmp_ge (tgt := 30) hx hb dX9_tick_6 (by decide) (fun c_45 => ?_) (fun c_45 => absurd c_45 (by decide))
          refine lv_iload_n hx hb dX9_tick_30 rfl (lv_at hl 1 rfl) ?_
          exact W.iret (v := 2) hx hb hr (fun t ht hW9 => ⟨⟨2, U_42, rfl, ⟨hW, (Fr.c (Fr.c (Fr.c (Fr.c Fr.rf hFr_7 (by decide)) hFr_15 (by decide)) hFr_23 (by decide)) hFr_41 (by decide)), (Or.inr (Or.inr (Or.inr (Or.inl ⟨r_7, U_8, hFr_7, hCr_7, c_9, r_15, U_16, hFr_15, hCr_15, c_17, r_23, U_24, hFr_23, hCr_23, c_25, r_41, U_42, hFr_41, hCr_41, c_43, rfl, rfl⟩))))⟩, (by show TX E G U_42 R t.heap; rw [ht]; exact hT)⟩, hS.F ht⟩) hS.2.2 dX9_tick_31
    · simp only [lt_I, le_I, eq_I, i_0, i_1, i_2, i_3, i_4, i_5, i_6, i_7, i_8, i_10, i_12, i_16, i_20, i_23, i_24, i_31, i_32, i_63, i_64, i_m1] at c_17
      refine lv_iinc (v := 1) (lv' := [(1, .int 1), (2, .int 1), (0, .ref h0)]) hx hb dX9_tick_21 hl (k := 1) rfl (by decide) (by decide) rfl (fun ls hl => ?_)
      refine lv_iinc (v := 2) (lv' := [(2, .int 2), (1, .int 1), (0, .ref h0)]) hx hb dX9_tick_24 hl (k := 1) rfl (by decide) (by decide) rfl (fun ls hl => ?_)
      refine lv_goto (tgt := 4) hx hb dX9_tick_27 (by decide) ?_
      refine lv_iload_n hx hb dX9_tick_4 rfl (lv_at hl 0 rfl) ?_
      refine lv_iconst (v := 4) hx hb dX9_tick_5 (by decide) ?_
      refine lv_icmp_ge (tgt := 30) hx hb dX9_tick_6 (by decide) (fun c_46 => absurd c_46 (by decide)) (fun c_46 => ?_)
      refine lv_aload_n hx hb dX9_tick_9 rfl (lv_at hl 2 rfl) ?_
      have ha_47 := tx_1 hT hG
      refine va_get (D := DG E) (ci := 9) (v := .ref (R h0 1)) (C := RX9) (T := TX9) (N := 3) hx hb hts iw_X9 hown hK.1 (va_one ha_47) 0 rfl rfl 1 (by decide) (hts _ fl_X9_29) (fun _ h9 => h9) rfl dX9_tick_10 ?_
      refine lv_iload_n hx hb dX9_tick_13 rfl (lv_at hl 0 rfl) ?_
      have ha_48 := tx_3 hT hg_3
      have hg_49 : G (R (R h0 1) 2) = 8 := (tw_3 hW hg_3) 2 (by decide)
      refine va_aldq (D := DG E) hx hb hK.1 (va_one ha_48) 0 5 rfl rfl (show vp_in (2) 4 from vp_in_iff.mpr ⟨by decide, by decide⟩) dX9_tick_14 ?_
      refine W.eq (g2 := F0 m 15 ls [.ref (R (R h0 1) 2)]) (by rfl) ?_
      have ha_50 := tx_8 hT hg_49
      refine va_calli (rnV (fun H => TX E G U_16 R H) (As := []) (rest := []) ⟨hx, hb, hml, hown, hts⟩ (x_X3_failsByTime l E z0 G hGz U_16 R hW (R (R h0 1) 2) hg_49) (cwV 0 hts (gdV ml_X9_162 im_X3_failsByTime se_X3_X3_failsByTime in_X3 co_X3_failsByTime rfl) rfl rfl rfl (by decide +kernel) ⟨Nat.le_of_ble_eq_true rfl, Nat.le_of_ble_eq_true rfl⟩) hT (fun U hU hW => hK.go hW hS hAz hU) (va_recv hK.1 (va_one ha_50) (ci := 3) (q0 := 0) rfl rfl) rfl rfl hl.1 rfl (lv_room (Nat.le_of_ble_eq_true rfl)) dX9_tick_15 ⟨Nat.le_of_ble_eq_true rfl, Nat.le_of_ble_eq_true rfl⟩) hS (fun q _ h => mL (L' := [8, 5, 15, 11, 10, 9]) (L := [8, 5, 15, 11, 10, 9]) (by decide) h) (fun q h => mL (L' := [8, 5, 15, 11, 10, 9]) (L := [8, 5, 15, 11, 10, 9]) (by decide) h) (fun r_51 U_52 t H locs ht hvm hwr_51 hB hz hk hS => ?_)
      have hT : TX E G U_52 R H := by rw [ht] at hB; exact hB
      have hWr_51 : TW G U_52 R := hwr_51.1
      have hW := hWr_51
      have hFr_51 : Fr G [8, 5, 15, 11, 10, 9] U_16 U_52 := hwr_51.2.1
      have hbr_51 : r_51 = 0 ∨ r_51 = 1 := hwr_51.2.2.1
      have hCr_51 : C_X3_failsByTime G U_16 R (R (R h0 1) 2) U_52 r_51 := hwr_51.2.2.2
      have hzr_51 := s_rng hbr_51
      refine lv_if_eq (tgt := 24) hx hb dX9_tick_18 (by decide) (fun c_53 => ?_) (fun c_53 => ?_)
      · simp only [lt_I, le_I, eq_I, i_0, i_1, i_2, i_3, i_4, i_5, i_6, i_7, i_8, i_10, i_12, i_16, i_20, i_23, i_24, i_31, i_32, i_63, i_64, i_m1] at c_53
        refine lv_iinc (v := 3) (lv' := [(2, .int 3), (1, .int 1), (0, .ref h0)]) hx hb dX9_tick_24 hl (k := 0) rfl (by decide) (by decide) rfl (fun ls hl => ?_)
        refine lv_goto (tgt := 4) hx hb dX9_tick_27 (by decide) ?_
        refine lv_iload_n hx hb dX9_tick_4 rfl (lv_at hl 0 rfl) ?_
        refine lv_iconst (v := 4) hx hb dX9_tick_5 (by decide) ?_
        refine lv_icmp_ge (tgt := 30) hx hb dX9_tick_6 (by decide) (fun c_54 => absurd c_54 (by decide)) (fun c_54 => ?_)
        refine lv_aload_n hx hb dX9_tick_9 rfl (lv_at hl 2 rfl) ?_
        have ha_55 := tx_1 hT hG
        refine va_get (D := DG E) (ci := 9) (v := .ref (R h0 1)) (C := RX9) (T := TX9) (N := 3) hx hb hts iw_X9 hown hK.1 (va_one ha_55) 0 rfl rfl 1 (by decide) (hts _ fl_X9_29) (fun _ h9 => h9) rfl dX9_tick_10 ?_
        refine lv_iload_n hx hb dX9_tick_13 rfl (lv_at hl 0 rfl) ?_
        have ha_56 := tx_3 hT hg_3
        have hg_57 : G (R (R h0 1) 3) = 8 := (tw_3 hW hg_3) 3 (by decide)
        refine va_aldq (D := DG E) hx hb hK.1 (va_one ha_56) 0 5 rfl rfl (show vp_in (3) 4 from vp_in_iff.mpr ⟨by decide, by decide⟩) dX9_tick_14 ?_
        refine W.eq (g2 := F0 m 15 ls [.ref (R (R h0 1) 3)]) (by rfl) ?_
        have ha_58 := tx_8 hT hg_57
        refine va_calli (rnV (fun H => TX E G U_52 R H) (As := []) (rest := []) ⟨hx, hb, hml, hown, hts⟩ (x_X3_failsByTime l E z0 G hGz U_52 R hW (R (R h0 1) 3) hg_57) (cwV 0 hts (gdV ml_X9_162 im_X3_failsByTime se_X3_X3_failsByTime in_X3 co_X3_failsByTime rfl) rfl rfl rfl (by decide +kernel) ⟨Nat.le_of_ble_eq_true rfl, Nat.le_of_ble_eq_true rfl⟩) hT (fun U hU hW => hK.go hW hS hAz hU) (va_recv hK.1 (va_one ha_58) (ci := 3) (q0 := 0) rfl rfl) rfl rfl hl.1 rfl (lv_room (Nat.le_of_ble_eq_true rfl)) dX9_tick_15 ⟨Nat.le_of_ble_eq_true rfl, Nat.le_of_ble_eq_true rfl⟩) hS (fun q _ h => mL (L' := [8, 5, 15, 11, 10, 9]) (L := [8, 5, 15, 11, 10, 9]) (by decide) h) (fun q h => mL (L' := [8, 5, 15, 11, 10, 9]) (L := [8, 5, 15, 11, 10, 9]) (by decide) h) (fun r_59 U_60 t H locs ht hvm hwr_59 hB hz hk hS => ?_)
        have hT : TX E G U_60 R H := by rw [ht] at hB; exact hB
        have hWr_59 : TW G U_60 R := hwr_59.1
        have hW := hWr_59
        have hFr_59 : Fr G [8, 5, 15, 11, 10, 9] U_52 U_60 := hwr_59.2.1
        have hbr_59 : r_59 = 0 ∨ r_59 = 1 := hwr_59.2.2.1
        have hCr_59 : C_X3_failsByTime G U_52 R (R (R h0 1) 3) U_60 r_59 := hwr_59.2.2.2
        have hzr_59 := s_rng hbr_59
        refine lv_if_eq (tgt := 24) hx hb dX9_tick_18 (by decide) (fun c_61 => ?_) (fun c_61 => ?_)
        · simp only [lt_I, le_I, eq_I, i_0, i_1, i_2, i_3, i_4, i_5, i_6, i_7, i_8, i_10, i_12, i_16, i_20, i_23, i_24, i_31, i_32, i_63, i_64, i_m1] at c_61
          refine lv_iinc (v := 4) (lv' := [(2, .int 4), (1, .int 1), (0, .ref h0)]) hx hb dX9_tick_24 hl (k := 0) rfl (by decide) (by decide) rfl (fun ls hl => ?_)
          refine lv_goto (tgt := 4) hx hb dX9_tick_27 (by decide) ?_
          refine lv_iload_n hx hb dX9_tick_4 rfl (lv_at hl 0 rfl) ?_
          refine lv_iconst (v := 4) hx hb dX9_tick_5 (by decide) ?_
          refine lv_icmp_ge (tgt := 30) hx hb dX9_tick_6 (by decide) (fun c_62 => ?_) (fun c_62 => absurd c_62 (by decide))
          refine lv_iload_n hx hb dX9_tick_30 rfl (lv_at hl 1 rfl) ?_
          exact W.iret (v := 1) hx hb hr (fun t ht hW9 => ⟨⟨1, U_60, rfl, ⟨hW, (Fr.c (Fr.c (Fr.c (Fr.c Fr.rf hFr_7 (by decide)) hFr_15 (by decide)) hFr_51 (by decide)) hFr_59 (by decide)), (Or.inr (Or.inr (Or.inr (Or.inr (Or.inl ⟨r_7, U_8, hFr_7, hCr_7, c_9, r_15, U_16, hFr_15, hCr_15, c_17, r_51, U_52, hFr_51, hCr_51, c_53, r_59, U_60, hFr_59, hCr_59, c_61, rfl, rfl⟩)))))⟩, (by show TX E G U_60 R t.heap; rw [ht]; exact hT)⟩, hS.F ht⟩) hS.2.2 dX9_tick_31
        · simp only [lt_I, le_I, eq_I, i_0, i_1, i_2, i_3, i_4, i_5, i_6, i_7, i_8, i_10, i_12, i_16, i_20, i_23, i_24, i_31, i_32, i_63, i_64, i_m1] at c_61
          refine lv_iinc (v := 2) (lv' := [(1, .int 2), (2, .int 3), (0, .ref h0)]) hx hb dX9_tick_21 hl (k := 1) rfl (by decide) (by decide) rfl (fun ls hl => ?_)
          refine lv_iinc (v := 4) (lv' := [(2, .int 4), (1, .int 2), (0, .ref h0)]) hx hb dX9_tick_24 hl (k := 1) rfl (by decide) (by decide) rfl (fun ls hl => ?_)
          refine lv_goto (tgt := 4) hx hb dX9_tick_27 (by decide) ?_
          refine lv_iload_n hx hb dX9_tick_4 rfl (lv_at hl 0 rfl) ?_
          refine lv_iconst (v := 4) hx hb dX9_tick_5 (by decide) ?_
          refine lv_icmp_ge (tgt := 30) hx hb dX9_tick_6 (by decide) (fun c_63 => ?_) (fun c_63 => absurd c_63 (by decide))
          refine lv_iload_n hx hb dX9_tick_30 rfl (lv_at hl 1 rfl) ?_
          exact W.iret (v := 2) hx hb hr (fun t ht hW9 => ⟨⟨2, U_60, rfl, ⟨hW, (Fr.c (Fr.c (Fr.c (Fr.c Fr.rf hFr_7 (by decide)) hFr_15 (by decide)) hFr_51 (by decide)) hFr_59 (by decide)), (Or.inr (Or.inr (Or.inr (Or.inr (Or.inr (Or.inl ⟨r_7, U_8, hFr_7, hCr_7, c_9, r_15, U_16, hFr_15, hCr_15, c_17, r_51, U_52, hFr_51, hCr_51, c_53, r_59, U_60, hFr_59, hCr_59, c_61, rfl, rfl⟩))))))⟩, (by show TX E G U_60 R t.heap; rw [ht]; exact hT)⟩, hS.F ht⟩) hS.2.2 dX9_tick_31
      · simp only [lt_I, le_I, eq_I, i_0, i_1, i_2, i_3, i_4, i_5, i_6, i_7, i_8, i_10, i_12, i_16, i_20, i_23, i_24, i_31, i_32, i_63, i_64, i_m1] at c_53
        refine lv_iinc (v := 2) (lv' := [(1, .int 2), (2, .int 2), (0, .ref h0)]) hx hb dX9_tick_21 hl (k := 1) rfl (by decide) (by decide) rfl (fun ls hl => ?_)
        refine lv_iinc (v := 3) (lv' := [(2, .int 3), (1, .int 2), (0, .ref h0)]) hx hb dX9_tick_24 hl (k := 1) rfl (by decide) (by decide) rfl (fun ls hl => ?_)
        refine lv_goto (tgt := 4) hx hb dX9_tick_27 (by decide) ?_
        refine lv_iload_n hx hb dX9_tick_4 rfl (lv_at hl 0 rfl) ?_
        refine lv_iconst (v := 4) hx hb dX9_tick_5 (by decide) ?_
        refine lv_icmp_ge (tgt := 30) hx hb dX9_tick_6 (by decide) (fun c_64 => absurd c_64 (by decide)) (fun c_64 => ?_)
        refine lv_aload_n hx hb dX9_tick_9 rfl (lv_at hl 2 rfl) ?_
        have ha_65 := tx_1 hT hG
        refine va_get (D := DG E) (ci := 9) (v := .ref (R h0 1)) (C := RX9) (T := TX9) (N := 3) hx hb hts iw_X9 hown hK.1 (va_one ha_65) 0 rfl rfl 1 (by decide) (hts _ fl_X9_29) (fun _ h9 => h9) rfl dX9_tick_10 ?_
        refine lv_iload_n hx hb dX9_tick_13 rfl (lv_at hl 0 rfl) ?_
        have ha_66 := tx_3 hT hg_3
        have hg_67 : G (R (R h0 1) 3) = 8 := (tw_3 hW hg_3) 3 (by decide)
        refine va_aldq (D := DG E) hx hb hK.1 (va_one ha_66) 0 5 rfl rfl (show vp_in (3) 4 from vp_in_iff.mpr ⟨by decide, by decide⟩) dX9_tick_14 ?_
        refine W.eq (g2 := F0 m 15 ls [.ref (R (R h0 1) 3)]) (by rfl) ?_
        have ha_68 := tx_8 hT hg_67
        refine va_calli (rnV (fun H => TX E G U_52 R H) (As := []) (rest := []) ⟨hx, hb, hml, hown, hts⟩ (x_X3_failsByTime l E z0 G hGz U_52 R hW (R (R h0 1) 3) hg_67) (cwV 0 hts (gdV ml_X9_162 im_X3_failsByTime se_X3_X3_failsByTime in_X3 co_X3_failsByTime rfl) rfl rfl rfl (by decide +kernel) ⟨Nat.le_of_ble_eq_true rfl, Nat.le_of_ble_eq_true rfl⟩) hT (fun U hU hW => hK.go hW hS hAz hU) (va_recv hK.1 (va_one ha_68) (ci := 3) (q0 := 0) rfl rfl) rfl rfl hl.1 rfl (lv_room (Nat.le_of_ble_eq_true rfl)) dX9_tick_15 ⟨Nat.le_of_ble_eq_true rfl, Nat.le_of_ble_eq_true rfl⟩) hS (fun q _ h => mL (L' := [8, 5, 15, 11, 10, 9]) (L := [8, 5, 15, 11, 10, 9]) (by decide) h) (fun q h => mL (L' := [8, 5, 15, 11, 10, 9]) (L := [8, 5, 15, 11, 10, 9]) (by decide) h) (fun r_69 U_70 t H locs ht hvm hwr_69 hB hz hk hS => ?_)
        have hT : TX E G U_70 R H := by rw [ht] at hB; exact hB
        have hWr_69 : TW G U_70 R := hwr_69.1
        have hW := hWr_69
        have hFr_69 : Fr G [8, 5, 15, 11, 10, 9] U_52 U_70 := hwr_69.2.1
        have hbr_69 : r_69 = 0 ∨ r_69 = 1 := hwr_69.2.2.1
        have hCr_69 : C_X3_failsByTime G U_52 R (R (R h0 1) 3) U_70 r_69 := hwr_69.2.2.2
        have hzr_69 := s_rng hbr_69
        refine lv_if_eq (tgt := 24) hx hb dX9_tick_18 (by decide) (fun c_71 => ?_) (fun c_71 => ?_)
        · simp only [lt_I, le_I, eq_I, i_0, i_1, i_2, i_3, i_4, i_5, i_6, i_7, i_8, i_10, i_12, i_16, i_20, i_23, i_24, i_31, i_32, i_63, i_64, i_m1] at c_71
          refine lv_iinc (v := 4) (lv' := [(2, .int 4), (1, .int 2), (0, .ref h0)]) hx hb dX9_tick_24 hl (k := 0) rfl (by decide) (by decide) rfl (fun ls hl => ?_)
          refine lv_goto (tgt := 4) hx hb dX9_tick_27 (by decide) ?_
          refine lv_iload_n hx hb dX9_tick_4 rfl (lv_at hl 0 rfl) ?_
          refine lv_iconst (v := 4) hx hb dX9_tick_5 (by decide) ?_
          refine lv_icmp_ge (tgt := 30) hx hb dX9_tick_6 (by decide) (fun c_72 => ?_) (fun c_72 => absurd c_72 (by decide))
          refine lv_iload_n hx hb dX9_tick_30 rfl (lv_at hl 1 rfl) ?_
          exact W.iret (v := 2) hx hb hr (fun t ht hW9 => ⟨⟨2, U_70, rfl, ⟨hW, (Fr.c (Fr.c (Fr.c (Fr.c Fr.rf hFr_7 (by decide)) hFr_15 (by decide)) hFr_51 (by decide)) hFr_69 (by decide)), (Or.inr (Or.inr (Or.inr (Or.inr (Or.inr (Or.inr (Or.inl ⟨r_7, U_8, hFr_7, hCr_7, c_9, r_15, U_16, hFr_15, hCr_15, c_17, r_51, U_52, hFr_51, hCr_51, c_53, r_69, U_70, hFr_69, hCr_69, c_71, rfl, rfl⟩)))))))⟩, (by show TX E G U_70 R t.heap; rw [ht]; exact hT)⟩, hS.F ht⟩) hS.2.2 dX9_tick_31
        · simp only [lt_I, le_I, eq_I, i_0, i_1, i_2, i_3, i_4, i_5, i_6, i_7, i_8, i_10, i_12, i_16, i_20, i_23, i_24, i_31, i_32, i_63, i_64, i_m1] at c_71
          refine lv_iinc (v := 3) (lv' := [(1, .int 3), (2, .int 3), (0, .ref h0)]) hx hb dX9_tick_21 hl (k := 1) rfl (by decide) (by decide) rfl (fun ls hl => ?_)
          refine lv_iinc (v := 4) (lv' := [(2, .int 4), (1, .int 3), (0, .ref h0)]) hx hb dX9_tick_24 hl (k := 1) rfl (by decide) (by decide) rfl (fun ls hl => ?_)
          refine lv_goto (tgt := 4) hx hb dX9_tick_27 (by decide) ?_
          refine lv_iload_n hx hb dX9_tick_4 rfl (lv_at hl 0 rfl) ?_
          refine lv_iconst (v := 4) hx hb dX9_tick_5 (by decide) ?_
          refine lv_icmp_ge (tgt := 30) hx hb dX9_tick_6 (by decide) (fun c_73 => ?_) (fun c_73 => absurd c_73 (by decide))
          refine lv_iload_n hx hb dX9_tick_30 rfl (lv_at hl 1 rfl) ?_
          exact W.iret (v := 3) hx hb hr (fun t ht hW9 => ⟨⟨3, U_70, rfl, ⟨hW, (Fr.c (Fr.c (Fr.c (Fr.c Fr.rf hFr_7 (by decide)) hFr_15 (by decide)) hFr_51 (by decide)) hFr_69 (by decide)), (Or.inr (Or.inr (Or.inr (Or.inr (Or.inr (Or.inr (Or.inr (Or.inl ⟨r_7, U_8, hFr_7, hCr_7, c_9, r_15, U_16, hFr_15, hCr_15, c_17, r_51, U_52, hFr_51, hCr_51, c_53, r_69, U_70, hFr_69, hCr_69, c_71, rfl, rfl⟩))))))))⟩, (by show TX E G U_70 R t.heap; rw [ht]; exact hT)⟩, hS.F ht⟩) hS.2.2 dX9_tick_31
  · simp only [lt_I, le_I, eq_I, i_0, i_1, i_2, i_3, i_4, i_5, i_6, i_7, i_8, i_10, i_12, i_16, i_20, i_23, i_24, i_31, i_32, i_63, i_64, i_m1] at c_9
    refine lv_iinc (v := 1) (lv' := [(1, .int 1), (2, .int 0), (0, .ref h0)]) hx hb dX9_tick_21 hl (k := 1) rfl (by decide) (by decide) rfl (fun ls hl => ?_)
    refine lv_iinc (v := 1) (lv' := [(2, .int 1), (1, .int 1), (0, .ref h0)]) hx hb dX9_tick_24 hl (k := 1) rfl (by decide) (by decide) rfl (fun ls hl => ?_)
    refine lv_goto (tgt := 4) hx hb dX9_tick_27 (by decide) ?_
    refine lv_iload_n hx hb dX9_tick_4 rfl (lv_at hl 0 rfl) ?_
    refine lv_iconst (v := 4) hx hb dX9_tick_5 (by decide) ?_
    refine lv_icmp_ge (tgt := 30) hx hb dX9_tick_6 (by decide) (fun c_74 => absurd c_74 (by decide)) (fun c_74 => ?_)
    refine lv_aload_n hx hb dX9_tick_9 rfl (lv_at hl 2 rfl) ?_
    have ha_75 := tx_1 hT hG
    refine va_get (D := DG E) (ci := 9) (v := .ref (R h0 1)) (C := RX9) (T := TX9) (N := 3) hx hb hts iw_X9 hown hK.1 (va_one ha_75) 0 rfl rfl 1 (by decide) (hts _ fl_X9_29) (fun _ h9 => h9) rfl dX9_tick_10 ?_
    refine lv_iload_n hx hb dX9_tick_13 rfl (lv_at hl 0 rfl) ?_
    have ha_76 := tx_3 hT hg_3
    have hg_77 : G (R (R h0 1) 1) = 8 := (tw_3 hW hg_3) 1 (by decide)
    refine va_aldq (D := DG E) hx hb hK.1 (va_one ha_76) 0 5 rfl rfl (show vp_in (1) 4 from vp_in_iff.mpr ⟨by decide, by decide⟩) dX9_tick_14 ?_
    refine W.eq (g2 := F0 m 15 ls [.ref (R (R h0 1) 1)]) (by rfl) ?_
    have ha_78 := tx_8 hT hg_77
    refine va_calli (rnV (fun H => TX E G U_8 R H) (As := []) (rest := []) ⟨hx, hb, hml, hown, hts⟩ (x_X3_failsByTime l E z0 G hGz U_8 R hW (R (R h0 1) 1) hg_77) (cwV 0 hts (gdV ml_X9_162 im_X3_failsByTime se_X3_X3_failsByTime in_X3 co_X3_failsByTime rfl) rfl rfl rfl (by decide +kernel) ⟨Nat.le_of_ble_eq_true rfl, Nat.le_of_ble_eq_true rfl⟩) hT (fun U hU hW => hK.go hW hS hAz hU) (va_recv hK.1 (va_one ha_78) (ci := 3) (q0 := 0) rfl rfl) rfl rfl hl.1 rfl (lv_room (Nat.le_of_ble_eq_true rfl)) dX9_tick_15 ⟨Nat.le_of_ble_eq_true rfl, Nat.le_of_ble_eq_true rfl⟩) hS (fun q _ h => mL (L' := [8, 5, 15, 11, 10, 9]) (L := [8, 5, 15, 11, 10, 9]) (by decide) h) (fun q h => mL (L' := [8, 5, 15, 11, 10, 9]) (L := [8, 5, 15, 11, 10, 9]) (by decide) h) (fun r_79 U_80 t H locs ht hvm hwr_79 hB hz hk hS => ?_)
    have hT : TX E G U_80 R H := by rw [ht] at hB; exact hB
    have hWr_79 : TW G U_80 R := hwr_79.1
    have hW := hWr_79
    have hFr_79 : Fr G [8, 5, 15, 11, 10, 9] U_8 U_80 := hwr_79.2.1
    have hbr_79 : r_79 = 0 ∨ r_79 = 1 := hwr_79.2.2.1
    have hCr_79 : C_X3_failsByTime G U_8 R (R (R h0 1) 1) U_80 r_79 := hwr_79.2.2.2
    have hzr_79 := s_rng hbr_79
    refine lv_if_eq (tgt := 24) hx hb dX9_tick_18 (by decide) (fun c_81 => ?_) (fun c_81 => ?_)
    · simp only [lt_I, le_I, eq_I, i_0, i_1, i_2, i_3, i_4, i_5, i_6, i_7, i_8, i_10, i_12, i_16, i_20, i_23, i_24, i_31, i_32, i_63, i_64, i_m1] at c_81
      refine lv_iinc (v := 2) (lv' := [(2, .int 2), (1, .int 1), (0, .ref h0)]) hx hb dX9_tick_24 hl (k := 0) rfl (by decide) (by decide) rfl (fun ls hl => ?_)
      refine lv_goto (tgt := 4) hx hb dX9_tick_27 (by decide) ?_
      refine lv_iload_n hx hb dX9_tick_4 rfl (lv_at hl 0 rfl) ?_
      refine lv_iconst (v := 4) hx hb dX9_tick_5 (by decide) ?_
      refine lv_icmp_ge (tgt := 30) hx hb dX9_tick_6 (by decide) (fun c_82 => absurd c_82 (by decide)) (fun c_82 => ?_)
      refine lv_aload_n hx hb dX9_tick_9 rfl (lv_at hl 2 rfl) ?_
      have ha_83 := tx_1 hT hG
      refine va_get (D := DG E) (ci := 9) (v := .ref (R h0 1)) (C := RX9) (T := TX9) (N := 3) hx hb hts iw_X9 hown hK.1 (va_one ha_83) 0 rfl rfl 1 (by decide) (hts _ fl_X9_29) (fun _ h9 => h9) rfl dX9_tick_10 ?_
      refine lv_iload_n hx hb dX9_tick_13 rfl (lv_at hl 0 rfl) ?_
      have ha_84 := tx_3 hT hg_3
      have hg_85 : G (R (R h0 1) 2) = 8 := (tw_3 hW hg_3) 2 (by decide)
      refine va_aldq (D := DG E) hx hb hK.1 (va_one ha_84) 0 5 rfl rfl (show vp_in (2) 4 from vp_in_iff.mpr ⟨by decide, by decide⟩) dX9_tick_14 ?_
      refine W.eq (g2 := F0 m 15 ls [.ref (R (R h0 1) 2)]) (by rfl) ?_
      have ha_86 := tx_8 hT hg_85
      refine va_calli (rnV (fun H => TX E G U_80 R H) (As := []) (rest := []) ⟨hx, hb, hml, hown, hts⟩ (x_X3_failsByTime l E z0 G hGz U_80 R hW (R (R h0 1) 2) hg_85) (cwV 0 hts (gdV ml_X9_162 im_X3_failsByTime se_X3_X3_failsByTime in_X3 co_X3_failsByTime rfl) rfl rfl rfl (by decide +kernel) ⟨Nat.le_of_ble_eq_true rfl, Nat.le_of_ble_eq_true rfl⟩) hT (fun U hU hW => hK.go hW hS hAz hU) (va_recv hK.1 (va_one ha_86) (ci := 3) (q0 := 0) rfl rfl) rfl rfl hl.1 rfl (lv_room (Nat.le_of_ble_eq_true rfl)) dX9_tick_15 ⟨Nat.le_of_ble_eq_true rfl, Nat.le_of_ble_eq_true rfl⟩) hS (fun q _ h => mL (L' := [8, 5, 15, 11, 10, 9]) (L := [8, 5, 15, 11, 10, 9]) (by decide) h) (fun q h => mL (L' := [8, 5, 15, 11, 10, 9]) (L := [8, 5, 15, 11, 10, 9]) (by decide) h) (fun r_87 U_88 t H locs ht hvm hwr_87 hB hz hk hS => ?_)
      have hT : TX E G U_88 R H := by rw [ht] at hB; exact hB
      have hWr_87 : TW G U_88 R := hwr_87.1
      have hW := hWr_87
      have hFr_87 : Fr G [8, 5, 15, 11, 10, 9] U_80 U_88 := hwr_87.2.1
      have hbr_87 : r_87 = 0 ∨ r_87 = 1 := hwr_87.2.2.1
      have hCr_87 : C_X3_failsByTime G U_80 R (R (R h0 1) 2) U_88 r_87 := hwr_87.2.2.2
      have hzr_87 := s_rng hbr_87
      refine lv_if_eq (tgt := 24) hx hb dX9_tick_18 (by decide) (fun c_89 => ?_) (fun c_89 => ?_)
      · simp only [lt_I, le_I, eq_I, i_0, i_1, i_2, i_3, i_4, i_5, i_6, i_7, i_8, i_10, i_12, i_16, i_20, i_23, i_24, i_31, i_32, i_63, i_64, i_m1] at c_89
        refine lv_iinc (v := 3) (lv' := [(2, .int 3), (1, .int 1), (0, .ref h0)]) hx hb dX9_tick_24 hl (k := 0) rfl (by decide) (by decide) rfl (fun ls hl => ?_)
        refine lv_goto (tgt := 4) hx hb dX9_tick_27 (by decide) ?_
        refine lv_iload_n hx hb dX9_tick_4 rfl (lv_at hl 0 rfl) ?_
        refine lv_iconst (v := 4) hx hb dX9_tick_5 (by decide) ?_
        refine lv_icmp_ge (tgt := 30) hx hb dX9_tick_6 (by decide) (fun c_90 => absurd c_90 (by decide)) (fun c_90 => ?_)
        refine lv_aload_n hx hb dX9_tick_9 rfl (lv_at hl 2 rfl) ?_
        have ha_91 := tx_1 hT hG
        refine va_get (D := DG E) (ci := 9) (v := .ref (R h0 1)) (C := RX9) (T := TX9) (N := 3) hx hb hts iw_X9 hown hK.1 (va_one ha_91) 0 rfl rfl 1 (by decide) (hts _ fl_X9_29) (fun _ h9 => h9) rfl dX9_tick_10 ?_
        refine lv_iload_n hx hb dX9_tick_13 rfl (lv_at hl 0 rfl) ?_
        have ha_92 := tx_3 hT hg_3
        have hg_93 : G (R (R h0 1) 3) = 8 := (tw_3 hW hg_3) 3 (by decide)
        refine va_aldq (D := DG E) hx hb hK.1 (va_one ha_92) 0 5 rfl rfl (show vp_in (3) 4 from vp_in_iff.mpr ⟨by decide, by decide⟩) dX9_tick_14 ?_
        refine W.eq (g2 := F0 m 15 ls [.ref (R (R h0 1) 3)]) (by rfl) ?_
        have ha_94 := tx_8 hT hg_93
        refine va_calli (rnV (fun H => TX E G U_88 R H) (As := []) (rest := []) ⟨hx, hb, hml, hown, hts⟩ (x_X3_failsByTime l E z0 G hGz U_88 R hW (R (R h0 1) 3) hg_93) (cwV 0 hts (gdV ml_X9_162 im_X3_failsByTime se_X3_X3_failsByTime in_X3 co_X3_failsByTime rfl) rfl rfl rfl (by decide +kernel) ⟨Nat.le_of_ble_eq_true rfl, Nat.le_of_ble_eq_true rfl⟩) hT (fun U hU hW => hK.go hW hS hAz hU) (va_recv hK.1 (va_one ha_94) (ci := 3) (q0 := 0) rfl rfl) rfl rfl hl.1 rfl (lv_room (Nat.le_of_ble_eq_true rfl)) dX9_tick_15 ⟨Nat.le_of_ble_eq_true rfl, Nat.le_of_ble_eq_true rfl⟩) hS (fun q _ h => mL (L' := [8, 5, 15, 11, 10, 9]) (L := [8, 5, 15, 11, 10, 9]) (by decide) h) (fun q h => mL (L' := [8, 5, 15, 11, 10, 9]) (L := [8, 5, 15, 11, 10, 9]) (by decide) h) (fun r_95 U_96 t H locs ht hvm hwr_95 hB hz hk hS => ?_)
        have hT : TX E G U_96 R H := by rw [ht] at hB; exact hB
        have hWr_95 : TW G U_96 R := hwr_95.1
        have hW := hWr_95
        have hFr_95 : Fr G [8, 5, 15, 11, 10, 9] U_88 U_96 := hwr_95.2.1
        have hbr_95 : r_95 = 0 ∨ r_95 = 1 := hwr_95.2.2.1
        have hCr_95 : C_X3_failsByTime G U_88 R (R (R h0 1) 3) U_96 r_95 := hwr_95.2.2.2
        have hzr_95 := s_rng hbr_95
        refine lv_if_eq (tgt := 24) hx hb dX9_tick_18 (by decide) (fun c_97 => ?_) (fun c_97 => ?_)
        · simp only [lt_I, le_I, eq_I, i_0, i_1, i_2, i_3, i_4, i_5, i_6, i_7, i_8, i_10, i_12, i_16, i_20, i_23, i_24, i_31, i_32, i_63, i_64, i_m1] at c_97
          refine lv_iinc (v := 4) (lv' := [(2, .int 4), (1, .int 1), (0, .ref h0)]) hx hb dX9_tick_24 hl (k := 0) rfl (by decide) (by decide) rfl (fun ls hl => ?_)
          refine lv_goto (tgt := 4) hx hb dX9_tick_27 (by decide) ?_
          refine lv_iload_n hx hb dX9_tick_4 rfl (lv_at hl 0 rfl) ?_
          refine lv_iconst (v := 4) hx hb dX9_tick_5 (by decide) ?_
          refine lv_icmp_ge (tgt := 30) hx hb dX9_tick_6 (by decide) (fun c_98 => ?_) (fun c_98 => absurd c_98 (by decide))
          refine lv_iload_n hx hb dX9_tick_30 rfl (lv_at hl 1 rfl) ?_
          exact W.iret (v := 1) hx hb hr (fun t ht hW9 => ⟨⟨1, U_96, rfl, ⟨hW, (Fr.c (Fr.c (Fr.c (Fr.c Fr.rf hFr_7 (by decide)) hFr_79 (by decide)) hFr_87 (by decide)) hFr_95 (by decide)), (Or.inr (Or.inr (Or.inr (Or.inr (Or.inr (Or.inr (Or.inr (Or.inr (Or.inl ⟨r_7, U_8, hFr_7, hCr_7, c_9, r_79, U_80, hFr_79, hCr_79, c_81, r_87, U_88, hFr_87, hCr_87, c_89, r_95, U_96, hFr_95, hCr_95, c_97, rfl, rfl⟩)))))))))⟩, (by show TX E G U_96 R t.heap; rw [ht]; exact hT)⟩, hS.F ht⟩) hS.2.2 dX9_tick_31
        · simp only [lt_I, le_I, eq_I, i_0, i_1, i_2, i_3, i_4, i_5, i_6, i_7, i_8, i_10, i_12, i_16, i_20, i_23, i_24, i_31, i_32, i_63, i_64, i_m1] at c_97
          refine lv_iinc (v := 2) (lv' := [(1, .int 2), (2, .int 3), (0, .ref h0)]) hx hb dX9_tick_21 hl (k := 1) rfl (by decide) (by decide) rfl (fun ls hl => ?_)
          refine lv_iinc (v := 4) (lv' := [(2, .int 4), (1, .int 2), (0, .ref h0)]) hx hb dX9_tick_24 hl (k := 1) rfl (by decide) (by decide) rfl (fun ls hl => ?_)
          refine lv_goto (tgt := 4) hx hb dX9_tick_27 (by decide) ?_
          refine lv_iload_n hx hb dX9_tick_4 rfl (lv_at hl 0 rfl) ?_
          refine lv_iconst (v := 4) hx hb dX9_tick_5 (by decide) ?_
          refine lv_icmp_ge (tgt := 30) hx hb dX9_tick_6 (by decide) (fun c_99 => ?_) (fun c_99 => absurd c_99 (by decide))
          refine lv_iload_n hx hb dX9_tick_30 rfl (lv_at hl 1 rfl) ?_
          exact W.iret (v := 2) hx hb hr (fun t ht hW9 => ⟨⟨2, U_96, rfl, ⟨hW, (Fr.c (Fr.c (Fr.c (Fr.c Fr.rf hFr_7 (by decide)) hFr_79 (by decide)) hFr_87 (by decide)) hFr_95 (by decide)), (Or.inr (Or.inr (Or.inr (Or.inr (Or.inr (Or.inr (Or.inr (Or.inr (Or.inr (Or.inl ⟨r_7, U_8, hFr_7, hCr_7, c_9, r_79, U_80, hFr_79, hCr_79, c_81, r_87, U_88, hFr_87, hCr_87, c_89, r_95, U_96, hFr_95, hCr_95, c_97, rfl, rfl⟩))))))))))⟩, (by show TX E G U_96 R t.heap; rw [ht]; exact hT)⟩, hS.F ht⟩) hS.2.2 dX9_tick_31
      · simp only [lt_I, le_I, eq_I, i_0, i_1, i_2, i_3, i_4, i_5, i_6, i_7, i_8, i_10, i_12, i_16, i_20, i_23, i_24, i_31, i_32, i_63, i_64, i_m1] at c_89
        refine lv_iinc (v := 2) (lv' := [(1, .int 2), (2, .int 2), (0, .ref h0)]) hx hb dX9_tick_21 hl (k := 1) rfl (by decide) (by decide) rfl (fun ls hl => ?_)
        refine lv_iinc (v := 3) (lv' := [(2, .int 3), (1, .int 2), (0, .ref h0)]) hx hb dX9_tick_24 hl (k := 1) rfl (by decide) (by decide) rfl (fun ls hl => ?_)
        refine lv_goto (tgt := 4) hx hb dX9_tick_27 (by decide) ?_
        refine lv_iload_n hx hb dX9_tick_4 rfl (lv_at hl 0 rfl) ?_
        refine lv_iconst (v := 4) hx hb dX9_tick_5 (by decide) ?_
        refine lv_icmp_ge (tgt := 30) hx hb dX9_tick_6 (by decide) (fun c_100 => absurd c_100 (by decide)) (fun c_100 => ?_)
        refine lv_aload_n hx hb dX9_tick_9 rfl (lv_at hl 2 rfl) ?_
        have ha_101 := tx_1 hT hG
        refine va_get (D := DG E) (ci := 9) (v := .ref (R h0 1)) (C := RX9) (T := TX9) (N := 3) hx hb hts iw_X9 hown hK.1 (va_one ha_101) 0 rfl rfl 1 (by decide) (hts _ fl_X9_29) (fun _ h9 => h9) rfl dX9_tick_10 ?_
        refine lv_iload_n hx hb dX9_tick_13 rfl (lv_at hl 0 rfl) ?_
        have ha_102 := tx_3 hT hg_3
        have hg_103 : G (R (R h0 1) 3) = 8 := (tw_3 hW hg_3) 3 (by decide)
        refine va_aldq (D := DG E) hx hb hK.1 (va_one ha_102) 0 5 rfl rfl (show vp_in (3) 4 from vp_in_iff.mpr ⟨by decide, by decide⟩) dX9_tick_14 ?_
        refine W.eq (g2 := F0 m 15 ls [.ref (R (R h0 1) 3)]) (by rfl) ?_
        have ha_104 := tx_8 hT hg_103
        refine va_calli (rnV (fun H => TX E G U_88 R H) (As := []) (rest := []) ⟨hx, hb, hml, hown, hts⟩ (x_X3_failsByTime l E z0 G hGz U_88 R hW (R (R h0 1) 3) hg_103) (cwV 0 hts (gdV ml_X9_162 im_X3_failsByTime se_X3_X3_failsByTime in_X3 co_X3_failsByTime rfl) rfl rfl rfl (by decide +kernel) ⟨Nat.le_of_ble_eq_true rfl, Nat.le_of_ble_eq_true rfl⟩) hT (fun U hU hW => hK.go hW hS hAz hU) (va_recv hK.1 (va_one ha_104) (ci := 3) (q0 := 0) rfl rfl) rfl rfl hl.1 rfl (lv_room (Nat.le_of_ble_eq_true rfl)) dX9_tick_15 ⟨Nat.le_of_ble_eq_true rfl, Nat.le_of_ble_eq_true rfl⟩) hS (fun q _ h => mL (L' := [8, 5, 15, 11, 10, 9]) (L := [8, 5, 15, 11, 10, 9]) (by decide) h) (fun q h => mL (L' := [8, 5, 15, 11, 10, 9]) (L := [8, 5, 15, 11, 10, 9]) (by decide) h) (fun r_105 U_106 t H locs ht hvm hwr_105 hB hz hk hS => ?_)
        have hT : TX E G U_106 R H := by rw [ht] at hB; exact hB
        have hWr_105 : TW G U_106 R := hwr_105.1
        have hW := hWr_105
        have hFr_105 : Fr G [8, 5, 15, 11, 10, 9] U_88 U_106 := hwr_105.2.1
        have hbr_105 : r_105 = 0 ∨ r_105 = 1 := hwr_105.2.2.1
        have hCr_105 : C_X3_failsByTime G U_88 R (R (R h0 1) 3) U_106 r_105 := hwr_105.2.2.2
        have hzr_105 := s_rng hbr_105
        refine lv_if_eq (tgt := 24) hx hb dX9_tick_18 (by decide) (fun c_107 => ?_) (fun c_107 => ?_)
        · simp only [lt_I, le_I, eq_I, i_0, i_1, i_2, i_3, i_4, i_5, i_6, i_7, i_8, i_10, i_12, i_16, i_20, i_23, i_24, i_31, i_32, i_63, i_64, i_m1] at c_107
          refine lv_iinc (v := 4) (lv' := [(2, .int 4), (1, .int 2), (0, .ref h0)]) hx hb dX9_tick_24 hl (k := 0) rfl (by decide) (by decide) rfl (fun ls hl => ?_)
          refine lv_goto (tgt := 4) hx hb dX9_tick_27 (by decide) ?_
          refine lv_iload_n hx hb dX9_tick_4 rfl (lv_at hl 0 rfl) ?_
          refine lv_iconst (v := 4) hx hb dX9_tick_5 (by decide) ?_
          refine lv_icmp_ge (tgt := 30) hx hb dX9_tick_6 (by decide) (fun c_108 => ?_) (fun c_108 => absurd c_108 (by decide))
          refine lv_iload_n hx hb dX9_tick_30 rfl (lv_at hl 1 rfl) ?_
          exact W.iret (v := 2) hx hb hr (fun t ht hW9 => ⟨⟨2, U_106, rfl, ⟨hW, (Fr.c (Fr.c (Fr.c (Fr.c Fr.rf hFr_7 (by decide)) hFr_79 (by decide)) hFr_87 (by decide)) hFr_105 (by decide)), (Or.inr (Or.inr (Or.inr (Or.inr (Or.inr (Or.inr (Or.inr (Or.inr (Or.inr (Or.inr (Or.inl ⟨r_7, U_8, hFr_7, hCr_7, c_9, r_79, U_80, hFr_79, hCr_79, c_81, r_87, U_88, hFr_87, hCr_87, c_89, r_105, U_106, hFr_105, hCr_105, c_107, rfl, rfl⟩)))))))))))⟩, (by show TX E G U_106 R t.heap; rw [ht]; exact hT)⟩, hS.F ht⟩) hS.2.2 dX9_tick_31
        · simp only [lt_I, le_I, eq_I, i_0, i_1, i_2, i_3, i_4, i_5, i_6, i_7, i_8, i_10, i_12, i_16, i_20, i_23, i_24, i_31, i_32, i_63, i_64, i_m1] at c_107
          refine lv_iinc (v := 3) (lv' := [(1, .int 3), (2, .int 3), (0, .ref h0)]) hx hb dX9_tick_21 hl (k := 1) rfl (by decide) (by decide) rfl (fun ls hl => ?_)
          refine lv_iinc (v := 4) (lv' := [(2, .int 4), (1, .int 3), (0, .ref h0)]) hx hb dX9_tick_24 hl (k := 1) rfl (by decide) (by decide) rfl (fun ls hl => ?_)
          refine lv_goto (tgt := 4) hx hb dX9_tick_27 (by decide) ?_
          refine lv_iload_n hx hb dX9_tick_4 rfl (lv_at hl 0 rfl) ?_
          refine lv_iconst (v := 4) hx hb dX9_tick_5 (by decide) ?_
          refine lv_icmp_ge (tgt := 30) hx hb dX9_tick_6 (by decide) (fun c_109 => ?_) (fun c_109 => absurd c_109 (by decide))
          refine lv_iload_n hx hb dX9_tick_30 rfl (lv_at hl 1 rfl) ?_
          exact W.iret (v := 3) hx hb hr (fun t ht hW9 => ⟨⟨3, U_106, rfl, ⟨hW, (Fr.c (Fr.c (Fr.c (Fr.c Fr.rf hFr_7 (by decide)) hFr_79 (by decide)) hFr_87 (by decide)) hFr_105 (by decide)), (Or.inr (Or.inr (Or.inr (Or.inr (Or.inr (Or.inr (Or.inr (Or.inr (Or.inr (Or.inr (Or.inr (Or.inl ⟨r_7, U_8, hFr_7, hCr_7, c_9, r_79, U_80, hFr_79, hCr_79, c_81, r_87, U_88, hFr_87, hCr_87, c_89, r_105, U_106, hFr_105, hCr_105, c_107, rfl, rfl⟩))))))))))))⟩, (by show TX E G U_106 R t.heap; rw [ht]; exact hT)⟩, hS.F ht⟩) hS.2.2 dX9_tick_31
    · simp only [lt_I, le_I, eq_I, i_0, i_1, i_2, i_3, i_4, i_5, i_6, i_7, i_8, i_10, i_12, i_16, i_20, i_23, i_24, i_31, i_32, i_63, i_64, i_m1] at c_81
      refine lv_iinc (v := 2) (lv' := [(1, .int 2), (2, .int 1), (0, .ref h0)]) hx hb dX9_tick_21 hl (k := 1) rfl (by decide) (by decide) rfl (fun ls hl => ?_)
      refine lv_iinc (v := 2) (lv' := [(2, .int 2), (1, .int 2), (0, .ref h0)]) hx hb dX9_tick_24 hl (k := 1) rfl (by decide) (by decide) rfl (fun ls hl => ?_)
      refine lv_goto (tgt := 4) hx hb dX9_tick_27 (by decide) ?_
      refine lv_iload_n hx hb dX9_tick_4 rfl (lv_at hl 0 rfl) ?_
      refine lv_iconst (v := 4) hx hb dX9_tick_5 (by decide) ?_
      refine lv_icmp_ge (tgt := 30) hx hb dX9_tick_6 (by decide) (fun c_110 => absurd c_110 (by decide)) (fun c_110 => ?_)
      refine lv_aload_n hx hb dX9_tick_9 rfl (lv_at hl 2 rfl) ?_
      have ha_111 := tx_1 hT hG
      refine va_get (D := DG E) (ci := 9) (v := .ref (R h0 1)) (C := RX9) (T := TX9) (N := 3) hx hb hts iw_X9 hown hK.1 (va_one ha_111) 0 rfl rfl 1 (by decide) (hts _ fl_X9_29) (fun _ h9 => h9) rfl dX9_tick_10 ?_
      refine lv_iload_n hx hb dX9_tick_13 rfl (lv_at hl 0 rfl) ?_
      have ha_112 := tx_3 hT hg_3
      have hg_113 : G (R (R h0 1) 2) = 8 := (tw_3 hW hg_3) 2 (by decide)
      refine va_aldq (D := DG E) hx hb hK.1 (va_one ha_112) 0 5 rfl rfl (show vp_in (2) 4 from vp_in_iff.mpr ⟨by decide, by decide⟩) dX9_tick_14 ?_
      refine W.eq (g2 := F0 m 15 ls [.ref (R (R h0 1) 2)]) (by rfl) ?_
      have ha_114 := tx_8 hT hg_113
      refine va_calli (rnV (fun H => TX E G U_80 R H) (As := []) (rest := []) ⟨hx, hb, hml, hown, hts⟩ (x_X3_failsByTime l E z0 G hGz U_80 R hW (R (R h0 1) 2) hg_113) (cwV 0 hts (gdV ml_X9_162 im_X3_failsByTime se_X3_X3_failsByTime in_X3 co_X3_failsByTime rfl) rfl rfl rfl (by decide +kernel) ⟨Nat.le_of_ble_eq_true rfl, Nat.le_of_ble_eq_true rfl⟩) hT (fun U hU hW => hK.go hW hS hAz hU) (va_recv hK.1 (va_one ha_114) (ci := 3) (q0 := 0) rfl rfl) rfl rfl hl.1 rfl (lv_room (Nat.le_of_ble_eq_true rfl)) dX9_tick_15 ⟨Nat.le_of_ble_eq_true rfl, Nat.le_of_ble_eq_true rfl⟩) hS (fun q _ h => mL (L' := [8, 5, 15, 11, 10, 9]) (L := [8, 5, 15, 11, 10, 9]) (by decide) h) (fun q h => mL (L' := [8, 5, 15, 11, 10, 9]) (L := [8, 5, 15, 11, 10, 9]) (by decide) h) (fun r_115 U_116 t H locs ht hvm hwr_115 hB hz hk hS => ?_)
      have hT : TX E G U_116 R H := by rw [ht] at hB; exact hB
      have hWr_115 : TW G U_116 R := hwr_115.1
      have hW := hWr_115
      have hFr_115 : Fr G [8, 5, 15, 11, 10, 9] U_80 U_116 := hwr_115.2.1
      have hbr_115 : r_115 = 0 ∨ r_115 = 1 := hwr_115.2.2.1
      have hCr_115 : C_X3_failsByTime G U_80 R (R (R h0 1) 2) U_116 r_115 := hwr_115.2.2.2
      have hzr_115 := s_rng hbr_115
      refine lv_if_eq (tgt := 24) hx hb dX9_tick_18 (by decide) (fun c_117 => ?_) (fun c_117 => ?_)
      · simp only [lt_I, le_I, eq_I, i_0, i_1, i_2, i_3, i_4, i_5, i_6, i_7, i_8, i_10, i_12, i_16, i_20, i_23, i_24, i_31, i_32, i_63, i_64, i_m1] at c_117
        refine lv_iinc (v := 3) (lv' := [(2, .int 3), (1, .int 2), (0, .ref h0)]) hx hb dX9_tick_24 hl (k := 0) rfl (by decide) (by decide) rfl (fun ls hl => ?_)
        refine lv_goto (tgt := 4) hx hb dX9_tick_27 (by decide) ?_
        refine lv_iload_n hx hb dX9_tick_4 rfl (lv_at hl 0 rfl) ?_
        refine lv_iconst (v := 4) hx hb dX9_tick_5 (by decide) ?_
        refine lv_icmp_ge (tgt := 30) hx hb dX9_tick_6 (by decide) (fun c_118 => absurd c_118 (by decide)) (fun c_118 => ?_)
        refine lv_aload_n hx hb dX9_tick_9 rfl (lv_at hl 2 rfl) ?_
        have ha_119 := tx_1 hT hG
        refine va_get (D := DG E) (ci := 9) (v := .ref (R h0 1)) (C := RX9) (T := TX9) (N := 3) hx hb hts iw_X9 hown hK.1 (va_one ha_119) 0 rfl rfl 1 (by decide) (hts _ fl_X9_29) (fun _ h9 => h9) rfl dX9_tick_10 ?_
        refine lv_iload_n hx hb dX9_tick_13 rfl (lv_at hl 0 rfl) ?_
        have ha_120 := tx_3 hT hg_3
        have hg_121 : G (R (R h0 1) 3) = 8 := (tw_3 hW hg_3) 3 (by decide)
        refine va_aldq (D := DG E) hx hb hK.1 (va_one ha_120) 0 5 rfl rfl (show vp_in (3) 4 from vp_in_iff.mpr ⟨by decide, by decide⟩) dX9_tick_14 ?_
        refine W.eq (g2 := F0 m 15 ls [.ref (R (R h0 1) 3)]) (by rfl) ?_
        have ha_122 := tx_8 hT hg_121
        refine va_calli (rnV (fun H => TX E G U_116 R H) (As := []) (rest := []) ⟨hx, hb, hml, hown, hts⟩ (x_X3_failsByTime l E z0 G hGz U_116 R hW (R (R h0 1) 3) hg_121) (cwV 0 hts (gdV ml_X9_162 im_X3_failsByTime se_X3_X3_failsByTime in_X3 co_X3_failsByTime rfl) rfl rfl rfl (by decide +kernel) ⟨Nat.le_of_ble_eq_true rfl, Nat.le_of_ble_eq_true rfl⟩) hT (fun U hU hW => hK.go hW hS hAz hU) (va_recv hK.1 (va_one ha_122) (ci := 3) (q0 := 0) rfl rfl) rfl rfl hl.1 rfl (lv_room (Nat.le_of_ble_eq_true rfl)) dX9_tick_15 ⟨Nat.le_of_ble_eq_true rfl, Nat.le_of_ble_eq_true rfl⟩) hS (fun q _ h => mL (L' := [8, 5, 15, 11, 10, 9]) (L := [8, 5, 15, 11, 10, 9]) (by decide) h) (fun q h => mL (L' := [8, 5, 15, 11, 10, 9]) (L := [8, 5, 15, 11, 10, 9]) (by decide) h) (fun r_123 U_124 t H locs ht hvm hwr_123 hB hz hk hS => ?_)
        have hT : TX E G U_124 R H := by rw [ht] at hB; exact hB
        have hWr_123 : TW G U_124 R := hwr_123.1
        have hW := hWr_123
        have hFr_123 : Fr G [8, 5, 15, 11, 10, 9] U_116 U_124 := hwr_123.2.1
        have hbr_123 : r_123 = 0 ∨ r_123 = 1 := hwr_123.2.2.1
        have hCr_123 : C_X3_failsByTime G U_116 R (R (R h0 1) 3) U_124 r_123 := hwr_123.2.2.2
        have hzr_123 := s_rng hbr_123
        refine lv_if_eq (tgt := 24) hx hb dX9_tick_18 (by decide) (fun c_125 => ?_) (fun c_125 => ?_)
        · simp only [lt_I, le_I, eq_I, i_0, i_1, i_2, i_3, i_4, i_5, i_6, i_7, i_8, i_10, i_12, i_16, i_20, i_23, i_24, i_31, i_32, i_63, i_64, i_m1] at c_125
          refine lv_iinc (v := 4) (lv' := [(2, .int 4), (1, .int 2), (0, .ref h0)]) hx hb dX9_tick_24 hl (k := 0) rfl (by decide) (by decide) rfl (fun ls hl => ?_)
          refine lv_goto (tgt := 4) hx hb dX9_tick_27 (by decide) ?_
          refine lv_iload_n hx hb dX9_tick_4 rfl (lv_at hl 0 rfl) ?_
          refine lv_iconst (v := 4) hx hb dX9_tick_5 (by decide) ?_
          refine lv_icmp_ge (tgt := 30) hx hb dX9_tick_6 (by decide) (fun c_126 => ?_) (fun c_126 => absurd c_126 (by decide))
          refine lv_iload_n hx hb dX9_tick_30 rfl (lv_at hl 1 rfl) ?_
          exact W.iret (v := 2) hx hb hr (fun t ht hW9 => ⟨⟨2, U_124, rfl, ⟨hW, (Fr.c (Fr.c (Fr.c (Fr.c Fr.rf hFr_7 (by decide)) hFr_79 (by decide)) hFr_115 (by decide)) hFr_123 (by decide)), (Or.inr (Or.inr (Or.inr (Or.inr (Or.inr (Or.inr (Or.inr (Or.inr (Or.inr (Or.inr (Or.inr (Or.inr (Or.inl ⟨r_7, U_8, hFr_7, hCr_7, c_9, r_79, U_80, hFr_79, hCr_79, c_81, r_115, U_116, hFr_115, hCr_115, c_117, r_123, U_124, hFr_123, hCr_123, c_125, rfl, rfl⟩)))))))))))))⟩, (by show TX E G U_124 R t.heap; rw [ht]; exact hT)⟩, hS.F ht⟩) hS.2.2 dX9_tick_31
        · simp only [lt_I, le_I, eq_I, i_0, i_1, i_2, i_3, i_4, i_5, i_6, i_7, i_8, i_10, i_12, i_16, i_20, i_23, i_24, i_31, i_32, i_63, i_64, i_m1] at c_125
          refine lv_iinc (v := 3) (lv' := [(1, .int 3), (2, .int 3), (0, .ref h0)]) hx hb dX9_tick_21 hl (k := 1) rfl (by decide) (by decide) rfl (fun ls hl => ?_)
          refine lv_iinc (v := 4) (lv' := [(2, .int 4), (1, .int 3), (0, .ref h0)]) hx hb dX9_tick_24 hl (k := 1) rfl (by decide) (by decide) rfl (fun ls hl => ?_)
          refine lv_goto (tgt := 4) hx hb dX9_tick_27 (by decide) ?_
          refine lv_iload_n hx hb dX9_tick_4 rfl (lv_at hl 0 rfl) ?_
          refine lv_iconst (v := 4) hx hb dX9_tick_5 (by decide) ?_
          refine lv_icmp_ge (tgt := 30) hx hb dX9_tick_6 (by decide) (fun c_127 => ?_) (fun c_127 => absurd c_127 (by decide))
          refine lv_iload_n hx hb dX9_tick_30 rfl (lv_at hl 1 rfl) ?_
          exact W.iret (v := 3) hx hb hr (fun t ht hW9 => ⟨⟨3, U_124, rfl, ⟨hW, (Fr.c (Fr.c (Fr.c (Fr.c Fr.rf hFr_7 (by decide)) hFr_79 (by decide)) hFr_115 (by decide)) hFr_123 (by decide)), (Or.inr (Or.inr (Or.inr (Or.inr (Or.inr (Or.inr (Or.inr (Or.inr (Or.inr (Or.inr (Or.inr (Or.inr (Or.inr (Or.inl ⟨r_7, U_8, hFr_7, hCr_7, c_9, r_79, U_80, hFr_79, hCr_79, c_81, r_115, U_116, hFr_115, hCr_115, c_117, r_123, U_124, hFr_123, hCr_123, c_125, rfl, rfl⟩))))))))))))))⟩, (by show TX E G U_124 R t.heap; rw [ht]; exact hT)⟩, hS.F ht⟩) hS.2.2 dX9_tick_31
      · simp only [lt_I, le_I, eq_I, i_0, i_1, i_2, i_3, i_4, i_5, i_6, i_7, i_8, i_10, i_12, i_16, i_20, i_23, i_24, i_31, i_32, i_63, i_64, i_m1] at c_117
        refine lv_iinc (v := 3) (lv' := [(1, .int 3), (2, .int 2), (0, .ref h0)]) hx hb dX9_tick_21 hl (k := 1) rfl (by decide) (by decide) rfl (fun ls hl => ?_)
        refine lv_iinc (v := 3) (lv' := [(2, .int 3), (1, .int 3), (0, .ref h0)]) hx hb dX9_tick_24 hl (k := 1) rfl (by decide) (by decide) rfl (fun ls hl => ?_)
        refine lv_goto (tgt := 4) hx hb dX9_tick_27 (by decide) ?_
        refine lv_iload_n hx hb dX9_tick_4 rfl (lv_at hl 0 rfl) ?_
        refine lv_iconst (v := 4) hx hb dX9_tick_5 (by decide) ?_
        refine lv_icmp_ge (tgt := 30) hx hb dX9_tick_6 (by decide) (fun c_128 => absurd c_128 (by decide)) (fun c_128 => ?_)
        refine lv_aload_n hx hb dX9_tick_9 rfl (lv_at hl 2 rfl) ?_
        have ha_129 := tx_1 hT hG
        refine va_get (D := DG E) (ci := 9) (v := .ref (R h0 1)) (C := RX9) (T := TX9) (N := 3) hx hb hts iw_X9 hown hK.1 (va_one ha_129) 0 rfl rfl 1 (by decide) (hts _ fl_X9_29) (fun _ h9 => h9) rfl dX9_tick_10 ?_
        refine lv_iload_n hx hb dX9_tick_13 rfl (lv_at hl 0 rfl) ?_
        have ha_130 := tx_3 hT hg_3
        have hg_131 : G (R (R h0 1) 3) = 8 := (tw_3 hW hg_3) 3 (by decide)
        refine va_aldq (D := DG E) hx hb hK.1 (va_one ha_130) 0 5 rfl rfl (show vp_in (3) 4 from vp_in_iff.mpr ⟨by decide, by decide⟩) dX9_tick_14 ?_
        refine W.eq (g2 := F0 m 15 ls [.ref (R (R h0 1) 3)]) (by rfl) ?_
        have ha_132 := tx_8 hT hg_131
        refine va_calli (rnV (fun H => TX E G U_116 R H) (As := []) (rest := []) ⟨hx, hb, hml, hown, hts⟩ (x_X3_failsByTime l E z0 G hGz U_116 R hW (R (R h0 1) 3) hg_131) (cwV 0 hts (gdV ml_X9_162 im_X3_failsByTime se_X3_X3_failsByTime in_X3 co_X3_failsByTime rfl) rfl rfl rfl (by decide +kernel) ⟨Nat.le_of_ble_eq_true rfl, Nat.le_of_ble_eq_true rfl⟩) hT (fun U hU hW => hK.go hW hS hAz hU) (va_recv hK.1 (va_one ha_132) (ci := 3) (q0 := 0) rfl rfl) rfl rfl hl.1 rfl (lv_room (Nat.le_of_ble_eq_true rfl)) dX9_tick_15 ⟨Nat.le_of_ble_eq_true rfl, Nat.le_of_ble_eq_true rfl⟩) hS (fun q _ h => mL (L' := [8, 5, 15, 11, 10, 9]) (L := [8, 5, 15, 11, 10, 9]) (by decide) h) (fun q h => mL (L' := [8, 5, 15, 11, 10, 9]) (L := [8, 5, 15, 11, 10, 9]) (by decide) h) (fun r_133 U_134 t H locs ht hvm hwr_133 hB hz hk hS => ?_)
        have hT : TX E G U_134 R H := by rw [ht] at hB; exact hB
        have hWr_133 : TW G U_134 R := hwr_133.1
        have hW := hWr_133
        have hFr_133 : Fr G [8, 5, 15, 11, 10, 9] U_116 U_134 := hwr_133.2.1
        have hbr_133 : r_133 = 0 ∨ r_133 = 1 := hwr_133.2.2.1
        have hCr_133 : C_X3_failsByTime G U_116 R (R (R h0 1) 3) U_134 r_133 := hwr_133.2.2.2
        have hzr_133 := s_rng hbr_133
        refine lv_if_eq (tgt := 24) hx hb dX9_tick_18 (by decide) (fun c_135 => ?_) (fun c_135 => ?_)
        · simp only [lt_I, le_I, eq_I, i_0, i_1, i_2, i_3, i_4, i_5, i_6, i_7, i_8, i_10, i_12, i_16, i_20, i_23, i_24, i_31, i_32, i_63, i_64, i_m1] at c_135
          refine lv_iinc (v := 4) (lv' := [(2, .int 4), (1, .int 3), (0, .ref h0)]) hx hb dX9_tick_24 hl (k := 0) rfl (by decide) (by decide) rfl (fun ls hl => ?_)
          refine lv_goto (tgt := 4) hx hb dX9_tick_27 (by decide) ?_
          refine lv_iload_n hx hb dX9_tick_4 rfl (lv_at hl 0 rfl) ?_
          refine lv_iconst (v := 4) hx hb dX9_tick_5 (by decide) ?_
          refine lv_icmp_ge (tgt := 30) hx hb dX9_tick_6 (by decide) (fun c_136 => ?_) (fun c_136 => absurd c_136 (by decide))
          refine lv_iload_n hx hb dX9_tick_30 rfl (lv_at hl 1 rfl) ?_
          exact W.iret (v := 3) hx hb hr (fun t ht hW9 => ⟨⟨3, U_134, rfl, ⟨hW, (Fr.c (Fr.c (Fr.c (Fr.c Fr.rf hFr_7 (by decide)) hFr_79 (by decide)) hFr_115 (by decide)) hFr_133 (by decide)), (Or.inr (Or.inr (Or.inr (Or.inr (Or.inr (Or.inr (Or.inr (Or.inr (Or.inr (Or.inr (Or.inr (Or.inr (Or.inr (Or.inr (Or.inl ⟨r_7, U_8, hFr_7, hCr_7, c_9, r_79, U_80, hFr_79, hCr_79, c_81, r_115, U_116, hFr_115, hCr_115, c_117, r_133, U_134, hFr_133, hCr_133, c_135, rfl, rfl⟩)))))))))))))))⟩, (by show TX E G U_134 R t.heap; rw [ht]; exact hT)⟩, hS.F ht⟩) hS.2.2 dX9_tick_31
        · simp only [lt_I, le_I, eq_I, i_0, i_1, i_2, i_3, i_4, i_5, i_6, i_7, i_8, i_10, i_12, i_16, i_20, i_23, i_24, i_31, i_32, i_63, i_64, i_m1] at c_135
          refine lv_iinc (v := 4) (lv' := [(1, .int 4), (2, .int 3), (0, .ref h0)]) hx hb dX9_tick_21 hl (k := 1) rfl (by decide) (by decide) rfl (fun ls hl => ?_)
          refine lv_iinc (v := 4) (lv' := [(2, .int 4), (1, .int 4), (0, .ref h0)]) hx hb dX9_tick_24 hl (k := 1) rfl (by decide) (by decide) rfl (fun ls hl => ?_)
          refine lv_goto (tgt := 4) hx hb dX9_tick_27 (by decide) ?_
          refine lv_iload_n hx hb dX9_tick_4 rfl (lv_at hl 0 rfl) ?_
          refine lv_iconst (v := 4) hx hb dX9_tick_5 (by decide) ?_
          refine lv_icmp_ge (tgt := 30) hx hb dX9_tick_6 (by decide) (fun c_137 => ?_) (fun c_137 => absurd c_137 (by decide))
          refine lv_iload_n hx hb dX9_tick_30 rfl (lv_at hl 1 rfl) ?_
          exact W.iret (v := 4) hx hb hr (fun t ht hW9 => ⟨⟨4, U_134, rfl, ⟨hW, (Fr.c (Fr.c (Fr.c (Fr.c Fr.rf hFr_7 (by decide)) hFr_79 (by decide)) hFr_115 (by decide)) hFr_133 (by decide)), (Or.inr (Or.inr (Or.inr (Or.inr (Or.inr (Or.inr (Or.inr (Or.inr (Or.inr (Or.inr (Or.inr (Or.inr (Or.inr (Or.inr (Or.inr ⟨r_7, U_8, hFr_7, hCr_7, c_9, r_79, U_80, hFr_79, hCr_79, c_81, r_115, U_116, hFr_115, hCr_115, c_117, r_133, U_134, hFr_133, hCr_133, c_135, rfl, rfl⟩)))))))))))))))⟩, (by show TX E G U_134 R t.heap; rw [ht]; exact hT)⟩, hS.F ht⟩) hS.2.2 dX9_tick_31
theorem dX9_packets_0 : decode cX9_packets 0 = .ok (.aload_n 0, 1) := by decide +kernel
theorem dX9_packets_1 : decode cX9_packets 1 = .ok (.getfield 16, 3) := by decide +kernel
theorem dX9_packets_4 : decode cX9_packets 4 = .ok (.getfield 165, 3) := by decide +kernel
theorem dX9_packets_7 : decode cX9_packets 7 = .ok (.ireturn, 1) := by decide +kernel
set_option maxHeartbeats 8000000 in
set_option maxRecDepth 100000 in
theorem x_X9_packets (l : Launch) (E : EE) (z0 : Nat) (G : Nat → Nat) (hGz : ∀ q, G q ≠ 0 → z0 ≤ q) (B : AA) (R : RR) (hW : TW G B R) (h0 : Nat) (hG : G h0 = 1) : Met l yX9_packets [Cond.code yX9_packets cX9_packets 1 (some .int)] ({ frames := 0, cells := 0, slots := 0, locals := 0 } : Room) (va_Pc [.ref h0] (fun U => TX E G B R U.heap ∧ KS E z0 U)) (va_Qi (fun (r : Int32) (u : Unit) => (C_X9_packets G B R h0 r)) (fun u t => True) (fun _ : Nat => False)) 0 0 (fun _ : Nat => False) := by
  refine Met.ofW (cc := cX9_packets) (maxL := 1) (ret := (some .int)) (by decide) rfl ?_
  intro p e s m args below meth c s₁ B9 hml hv
  obtain ⟨rfl, hT, hK⟩ := hv
  have hx := B9.exec
  have hb := B9.bytes
  have hr := B9.returns
  have hts : ∀ w ∈ TS, w.before ([.ref h0] : List Value).toArray s = true := fun w hw => hK.2.1 w hw _
  have hown : s.vm.findClass RX9 = some m.cls := findClass_of_methodNamed B9.named
  have hlocks := B9.notSynchronized
  have hS : va_S (fun _ : Nat => False) s.heap s.heap [] := va_S.rf
  have hAz : ∀ q, (fun _ : Nat => False) q → z0 ≤ q := fun _ h => h.elim
  have hW_0 := hW
  have hl := lv_entry ([.ref h0]) (n := 1) (Nat.le_of_ble_eq_true rfl)
  rw [lg_entry_eq]
  generalize (lg_sl ([.ref h0]) ++ List.replicate (1 - (lg_sl ([.ref h0])).length) Slot.unset).toArray = ls at hl ⊢
  have hl : lv_has ls 1 [(0, .ref h0)] := hl
  refine lv_aload_n hx hb dX9_packets_0 rfl (lv_at hl 0 rfl) ?_
  have ha_1 := tx_1 hT hG
  have hg_2 : G (R h0 2) = 4 := (tw_1 hW hG).2.2
  refine va_get (D := DG E) (ci := 9) (v := .ref (R h0 2)) (C := RX9) (T := TX9) (N := 3) hx hb hts iw_X9 hown hK.1 (va_one ha_1) 0 rfl rfl 2 (by decide) (hts _ fl_X9_16) (fun _ h9 => h9) rfl dX9_packets_1 ?_
  have ha_3 := tx_4 hT hg_2
  have hb_4 := (tw_4 hW_0 hg_2).2.1
  refine va_get (D := DG E) (ci := 0) (v := .int (B (R h0 2) 1)) (C := RX0) (T := TX0) (N := 4) hx hb hts iw_X0 hown hK.1 (va_one ha_3) 0 rfl rfl 1 (by decide) (hts _ fl_X9_165) (fun _ h9 => h9) rfl dX9_packets_4 ?_
  exact W.iret (v := (B (R h0 2) 1)) hx hb hr (fun t ht hW9 => ⟨⟨(B (R h0 2) 1), (), rfl, rfl, trivial⟩, hS.F ht⟩) hS.2.2 dX9_packets_7
theorem dX9_packet_0 : decode cX9_packet 0 = .ok (.aload_n 0, 1) := by decide +kernel
theorem dX9_packet_1 : decode cX9_packet 1 = .ok (.getfield 16, 3) := by decide +kernel
theorem dX9_packet_4 : decode cX9_packet 4 = .ok (.iload_n 1, 1) := by decide +kernel
theorem dX9_packet_5 : decode cX9_packet 5 = .ok (.invokevirtual 139, 3) := by decide +kernel
theorem dX9_packet_8 : decode cX9_packet 8 = .ok (.ifCond .eq 19, 3) := by decide +kernel
theorem dX9_packet_11 : decode cX9_packet 11 = .ok (.aload_n 0, 1) := by decide +kernel
theorem dX9_packet_12 : decode cX9_packet 12 = .ok (.getfield 16, 3) := by decide +kernel
theorem dX9_packet_15 : decode cX9_packet 15 = .ok (.getfield 168, 3) := by decide +kernel
theorem dX9_packet_18 : decode cX9_packet 18 = .ok (.iload_n 1, 1) := by decide +kernel
theorem dX9_packet_19 : decode cX9_packet 19 = .ok (.aaload, 1) := by decide +kernel
theorem dX9_packet_20 : decode cX9_packet 20 = .ok (.iload_n 2, 1) := by decide +kernel
theorem dX9_packet_21 : decode cX9_packet 21 = .ok (.invokevirtual 172, 3) := by decide +kernel
theorem dX9_packet_24 : decode cX9_packet 24 = .ok (.goto 4, 3) := by decide +kernel
theorem dX9_packet_27 : decode cX9_packet 27 = .ok (.iconst (-1), 1) := by decide +kernel
theorem dX9_packet_28 : decode cX9_packet 28 = .ok (.ireturn, 1) := by decide +kernel
set_option maxHeartbeats 8000000 in
set_option maxRecDepth 100000 in
theorem x_X9_packet (l : Launch) (E : EE) (z0 : Nat) (G : Nat → Nat) (hGz : ∀ q, G q ≠ 0 → z0 ≤ q) (B : AA) (R : RR) (hW : TW G B R) (h0 : Nat) (p0 : Int32) (p1 : Int32) (hG : G h0 = 1) : Met l yX9_packet [Cond.code yX9_packet cX9_packet 3 (some .int)] ({ frames := 1, cells := 0, slots := 0, locals := 21 } : Room) (va_Pc [.ref h0, .int p0, .int p1] (fun U => TX E G B R U.heap ∧ KS E z0 U)) (va_Qi (fun (r : Int32) (u : Unit) => (C_X9_packet G B R h0 p0 p1 r)) (fun u t => True) (fun _ : Nat => False)) 0 0 (fun _ : Nat => False) := by
  refine Met.ofW (cc := cX9_packet) (maxL := 3) (ret := (some .int)) (by decide) rfl ?_
  intro p e s m args below meth c s₁ B9 hml hv
  obtain ⟨rfl, hT, hK⟩ := hv
  have hx := B9.exec
  have hb := B9.bytes
  have hr := B9.returns
  have hts : ∀ w ∈ TS, w.before ([.ref h0, .int p0, .int p1] : List Value).toArray s = true := fun w hw => hK.2.1 w hw _
  have hown : s.vm.findClass RX9 = some m.cls := findClass_of_methodNamed B9.named
  have hlocks := B9.notSynchronized
  have hS : va_S (fun _ : Nat => False) s.heap s.heap [] := va_S.rf
  have hAz : ∀ q, (fun _ : Nat => False) q → z0 ≤ q := fun _ h => h.elim
  have hW_0 := hW
  have hl := lv_entry ([.ref h0, .int p0, .int p1]) (n := 3) (Nat.le_of_ble_eq_true rfl)
  rw [lg_entry_eq]
  generalize (lg_sl ([.ref h0, .int p0, .int p1]) ++ List.replicate (3 - (lg_sl ([.ref h0, .int p0, .int p1])).length) Slot.unset).toArray = ls at hl ⊢
  have hl : lv_has ls 3 [(0, .ref h0), (1, .int p0), (2, .int p1)] := hl
  refine lv_aload_n hx hb dX9_packet_0 rfl (lv_at hl 0 rfl) ?_
  have ha_1 := tx_1 hT hG
  have hg_2 : G (R h0 2) = 4 := (tw_1 hW hG).2.2
  refine va_get (D := DG E) (ci := 9) (v := .ref (R h0 2)) (C := RX9) (T := TX9) (N := 3) hx hb hts iw_X9 hown hK.1 (va_one ha_1) 0 rfl rfl 2 (by decide) (hts _ fl_X9_16) (fun _ h9 => h9) rfl dX9_packet_1 ?_
  refine lv_iload_n hx hb dX9_packet_4 rfl (lv_at hl 1 rfl) ?_
  have ha_3 := tx_4 hT hg_2
  refine va_calli (rnV (fun H => TX E G B R H) (As := [.int p0]) (rest := []) ⟨hx, hb, hml, hown, hts⟩ (x_X0_has l E z0 G hGz B R hW (R h0 2) p0 hg_2) (cwV 1 hts (gdV ml_X9_139 im_X0_has se_X0_X0_has in_X0 co_X0_has rfl) rfl rfl rfl (by decide +kernel) ⟨Nat.le_of_ble_eq_true rfl, Nat.le_of_ble_eq_true rfl⟩) hT (fun U hU hW => hK.go hW hS hAz hU) (va_recv hK.1 (va_one ha_3) (ci := 0) (q0 := 0) rfl rfl) rfl rfl hl.1 rfl (lv_room (Nat.le_of_ble_eq_true rfl)) dX9_packet_5 ⟨Nat.le_of_ble_eq_true rfl, Nat.le_of_ble_eq_true rfl⟩) hS (fun q _ h => h.elim) (fun q h => h.elim) (fun r_4 _ t H locs ht hvm hwr_4 hB hz hk hS => ?_)
  have hT : TX E G B R H := hT.kept (fun q hq => hk q hq (fun h => h))
  have hbr_4 : r_4 = 0 ∨ r_4 = 1 := hwr_4.1
  have hp0r_4 : r_4.toInt = 0 ∨ (0 ≤ p0.toInt ∧ p0.toInt < (B (R h0 2) 1).toInt ∧ (B (R h0 2) 1).toInt ≤ 24) := hwr_4.2.1
  have hCr_4 : C_X0_has G B R (R h0 2) p0 r_4 := hwr_4.2.2
  have hzr_4 := s_rng hbr_4
  refine lv_if_eq (tgt := 27) hx hb dX9_packet_8 (by decide) (fun c_5 => ?_) (fun c_5 => ?_)
  · simp only [lt_I, le_I, eq_I, i_0, i_1, i_2, i_3, i_4, i_5, i_6, i_7, i_8, i_10, i_12, i_16, i_20, i_23, i_24, i_31, i_32, i_63, i_64, i_m1] at c_5
    refine lv_iconst (v := (-1)) hx hb dX9_packet_27 (by decide) ?_
    exact W.iret (v := (-1)) hx hb hr (fun t ht hW9 => ⟨⟨(-1), (), rfl, (Or.inl ⟨r_4, hCr_4, c_5, rfl⟩), trivial⟩, hS.F ht⟩) hS.2.2 dX9_packet_28
  · simp only [lt_I, le_I, eq_I, i_0, i_1, i_2, i_3, i_4, i_5, i_6, i_7, i_8, i_10, i_12, i_16, i_20, i_23, i_24, i_31, i_32, i_63, i_64, i_m1] at c_5
    refine lv_aload_n hx hb dX9_packet_11 rfl (lv_at hl 0 rfl) ?_
    have ha_6 := tx_1 hT hG
    refine va_get (D := DG E) (ci := 9) (v := .ref (R h0 2)) (C := RX9) (T := TX9) (N := 3) hx hb hts iw_X9 hown hK.1 (va_one ha_6) 0 rfl rfl 2 (by decide) (hts _ fl_X9_16) (fun _ h9 => h9) rfl dX9_packet_12 ?_
    have ha_7 := tx_4 hT hg_2
    have hg_8 : G (R (R h0 2) 0) = 30 := (tw_4 hW hg_2).1
    refine va_get (D := DG E) (ci := 0) (v := .ref (R (R h0 2) 0)) (C := RX0) (T := TX0) (N := 4) hx hb hts iw_X0 hown hK.1 (va_one ha_7) 0 rfl rfl 0 (by decide) (hts _ fl_X9_168) (fun _ h9 => h9) rfl dX9_packet_15 ?_
    refine lv_iload_n hx hb dX9_packet_18 rfl (lv_at hl 1 rfl) ?_
    have ha_9 := tx_30 hT hg_8
    have hi_10 : vp_in p0 24 := vp_in_iff.mpr (by omega)
    obtain ⟨n_11, hn_11, en_11⟩ := x_nat (x := p0) (by omega)
    have hg_12 : G (R (R (R h0 2) 0) n_11) = 31 := (tw_30 hW hg_8) n_11 (by omega)
    refine va_aldq (D := DG E) hx hb hK.1 (va_one ha_9) 0 7 rfl rfl hi_10 dX9_packet_19 ?_
    refine W.eq (g2 := F0 m 20 ls [.ref (R (R (R h0 2) 0) n_11)]) (by rw [en_11]; rfl) ?_
    refine lv_iload_n hx hb dX9_packet_20 rfl (lv_at hl 2 rfl) ?_
    have ha_13 := tx_31 hT hg_12
    refine va_calli (rnV (fun H => TX E G B R H) (As := [.int p1]) (rest := []) ⟨hx, hb, hml, hown, hts⟩ (x_X2_tell l E z0 G hGz B R hW (R (R (R h0 2) 0) n_11) p1 hg_12) (cwV 1 hts (gdV ml_X9_172 im_X2_tell se_X2_X2_tell in_X2 co_X2_tell rfl) rfl rfl rfl (by decide +kernel) ⟨Nat.le_of_ble_eq_true rfl, Nat.le_of_ble_eq_true rfl⟩) hT (fun U hU hW => hK.go hW hS hAz hU) (va_recv hK.1 (va_one ha_13) (ci := 2) (q0 := 0) rfl rfl) rfl rfl hl.1 rfl (lv_room (Nat.le_of_ble_eq_true rfl)) dX9_packet_21 ⟨Nat.le_of_ble_eq_true rfl, Nat.le_of_ble_eq_true rfl⟩) hS (fun q _ h => h.elim) (fun q h => h.elim) (fun r_14 _ t H locs ht hvm hwr_14 hB hz hk hS => ?_)
    have hT : TX E G B R H := hT.kept (fun q hq => hk q hq (fun h => h))
    have hCr_14 : C_X2_tell G B R (R (R (R h0 2) 0) n_11) p1 r_14 := hwr_14
    refine lv_goto (tgt := 28) hx hb dX9_packet_24 (by decide) ?_
    exact W.iret (v := r_14) hx hb hr (fun t ht hW9 => ⟨⟨r_14, (), rfl, (Or.inr ⟨r_4, hCr_4, c_5, n_11, hn_11, r_14, hCr_14, rfl⟩), trivial⟩, hS.F ht⟩) hS.2.2 dX9_packet_28
theorem dX9_pair_0 : decode cX9_pair 0 = .ok (.iload_n 1, 1) := by decide +kernel
theorem dX9_pair_1 : decode cX9_pair 1 = .ok (.invokestatic 78, 3) := by decide +kernel
theorem dX9_pair_4 : decode cX9_pair 4 = .ok (.ifCond .eq 16, 3) := by decide +kernel
theorem dX9_pair_7 : decode cX9_pair 7 = .ok (.aload_n 0, 1) := by decide +kernel
theorem dX9_pair_8 : decode cX9_pair 8 = .ok (.getfield 29, 3) := by decide +kernel
theorem dX9_pair_11 : decode cX9_pair 11 = .ok (.iload_n 1, 1) := by decide +kernel
theorem dX9_pair_12 : decode cX9_pair 12 = .ok (.aaload, 1) := by decide +kernel
theorem dX9_pair_13 : decode cX9_pair 13 = .ok (.iload_n 2, 1) := by decide +kernel
theorem dX9_pair_14 : decode cX9_pair 14 = .ok (.invokevirtual 175, 3) := by decide +kernel
theorem dX9_pair_17 : decode cX9_pair 17 = .ok (.goto 4, 3) := by decide +kernel
theorem dX9_pair_20 : decode cX9_pair 20 = .ok (.iconst (-1), 1) := by decide +kernel
theorem dX9_pair_21 : decode cX9_pair 21 = .ok (.ireturn, 1) := by decide +kernel
set_option maxHeartbeats 8000000 in
set_option maxRecDepth 100000 in
theorem x_X9_pair (l : Launch) (E : EE) (z0 : Nat) (G : Nat → Nat) (hGz : ∀ q, G q ≠ 0 → z0 ≤ q) (B : AA) (R : RR) (hW : TW G B R) (h0 : Nat) (p0 : Int32) (p1 : Int32) (hG : G h0 = 1) : Met l yX9_pair [Cond.code yX9_pair cX9_pair 3 (some .int)] ({ frames := 1, cells := 0, slots := 0, locals := 21 } : Room) (va_Pc [.ref h0, .int p0, .int p1] (fun U => TX E G B R U.heap ∧ KS E z0 U)) (va_Qi (fun (r : Int32) (u : Unit) => (C_X9_pair G B R h0 p0 p1 r)) (fun u t => True) (fun _ : Nat => False)) 0 0 (fun _ : Nat => False) := by
  refine Met.ofW (cc := cX9_pair) (maxL := 3) (ret := (some .int)) (by decide) rfl ?_
  intro p e s m args below meth c s₁ B9 hml hv
  obtain ⟨rfl, hT, hK⟩ := hv
  have hx := B9.exec
  have hb := B9.bytes
  have hr := B9.returns
  have hts : ∀ w ∈ TS, w.before ([.ref h0, .int p0, .int p1] : List Value).toArray s = true := fun w hw => hK.2.1 w hw _
  have hown : s.vm.findClass RX9 = some m.cls := findClass_of_methodNamed B9.named
  have hlocks := B9.notSynchronized
  have hS : va_S (fun _ : Nat => False) s.heap s.heap [] := va_S.rf
  have hAz : ∀ q, (fun _ : Nat => False) q → z0 ≤ q := fun _ h => h.elim
  have hW_0 := hW
  have hl := lv_entry ([.ref h0, .int p0, .int p1]) (n := 3) (Nat.le_of_ble_eq_true rfl)
  rw [lg_entry_eq]
  generalize (lg_sl ([.ref h0, .int p0, .int p1]) ++ List.replicate (3 - (lg_sl ([.ref h0, .int p0, .int p1])).length) Slot.unset).toArray = ls at hl ⊢
  have hl : lv_has ls 3 [(0, .ref h0), (1, .int p0), (2, .int p1)] := hl
  refine lv_iload_n hx hb dX9_pair_0 rfl (lv_at hl 1 rfl) ?_
  refine W.callR (W.runS (As := [.int p0]) (rest := []) ⟨hx, hb, hml, hown, hts⟩ (c_X9_isPair l p0) (cwS 1 hts (gdS ml_X9_78 st_X9_isPair in_X9 co_X9_isPair rfl) rfl rfl rfl (by decide +kernel) ⟨Nat.le_of_ble_eq_true rfl, Nat.le_of_ble_eq_true rfl⟩) preEq rfl rfl hl.1 rfl (lv_room (Nat.le_of_ble_eq_true rfl)) dX9_pair_1 ⟨Nat.le_of_ble_eq_true rfl, Nat.le_of_ble_eq_true rfl⟩) ?_
  refine W.eq (g2 := F0 m 4 ls [.int (bI (0 ≤ p0.toInt ∧ p0.toInt < 4))]) (by rfl) ?_
  refine lv_if_eq (tgt := 20) hx hb dX9_pair_4 (by decide) (fun c_1 => ?_) (fun c_1 => ?_)
  · have c_1 := bI_0 c_1
    refine lv_iconst (v := (-1)) hx hb dX9_pair_20 (by decide) ?_
    exact W.iret (v := (-1)) hx hb hr (fun t ht hW9 => ⟨⟨(-1), (), rfl, (Or.inl ⟨c_1, rfl⟩), trivial⟩, hS.F ht⟩) hS.2.2 dX9_pair_21
  · have c_1 := bI_n c_1
    refine lv_aload_n hx hb dX9_pair_7 rfl (lv_at hl 0 rfl) ?_
    have ha_2 := tx_1 hT hG
    have hg_3 : G (R h0 1) = 3 := (tw_1 hW hG).2.1
    refine va_get (D := DG E) (ci := 9) (v := .ref (R h0 1)) (C := RX9) (T := TX9) (N := 3) hx hb hts iw_X9 hown hK.1 (va_one ha_2) 0 rfl rfl 1 (by decide) (hts _ fl_X9_29) (fun _ h9 => h9) rfl dX9_pair_8 ?_
    refine lv_iload_n hx hb dX9_pair_11 rfl (lv_at hl 1 rfl) ?_
    have ha_4 := tx_3 hT hg_3
    have hi_5 : vp_in p0 4 := vp_in_iff.mpr (by omega)
    obtain ⟨n_6, hn_6, en_6⟩ := x_nat (x := p0) (by omega)
    have hg_7 : G (R (R h0 1) n_6) = 8 := (tw_3 hW hg_3) n_6 (by omega)
    refine va_aldq (D := DG E) hx hb hK.1 (va_one ha_4) 0 5 rfl rfl hi_5 dX9_pair_12 ?_
    refine W.eq (g2 := F0 m 13 ls [.ref (R (R h0 1) n_6)]) (by rw [en_6]; rfl) ?_
    refine lv_iload_n hx hb dX9_pair_13 rfl (lv_at hl 2 rfl) ?_
    have ha_8 := tx_8 hT hg_7
    refine va_calli (rnV (fun H => TX E G B R H) (As := [.int p1]) (rest := []) ⟨hx, hb, hml, hown, hts⟩ (x_X3_tell l E z0 G hGz B R hW (R (R h0 1) n_6) p1 hg_7) (cwV 1 hts (gdV ml_X9_175 im_X3_tell se_X3_X3_tell in_X3 co_X3_tell rfl) rfl rfl rfl (by decide +kernel) ⟨Nat.le_of_ble_eq_true rfl, Nat.le_of_ble_eq_true rfl⟩) hT (fun U hU hW => hK.go hW hS hAz hU) (va_recv hK.1 (va_one ha_8) (ci := 3) (q0 := 0) rfl rfl) rfl rfl hl.1 rfl (lv_room (Nat.le_of_ble_eq_true rfl)) dX9_pair_14 ⟨Nat.le_of_ble_eq_true rfl, Nat.le_of_ble_eq_true rfl⟩) hS (fun q _ h => h.elim) (fun q h => h.elim) (fun r_9 _ t H locs ht hvm hwr_9 hB hz hk hS => ?_)
    have hT : TX E G B R H := hT.kept (fun q hq => hk q hq (fun h => h))
    have hCr_9 : C_X3_tell G B R (R (R h0 1) n_6) p1 r_9 := hwr_9
    refine lv_goto (tgt := 21) hx hb dX9_pair_17 (by decide) ?_
    exact W.iret (v := r_9) hx hb hr (fun t ht hW9 => ⟨⟨r_9, (), rfl, (Or.inr ⟨c_1, n_6, hn_6, r_9, hCr_9, rfl⟩), trivial⟩, hS.F ht⟩) hS.2.2 dX9_pair_21
theorem dX9_completions_0 : decode cX9_completions 0 = .ok (.iload_n 1, 1) := by decide +kernel
theorem dX9_completions_1 : decode cX9_completions 1 = .ok (.invokestatic 46, 3) := by decide +kernel
theorem dX9_completions_4 : decode cX9_completions 4 = .ok (.ifCond .eq 15, 3) := by decide +kernel
theorem dX9_completions_7 : decode cX9_completions 7 = .ok (.aload_n 0, 1) := by decide +kernel
theorem dX9_completions_8 : decode cX9_completions 8 = .ok (.getfield 22, 3) := by decide +kernel
theorem dX9_completions_11 : decode cX9_completions 11 = .ok (.iload_n 1, 1) := by decide +kernel
theorem dX9_completions_12 : decode cX9_completions 12 = .ok (.aaload, 1) := by decide +kernel
theorem dX9_completions_13 : decode cX9_completions 13 = .ok (.getfield 176, 3) := by decide +kernel
theorem dX9_completions_16 : decode cX9_completions 16 = .ok (.goto 4, 3) := by decide +kernel
theorem dX9_completions_19 : decode cX9_completions 19 = .ok (.iconst (-1), 1) := by decide +kernel
theorem dX9_completions_20 : decode cX9_completions 20 = .ok (.ireturn, 1) := by decide +kernel
set_option maxHeartbeats 8000000 in
set_option maxRecDepth 100000 in
theorem x_X9_completions (l : Launch) (E : EE) (z0 : Nat) (G : Nat → Nat) (hGz : ∀ q, G q ≠ 0 → z0 ≤ q) (B : AA) (R : RR) (hW : TW G B R) (h0 : Nat) (p0 : Int32) (hG : G h0 = 1) : Met l yX9_completions [Cond.code yX9_completions cX9_completions 2 (some .int)] ({ frames := 1, cells := 0, slots := 0, locals := 20 } : Room) (va_Pc [.ref h0, .int p0] (fun U => TX E G B R U.heap ∧ KS E z0 U)) (va_Qi (fun (r : Int32) (u : Unit) => (C_X9_completions G B R h0 p0 r)) (fun u t => True) (fun _ : Nat => False)) 0 0 (fun _ : Nat => False) := by
  refine Met.ofW (cc := cX9_completions) (maxL := 2) (ret := (some .int)) (by decide) rfl ?_
  intro p e s m args below meth c s₁ B9 hml hv
  obtain ⟨rfl, hT, hK⟩ := hv
  have hx := B9.exec
  have hb := B9.bytes
  have hr := B9.returns
  have hts : ∀ w ∈ TS, w.before ([.ref h0, .int p0] : List Value).toArray s = true := fun w hw => hK.2.1 w hw _
  have hown : s.vm.findClass RX9 = some m.cls := findClass_of_methodNamed B9.named
  have hlocks := B9.notSynchronized
  have hS : va_S (fun _ : Nat => False) s.heap s.heap [] := va_S.rf
  have hAz : ∀ q, (fun _ : Nat => False) q → z0 ≤ q := fun _ h => h.elim
  have hW_0 := hW
  have hl := lv_entry ([.ref h0, .int p0]) (n := 2) (Nat.le_of_ble_eq_true rfl)
  rw [lg_entry_eq]
  generalize (lg_sl ([.ref h0, .int p0]) ++ List.replicate (2 - (lg_sl ([.ref h0, .int p0])).length) Slot.unset).toArray = ls at hl ⊢
  have hl : lv_has ls 2 [(0, .ref h0), (1, .int p0)] := hl
  refine lv_iload_n hx hb dX9_completions_0 rfl (lv_at hl 1 rfl) ?_
  refine W.callR (W.runS (As := [.int p0]) (rest := []) ⟨hx, hb, hml, hown, hts⟩ (c_X9_isNode l p0) (cwS 1 hts (gdS ml_X9_46 st_X9_isNode in_X9 co_X9_isNode rfl) rfl rfl rfl (by decide +kernel) ⟨Nat.le_of_ble_eq_true rfl, Nat.le_of_ble_eq_true rfl⟩) preEq rfl rfl hl.1 rfl (lv_room (Nat.le_of_ble_eq_true rfl)) dX9_completions_1 ⟨Nat.le_of_ble_eq_true rfl, Nat.le_of_ble_eq_true rfl⟩) ?_
  refine W.eq (g2 := F0 m 4 ls [.int (bI (0 ≤ p0.toInt ∧ p0.toInt < 2))]) (by rfl) ?_
  refine lv_if_eq (tgt := 19) hx hb dX9_completions_4 (by decide) (fun c_1 => ?_) (fun c_1 => ?_)
  · have c_1 := bI_0 c_1
    refine lv_iconst (v := (-1)) hx hb dX9_completions_19 (by decide) ?_
    exact W.iret (v := (-1)) hx hb hr (fun t ht hW9 => ⟨⟨(-1), (), rfl, (Or.inl ⟨c_1, rfl⟩), trivial⟩, hS.F ht⟩) hS.2.2 dX9_completions_20
  · have c_1 := bI_n c_1
    refine lv_aload_n hx hb dX9_completions_7 rfl (lv_at hl 0 rfl) ?_
    have ha_2 := tx_1 hT hG
    have hg_3 : G (R h0 0) = 2 := (tw_1 hW hG).1
    refine va_get (D := DG E) (ci := 9) (v := .ref (R h0 0)) (C := RX9) (T := TX9) (N := 3) hx hb hts iw_X9 hown hK.1 (va_one ha_2) 0 rfl rfl 0 (by decide) (hts _ fl_X9_22) (fun _ h9 => h9) rfl dX9_completions_8 ?_
    refine lv_iload_n hx hb dX9_completions_11 rfl (lv_at hl 1 rfl) ?_
    have ha_4 := tx_2 hT hg_3
    have hi_5 : vp_in p0 2 := vp_in_iff.mpr (by omega)
    obtain ⟨n_6, hn_6, en_6⟩ := x_nat (x := p0) (by omega)
    have hg_7 : G (R (R h0 0) n_6) = 5 := (tw_2 hW hg_3) n_6 (by omega)
    refine va_aldq (D := DG E) hx hb hK.1 (va_one ha_4) 0 3 rfl rfl hi_5 dX9_completions_12 ?_
    refine W.eq (g2 := F0 m 13 ls [.ref (R (R h0 0) n_6)]) (by rw [en_6]; rfl) ?_
    have ha_8 := tx_5 hT hg_7
    have hb_9 := (tw_5 hW_0 hg_7).2.2.2.2
    refine va_get (D := DG E) (ci := 1) (v := .int (B (R (R h0 0) n_6) 4)) (C := RX1) (T := TX1) (N := 5) hx hb hts iw_X1 hown hK.1 (va_one ha_8) 0 rfl rfl 4 (by decide) (hts _ fl_X9_176) (fun _ h9 => h9) rfl dX9_completions_13 ?_
    refine lv_goto (tgt := 20) hx hb dX9_completions_16 (by decide) ?_
    exact W.iret (v := (B (R (R h0 0) n_6) 4)) hx hb hr (fun t ht hW9 => ⟨⟨(B (R (R h0 0) n_6) 4), (), rfl, (Or.inr ⟨c_1, n_6, hn_6, rfl⟩), trivial⟩, hS.F ht⟩) hS.2.2 dX9_completions_20
theorem gdX9_poll_0 : (decode cX9_poll 0 = .ok (.iload_n 1, 1)) ∧ (decode cX9_poll 1 = .ok (.invokestatic 46, 3)) ∧ (decode cX9_poll 4 = .ok (.ifCond .eq 17, 3)) ∧ (decode cX9_poll 7 = .ok (.iload_n 2, 1)) ∧ (decode cX9_poll 8 = .ok (.iconst (-1), 1)) ∧ (decode cX9_poll 9 = .ok (.if_icmp .lt 12, 3)) ∧ (decode cX9_poll 12 = .ok (.iload_n 2, 1)) ∧ (decode cX9_poll 13 = .ok (.iconst 5, 1)) ∧ (decode cX9_poll 14 = .ok (.if_icmp .ge 7, 3)) ∧ (decode cX9_poll 17 = .ok (.iconst 1, 1)) ∧ (decode cX9_poll 18 = .ok (.goto 4, 3)) ∧ (decode cX9_poll 21 = .ok (.iconst 0, 1)) ∧ (decode cX9_poll 22 = .ok (.invokestatic 53, 3)) ∧ (decode cX9_poll 25 = .ok (.aload_n 0, 1)) ∧ (decode cX9_poll 26 = .ok (.getfield 22, 3)) ∧ (decode cX9_poll 29 = .ok (.iload_n 1, 1)) := by decide +kernel
theorem dX9_poll_0 : decode cX9_poll 0 = .ok (.iload_n 1, 1) := gdX9_poll_0.1
theorem dX9_poll_1 : decode cX9_poll 1 = .ok (.invokestatic 46, 3) := gdX9_poll_0.2.1
theorem dX9_poll_4 : decode cX9_poll 4 = .ok (.ifCond .eq 17, 3) := gdX9_poll_0.2.2.1
theorem dX9_poll_7 : decode cX9_poll 7 = .ok (.iload_n 2, 1) := gdX9_poll_0.2.2.2.1
theorem dX9_poll_8 : decode cX9_poll 8 = .ok (.iconst (-1), 1) := gdX9_poll_0.2.2.2.2.1
theorem dX9_poll_9 : decode cX9_poll 9 = .ok (.if_icmp .lt 12, 3) := gdX9_poll_0.2.2.2.2.2.1
theorem dX9_poll_12 : decode cX9_poll 12 = .ok (.iload_n 2, 1) := gdX9_poll_0.2.2.2.2.2.2.1
theorem dX9_poll_13 : decode cX9_poll 13 = .ok (.iconst 5, 1) := gdX9_poll_0.2.2.2.2.2.2.2.1
theorem dX9_poll_14 : decode cX9_poll 14 = .ok (.if_icmp .ge 7, 3) := gdX9_poll_0.2.2.2.2.2.2.2.2.1
theorem dX9_poll_17 : decode cX9_poll 17 = .ok (.iconst 1, 1) := gdX9_poll_0.2.2.2.2.2.2.2.2.2.1
theorem dX9_poll_18 : decode cX9_poll 18 = .ok (.goto 4, 3) := gdX9_poll_0.2.2.2.2.2.2.2.2.2.2.1
theorem dX9_poll_21 : decode cX9_poll 21 = .ok (.iconst 0, 1) := gdX9_poll_0.2.2.2.2.2.2.2.2.2.2.2.1
theorem dX9_poll_22 : decode cX9_poll 22 = .ok (.invokestatic 53, 3) := gdX9_poll_0.2.2.2.2.2.2.2.2.2.2.2.2.1
theorem dX9_poll_25 : decode cX9_poll 25 = .ok (.aload_n 0, 1) := gdX9_poll_0.2.2.2.2.2.2.2.2.2.2.2.2.2.1
theorem dX9_poll_26 : decode cX9_poll 26 = .ok (.getfield 22, 3) := gdX9_poll_0.2.2.2.2.2.2.2.2.2.2.2.2.2.2.1
theorem dX9_poll_29 : decode cX9_poll 29 = .ok (.iload_n 1, 1) := gdX9_poll_0.2.2.2.2.2.2.2.2.2.2.2.2.2.2.2
theorem gdX9_poll_30 : (decode cX9_poll 30 = .ok (.aaload, 1)) ∧ (decode cX9_poll 31 = .ok (.getfield 176, 3)) ∧ (decode cX9_poll 34 = .ok (.ifCond .ne 11, 3)) ∧ (decode cX9_poll 37 = .ok (.new 179, 3)) ∧ (decode cX9_poll 40 = .ok (.dup, 1)) ∧ (decode cX9_poll 41 = .ok (.invokespecial 181, 3)) ∧ (decode cX9_poll 44 = .ok (.athrow, 1)) ∧ (decode cX9_poll 45 = .ok (.iload_n 2, 1)) ∧ (decode cX9_poll 46 = .ok (.ifCond .lt 14, 3)) ∧ (decode cX9_poll 49 = .ok (.aload_n 0, 1)) ∧ (decode cX9_poll 50 = .ok (.getfield 22, 3)) ∧ (decode cX9_poll 53 = .ok (.iload_n 1, 1)) ∧ (decode cX9_poll 54 = .ok (.aaload, 1)) ∧ (decode cX9_poll 55 = .ok (.iload_n 2, 1)) ∧ (decode cX9_poll 56 = .ok (.invokevirtual 182, 3)) ∧ (decode cX9_poll 59 = .ok (.ireturn, 1)) := by decide +kernel
theorem dX9_poll_30 : decode cX9_poll 30 = .ok (.aaload, 1) := gdX9_poll_30.1
theorem dX9_poll_31 : decode cX9_poll 31 = .ok (.getfield 176, 3) := gdX9_poll_30.2.1
theorem dX9_poll_34 : decode cX9_poll 34 = .ok (.ifCond .ne 11, 3) := gdX9_poll_30.2.2.1
theorem dX9_poll_37 : decode cX9_poll 37 = .ok (.new 179, 3) := gdX9_poll_30.2.2.2.1
theorem dX9_poll_40 : decode cX9_poll 40 = .ok (.dup, 1) := gdX9_poll_30.2.2.2.2.1
theorem dX9_poll_41 : decode cX9_poll 41 = .ok (.invokespecial 181, 3) := gdX9_poll_30.2.2.2.2.2.1
theorem dX9_poll_44 : decode cX9_poll 44 = .ok (.athrow, 1) := gdX9_poll_30.2.2.2.2.2.2.1
theorem dX9_poll_45 : decode cX9_poll 45 = .ok (.iload_n 2, 1) := gdX9_poll_30.2.2.2.2.2.2.2.1
theorem dX9_poll_46 : decode cX9_poll 46 = .ok (.ifCond .lt 14, 3) := gdX9_poll_30.2.2.2.2.2.2.2.2.1
theorem dX9_poll_49 : decode cX9_poll 49 = .ok (.aload_n 0, 1) := gdX9_poll_30.2.2.2.2.2.2.2.2.2.1
theorem dX9_poll_50 : decode cX9_poll 50 = .ok (.getfield 22, 3) := gdX9_poll_30.2.2.2.2.2.2.2.2.2.2.1
theorem dX9_poll_53 : decode cX9_poll 53 = .ok (.iload_n 1, 1) := gdX9_poll_30.2.2.2.2.2.2.2.2.2.2.2.1
theorem dX9_poll_54 : decode cX9_poll 54 = .ok (.aaload, 1) := gdX9_poll_30.2.2.2.2.2.2.2.2.2.2.2.2.1
theorem dX9_poll_55 : decode cX9_poll 55 = .ok (.iload_n 2, 1) := gdX9_poll_30.2.2.2.2.2.2.2.2.2.2.2.2.2.1
theorem dX9_poll_56 : decode cX9_poll 56 = .ok (.invokevirtual 182, 3) := gdX9_poll_30.2.2.2.2.2.2.2.2.2.2.2.2.2.2.1
theorem dX9_poll_59 : decode cX9_poll 59 = .ok (.ireturn, 1) := gdX9_poll_30.2.2.2.2.2.2.2.2.2.2.2.2.2.2.2
theorem gdX9_poll_60 : (decode cX9_poll 60 = .ok (.aload_n 0, 1)) ∧ (decode cX9_poll 61 = .ok (.getfield 22, 3)) ∧ (decode cX9_poll 64 = .ok (.iload_n 1, 1)) ∧ (decode cX9_poll 65 = .ok (.aaload, 1)) ∧ (decode cX9_poll 66 = .ok (.invokevirtual 185, 3)) ∧ (decode cX9_poll 69 = .ok (.iconst 0, 1)) ∧ (decode cX9_poll 70 = .ok (.ireturn, 1)) := by decide +kernel
theorem dX9_poll_60 : decode cX9_poll 60 = .ok (.aload_n 0, 1) := gdX9_poll_60.1
theorem dX9_poll_61 : decode cX9_poll 61 = .ok (.getfield 22, 3) := gdX9_poll_60.2.1
theorem dX9_poll_64 : decode cX9_poll 64 = .ok (.iload_n 1, 1) := gdX9_poll_60.2.2.1
theorem dX9_poll_65 : decode cX9_poll 65 = .ok (.aaload, 1) := gdX9_poll_60.2.2.2.1
theorem dX9_poll_66 : decode cX9_poll 66 = .ok (.invokevirtual 185, 3) := gdX9_poll_60.2.2.2.2.1
theorem dX9_poll_69 : decode cX9_poll 69 = .ok (.iconst 0, 1) := gdX9_poll_60.2.2.2.2.2.1
theorem dX9_poll_70 : decode cX9_poll 70 = .ok (.ireturn, 1) := gdX9_poll_60.2.2.2.2.2.2
set_option maxHeartbeats 8000000 in
set_option maxRecDepth 100000 in
theorem x_X9_poll (l : Launch) (hst : l.stackTraces = false) (E : EE) (z0 : Nat) (G : Nat → Nat) (hGz : ∀ q, G q ≠ 0 → z0 ≤ q) (B : AA) (R : RR) (hW : TW G B R) (h0 : Nat) (p0 : Int32) (p1 : Int32) (hG : G h0 = 1) : vx_Met l yX9_poll [Cond.code yX9_poll cX9_poll 3 (some .int)] ({ frames := 7, cells := 2, slots := 12, locals := 101 } : Room) (va_Pc [.ref h0, .int p0, .int p1] (fun U => TX E G B R U.heap ∧ KS E z0 U)) (va_Qi (fun (r : Int32) (u : AA) => (TW G u R) ∧ (Fr G ([5] : List Nat) B u) ∧ (C_X9_poll G B R h0 p0 p1 u r)) (fun u t => TX E G u R t.heap) (fun q : Nat => G q ∈ ([5] : List Nat))) (vx_X (fun (_ : Unit) => True) (fun En _ t => (X_X9_poll G B R h0 p0 p1 En) ∧ TX E G B R t.heap) (fun q : Nat => G q ∈ ([5] : List Nat))) 2 12 (fun q : Nat => G q ∈ ([5] : List Nat)) := by
  refine vx_ofW (cc := cX9_poll) (maxL := 3) (ret := (some .int)) (by decide) rfl ?_
  intro p e s m args below meth c s₁ B9 hml hne hv
  obtain ⟨rfl, hT, hK⟩ := hv
  have hx := B9.exec
  have hb := B9.bytes
  have hr := B9.returns
  have hts : ∀ w ∈ TS, w.before ([.ref h0, .int p0, .int p1] : List Value).toArray s = true := fun w hw => hK.2.1 w hw _
  have hown : s.vm.findClass RX9 = some m.cls := findClass_of_methodNamed B9.named
  have hlocks := B9.notSynchronized
  have hS : va_S (fun q : Nat => G q ∈ ([5] : List Nat)) s.heap s.heap [] := va_S.rf
  have hAz : ∀ q, (fun q : Nat => G q ∈ ([5] : List Nat)) q → z0 ≤ q := zL hGz (by decide)
  have hW_0 := hW
  have hl := lv_entry ([.ref h0, .int p0, .int p1]) (n := 3) (Nat.le_of_ble_eq_true rfl)
  rw [lg_entry_eq]
  generalize (lg_sl ([.ref h0, .int p0, .int p1]) ++ List.replicate (3 - (lg_sl ([.ref h0, .int p0, .int p1])).length) Slot.unset).toArray = ls at hl ⊢
  have hl : lv_has ls 3 [(0, .ref h0), (1, .int p0), (2, .int p1)] := hl
  refine lv_iload_n hx hb dX9_poll_0 rfl (lv_at hl 1 rfl) ?_
  refine W.callR (W.runS (As := [.int p0]) (rest := []) ⟨hx, hb, hml, hown, hts⟩ (c_X9_isNode l p0) (cwS 1 hts (gdS ml_X9_46 st_X9_isNode in_X9 co_X9_isNode rfl) rfl rfl rfl (by decide +kernel) ⟨Nat.le_of_ble_eq_true rfl, Nat.le_of_ble_eq_true rfl⟩) preEq rfl rfl hl.1 rfl (lv_room (Nat.le_of_ble_eq_true rfl)) dX9_poll_1 ⟨Nat.le_of_ble_eq_true rfl, Nat.le_of_ble_eq_true rfl⟩) ?_
  refine W.eq (g2 := F0 m 4 ls [.int (bI (0 ≤ p0.toInt ∧ p0.toInt < 2))]) (by rfl) ?_
  refine lv_if_eq (tgt := 21) hx hb dX9_poll_4 (by decide) (fun c_1 => ?_) (fun c_1 => ?_)
  · have c_1 := bI_0 c_1
    refine lv_iconst (v := 0) hx hb dX9_poll_21 (by decide) ?_
    refine vx_callv (rxS (fun _ => True) (As := [.int 0]) (rest := []) ⟨hx, hb, hml, hown, hts⟩ (c_X9_require l hst E z0 0) (cwS 1 hts (gdS ml_X9_53 st_X9_require in_X9 co_X9_require rfl) rfl rfl rfl (by decide +kernel) ⟨Nat.le_of_ble_eq_true rfl, Nat.le_of_ble_eq_true rfl⟩) trivial (fun U hU hW => hK.go hW hS hAz hU) rfl rfl hl.1 rfl (lv_room (Nat.le_of_ble_eq_true rfl)) dX9_poll_22 ⟨Nat.le_of_ble_eq_true rfl, Nat.le_of_ble_eq_true rfl⟩) hS (fun q _ h => h.elim) (fun q h => h.elim) (fun q _ h => h.elim) (fun En ce q9 _ t H locs ht hvm hw_2 hB hz hk hS hc1 hc2 hc3 => ?_) (fun _ t H locs ht hvm hw_2 hB hz hk hS => ?_)
    · have hT : TX E G B R H := hT.kept (fun q hq => hk q hq (fun h => h))
      subst hB
      exact vx_out (fun x hx => (hne x hx).elim) hlocks hc1 hc2 hc3 (fun t ht hA => ⟨(), trivial, ⟨(Or.inl ⟨c_1, rfl⟩), by show TX E G B R t.heap; rw [ht]; exact hT⟩, hS.F ht⟩) hS.2.2 (Nat.le_of_ble_eq_true rfl) (Nat.le_of_ble_eq_true rfl)
    · exact absurd rfl hw_2
  · have c_1 := bI_n c_1
    refine lv_iload_n hx hb dX9_poll_7 rfl (lv_at hl 2 rfl) ?_
    refine lv_iconst (v := (-1)) hx hb dX9_poll_8 (by decide) ?_
    refine lv_icmp_lt (tgt := 21) hx hb dX9_poll_9 (by decide) (fun c_3 => ?_) (fun c_3 => ?_)
    · simp only [lt_I, le_I, eq_I, i_0, i_1, i_2, i_3, i_4, i_5, i_6, i_7, i_8, i_10, i_12, i_16, i_20, i_23, i_24, i_31, i_32, i_63, i_64, i_m1] at c_3
      refine lv_iconst (v := 0) hx hb dX9_poll_21 (by decide) ?_
      refine vx_callv (rxS (fun _ => True) (As := [.int 0]) (rest := []) ⟨hx, hb, hml, hown, hts⟩ (c_X9_require l hst E z0 0) (cwS 1 hts (gdS ml_X9_53 st_X9_require in_X9 co_X9_require rfl) rfl rfl rfl (by decide +kernel) ⟨Nat.le_of_ble_eq_true rfl, Nat.le_of_ble_eq_true rfl⟩) trivial (fun U hU hW => hK.go hW hS hAz hU) rfl rfl hl.1 rfl (lv_room (Nat.le_of_ble_eq_true rfl)) dX9_poll_22 ⟨Nat.le_of_ble_eq_true rfl, Nat.le_of_ble_eq_true rfl⟩) hS (fun q _ h => h.elim) (fun q h => h.elim) (fun q _ h => h.elim) (fun En ce q9 _ t H locs ht hvm hw_4 hB hz hk hS hc1 hc2 hc3 => ?_) (fun _ t H locs ht hvm hw_4 hB hz hk hS => ?_)
      · have hT : TX E G B R H := hT.kept (fun q hq => hk q hq (fun h => h))
        subst hB
        exact vx_out (fun x hx => (hne x hx).elim) hlocks hc1 hc2 hc3 (fun t ht hA => ⟨(), trivial, ⟨(Or.inr (Or.inl ⟨c_1, c_3, rfl⟩)), by show TX E G B R t.heap; rw [ht]; exact hT⟩, hS.F ht⟩) hS.2.2 (Nat.le_of_ble_eq_true rfl) (Nat.le_of_ble_eq_true rfl)
      · exact absurd rfl hw_4
    · simp only [lt_I, le_I, eq_I, i_0, i_1, i_2, i_3, i_4, i_5, i_6, i_7, i_8, i_10, i_12, i_16, i_20, i_23, i_24, i_31, i_32, i_63, i_64, i_m1] at c_3
      refine lv_iload_n hx hb dX9_poll_12 rfl (lv_at hl 2 rfl) ?_
      refine lv_iconst (v := 5) hx hb dX9_poll_13 (by decide) ?_
      refine lv_icmp_ge (tgt := 21) hx hb dX9_poll_14 (by decide) (fun c_5 => ?_) (fun c_5 => ?_)
      · simp only [lt_I, le_I, eq_I, i_0, i_1, i_2, i_3, i_4, i_5, i_6, i_7, i_8, i_10, i_12, i_16, i_20, i_23, i_24, i_31, i_32, i_63, i_64, i_m1] at c_5
        refine lv_iconst (v := 0) hx hb dX9_poll_21 (by decide) ?_
        refine vx_callv (rxS (fun _ => True) (As := [.int 0]) (rest := []) ⟨hx, hb, hml, hown, hts⟩ (c_X9_require l hst E z0 0) (cwS 1 hts (gdS ml_X9_53 st_X9_require in_X9 co_X9_require rfl) rfl rfl rfl (by decide +kernel) ⟨Nat.le_of_ble_eq_true rfl, Nat.le_of_ble_eq_true rfl⟩) trivial (fun U hU hW => hK.go hW hS hAz hU) rfl rfl hl.1 rfl (lv_room (Nat.le_of_ble_eq_true rfl)) dX9_poll_22 ⟨Nat.le_of_ble_eq_true rfl, Nat.le_of_ble_eq_true rfl⟩) hS (fun q _ h => h.elim) (fun q h => h.elim) (fun q _ h => h.elim) (fun En ce q9 _ t H locs ht hvm hw_6 hB hz hk hS hc1 hc2 hc3 => ?_) (fun _ t H locs ht hvm hw_6 hB hz hk hS => ?_)
        · have hT : TX E G B R H := hT.kept (fun q hq => hk q hq (fun h => h))
          subst hB
          exact vx_out (fun x hx => (hne x hx).elim) hlocks hc1 hc2 hc3 (fun t ht hA => ⟨(), trivial, ⟨(Or.inr (Or.inr (Or.inl ⟨c_1, c_3, c_5, rfl⟩))), by show TX E G B R t.heap; rw [ht]; exact hT⟩, hS.F ht⟩) hS.2.2 (Nat.le_of_ble_eq_true rfl) (Nat.le_of_ble_eq_true rfl)
        · exact absurd rfl hw_6
      · simp only [lt_I, le_I, eq_I, i_0, i_1, i_2, i_3, i_4, i_5, i_6, i_7, i_8, i_10, i_12, i_16, i_20, i_23, i_24, i_31, i_32, i_63, i_64, i_m1] at c_5
        refine lv_iconst (v := 1) hx hb dX9_poll_17 (by decide) ?_
        refine lv_goto (tgt := 22) hx hb dX9_poll_18 (by decide) ?_
        refine vx_callv (rxS (fun _ => True) (As := [.int 1]) (rest := []) ⟨hx, hb, hml, hown, hts⟩ (c_X9_require l hst E z0 1) (cwS 1 hts (gdS ml_X9_53 st_X9_require in_X9 co_X9_require rfl) rfl rfl rfl (by decide +kernel) ⟨Nat.le_of_ble_eq_true rfl, Nat.le_of_ble_eq_true rfl⟩) trivial (fun U hU hW => hK.go hW hS hAz hU) rfl rfl hl.1 rfl (lv_room (Nat.le_of_ble_eq_true rfl)) dX9_poll_22 ⟨Nat.le_of_ble_eq_true rfl, Nat.le_of_ble_eq_true rfl⟩) hS (fun q _ h => h.elim) (fun q h => h.elim) (fun q _ h => h.elim) (fun En ce q9 _ t H locs ht hvm hw_7 hB hz hk hS hc1 hc2 hc3 => ?_) (fun _ t H locs ht hvm hw_7 hB hz hk hS => ?_)
        · exact absurd hw_7 (by decide)
        · have hT : TX E G B R H := hT.kept (fun q hq => hk q hq (fun h => h))
          refine lv_aload_n hx hb dX9_poll_25 rfl (lv_at hl 0 rfl) ?_
          have ha_8 := tx_1 hT hG
          have hg_9 : G (R h0 0) = 2 := (tw_1 hW hG).1
          refine va_get (D := DG E) (ci := 9) (v := .ref (R h0 0)) (C := RX9) (T := TX9) (N := 3) hx hb hts iw_X9 hown hK.1 (va_one ha_8) 0 rfl rfl 0 (by decide) (hts _ fl_X9_22) (fun _ h9 => h9) rfl dX9_poll_26 ?_
          refine lv_iload_n hx hb dX9_poll_29 rfl (lv_at hl 1 rfl) ?_
          have ha_10 := tx_2 hT hg_9
          have hi_11 : vp_in p0 2 := vp_in_iff.mpr (by omega)
          obtain ⟨n_12, hn_12, en_12⟩ := x_nat (x := p0) (by omega)
          have hg_13 : G (R (R h0 0) n_12) = 5 := (tw_2 hW hg_9) n_12 (by omega)
          refine va_aldq (D := DG E) hx hb hK.1 (va_one ha_10) 0 3 rfl rfl hi_11 dX9_poll_30 ?_
          refine W.eq (g2 := F0 m 31 ls [.ref (R (R h0 0) n_12)]) (by rw [en_12]; rfl) ?_
          have ha_14 := tx_5 hT hg_13
          have hb_15 := (tw_5 hW_0 hg_13).2.2.2.2
          refine va_get (D := DG E) (ci := 1) (v := .int (B (R (R h0 0) n_12) 4)) (C := RX1) (T := TX1) (N := 5) hx hb hts iw_X1 hown hK.1 (va_one ha_14) 0 rfl rfl 4 (by decide) (hts _ fl_X9_176) (fun _ h9 => h9) rfl dX9_poll_31 ?_
          refine lv_if_ne (tgt := 45) hx hb dX9_poll_34 (by decide) (fun c_16 => ?_) (fun c_16 => ?_)
          · simp only [lt_I, le_I, eq_I, i_0, i_1, i_2, i_3, i_4, i_5, i_6, i_7, i_8, i_10, i_12, i_16, i_20, i_23, i_24, i_31, i_32, i_63, i_64, i_m1] at c_16
            refine lv_iload_n hx hb dX9_poll_45 rfl (lv_at hl 2 rfl) ?_
            refine lv_if_lt (tgt := 60) hx hb dX9_poll_46 (by decide) (fun c_17 => ?_) (fun c_17 => ?_)
            · simp only [lt_I, le_I, eq_I, i_0, i_1, i_2, i_3, i_4, i_5, i_6, i_7, i_8, i_10, i_12, i_16, i_20, i_23, i_24, i_31, i_32, i_63, i_64, i_m1] at c_17
              refine lv_aload_n hx hb dX9_poll_60 rfl (lv_at hl 0 rfl) ?_
              refine va_get (D := DG E) (ci := 9) (v := .ref (R h0 0)) (C := RX9) (T := TX9) (N := 3) hx hb hts iw_X9 hown hK.1 (va_one ha_8) 0 rfl rfl 0 (by decide) (hts _ fl_X9_22) (fun _ h9 => h9) rfl dX9_poll_61 ?_
              refine lv_iload_n hx hb dX9_poll_64 rfl (lv_at hl 1 rfl) ?_
              refine va_aldq (D := DG E) hx hb hK.1 (va_one ha_10) 0 3 rfl rfl hi_11 dX9_poll_65 ?_
              refine W.eq (g2 := F0 m 66 ls [.ref (R (R h0 0) n_12)]) (by rw [en_12]; rfl) ?_
              refine va_callv (rnV (fun H => TX E G B R H) (As := []) (rest := []) ⟨hx, hb, hml, hown, hts⟩ (x_X1_dropFirst l E z0 G hGz B R hW (R (R h0 0) n_12) hg_13 (show 1 ≤ (B (R (R h0 0) n_12) 4).toInt from by first | decide | omega)) (cwV 0 hts (gdV ml_X9_185 im_X1_dropFirst se_X1_X1_dropFirst in_X1 co_X1_dropFirst rfl) rfl rfl rfl (by decide +kernel) ⟨Nat.le_of_ble_eq_true rfl, Nat.le_of_ble_eq_true rfl⟩) hT (fun U hU hW => hK.go hW hS hAz hU) (va_recv hK.1 (va_one ha_14) (ci := 1) (q0 := 0) rfl rfl) rfl rfl hl.1 rfl (lv_room (Nat.le_of_ble_eq_true rfl)) dX9_poll_66 ⟨Nat.le_of_ble_eq_true rfl, Nat.le_of_ble_eq_true rfl⟩) hS (fun q _ h => mL (L' := [5]) (L := [5]) (by decide) h) (fun q h => mL (L' := [5]) (L := [5]) (by decide) h) (fun U_19 t H locs ht hvm hwr_18 hB hz hk hS => ?_)
              have hT : TX E G U_19 R H := by rw [ht] at hB; exact hB
              have hWr_18 : TW G U_19 R := hwr_18.1
              have hW := hWr_18
              have hFr_18 : Fr G [5] B U_19 := hwr_18.2.1
              have hCr_18 : C_X1_dropFirst G B R (R (R h0 0) n_12) U_19 := hwr_18.2.2
              refine lv_iconst (v := 0) hx hb dX9_poll_69 (by decide) ?_
              refine vx_ret ?_
              refine W.widen (k := 2) (n := 12) (Nat.le_of_ble_eq_true rfl) (Nat.le_of_ble_eq_true rfl) ?_
              exact W.iret (v := 0) hx hb hr (fun t ht hW9 => ⟨⟨0, U_19, rfl, ⟨hW, (Fr.c Fr.rf hFr_18 (by decide)), (Or.inl ⟨c_1, c_3, c_5, n_12, hn_12, c_16, c_17, U_19, hFr_18, hCr_18, rfl, rfl⟩)⟩, (by show TX E G U_19 R t.heap; rw [ht]; exact hT)⟩, hS.F ht⟩) hS.2.2 dX9_poll_70
            · simp only [lt_I, le_I, eq_I, i_0, i_1, i_2, i_3, i_4, i_5, i_6, i_7, i_8, i_10, i_12, i_16, i_20, i_23, i_24, i_31, i_32, i_63, i_64, i_m1] at c_17
              refine lv_aload_n hx hb dX9_poll_49 rfl (lv_at hl 0 rfl) ?_
              refine va_get (D := DG E) (ci := 9) (v := .ref (R h0 0)) (C := RX9) (T := TX9) (N := 3) hx hb hts iw_X9 hown hK.1 (va_one ha_8) 0 rfl rfl 0 (by decide) (hts _ fl_X9_22) (fun _ h9 => h9) rfl dX9_poll_50 ?_
              refine lv_iload_n hx hb dX9_poll_53 rfl (lv_at hl 1 rfl) ?_
              refine va_aldq (D := DG E) hx hb hK.1 (va_one ha_10) 0 3 rfl rfl hi_11 dX9_poll_54 ?_
              refine W.eq (g2 := F0 m 55 ls [.ref (R (R h0 0) n_12)]) (by rw [en_12]; rfl) ?_
              refine lv_iload_n hx hb dX9_poll_55 rfl (lv_at hl 2 rfl) ?_
              refine va_calli (rnV (fun H => TX E G B R H) (As := [.int p1]) (rest := []) ⟨hx, hb, hml, hown, hts⟩ (x_X1_tellFirst l E z0 G hGz B R hW (R (R h0 0) n_12) p1 hg_13 (show 0 ≤ p1.toInt ∧ p1.toInt ≤ 4 from by first | decide | omega)) (cwV 1 hts (gdV ml_X9_182 im_X1_tellFirst se_X1_X1_tellFirst in_X1 co_X1_tellFirst rfl) rfl rfl rfl (by decide +kernel) ⟨Nat.le_of_ble_eq_true rfl, Nat.le_of_ble_eq_true rfl⟩) hT (fun U hU hW => hK.go hW hS hAz hU) (va_recv hK.1 (va_one ha_14) (ci := 1) (q0 := 0) rfl rfl) rfl rfl hl.1 rfl (lv_room (Nat.le_of_ble_eq_true rfl)) dX9_poll_56 ⟨Nat.le_of_ble_eq_true rfl, Nat.le_of_ble_eq_true rfl⟩) hS (fun q _ h => h.elim) (fun q h => h.elim) (fun r_20 _ t H locs ht hvm hwr_20 hB hz hk hS => ?_)
              have hT : TX E G B R H := hT.kept (fun q hq => hk q hq (fun h => h))
              have hCr_20 : C_X1_tellFirst G B R (R (R h0 0) n_12) p1 r_20 := hwr_20
              refine vx_ret ?_
              refine W.widen (k := 2) (n := 12) (Nat.le_of_ble_eq_true rfl) (Nat.le_of_ble_eq_true rfl) ?_
              exact W.iret (v := r_20) hx hb hr (fun t ht hW9 => ⟨⟨r_20, B, rfl, ⟨hW, Fr.rf, (Or.inr ⟨c_1, c_3, c_5, n_12, hn_12, c_16, c_17, r_20, hCr_20, rfl, rfl⟩)⟩, (by show TX E G B R t.heap; rw [ht]; exact hT)⟩, hS.F ht⟩) hS.2.2 dX9_poll_59
          · simp only [lt_I, le_I, eq_I, i_0, i_1, i_2, i_3, i_4, i_5, i_6, i_7, i_8, i_10, i_12, i_16, i_20, i_23, i_24, i_31, i_32, i_63, i_64, i_m1] at c_16
            exact vx_throw0 (A := AZ z0) hx hb hst (own := RX9) (cls := NSE) (names := upn) (ik := 179) (ic := 181) hown (by decide +kernel) (by decide +kernel) (hts _ cl_X9_179) (hts _ in_NoSuchElementException) (fun w hw => hts w (tw_NSE w hw)) tg_NSE hK.2.2.1 hK.2.2.2 (SS_mono hS hAz) (by rw [hml]; exact hl.1) dX9_poll_37 dX9_poll_40 dX9_poll_41 dX9_poll_44 (fun x hx => (hne x hx).elim) (by decide) (by decide) (by decide) (by decide) hlocks (fun t hA hz hk => ⟨(), trivial, ⟨(Or.inr (Or.inr (Or.inr ⟨c_1, c_3, c_5, n_12, hn_12, c_16, rfl⟩))), hT.kept hk⟩, SS_F hS hz hk⟩) hS.2.2 (by decide) (by decide)
end
