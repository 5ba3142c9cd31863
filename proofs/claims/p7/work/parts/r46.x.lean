set_option maxHeartbeats 8000000 in
set_option maxRecDepth 100000 in
theorem x_X8_forgetAdds (l : Launch) (E : EE) (z0 : Nat) (G : Nat → Nat) (hGz : ∀ q, G q ≠ 0 → z0 ≤ q) (B : AA) (R : RR) (hW : TW G B R) (h0 : Nat) (hG : G h0 = 10) : Met l yX8_forgetAdds [Cond.code yX8_forgetAdds cX8_forgetAdds 2 none] ({ frames := 0, cells := 0, slots := 0, locals := 0 } : Room) (va_Pc [.ref h0] (fun U => TX E G B R U.heap ∧ KS E z0 U)) (va_Qv (fun (u : AA) => (TW G u R) ∧ (Fr G ([16, 17] : List Nat) B u) ∧ (C_X8_forgetAdds G B R h0 u)) (fun u t => TX E G u R t.heap) (fun q : Nat => G q ∈ ([16, 17] : List Nat))) 0 0 (fun q : Nat => G q ∈ ([16, 17] : List Nat)) := by
  refine Met.ofW (cc := cX8_forgetAdds) (maxL := 2) (ret := none) (by decide) rfl ?_
  intro p e s m args below meth c s₁ B9 hml hv
  obtain ⟨rfl, hT, hK⟩ := hv
  have hx := B9.exec
  have hb := B9.bytes
  have hr := B9.returns
  have hts : ∀ w ∈ TS, w.before ([.ref h0] : List Value).toArray s = true := fun w hw => hK.2.1 w hw _
  have hown : s.vm.findClass RX8 = some m.cls := findClass_of_methodNamed B9.named
  have hlocks := B9.notSynchronized
  have hS : va_S (fun q : Nat => G q ∈ ([16, 17] : List Nat)) s.heap s.heap [] := va_S.rf
  have hAz : ∀ q, (fun q : Nat => G q ∈ ([16, 17] : List Nat)) q → z0 ≤ q := zL hGz (by decide)
  have hW_0 := hW
  have hl := lv_entry ([.ref h0]) (n := 2) (Nat.le_of_ble_eq_true rfl)
  rw [lg_entry_eq]
  generalize (lg_sl ([.ref h0]) ++ List.replicate (2 - (lg_sl ([.ref h0])).length) Slot.unset).toArray = ls at hl ⊢
  have hl : lv_has ls 2 [(0, .ref h0)] := hl
  refine lv_iconst (v := 0) hx hb dX8_forgetAdds_0 (by decide) ?_
  refine lv_istore_n (lv' := [(1, .int 0), (0, .ref h0)]) hx hb dX8_forgetAdds_1 rfl hl (by decide) rfl (fun ls hl => ?_)
  refine lv_iload_n hx hb dX8_forgetAdds_2 rfl (lv_at hl 0 rfl) ?_
  refine lv_iconst (v := 2) hx hb dX8_forgetAdds_3 (by decide) ?_
  refine lv_icmp_ge (tgt := 27) hx hb dX8_forgetAdds_4 (by decide) (fun c_1 => absurd c_1 (by decide)) (fun c_1 => ?_)
  refine lv_aload_n hx hb dX8_forgetAdds_7 rfl (lv_at hl 1 rfl) ?_
  have ha_2 := tx_10 hT hG
  have hg_3 : G (R h0 7) = 16 := (tw_10 hW hG).2.2.2.2.1
  refine va_get (D := DG E) (ci := 8) (v := .ref (R h0 7)) (C := RX8) (T := TX8) (N := 9) hx hb hts iw_X8 hown hK.1 (va_one ha_2) 0 rfl rfl 7 (by decide) (hts _ fl_X8_9) (fun _ h9 => h9) rfl dX8_forgetAdds_8 ?_
  refine lv_iload_n hx hb dX8_forgetAdds_11 rfl (lv_at hl 0 rfl) ?_
  refine lv_iconst (v := (-1)) hx hb dX8_forgetAdds_12 (by decide) ?_
  have ha_4 := tx_16 hT hg_3
  refine rr_iast (D := DG E) hx hb hK.1 0 ha_4 hS (by show G (R h0 7) ∈ ([16, 17] : List Nat); rw [hg_3]; decide) rfl (show vp_in (0) 2 from vp_in_iff.mpr ⟨by decide, by decide⟩) dX8_forgetAdds_13 (fun H locs hn ho hz hS => ?_)
  obtain ⟨B_5, eB_5⟩ : ∃ z : AA, z = uA B (R h0 7) (upd (B (R h0 7)) 0 (-1)) := ⟨_, rfl⟩
  have sB_5 : B_5 (R h0 7) 0 = (-1) := by rw [eB_5, uA_s]; exact upd_s
  have nB_5 : ∀ k, k ≠ 0 → B_5 (R h0 7) k = B (R h0 7) k := fun k hk => by rw [eB_5, uA_s]; exact upd_n hk
  have fB_5 : ∀ c, G c ≠ 16 → B_5 c = B c := fun c hc => by rw [eB_5]; exact uA_n (fun e => hc (by rw [e]; exact hg_3))
  have hT : TX E G B_5 R H := by rw [eB_5]; exact hT.w (by rw [hg_3]; exact hn) ho
  have hWB_5 : TW G B_5 R := by rw [eB_5]; exact hW_0.w (by rw [hg_3]; exact trivial)
  have hW := hWB_5
  refine lv_aload_n hx hb dX8_forgetAdds_14 rfl (lv_at hl 1 rfl) ?_
  have ha_6 := tx_10 hT hG
  have hg_7 : G (R h0 8) = 17 := (tw_10 hW hG).2.2.2.2.2
  refine va_get (D := DG E) (ci := 8) (v := .ref (R h0 8)) (C := RX8) (T := TX8) (N := 9) hx hb hts iw_X8 hown hK.1 (va_one ha_6) 0 rfl rfl 8 (by decide) (hts _ fl_X8_15) (fun _ h9 => h9) rfl dX8_forgetAdds_15 ?_
  refine lv_iload_n hx hb dX8_forgetAdds_18 rfl (lv_at hl 0 rfl) ?_
  refine lv_iconst (v := 0) hx hb dX8_forgetAdds_19 (by decide) ?_
  have ha_8 := tx_17 hT hg_7
  refine rr_iast (D := DG E) hx hb hK.1 0 ha_8 hS (by show G (R h0 8) ∈ ([16, 17] : List Nat); rw [hg_7]; decide) rfl (show vp_in (0) 2 from vp_in_iff.mpr ⟨by decide, by decide⟩) dX8_forgetAdds_20 (fun H locs hn ho hz hS => ?_)
  obtain ⟨B_9, eB_9⟩ : ∃ z : AA, z = uA B_5 (R h0 8) (upd (B_5 (R h0 8)) 0 0) := ⟨_, rfl⟩
  have sB_9 : B_9 (R h0 8) 0 = 0 := by rw [eB_9, uA_s]; exact upd_s
  have nB_9 : ∀ k, k ≠ 0 → B_9 (R h0 8) k = B_5 (R h0 8) k := fun k hk => by rw [eB_9, uA_s]; exact upd_n hk
  have fB_9 : ∀ c, G c ≠ 17 → B_9 c = B_5 c := fun c hc => by rw [eB_9]; exact uA_n (fun e => hc (by rw [e]; exact hg_7))
  have hT : TX E G B_9 R H := by rw [eB_9]; exact hT.w (by rw [hg_7]; exact hn) ho
  have hWB_9 : TW G B_9 R := by rw [eB_9]; exact hWB_5.w (by rw [hg_7]; exact trivial)
  have hW := hWB_9
  refine lv_iinc (v := 1) (lv' := [(1, .int 1), (0, .ref h0)]) hx hb dX8_forgetAdds_21 hl (k := 0) rfl (by decide) (by decide) rfl (fun ls hl => ?_)
  refine lv_goto (tgt := 2) hx hb dX8_forgetAdds_24 (by decide) ?_
  refine lv_iload_n hx hb dX8_forgetAdds_2 rfl (lv_at hl 0 rfl) ?_
  refine lv_iconst (v := 2) hx hb dX8_forgetAdds_3 (by decide) ?_
  refine lv_icmp_ge (tgt := 27) hx hb dX8_forgetAdds_4 (by decide) (fun c_10 => absurd c_10 (by decide)) (fun c_10 => ?_)
  refine lv_aload_n hx hb dX8_forgetAdds_7 rfl (lv_at hl 1 rfl) ?_
  have ha_11 := tx_10 hT hG
  refine va_get (D := DG E) (ci := 8) (v := .ref (R h0 7)) (C := RX8) (T := TX8) (N := 9) hx hb hts iw_X8 hown hK.1 (va_one ha_11) 0 rfl rfl 7 (by decide) (hts _ fl_X8_9) (fun _ h9 => h9) rfl dX8_forgetAdds_8 ?_
  refine lv_iload_n hx hb dX8_forgetAdds_11 rfl (lv_at hl 0 rfl) ?_
  refine lv_iconst (v := (-1)) hx hb dX8_forgetAdds_12 (by decide) ?_
  have ha_12 := tx_16 hT hg_3
  refine rr_iast (D := DG E) hx hb hK.1 0 ha_12 hS (by show G (R h0 7) ∈ ([16, 17] : List Nat); rw [hg_3]; decide) rfl (show vp_in (1) 2 from vp_in_iff.mpr ⟨by decide, by decide⟩) dX8_forgetAdds_13 (fun H locs hn ho hz hS => ?_)
  obtain ⟨B_13, eB_13⟩ : ∃ z : AA, z = uA B_9 (R h0 7) (upd (B_9 (R h0 7)) 1 (-1)) := ⟨_, rfl⟩
  have sB_13 : B_13 (R h0 7) 1 = (-1) := by rw [eB_13, uA_s]; exact upd_s
  have nB_13 : ∀ k, k ≠ 1 → B_13 (R h0 7) k = B_9 (R h0 7) k := fun k hk => by rw [eB_13, uA_s]; exact upd_n hk
  have fB_13 : ∀ c, G c ≠ 16 → B_13 c = B_9 c := fun c hc => by rw [eB_13]; exact uA_n (fun e => hc (by rw [e]; exact hg_3))
  have hT : TX E G B_13 R H := by rw [eB_13]; exact hT.w (by rw [hg_3]; exact hn) ho
  have hWB_13 : TW G B_13 R := by rw [eB_13]; exact hWB_9.w (by rw [hg_3]; exact trivial)
  have hW := hWB_13
  refine lv_aload_n hx hb dX8_forgetAdds_14 rfl (lv_at hl 1 rfl) ?_
  have ha_14 := tx_10 hT hG
  refine va_get (D := DG E) (ci := 8) (v := .ref (R h0 8)) (C := RX8) (T := TX8) (N := 9) hx hb hts iw_X8 hown hK.1 (va_one ha_14) 0 rfl rfl 8 (by decide) (hts _ fl_X8_15) (fun _ h9 => h9) rfl dX8_forgetAdds_15 ?_
  refine lv_iload_n hx hb dX8_forgetAdds_18 rfl (lv_at hl 0 rfl) ?_
  refine lv_iconst (v := 0) hx hb dX8_forgetAdds_19 (by decide) ?_
  have ha_15 := tx_17 hT hg_7
  refine rr_iast (D := DG E) hx hb hK.1 0 ha_15 hS (by show G (R h0 8) ∈ ([16, 17] : List Nat); rw [hg_7]; decide) rfl (show vp_in (1) 2 from vp_in_iff.mpr ⟨by decide, by decide⟩) dX8_forgetAdds_20 (fun H locs hn ho hz hS => ?_)
  obtain ⟨B_16, eB_16⟩ : ∃ z : AA, z = uA B_13 (R h0 8) (upd (B_13 (R h0 8)) 1 0) := ⟨_, rfl⟩
  have sB_16 : B_16 (R h0 8) 1 = 0 := by rw [eB_16, uA_s]; exact upd_s
  have nB_16 : ∀ k, k ≠ 1 → B_16 (R h0 8) k = B_13 (R h0 8) k := fun k hk => by rw [eB_16, uA_s]; exact upd_n hk
  have fB_16 : ∀ c, G c ≠ 17 → B_16 c = B_13 c := fun c hc => by rw [eB_16]; exact uA_n (fun e => hc (by rw [e]; exact hg_7))
  have hT : TX E G B_16 R H := by rw [eB_16]; exact hT.w (by rw [hg_7]; exact hn) ho
  have hWB_16 : TW G B_16 R := by rw [eB_16]; exact hWB_13.w (by rw [hg_7]; exact trivial)
  have hW := hWB_16
  refine lv_iinc (v := 2) (lv' := [(1, .int 2), (0, .ref h0)]) hx hb dX8_forgetAdds_21 hl (k := 0) rfl (by decide) (by decide) rfl (fun ls hl => ?_)
  refine lv_goto (tgt := 2) hx hb dX8_forgetAdds_24 (by decide) ?_
  refine lv_iload_n hx hb dX8_forgetAdds_2 rfl (lv_at hl 0 rfl) ?_
  refine lv_iconst (v := 2) hx hb dX8_forgetAdds_3 (by decide) ?_
  refine lv_icmp_ge (tgt := 27) hx hb dX8_forgetAdds_4 (by decide) (fun c_17 => ?_) (fun c_17 => absurd c_17 (by decide))
  exact W.vret hx hb hr (fun t ht hW9 => ⟨⟨B_16, rfl, ⟨hW, (Fr.w (Fr.w (Fr.w (Fr.w Fr.rf hg_3 (by decide) eB_5) hg_7 (by decide) eB_9) hg_3 (by decide) eB_13) hg_7 (by decide) eB_16), ⟨B_5, eB_5, B_9, eB_9, B_13, eB_13, B_16, eB_16, rfl⟩⟩, (by show TX E G B_16 R t.heap; rw [ht]; exact hT)⟩, hS.F ht⟩) hS.2.2 dX8_forgetAdds_27
theorem dX8_clear_0 : decode cX8_clear 0 = .ok (.aload_n 0, 1) := by decide +kernel
theorem dX8_clear_1 : decode cX8_clear 1 = .ok (.getfield 39, 3) := by decide +kernel
theorem dX8_clear_4 : decode cX8_clear 4 = .ok (.invokevirtual 46, 3) := by decide +kernel
theorem dX8_clear_7 : decode cX8_clear 7 = .ok (.aload_n 0, 1) := by decide +kernel
theorem dX8_clear_8 : decode cX8_clear 8 = .ok (.iconst 0, 1) := by decide +kernel
theorem dX8_clear_9 : decode cX8_clear 9 = .ok (.putfield 49, 3) := by decide +kernel
theorem dX8_clear_12 : decode cX8_clear 12 = .ok (.aload_n 0, 1) := by decide +kernel
theorem dX8_clear_13 : decode cX8_clear 13 = .ok (.iconst 0, 1) := by decide +kernel
theorem dX8_clear_14 : decode cX8_clear 14 = .ok (.putfield 52, 3) := by decide +kernel
theorem dX8_clear_17 : decode cX8_clear 17 = .ok (.aload_n 0, 1) := by decide +kernel
theorem dX8_clear_18 : decode cX8_clear 18 = .ok (.iconst 0, 1) := by decide +kernel
theorem dX8_clear_19 : decode cX8_clear 19 = .ok (.putfield 56, 3) := by decide +kernel
theorem dX8_clear_22 : decode cX8_clear 22 = .ok (.aload_n 0, 1) := by decide +kernel
theorem dX8_clear_23 : decode cX8_clear 23 = .ok (.invokevirtual 43, 3) := by decide +kernel
theorem dX8_clear_26 : decode cX8_clear 26 = .ok (.return_, 1) := by decide +kernel
set_option maxHeartbeats 8000000 in
set_option maxRecDepth 100000 in
theorem x_X8_clear (l : Launch) (E : EE) (z0 : Nat) (G : Nat → Nat) (hGz : ∀ q, G q ≠ 0 → z0 ≤ q) (B : AA) (R : RR) (hW : TW G B R) (h0 : Nat) (hG : G h0 = 10) : Met l yX8_clear [Cond.code yX8_clear cX8_clear 1 none] ({ frames := 1, cells := 0, slots := 0, locals := 21 } : Room) (va_Pc [.ref h0] (fun U => TX E G B R U.heap ∧ KS E z0 U)) (va_Qv (fun (u : AA) => (TW G u R) ∧ (Fr G ([10, 11, 16, 17] : List Nat) B u) ∧ (C_X8_clear G B R h0 u)) (fun u t => TX E G u R t.heap) (fun q : Nat => G q ∈ ([10, 11, 16, 17] : List Nat))) 0 0 (fun q : Nat => G q ∈ ([10, 11, 16, 17] : List Nat)) := by
  refine Met.ofW (cc := cX8_clear) (maxL := 1) (ret := none) (by decide) rfl ?_
  intro p e s m args below meth c s₁ B9 hml hv
  obtain ⟨rfl, hT, hK⟩ := hv
  have hx := B9.exec
  have hb := B9.bytes
  have hr := B9.returns
  have hts : ∀ w ∈ TS, w.before ([.ref h0] : List Value).toArray s = true := fun w hw => hK.2.1 w hw _
  have hown : s.vm.findClass RX8 = some m.cls := findClass_of_methodNamed B9.named
  have hlocks := B9.notSynchronized
  have hS : va_S (fun q : Nat => G q ∈ ([10, 11, 16, 17] : List Nat)) s.heap s.heap [] := va_S.rf
  have hAz : ∀ q, (fun q : Nat => G q ∈ ([10, 11, 16, 17] : List Nat)) q → z0 ≤ q := zL hGz (by decide)
  have hW_0 := hW
  have hl := lv_entry ([.ref h0]) (n := 1) (Nat.le_of_ble_eq_true rfl)
  rw [lg_entry_eq]
  generalize (lg_sl ([.ref h0]) ++ List.replicate (1 - (lg_sl ([.ref h0])).length) Slot.unset).toArray = ls at hl ⊢
  have hl : lv_has ls 1 [(0, .ref h0)] := hl
  refine lv_aload_n hx hb dX8_clear_0 rfl (lv_at hl 0 rfl) ?_
  have ha_1 := tx_10 hT hG
  have hg_2 : G (R h0 3) = 11 := (tw_10 hW hG).2.2.2.1
  refine va_get (D := DG E) (ci := 8) (v := .ref (R h0 3)) (C := RX8) (T := TX8) (N := 9) hx hb hts iw_X8 hown hK.1 (va_one ha_1) 0 rfl rfl 3 (by decide) (hts _ fl_X8_39) (fun _ h9 => h9) rfl dX8_clear_1 ?_
  have ha_3 := tx_11 hT hg_2
  refine va_callv (rnV (fun H => TX E G B R H) (As := []) (rest := []) ⟨hx, hb, hml, hown, hts⟩ (x_X5_clear l E z0 G hGz B R hW (R h0 3) hg_2) (cwV 0 hts (gdV ml_X8_46 im_X5_clear se_X5_X5_clear in_X5 co_X5_clear rfl) rfl rfl rfl (by decide +kernel) ⟨Nat.le_of_ble_eq_true rfl, Nat.le_of_ble_eq_true rfl⟩) hT (fun U hU hW => hK.go hW hS hAz hU) (va_recv hK.1 (va_one ha_3) (ci := 5) (q0 := 0) rfl rfl) rfl rfl hl.1 rfl (lv_room (Nat.le_of_ble_eq_true rfl)) dX8_clear_4 ⟨Nat.le_of_ble_eq_true rfl, Nat.le_of_ble_eq_true rfl⟩) hS (fun q _ h => mL (L' := [11]) (L := [10, 11, 16, 17]) (by decide) h) (fun q h => mL (L' := [11]) (L := [10, 11, 16, 17]) (by decide) h) (fun U_5 t H locs ht hvm hwr_4 hB hz hk hS => ?_)
  have hT : TX E G U_5 R H := by rw [ht] at hB; exact hB
  have hWr_4 : TW G U_5 R := hwr_4.1
  have hW := hWr_4
  have hFr_4 : Fr G [11] B U_5 := hwr_4.2.1
  have hCr_4 : C_X5_clear G B R (R h0 3) U_5 := hwr_4.2.2
  refine lv_aload_n hx hb dX8_clear_7 rfl (lv_at hl 0 rfl) ?_
  refine lv_iconst (v := 0) hx hb dX8_clear_8 (by decide) ?_
  have ha_6 := tx_10 hT hG
  refine rr_put (D := DG E) (ci := 8) (v := .int 0) (ty := .int) (C := RX8) (T := TX8) (N := 9) hx hb hts iw_X8 tyX8 tyX8_ok nmX8 hown hK.1 ha_6 hS (by show G h0 ∈ ([10, 11, 16, 17] : List Nat); rw [hG]; decide) rfl 4 (by decide) (hts _ fl_X8_49) (fun _ h9 => h9) rfl (by decide +kernel) rfl rfl (Nat.le_of_ble_eq_true rfl) dX8_clear_9 (fun H locs hn ho hz hS => ?_)
  obtain ⟨B_7, eB_7⟩ : ∃ z : AA, z = uA U_5 h0 (upd (U_5 h0) 4 0) := ⟨_, rfl⟩
  have sB_7 : B_7 h0 4 = 0 := by rw [eB_7, uA_s]; exact upd_s
  have nB_7 : ∀ k, k ≠ 4 → B_7 h0 k = U_5 h0 k := fun k hk => by rw [eB_7, uA_s]; exact upd_n hk
  have fB_7 : ∀ c, G c ≠ 10 → B_7 c = U_5 c := fun c hc => by rw [eB_7]; exact uA_n (fun e => hc (by rw [e]; exact hG))
  have hT : TX E G B_7 R H := by rw [eB_7]; exact hT.w (by rw [hG]; exact hn) ho
  have hWB_7 : TW G B_7 R := by rw [eB_7]; exact hWr_4.w (by rw [hG]; exact tw_10 hWr_4 hG)
  have hW := hWB_7
  refine lv_aload_n hx hb dX8_clear_12 rfl (lv_at hl 0 rfl) ?_
  refine lv_iconst (v := 0) hx hb dX8_clear_13 (by decide) ?_
  have ha_8 := tx_10 hT hG
  refine rr_put (D := DG E) (ci := 8) (v := .int 0) (ty := .boolean) (C := RX8) (T := TX8) (N := 9) hx hb hts iw_X8 tyX8 tyX8_ok nmX8 hown hK.1 ha_8 hS (by show G h0 ∈ ([10, 11, 16, 17] : List Nat); rw [hG]; decide) rfl 5 (by decide) (hts _ fl_X8_52) (fun _ h9 => h9) rfl (by decide +kernel) rfl rfl (Nat.le_of_ble_eq_true rfl) dX8_clear_14 (fun H locs hn ho hz hS => ?_)
  obtain ⟨B_9, eB_9⟩ : ∃ z : AA, z = uA B_7 h0 (upd (B_7 h0) 5 0) := ⟨_, rfl⟩
  have sB_9 : B_9 h0 5 = 0 := by rw [eB_9, uA_s]; exact upd_s
  have nB_9 : ∀ k, k ≠ 5 → B_9 h0 k = B_7 h0 k := fun k hk => by rw [eB_9, uA_s]; exact upd_n hk
  have fB_9 : ∀ c, G c ≠ 10 → B_9 c = B_7 c := fun c hc => by rw [eB_9]; exact uA_n (fun e => hc (by rw [e]; exact hG))
  have hT : TX E G B_9 R H := by rw [eB_9]; exact hT.w (by rw [hG]; exact hn) ho
  have hWB_9 : TW G B_9 R := by rw [eB_9]; exact hWB_7.w (by rw [hG]; exact tw_10 hWB_7 hG)
  have hW := hWB_9
  refine lv_aload_n hx hb dX8_clear_17 rfl (lv_at hl 0 rfl) ?_
  refine lv_iconst (v := 0) hx hb dX8_clear_18 (by decide) ?_
  have ha_10 := tx_10 hT hG
  refine rr_put (D := DG E) (ci := 8) (v := .int 0) (ty := .boolean) (C := RX8) (T := TX8) (N := 9) hx hb hts iw_X8 tyX8 tyX8_ok nmX8 hown hK.1 ha_10 hS (by show G h0 ∈ ([10, 11, 16, 17] : List Nat); rw [hG]; decide) rfl 6 (by decide) (hts _ fl_X8_56) (fun _ h9 => h9) rfl (by decide +kernel) rfl rfl (Nat.le_of_ble_eq_true rfl) dX8_clear_19 (fun H locs hn ho hz hS => ?_)
  obtain ⟨B_11, eB_11⟩ : ∃ z : AA, z = uA B_9 h0 (upd (B_9 h0) 6 0) := ⟨_, rfl⟩
  have sB_11 : B_11 h0 6 = 0 := by rw [eB_11, uA_s]; exact upd_s
  have nB_11 : ∀ k, k ≠ 6 → B_11 h0 k = B_9 h0 k := fun k hk => by rw [eB_11, uA_s]; exact upd_n hk
  have fB_11 : ∀ c, G c ≠ 10 → B_11 c = B_9 c := fun c hc => by rw [eB_11]; exact uA_n (fun e => hc (by rw [e]; exact hG))
  have hT : TX E G B_11 R H := by rw [eB_11]; exact hT.w (by rw [hG]; exact hn) ho
  have hWB_11 : TW G B_11 R := by rw [eB_11]; exact hWB_9.w (by rw [hG]; exact tw_10 hWB_9 hG)
  have hW := hWB_11
  refine lv_aload_n hx hb dX8_clear_22 rfl (lv_at hl 0 rfl) ?_
  have ha_12 := tx_10 hT hG
  refine va_callv (rnV (fun H => TX E G B_11 R H) (As := []) (rest := []) ⟨hx, hb, hml, hown, hts⟩ (x_X8_forgetAdds l E z0 G hGz B_11 R hW h0 hG) (cwV 0 hts (gdV ml_X8_43 im_X8_forgetAdds se_X8_X8_forgetAdds in_X8 co_X8_forgetAdds rfl) rfl rfl rfl (by decide +kernel) ⟨Nat.le_of_ble_eq_true rfl, Nat.le_of_ble_eq_true rfl⟩) hT (fun U hU hW => hK.go hW hS hAz hU) (va_recv hK.1 (va_one ha_12) (ci := 8) (q0 := 0) rfl rfl) rfl rfl hl.1 rfl (lv_room (Nat.le_of_ble_eq_true rfl)) dX8_clear_23 ⟨Nat.le_of_ble_eq_true rfl, Nat.le_of_ble_eq_true rfl⟩) hS (fun q _ h => mL (L' := [16, 17]) (L := [10, 11, 16, 17]) (by decide) h) (fun q h => mL (L' := [16, 17]) (L := [10, 11, 16, 17]) (by decide) h) (fun U_14 t H locs ht hvm hwr_13 hB hz hk hS => ?_)
  have hT : TX E G U_14 R H := by rw [ht] at hB; exact hB
  have hWr_13 : TW G U_14 R := hwr_13.1
  have hW := hWr_13
  have hFr_13 : Fr G [16, 17] B_11 U_14 := hwr_13.2.1
  have hCr_13 : C_X8_forgetAdds G B_11 R h0 U_14 := hwr_13.2.2
  exact W.vret hx hb hr (fun t ht hW9 => ⟨⟨U_14, rfl, ⟨hW, (Fr.c (Fr.w (Fr.w (Fr.w (Fr.c Fr.rf hFr_4 (by decide)) hG (by decide) eB_7) hG (by decide) eB_9) hG (by decide) eB_11) hFr_13 (by decide)), ⟨U_5, hFr_4, hCr_4, B_7, eB_7, B_9, eB_9, B_11, eB_11, U_14, hFr_13, hCr_13, rfl⟩⟩, (by show TX E G U_14 R t.heap; rw [ht]; exact hT)⟩, hS.F ht⟩) hS.2.2 dX8_clear_26
theorem dX8_refuse_0 : decode cX8_refuse 0 = .ok (.aload_n 0, 1) := by decide +kernel
theorem dX8_refuse_1 : decode cX8_refuse 1 = .ok (.getfield 30, 3) := by decide +kernel
theorem dX8_refuse_4 : decode cX8_refuse 4 = .ok (.aload_n 0, 1) := by decide +kernel
theorem dX8_refuse_5 : decode cX8_refuse 5 = .ok (.getfield 22, 3) := by decide +kernel
theorem dX8_refuse_8 : decode cX8_refuse 8 = .ok (.bipush 6, 2) := by decide +kernel
theorem dX8_refuse_10 : decode cX8_refuse 10 = .ok (.iload_n 1, 1) := by decide +kernel
theorem dX8_refuse_11 : decode cX8_refuse 11 = .ok (.invokevirtual 167, 3) := by decide +kernel
theorem dX8_refuse_14 : decode cX8_refuse 14 = .ok (.iload_n 2, 1) := by decide +kernel
theorem dX8_refuse_15 : decode cX8_refuse 15 = .ok (.putfield 179, 3) := by decide +kernel
theorem dX8_refuse_18 : decode cX8_refuse 18 = .ok (.return_, 1) := by decide +kernel
set_option maxHeartbeats 8000000 in
set_option maxRecDepth 100000 in
theorem x_X8_refuse (l : Launch) (E : EE) (z0 : Nat) (G : Nat → Nat) (hGz : ∀ q, G q ≠ 0 → z0 ≤ q) (B : AA) (R : RR) (hW : TW G B R) (h0 : Nat) (p0 : Int32) (p1 : Int32) (hG : G h0 = 10) : Met l yX8_refuse [Cond.code yX8_refuse cX8_refuse 3 none] ({ frames := 2, cells := 0, slots := 0, locals := 47 } : Room) (va_Pc [.ref h0, .int p0, .int p1] (fun U => TX E G B R U.heap ∧ KS E z0 U)) (va_Qv (fun (u : AA) => (TW G u R) ∧ (Fr G ([4, 31] : List Nat) B u) ∧ (C_X8_refuse G B R h0 p0 p1 u)) (fun u t => TX E G u R t.heap) (fun q : Nat => G q ∈ ([4, 31] : List Nat))) 0 0 (fun q : Nat => G q ∈ ([4, 31] : List Nat)) := by
  refine Met.ofW (cc := cX8_refuse) (maxL := 3) (ret := none) (by decide) rfl ?_
  intro p e s m args below meth c s₁ B9 hml hv
  obtain ⟨rfl, hT, hK⟩ := hv
  have hx := B9.exec
  have hb := B9.bytes
  have hr := B9.returns
  have hts : ∀ w ∈ TS, w.before ([.ref h0, .int p0, .int p1] : List Value).toArray s = true := fun w hw => hK.2.1 w hw _
  have hown : s.vm.findClass RX8 = some m.cls := findClass_of_methodNamed B9.named
  have hlocks := B9.notSynchronized
  have hS : va_S (fun q : Nat => G q ∈ ([4, 31] : List Nat)) s.heap s.heap [] := va_S.rf
  have hAz : ∀ q, (fun q : Nat => G q ∈ ([4, 31] : List Nat)) q → z0 ≤ q := zL hGz (by decide)
  have hW_0 := hW
  have hl := lv_entry ([.ref h0, .int p0, .int p1]) (n := 3) (Nat.le_of_ble_eq_true rfl)
  rw [lg_entry_eq]
  generalize (lg_sl ([.ref h0, .int p0, .int p1]) ++ List.replicate (3 - (lg_sl ([.ref h0, .int p0, .int p1])).length) Slot.unset).toArray = ls at hl ⊢
  have hl : lv_has ls 3 [(0, .ref h0), (1, .int p0), (2, .int p1)] := hl
  refine lv_aload_n hx hb dX8_refuse_0 rfl (lv_at hl 0 rfl) ?_
  have ha_1 := tx_10 hT hG
  have hg_2 : G (R h0 2) = 4 := (tw_10 hW hG).2.2.1
  refine va_get (D := DG E) (ci := 8) (v := .ref (R h0 2)) (C := RX8) (T := TX8) (N := 9) hx hb hts iw_X8 hown hK.1 (va_one ha_1) 0 rfl rfl 2 (by decide) (hts _ fl_X8_30) (fun _ h9 => h9) rfl dX8_refuse_1 ?_
  refine lv_aload_n hx hb dX8_refuse_4 rfl (lv_at hl 0 rfl) ?_
  have hb_3 := (tw_10 hW_0 hG).1
  refine va_get (D := DG E) (ci := 8) (v := .int (B h0 0)) (C := RX8) (T := TX8) (N := 9) hx hb hts iw_X8 hown hK.1 (va_one ha_1) 0 rfl rfl 0 (by decide) (hts _ fl_X8_22) (fun _ h9 => h9) rfl dX8_refuse_5 ?_
  refine lv_bipush (v := 6) hx hb dX8_refuse_8 (by decide) ?_
  refine lv_iload_n hx hb dX8_refuse_10 rfl (lv_at hl 1 rfl) ?_
  have ha_4 := tx_4 hT hg_2
  refine va_callr (rnV (fun H => TX E G B R H) (As := [.int (B h0 0), .int 6, .int p0]) (rest := []) ⟨hx, hb, hml, hown, hts⟩ (x_X0_carry l E z0 G hGz B R hW (R h0 2) (B h0 0) (6 : Int32) p0 hg_2 (show 0 ≤ (B h0 0).toInt ∧ (B h0 0).toInt ≤ 3 from by have := i_6; first | decide | omega)) (cwV 3 hts (gdV ml_X8_167 im_X0_carry se_X0_X0_carry in_X0 co_X0_carry rfl) rfl rfl rfl (by decide +kernel) ⟨Nat.le_of_ble_eq_true rfl, Nat.le_of_ble_eq_true rfl⟩) hT (fun U hU hW => hK.go hW hS hAz hU) (va_recv hK.1 (va_one ha_4) (ci := 0) (q0 := 0) rfl rfl) rfl rfl hl.1 rfl (lv_room (Nat.le_of_ble_eq_true rfl)) dX8_refuse_11 ⟨Nat.le_of_ble_eq_true rfl, Nat.le_of_ble_eq_true rfl⟩) hS (fun q _ h => mL (L' := [4, 31]) (L := [4, 31]) (by decide) h) (fun q h => mL (L' := [4, 31]) (L := [4, 31]) (by decide) h) (fun U_6 r_5 t H locs ht hvm hwr_5 hB hz hk hS => ?_)
  have hRr_5 := hB.1
  have hB := hB.2
  have hT : TX E G U_6 R H := by rw [ht] at hB; exact hB
  have hgr_5 : G r_5 = 31 := hRr_5.1
  have hWr_5 : TW G U_6 R := hRr_5.2.1
  have hW := hWr_5
  have hFr_5 : Fr G [4, 31] B U_6 := hRr_5.2.2.1
  have hCr_5 : C_X0_carry G B R (R h0 2) (B h0 0) (6 : Int32) p0 U_6 r_5 := hRr_5.2.2.2
  refine lv_iload_n hx hb dX8_refuse_14 rfl (lv_at hl 2 rfl) ?_
  have ha_7 := tx_31 hT hgr_5
  refine rr_put (D := DG E) (ci := 2) (v := .int p1) (ty := .int) (C := RX2) (T := TX2) (N := 8) hx hb hts iw_X2 tyX2 tyX2_ok nmX2 hown hK.1 ha_7 hS (by show G r_5 ∈ ([4, 31] : List Nat); rw [hgr_5]; decide) rfl 4 (by decide) (hts _ fl_X8_179) (fun _ h9 => h9) rfl (by decide +kernel) rfl rfl (Nat.le_of_ble_eq_true rfl) dX8_refuse_15 (fun H locs hn ho hz hS => ?_)
  obtain ⟨B_8, eB_8⟩ : ∃ z : AA, z = uA U_6 r_5 (upd (U_6 r_5) 4 p1) := ⟨_, rfl⟩
  have sB_8 : B_8 r_5 4 = p1 := by rw [eB_8, uA_s]; exact upd_s
  have nB_8 : ∀ k, k ≠ 4 → B_8 r_5 k = U_6 r_5 k := fun k hk => by rw [eB_8, uA_s]; exact upd_n hk
  have fB_8 : ∀ c, G c ≠ 31 → B_8 c = U_6 c := fun c hc => by rw [eB_8]; exact uA_n (fun e => hc (by rw [e]; exact hgr_5))
  have hT : TX E G B_8 R H := by rw [eB_8]; exact hT.w (by rw [hgr_5]; exact hn) ho
  have hWB_8 : TW G B_8 R := by rw [eB_8]; exact hWr_5.w (by rw [hgr_5]; exact tw_31 hWr_5 hgr_5)
  have hW := hWB_8
  exact W.vret hx hb hr (fun t ht hW9 => ⟨⟨B_8, rfl, ⟨hW, (Fr.w (Fr.c Fr.rf hFr_5 (by decide)) hgr_5 (by decide) eB_8), ⟨r_5, U_6, hFr_5, hCr_5, B_8, eB_8, rfl⟩⟩, (by show TX E G B_8 R t.heap; rw [ht]; exact hT)⟩, hS.F ht⟩) hS.2.2 dX8_refuse_18
theorem dX8_acknowledge_0 : decode cX8_acknowledge 0 = .ok (.aload_n 0, 1) := by decide +kernel
theorem dX8_acknowledge_1 : decode cX8_acknowledge 1 = .ok (.getfield 30, 3) := by decide +kernel
theorem dX8_acknowledge_4 : decode cX8_acknowledge 4 = .ok (.aload_n 0, 1) := by decide +kernel
theorem dX8_acknowledge_5 : decode cX8_acknowledge 5 = .ok (.getfield 22, 3) := by decide +kernel
theorem dX8_acknowledge_8 : decode cX8_acknowledge 8 = .ok (.iconst 5, 1) := by decide +kernel
theorem dX8_acknowledge_9 : decode cX8_acknowledge 9 = .ok (.iload_n 1, 1) := by decide +kernel
theorem dX8_acknowledge_10 : decode cX8_acknowledge 10 = .ok (.invokevirtual 167, 3) := by decide +kernel
theorem dX8_acknowledge_13 : decode cX8_acknowledge 13 = .ok (.pop, 1) := by decide +kernel
theorem dX8_acknowledge_14 : decode cX8_acknowledge 14 = .ok (.return_, 1) := by decide +kernel
set_option maxHeartbeats 8000000 in
set_option maxRecDepth 100000 in
theorem x_X8_acknowledge (l : Launch) (E : EE) (z0 : Nat) (G : Nat → Nat) (hGz : ∀ q, G q ≠ 0 → z0 ≤ q) (B : AA) (R : RR) (hW : TW G B R) (h0 : Nat) (p0 : Int32) (hG : G h0 = 10) : Met l yX8_acknowledge [Cond.code yX8_acknowledge cX8_acknowledge 2 none] ({ frames := 2, cells := 0, slots := 0, locals := 47 } : Room) (va_Pc [.ref h0, .int p0] (fun U => TX E G B R U.heap ∧ KS E z0 U)) (va_Qv (fun (u : AA) => (TW G u R) ∧ (Fr G ([4, 31] : List Nat) B u) ∧ (C_X8_acknowledge G B R h0 p0 u)) (fun u t => TX E G u R t.heap) (fun q : Nat => G q ∈ ([4, 31] : List Nat))) 0 0 (fun q : Nat => G q ∈ ([4, 31] : List Nat)) := by
  refine Met.ofW (cc := cX8_acknowledge) (maxL := 2) (ret := none) (by decide) rfl ?_
  intro p e s m args below meth c s₁ B9 hml hv
  obtain ⟨rfl, hT, hK⟩ := hv
  have hx := B9.exec
  have hb := B9.bytes
  have hr := B9.returns
  have hts : ∀ w ∈ TS, w.before ([.ref h0, .int p0] : List Value).toArray s = true := fun w hw => hK.2.1 w hw _
  have hown : s.vm.findClass RX8 = some m.cls := findClass_of_methodNamed B9.named
  have hlocks := B9.notSynchronized
  have hS : va_S (fun q : Nat => G q ∈ ([4, 31] : List Nat)) s.heap s.heap [] := va_S.rf
  have hAz : ∀ q, (fun q : Nat => G q ∈ ([4, 31] : List Nat)) q → z0 ≤ q := zL hGz (by decide)
  have hW_0 := hW
  have hl := lv_entry ([.ref h0, .int p0]) (n := 2) (Nat.le_of_ble_eq_true rfl)
  rw [lg_entry_eq]
  generalize (lg_sl ([.ref h0, .int p0]) ++ List.replicate (2 - (lg_sl ([.ref h0, .int p0])).length) Slot.unset).toArray = ls at hl ⊢
  have hl : lv_has ls 2 [(0, .ref h0), (1, .int p0)] := hl
  refine lv_aload_n hx hb dX8_acknowledge_0 rfl (lv_at hl 0 rfl) ?_
  have ha_1 := tx_10 hT hG
  have hg_2 : G (R h0 2) = 4 := (tw_10 hW hG).2.2.1
  refine va_get (D := DG E) (ci := 8) (v := .ref (R h0 2)) (C := RX8) (T := TX8) (N := 9) hx hb hts iw_X8 hown hK.1 (va_one ha_1) 0 rfl rfl 2 (by decide) (hts _ fl_X8_30) (fun _ h9 => h9) rfl dX8_acknowledge_1 ?_
  refine lv_aload_n hx hb dX8_acknowledge_4 rfl (lv_at hl 0 rfl) ?_
  have hb_3 := (tw_10 hW_0 hG).1
  refine va_get (D := DG E) (ci := 8) (v := .int (B h0 0)) (C := RX8) (T := TX8) (N := 9) hx hb hts iw_X8 hown hK.1 (va_one ha_1) 0 rfl rfl 0 (by decide) (hts _ fl_X8_22) (fun _ h9 => h9) rfl dX8_acknowledge_5 ?_
  refine lv_iconst (v := 5) hx hb dX8_acknowledge_8 (by decide) ?_
  refine lv_iload_n hx hb dX8_acknowledge_9 rfl (lv_at hl 1 rfl) ?_
  have ha_4 := tx_4 hT hg_2
  refine va_callr (rnV (fun H => TX E G B R H) (As := [.int (B h0 0), .int 5, .int p0]) (rest := []) ⟨hx, hb, hml, hown, hts⟩ (x_X0_carry l E z0 G hGz B R hW (R h0 2) (B h0 0) (5 : Int32) p0 hg_2 (show 0 ≤ (B h0 0).toInt ∧ (B h0 0).toInt ≤ 3 from by have := i_5; first | decide | omega)) (cwV 3 hts (gdV ml_X8_167 im_X0_carry se_X0_X0_carry in_X0 co_X0_carry rfl) rfl rfl rfl (by decide +kernel) ⟨Nat.le_of_ble_eq_true rfl, Nat.le_of_ble_eq_true rfl⟩) hT (fun U hU hW => hK.go hW hS hAz hU) (va_recv hK.1 (va_one ha_4) (ci := 0) (q0 := 0) rfl rfl) rfl rfl hl.1 rfl (lv_room (Nat.le_of_ble_eq_true rfl)) dX8_acknowledge_10 ⟨Nat.le_of_ble_eq_true rfl, Nat.le_of_ble_eq_true rfl⟩) hS (fun q _ h => mL (L' := [4, 31]) (L := [4, 31]) (by decide) h) (fun q h => mL (L' := [4, 31]) (L := [4, 31]) (by decide) h) (fun U_6 r_5 t H locs ht hvm hwr_5 hB hz hk hS => ?_)
  have hRr_5 := hB.1
  have hB := hB.2
  have hT : TX E G U_6 R H := by rw [ht] at hB; exact hB
  have hgr_5 : G r_5 = 31 := hRr_5.1
  have hWr_5 : TW G U_6 R := hRr_5.2.1
  have hW := hWr_5
  have hFr_5 : Fr G [4, 31] B U_6 := hRr_5.2.2.1
  have hCr_5 : C_X0_carry G B R (R h0 2) (B h0 0) (5 : Int32) p0 U_6 r_5 := hRr_5.2.2.2
  refine lv_pop hx hb dX8_acknowledge_13 rfl ?_
  exact W.vret hx hb hr (fun t ht hW9 => ⟨⟨U_6, rfl, ⟨hW, (Fr.c Fr.rf hFr_5 (by decide)), ⟨r_5, U_6, hFr_5, hCr_5, rfl⟩⟩, (by show TX E G U_6 R t.heap; rw [ht]; exact hT)⟩, hS.F ht⟩) hS.2.2 dX8_acknowledge_14
theorem dX8_tellSequence_0 : decode cX8_tellSequence 0 = .ok (.aload_n 0, 1) := by decide +kernel
theorem dX8_tellSequence_1 : decode cX8_tellSequence 1 = .ok (.getfield 56, 3) := by decide +kernel
theorem dX8_tellSequence_4 : decode cX8_tellSequence 4 = .ok (.ifCond .ne 17, 3) := by decide +kernel
theorem dX8_tellSequence_7 : decode cX8_tellSequence 7 = .ok (.aload_n 0, 1) := by decide +kernel
theorem dX8_tellSequence_8 : decode cX8_tellSequence 8 = .ok (.aload_n 0, 1) := by decide +kernel
theorem dX8_tellSequence_9 : decode cX8_tellSequence 9 = .ok (.getfield 49, 3) := by decide +kernel
theorem dX8_tellSequence_12 : decode cX8_tellSequence 12 = .ok (.iconst 1, 1) := by decide +kernel
theorem dX8_tellSequence_13 : decode cX8_tellSequence 13 = .ok (.invokevirtual 85, 3) := by decide +kernel
theorem dX8_tellSequence_16 : decode cX8_tellSequence 16 = .ok (.aload_n 0, 1) := by decide +kernel
theorem dX8_tellSequence_17 : decode cX8_tellSequence 17 = .ok (.iconst 1, 1) := by decide +kernel
theorem dX8_tellSequence_18 : decode cX8_tellSequence 18 = .ok (.putfield 56, 3) := by decide +kernel
theorem dX8_tellSequence_21 : decode cX8_tellSequence 21 = .ok (.return_, 1) := by decide +kernel
set_option maxHeartbeats 8000000 in
set_option maxRecDepth 100000 in
theorem x_X8_tellSequence (l : Launch) (E : EE) (z0 : Nat) (G : Nat → Nat) (hGz : ∀ q, G q ≠ 0 → z0 ≤ q) (B : AA) (R : RR) (hW : TW G B R) (h0 : Nat) (hG : G h0 = 10) : Met l yX8_tellSequence [Cond.code yX8_tellSequence cX8_tellSequence 1 none] ({ frames := 3, cells := 0, slots := 0, locals := 69 } : Room) (va_Pc [.ref h0] (fun U => TX E G B R U.heap ∧ KS E z0 U)) (va_Qv (fun (u : AA) => (TW G u R) ∧ (Fr G ([10, 4, 31] : List Nat) B u) ∧ (C_X8_tellSequence G B R h0 u)) (fun u t => TX E G u R t.heap) (fun q : Nat => G q ∈ ([10, 4, 31] : List Nat))) 0 0 (fun q : Nat => G q ∈ ([10, 4, 31] : List Nat)) := by
  refine Met.ofW (cc := cX8_tellSequence) (maxL := 1) (ret := none) (by decide) rfl ?_
  intro p e s m args below meth c s₁ B9 hml hv
  obtain ⟨rfl, hT, hK⟩ := hv
  have hx := B9.exec
  have hb := B9.bytes
  have hr := B9.returns
  have hts : ∀ w ∈ TS, w.before ([.ref h0] : List Value).toArray s = true := fun w hw => hK.2.1 w hw _
  have hown : s.vm.findClass RX8 = some m.cls := findClass_of_methodNamed B9.named
  have hlocks := B9.notSynchronized
  have hS : va_S (fun q : Nat => G q ∈ ([10, 4, 31] : List Nat)) s.heap s.heap [] := va_S.rf
  have hAz : ∀ q, (fun q : Nat => G q ∈ ([10, 4, 31] : List Nat)) q → z0 ≤ q := zL hGz (by decide)
  have hW_0 := hW
  have hl := lv_entry ([.ref h0]) (n := 1) (Nat.le_of_ble_eq_true rfl)
  rw [lg_entry_eq]
  generalize (lg_sl ([.ref h0]) ++ List.replicate (1 - (lg_sl ([.ref h0])).length) Slot.unset).toArray = ls at hl ⊢
  have hl : lv_has ls 1 [(0, .ref h0)] := hl
  refine lv_aload_n hx hb dX8_tellSequence_0 rfl (lv_at hl 0 rfl) ?_
  have ha_1 := tx_10 hT hG
  refine va_get (D := DG E) (ci := 8) (v := .int (B h0 6)) (C := RX8) (T := TX8) (N := 9) hx hb hts iw_X8 hown hK.1 (va_one ha_1) 0 rfl rfl 6 (by decide) (hts _ fl_X8_56) (fun _ h9 => h9) rfl dX8_tellSequence_1 ?_
  refine lv_if_ne (tgt := 21) hx hb dX8_tellSequence_4 (by decide) (fun c_2 => ?_) (fun c_2 => ?_)
  · simp only [lt_I, le_I, eq_I, i_0, i_1, i_2, i_3, i_4, i_5, i_6, i_7, i_8, i_10, i_12, i_16, i_20, i_23, i_24, i_31, i_32, i_63, i_64, i_m1] at c_2
    exact W.vret hx hb hr (fun t ht hW9 => ⟨⟨B, rfl, ⟨hW, Fr.rf, (Or.inl ⟨c_2, rfl⟩)⟩, (by show TX E G B R t.heap; rw [ht]; exact hT)⟩, hS.F ht⟩) hS.2.2 dX8_tellSequence_21
  · simp only [lt_I, le_I, eq_I, i_0, i_1, i_2, i_3, i_4, i_5, i_6, i_7, i_8, i_10, i_12, i_16, i_20, i_23, i_24, i_31, i_32, i_63, i_64, i_m1] at c_2
    refine lv_aload_n hx hb dX8_tellSequence_7 rfl (lv_at hl 0 rfl) ?_
    refine lv_aload_n hx hb dX8_tellSequence_8 rfl (lv_at hl 0 rfl) ?_
    refine va_get (D := DG E) (ci := 8) (v := .int (B h0 4)) (C := RX8) (T := TX8) (N := 9) hx hb hts iw_X8 hown hK.1 (va_one ha_1) 0 rfl rfl 4 (by decide) (hts _ fl_X8_49) (fun _ h9 => h9) rfl dX8_tellSequence_9 ?_
    refine lv_iconst (v := 1) hx hb dX8_tellSequence_12 (by decide) ?_
    refine va_callv (rnV (fun H => TX E G B R H) (As := [.int (B h0 4), .int 1]) (rest := []) ⟨hx, hb, hml, hown, hts⟩ (x_X8_refuse l E z0 G hGz B R hW h0 (B h0 4) (1 : Int32) hG) (cwV 2 hts (gdV ml_X8_85 im_X8_refuse se_X8_X8_refuse in_X8 co_X8_refuse rfl) rfl rfl rfl (by decide +kernel) ⟨Nat.le_of_ble_eq_true rfl, Nat.le_of_ble_eq_true rfl⟩) hT (fun U hU hW => hK.go hW hS hAz hU) (va_recv hK.1 (va_one ha_1) (ci := 8) (q0 := 0) rfl rfl) rfl rfl hl.1 rfl (lv_room (Nat.le_of_ble_eq_true rfl)) dX8_tellSequence_13 ⟨Nat.le_of_ble_eq_true rfl, Nat.le_of_ble_eq_true rfl⟩) hS (fun q _ h => mL (L' := [4, 31]) (L := [10, 4, 31]) (by decide) h) (fun q h => mL (L' := [4, 31]) (L := [10, 4, 31]) (by decide) h) (fun U_4 t H locs ht hvm hwr_3 hB hz hk hS => ?_)
    have hT : TX E G U_4 R H := by rw [ht] at hB; exact hB
    have hWr_3 : TW G U_4 R := hwr_3.1
    have hW := hWr_3
    have hFr_3 : Fr G [4, 31] B U_4 := hwr_3.2.1
    have hCr_3 : C_X8_refuse G B R h0 (B h0 4) (1 : Int32) U_4 := hwr_3.2.2
    refine lv_aload_n hx hb dX8_tellSequence_16 rfl (lv_at hl 0 rfl) ?_
    refine lv_iconst (v := 1) hx hb dX8_tellSequence_17 (by decide) ?_
    have ha_5 := tx_10 hT hG
    refine rr_put (D := DG E) (ci := 8) (v := .int 1) (ty := .boolean) (C := RX8) (T := TX8) (N := 9) hx hb hts iw_X8 tyX8 tyX8_ok nmX8 hown hK.1 ha_5 hS (by show G h0 ∈ ([10, 4, 31] : List Nat); rw [hG]; decide) rfl 6 (by decide) (hts _ fl_X8_56) (fun _ h9 => h9) rfl (by decide +kernel) rfl rfl (Nat.le_of_ble_eq_true rfl) dX8_tellSequence_18 (fun H locs hn ho hz hS => ?_)
    obtain ⟨B_6, eB_6⟩ : ∃ z : AA, z = uA U_4 h0 (upd (U_4 h0) 6 1) := ⟨_, rfl⟩
    have sB_6 : B_6 h0 6 = 1 := by rw [eB_6, uA_s]; exact upd_s
    have nB_6 : ∀ k, k ≠ 6 → B_6 h0 k = U_4 h0 k := fun k hk => by rw [eB_6, uA_s]; exact upd_n hk
    have fB_6 : ∀ c, G c ≠ 10 → B_6 c = U_4 c := fun c hc => by rw [eB_6]; exact uA_n (fun e => hc (by rw [e]; exact hG))
    have hT : TX E G B_6 R H := by rw [eB_6]; exact hT.w (by rw [hG]; exact hn) ho
    have hWB_6 : TW G B_6 R := by rw [eB_6]; exact hWr_3.w (by rw [hG]; exact tw_10 hWr_3 hG)
    have hW := hWB_6
    exact W.vret hx hb hr (fun t ht hW9 => ⟨⟨B_6, rfl, ⟨hW, (Fr.w (Fr.c Fr.rf hFr_3 (by decide)) hG (by decide) eB_6), (Or.inr ⟨c_2, U_4, hFr_3, hCr_3, B_6, eB_6, rfl⟩)⟩, (by show TX E G B_6 R t.heap; rw [ht]; exact hT)⟩, hS.F ht⟩) hS.2.2 dX8_tellSequence_21
theorem dX8_replyOne_0 : decode cX8_replyOne 0 = .ok (.aload_n 0, 1) := by decide +kernel
theorem dX8_replyOne_1 : decode cX8_replyOne 1 = .ok (.getfield 30, 3) := by decide +kernel
theorem dX8_replyOne_4 : decode cX8_replyOne 4 = .ok (.aload_n 0, 1) := by decide +kernel
theorem dX8_replyOne_5 : decode cX8_replyOne 5 = .ok (.getfield 22, 3) := by decide +kernel
theorem dX8_replyOne_8 : decode cX8_replyOne 8 = .ok (.iconst 4, 1) := by decide +kernel
theorem dX8_replyOne_9 : decode cX8_replyOne 9 = .ok (.iload_n 1, 1) := by decide +kernel
theorem dX8_replyOne_10 : decode cX8_replyOne 10 = .ok (.invokevirtual 167, 3) := by decide +kernel
theorem dX8_replyOne_13 : decode cX8_replyOne 13 = .ok (.astore_n 3, 1) := by decide +kernel
theorem dX8_replyOne_14 : decode cX8_replyOne 14 = .ok (.aload_n 3, 1) := by decide +kernel
theorem dX8_replyOne_15 : decode cX8_replyOne 15 = .ok (.iconst 1, 1) := by decide +kernel
theorem dX8_replyOne_16 : decode cX8_replyOne 16 = .ok (.putfield 128, 3) := by decide +kernel
theorem dX8_replyOne_19 : decode cX8_replyOne 19 = .ok (.aload_n 3, 1) := by decide +kernel
theorem dX8_replyOne_20 : decode cX8_replyOne 20 = .ok (.getfield 176, 3) := by decide +kernel
theorem dX8_replyOne_23 : decode cX8_replyOne 23 = .ok (.iconst 0, 1) := by decide +kernel
theorem dX8_replyOne_24 : decode cX8_replyOne 24 = .ok (.iload_n 2, 1) := by decide +kernel
theorem dX8_replyOne_25 : decode cX8_replyOne 25 = .ok (.iastore, 1) := by decide +kernel
theorem dX8_replyOne_26 : decode cX8_replyOne 26 = .ok (.return_, 1) := by decide +kernel
set_option maxHeartbeats 8000000 in
set_option maxRecDepth 100000 in
theorem x_X8_replyOne (l : Launch) (E : EE) (z0 : Nat) (G : Nat → Nat) (hGz : ∀ q, G q ≠ 0 → z0 ≤ q) (B : AA) (R : RR) (hW : TW G B R) (h0 : Nat) (p0 : Int32) (p1 : Int32) (hG : G h0 = 10) : Met l yX8_replyOne [Cond.code yX8_replyOne cX8_replyOne 4 none] ({ frames := 2, cells := 0, slots := 0, locals := 47 } : Room) (va_Pc [.ref h0, .int p0, .int p1] (fun U => TX E G B R U.heap ∧ KS E z0 U)) (va_Qv (fun (u : AA) => (TW G u R) ∧ (Fr G ([4, 31, 32] : List Nat) B u) ∧ (C_X8_replyOne G B R h0 p0 p1 u)) (fun u t => TX E G u R t.heap) (fun q : Nat => G q ∈ ([4, 31, 32] : List Nat))) 0 0 (fun q : Nat => G q ∈ ([4, 31, 32] : List Nat)) := by
  refine Met.ofW (cc := cX8_replyOne) (maxL := 4) (ret := none) (by decide) rfl ?_
  intro p e s m args below meth c s₁ B9 hml hv
  obtain ⟨rfl, hT, hK⟩ := hv
  have hx := B9.exec
  have hb := B9.bytes
  have hr := B9.returns
  have hts : ∀ w ∈ TS, w.before ([.ref h0, .int p0, .int p1] : List Value).toArray s = true := fun w hw => hK.2.1 w hw _
  have hown : s.vm.findClass RX8 = some m.cls := findClass_of_methodNamed B9.named
  have hlocks := B9.notSynchronized
  have hS : va_S (fun q : Nat => G q ∈ ([4, 31, 32] : List Nat)) s.heap s.heap [] := va_S.rf
  have hAz : ∀ q, (fun q : Nat => G q ∈ ([4, 31, 32] : List Nat)) q → z0 ≤ q := zL hGz (by decide)
  have hW_0 := hW
  have hl := lv_entry ([.ref h0, .int p0, .int p1]) (n := 4) (Nat.le_of_ble_eq_true rfl)
  rw [lg_entry_eq]
  generalize (lg_sl ([.ref h0, .int p0, .int p1]) ++ List.replicate (4 - (lg_sl ([.ref h0, .int p0, .int p1])).length) Slot.unset).toArray = ls at hl ⊢
  have hl : lv_has ls 4 [(0, .ref h0), (1, .int p0), (2, .int p1)] := hl
  refine lv_aload_n hx hb dX8_replyOne_0 rfl (lv_at hl 0 rfl) ?_
  have ha_1 := tx_10 hT hG
  have hg_2 : G (R h0 2) = 4 := (tw_10 hW hG).2.2.1
  refine va_get (D := DG E) (ci := 8) (v := .ref (R h0 2)) (C := RX8) (T := TX8) (N := 9) hx hb hts iw_X8 hown hK.1 (va_one ha_1) 0 rfl rfl 2 (by decide) (hts _ fl_X8_30) (fun _ h9 => h9) rfl dX8_replyOne_1 ?_
  refine lv_aload_n hx hb dX8_replyOne_4 rfl (lv_at hl 0 rfl) ?_
  have hb_3 := (tw_10 hW_0 hG).1
  refine va_get (D := DG E) (ci := 8) (v := .int (B h0 0)) (C := RX8) (T := TX8) (N := 9) hx hb hts iw_X8 hown hK.1 (va_one ha_1) 0 rfl rfl 0 (by decide) (hts _ fl_X8_22) (fun _ h9 => h9) rfl dX8_replyOne_5 ?_
  refine lv_iconst (v := 4) hx hb dX8_replyOne_8 (by decide) ?_
  refine lv_iload_n hx hb dX8_replyOne_9 rfl (lv_at hl 1 rfl) ?_
  have ha_4 := tx_4 hT hg_2
  refine va_callr (rnV (fun H => TX E G B R H) (As := [.int (B h0 0), .int 4, .int p0]) (rest := []) ⟨hx, hb, hml, hown, hts⟩ (x_X0_carry l E z0 G hGz B R hW (R h0 2) (B h0 0) (4 : Int32) p0 hg_2 (show 0 ≤ (B h0 0).toInt ∧ (B h0 0).toInt ≤ 3 from by have := i_4; first | decide | omega)) (cwV 3 hts (gdV ml_X8_167 im_X0_carry se_X0_X0_carry in_X0 co_X0_carry rfl) rfl rfl rfl (by decide +kernel) ⟨Nat.le_of_ble_eq_true rfl, Nat.le_of_ble_eq_true rfl⟩) hT (fun U hU hW => hK.go hW hS hAz hU) (va_recv hK.1 (va_one ha_4) (ci := 0) (q0 := 0) rfl rfl) rfl rfl hl.1 rfl (lv_room (Nat.le_of_ble_eq_true rfl)) dX8_replyOne_10 ⟨Nat.le_of_ble_eq_true rfl, Nat.le_of_ble_eq_true rfl⟩) hS (fun q _ h => mL (L' := [4, 31]) (L := [4, 31, 32]) (by decide) h) (fun q h => mL (L' := [4, 31]) (L := [4, 31, 32]) (by decide) h) (fun U_6 r_5 t H locs ht hvm hwr_5 hB hz hk hS => ?_)
  have hRr_5 := hB.1
  have hB := hB.2
  have hT : TX E G U_6 R H := by rw [ht] at hB; exact hB
  have hgr_5 : G r_5 = 31 := hRr_5.1
  have hWr_5 : TW G U_6 R := hRr_5.2.1
  have hW := hWr_5
  have hFr_5 : Fr G [4, 31] B U_6 := hRr_5.2.2.1
  have hCr_5 : C_X0_carry G B R (R h0 2) (B h0 0) (4 : Int32) p0 U_6 r_5 := hRr_5.2.2.2
  refine lv_astore_n (lv' := [(3, .ref r_5), (0, .ref h0), (1, .int p0), (2, .int p1)]) hx hb dX8_replyOne_13 rfl hl (by decide) rfl (fun ls hl => ?_)
  refine lv_aload_n hx hb dX8_replyOne_14 rfl (lv_at hl 0 rfl) ?_
  refine lv_iconst (v := 1) hx hb dX8_replyOne_15 (by decide) ?_
  have ha_7 := tx_31 hT hgr_5
  have h9_8 := tw_31 hWr_5 hgr_5
  refine rr_put (D := DG E) (ci := 2) (v := .int 1) (ty := .int) (C := RX2) (T := TX2) (N := 8) hx hb hts iw_X2 tyX2 tyX2_ok nmX2 hown hK.1 ha_7 hS (by show G r_5 ∈ ([4, 31, 32] : List Nat); rw [hgr_5]; decide) rfl 3 (by decide) (hts _ fl_X8_128) (fun _ h9 => h9) rfl (by decide +kernel) rfl rfl (Nat.le_of_ble_eq_true rfl) dX8_replyOne_16 (fun H locs hn ho hz hS => ?_)
  obtain ⟨B_9, eB_9⟩ : ∃ z : AA, z = uA U_6 r_5 (upd (U_6 r_5) 3 1) := ⟨_, rfl⟩
  have sB_9 : B_9 r_5 3 = 1 := by rw [eB_9, uA_s]; exact upd_s
  have nB_9 : ∀ k, k ≠ 3 → B_9 r_5 k = U_6 r_5 k := fun k hk => by rw [eB_9, uA_s]; exact upd_n hk
  have fB_9 : ∀ c, G c ≠ 31 → B_9 c = U_6 c := fun c hc => by rw [eB_9]; exact uA_n (fun e => hc (by rw [e]; exact hgr_5))
  have hT : TX E G B_9 R H := by rw [eB_9]; exact hT.w (by rw [hgr_5]; exact hn) ho
  have hWB_9 : TW G B_9 R := by rw [eB_9]; exact hWr_5.w (by rw [hgr_5]; exact ⟨h9_8.1, (show (1 : Int32).toInt ≤ 12 from by decide), h9_8.2.2⟩)
  have hW := hWB_9
  refine lv_aload_n hx hb dX8_replyOne_19 rfl (lv_at hl 0 rfl) ?_
  have ha_10 := tx_31 hT hgr_5
  have hg_11 : G (R r_5 7) = 32 := (tw_31 hW hgr_5).2.2
  refine va_get (D := DG E) (ci := 2) (v := .ref (R r_5 7)) (C := RX2) (T := TX2) (N := 8) hx hb hts iw_X2 hown hK.1 (va_one ha_10) 0 rfl rfl 7 (by decide) (hts _ fl_X8_176) (fun _ h9 => h9) rfl dX8_replyOne_20 ?_
  refine lv_iconst (v := 0) hx hb dX8_replyOne_23 (by decide) ?_
  refine lv_iload_n hx hb dX8_replyOne_24 rfl (lv_at hl 3 rfl) ?_
  have ha_12 := tx_32 hT hg_11
  refine rr_iast (D := DG E) hx hb hK.1 0 ha_12 hS (by show G (R r_5 7) ∈ ([4, 31, 32] : List Nat); rw [hg_11]; decide) rfl (show vp_in (0) 4 from vp_in_iff.mpr ⟨by decide, by decide⟩) dX8_replyOne_25 (fun H locs hn ho hz hS => ?_)
  obtain ⟨B_13, eB_13⟩ : ∃ z : AA, z = uA B_9 (R r_5 7) (upd (B_9 (R r_5 7)) 0 p1) := ⟨_, rfl⟩
  have sB_13 : B_13 (R r_5 7) 0 = p1 := by rw [eB_13, uA_s]; exact upd_s
  have nB_13 : ∀ k, k ≠ 0 → B_13 (R r_5 7) k = B_9 (R r_5 7) k := fun k hk => by rw [eB_13, uA_s]; exact upd_n hk
  have fB_13 : ∀ c, G c ≠ 32 → B_13 c = B_9 c := fun c hc => by rw [eB_13]; exact uA_n (fun e => hc (by rw [e]; exact hg_11))
  have hT : TX E G B_13 R H := by rw [eB_13]; exact hT.w (by rw [hg_11]; exact hn) ho
  have hWB_13 : TW G B_13 R := by rw [eB_13]; exact hWB_9.w (by rw [hg_11]; exact trivial)
  have hW := hWB_13
  exact W.vret hx hb hr (fun t ht hW9 => ⟨⟨B_13, rfl, ⟨hW, (Fr.w (Fr.w (Fr.c Fr.rf hFr_5 (by decide)) hgr_5 (by decide) eB_9) hg_11 (by decide) eB_13), ⟨r_5, U_6, hFr_5, hCr_5, B_9, eB_9, B_13, eB_13, rfl⟩⟩, (by show TX E G B_13 R t.heap; rw [ht]; exact hT)⟩, hS.F ht⟩) hS.2.2 dX8_replyOne_26
theorem dX8_replyCells_0 : decode cX8_replyCells 0 = .ok (.iconst 0, 1) := by decide +kernel
theorem dX8_replyCells_1 : decode cX8_replyCells 1 = .ok (.istore_n 2, 1) := by decide +kernel
theorem dX8_replyCells_2 : decode cX8_replyCells 2 = .ok (.iload_n 2, 1) := by decide +kernel
theorem dX8_replyCells_3 : decode cX8_replyCells 3 = .ok (.aload_n 1, 1) := by decide +kernel
theorem dX8_replyCells_4 : decode cX8_replyCells 4 = .ok (.getfield 128, 3) := by decide +kernel
theorem dX8_replyCells_7 : decode cX8_replyCells 7 = .ok (.if_icmp .ge 52, 3) := by decide +kernel
theorem dX8_replyCells_10 : decode cX8_replyCells 10 = .ok (.aload_n 1, 1) := by decide +kernel
theorem dX8_replyCells_11 : decode cX8_replyCells 11 = .ok (.getfield 59, 3) := by decide +kernel
theorem dX8_replyCells_14 : decode cX8_replyCells 14 = .ok (.iload_n 2, 1) := by decide +kernel
theorem dX8_replyCells_15 : decode cX8_replyCells 15 = .ok (.iconst 4, 1) := by decide +kernel
theorem dX8_replyCells_16 : decode cX8_replyCells 16 = .ok (.idiv, 1) := by decide +kernel
theorem dX8_replyCells_17 : decode cX8_replyCells 17 = .ok (.invokestatic 164, 3) := by decide +kernel
theorem dX8_replyCells_20 : decode cX8_replyCells 20 = .ok (.istore_n 3, 1) := by decide +kernel
theorem dX8_replyCells_21 : decode cX8_replyCells 21 = .ok (.aload_n 0, 1) := by decide +kernel
theorem dX8_replyCells_22 : decode cX8_replyCells 22 = .ok (.getfield 30, 3) := by decide +kernel
theorem dX8_replyCells_25 : decode cX8_replyCells 25 = .ok (.aload_n 0, 1) := by decide +kernel
theorem dX8_replyCells_26 : decode cX8_replyCells 26 = .ok (.getfield 22, 3) := by decide +kernel
theorem dX8_replyCells_29 : decode cX8_replyCells 29 = .ok (.iconst 4, 1) := by decide +kernel
theorem dX8_replyCells_30 : decode cX8_replyCells 30 = .ok (.iload_n 3, 1) := by decide +kernel
theorem dX8_replyCells_31 : decode cX8_replyCells 31 = .ok (.invokevirtual 167, 3) := by decide +kernel
theorem dX8_replyCells_34 : decode cX8_replyCells 34 = .ok (.aload_n 0, 1) := by decide +kernel
theorem dX8_replyCells_35 : decode cX8_replyCells 35 = .ok (.getfield 26, 3) := by decide +kernel
theorem dX8_replyCells_38 : decode cX8_replyCells 38 = .ok (.aload_n 1, 1) := by decide +kernel
theorem dX8_replyCells_39 : decode cX8_replyCells 39 = .ok (.getfield 151, 3) := by decide +kernel
theorem dX8_replyCells_42 : decode cX8_replyCells 42 = .ok (.iload_n 2, 1) := by decide +kernel
theorem dX8_replyCells_43 : decode cX8_replyCells 43 = .ok (.iadd, 1) := by decide +kernel
theorem dX8_replyCells_44 : decode cX8_replyCells 44 = .ok (.aload_n 1, 1) := by decide +kernel
theorem dX8_replyCells_45 : decode cX8_replyCells 45 = .ok (.getfield 128, 3) := by decide +kernel
theorem dX8_replyCells_48 : decode cX8_replyCells 48 = .ok (.iload_n 2, 1) := by decide +kernel
theorem dX8_replyCells_49 : decode cX8_replyCells 49 = .ok (.isub, 1) := by decide +kernel
theorem dX8_replyCells_50 : decode cX8_replyCells 50 = .ok (.invokevirtual 173, 3) := by decide +kernel
theorem dX8_replyCells_53 : decode cX8_replyCells 53 = .ok (.iinc 2 4, 3) := by decide +kernel
theorem dX8_replyCells_56 : decode cX8_replyCells 56 = .ok (.goto (-54), 3) := by decide +kernel
theorem dX8_replyCells_59 : decode cX8_replyCells 59 = .ok (.return_, 1) := by decide +kernel
set_option maxHeartbeats 8000000 in
set_option maxRecDepth 100000 in
theorem x_X8_replyCells (l : Launch) (E : EE) (z0 : Nat) (G : Nat → Nat) (hGz : ∀ q, G q ≠ 0 → z0 ≤ q) (B : AA) (R : RR) (hW : TW G B R) (h0 : Nat) (p0 : Nat) (hG : G h0 = 10) (hG0 : G p0 = 31) : Met l yX8_replyCells [Cond.code yX8_replyCells cX8_replyCells 4 none] ({ frames := 3, cells := 0, slots := 0, locals := 65 } : Room) (va_Pc [.ref h0, .ref p0] (fun U => TX E G B R U.heap ∧ KS E z0 U)) (va_Qv (fun (u : AA) => (TW G u R) ∧ (Fr G ([4, 31, 32] : List Nat) B u) ∧ (C_X8_replyCells G B R h0 p0 u)) (fun u t => TX E G u R t.heap) (fun q : Nat => G q ∈ ([4, 31, 32] : List Nat))) 0 0 (fun q : Nat => G q ∈ ([4, 31, 32] : List Nat)) := by
  refine Met.ofW (cc := cX8_replyCells) (maxL := 4) (ret := none) (by decide) rfl ?_
  intro p e s m args below meth c s₁ B9 hml hv
  obtain ⟨rfl, hT, hK⟩ := hv
  have hx := B9.exec
  have hb := B9.bytes
  have hr := B9.returns
  have hts : ∀ w ∈ TS, w.before ([.ref h0, .ref p0] : List Value).toArray s = true := fun w hw => hK.2.1 w hw _
  have hown : s.vm.findClass RX8 = some m.cls := findClass_of_methodNamed B9.named
  have hlocks := B9.notSynchronized
  have hS : va_S (fun q : Nat => G q ∈ ([4, 31, 32] : List Nat)) s.heap s.heap [] := va_S.rf
  have hAz : ∀ q, (fun q : Nat => G q ∈ ([4, 31, 32] : List Nat)) q → z0 ≤ q := zL hGz (by decide)
  have hW_0 := hW
  have hl := lv_entry ([.ref h0, .ref p0]) (n := 4) (Nat.le_of_ble_eq_true rfl)
  rw [lg_entry_eq]
  generalize (lg_sl ([.ref h0, .ref p0]) ++ List.replicate (4 - (lg_sl ([.ref h0, .ref p0])).length) Slot.unset).toArray = ls at hl ⊢
  have hl : lv_has ls 4 [(0, .ref h0), (1, .ref p0)] := hl
  refine lv_iconst (v := 0) hx hb dX8_replyCells_0 (by decide) ?_
  refine lv_istore_n (lv' := [(2, .int 0), (0, .ref h0), (1, .ref p0)]) hx hb dX8_replyCells_1 rfl hl (by decide) rfl (fun ls hl => ?_)
  refine lv_iload_n hx hb dX8_replyCells_2 rfl (lv_at hl 0 rfl) ?_
  refine lv_aload_n hx hb dX8_replyCells_3 rfl (lv_at hl 2 rfl) ?_
  have ha_1 := tx_31 hT hG0
  have hb_2 := (tw_31 hW_0 hG0).2.1
  refine va_get (D := DG E) (ci := 2) (v := .int (B p0 3)) (C := RX2) (T := TX2) (N := 8) hx hb hts iw_X2 hown hK.1 (va_one ha_1) 0 rfl rfl 3 (by decide) (hts _ fl_X8_128) (fun _ h9 => h9) rfl dX8_replyCells_4 ?_
  refine lv_icmp_ge (tgt := 59) hx hb dX8_replyCells_7 (by decide) (fun c_3 => ?_) (fun c_3 => ?_)
  · simp only [lt_I, le_I, eq_I, i_0, i_1, i_2, i_3, i_4, i_5, i_6, i_7, i_8, i_10, i_12, i_16, i_20, i_23, i_24, i_31, i_32, i_63, i_64, i_m1] at c_3
    exact W.vret hx hb hr (fun t ht hW9 => ⟨⟨B, rfl, ⟨hW, Fr.rf, (Or.inl ⟨c_3, rfl⟩)⟩, (by show TX E G B R t.heap; rw [ht]; exact hT)⟩, hS.F ht⟩) hS.2.2 dX8_replyCells_59
  · simp only [lt_I, le_I, eq_I, i_0, i_1, i_2, i_3, i_4, i_5, i_6, i_7, i_8, i_10, i_12, i_16, i_20, i_23, i_24, i_31, i_32, i_63, i_64, i_m1] at c_3
    refine lv_aload_n hx hb dX8_replyCells_10 rfl (lv_at hl 2 rfl) ?_
    refine va_get (D := DG E) (ci := 2) (v := .int (B p0 2)) (C := RX2) (T := TX2) (N := 8) hx hb hts iw_X2 hown hK.1 (va_one ha_1) 0 rfl rfl 2 (by decide) (hts _ fl_X8_59) (fun _ h9 => h9) rfl dX8_replyCells_11 ?_
    refine lv_iload_n hx hb dX8_replyCells_14 rfl (lv_at hl 0 rfl) ?_
    refine lv_iconst (v := 4) hx hb dX8_replyCells_15 (by decide) ?_
    refine lv_idiv hx hb dX8_replyCells_16 (by decide) ?_
    refine W.eq (g2 := F0 m 17 ls [.int 0, .int (B p0 2)]) (by rfl) ?_
    refine rnSN (As := [.int (B p0 2), .int 0]) (rest := []) ⟨hx, hb, hml, hown, hts⟩ (c_X9_after l ((B p0 2)) 0) ⟨va_cnB (host := RX9) 2 hts (gd1 co_X9_after rfl) rfl rfl rfl (hK.2.1 _ mn_X8_164 #[]) (hts _ in_X9) (by decide +kernel) ⟨Nat.le_of_ble_eq_true rfl, Nat.le_of_ble_eq_true rfl⟩, hts _ st_X9_after, trivial⟩ rfl rfl hl.1 rfl (lv_room (Nat.le_of_ble_eq_true rfl)) dX8_replyCells_17 ⟨Nat.le_of_ble_eq_true rfl, Nat.le_of_ble_eq_true rfl⟩ ?_
    refine W.eq (g2 := F0 m 20 ls [.int (((B p0 2) + 0) &&& 63)]) (by rfl) ?_
    refine lv_topi (fun x_4 ex_4 => ?_)
    have fx_4 := s_and63 ((B p0 2) + 0); rw [← ex_4] at fx_4
    refine lv_istore_n (lv' := [(3, .int x_4), (2, .int 0), (0, .ref h0), (1, .ref p0)]) hx hb dX8_replyCells_20 rfl hl (by decide) rfl (fun ls hl => ?_)
    refine lv_aload_n hx hb dX8_replyCells_21 rfl (lv_at hl 2 rfl) ?_
    have ha_5 := tx_10 hT hG
    have hg_6 : G (R h0 2) = 4 := (tw_10 hW hG).2.2.1
    refine va_get (D := DG E) (ci := 8) (v := .ref (R h0 2)) (C := RX8) (T := TX8) (N := 9) hx hb hts iw_X8 hown hK.1 (va_one ha_5) 0 rfl rfl 2 (by decide) (hts _ fl_X8_30) (fun _ h9 => h9) rfl dX8_replyCells_22 ?_
    refine lv_aload_n hx hb dX8_replyCells_25 rfl (lv_at hl 2 rfl) ?_
    have hb_7 := (tw_10 hW_0 hG).1
    refine va_get (D := DG E) (ci := 8) (v := .int (B h0 0)) (C := RX8) (T := TX8) (N := 9) hx hb hts iw_X8 hown hK.1 (va_one ha_5) 0 rfl rfl 0 (by decide) (hts _ fl_X8_22) (fun _ h9 => h9) rfl dX8_replyCells_26 ?_
    refine lv_iconst (v := 4) hx hb dX8_replyCells_29 (by decide) ?_
    refine lv_iload_n hx hb dX8_replyCells_30 rfl (lv_at hl 0 rfl) ?_
    have ha_8 := tx_4 hT hg_6
    refine va_callr (rnV (fun H => TX E G B R H) (As := [.int (B h0 0), .int 4, .int x_4]) (rest := []) ⟨hx, hb, hml, hown, hts⟩ (x_X0_carry l E z0 G hGz B R hW (R h0 2) (B h0 0) (4 : Int32) x_4 hg_6 (show 0 ≤ (B h0 0).toInt ∧ (B h0 0).toInt ≤ 3 from by have := i_4; first | decide | omega)) (cwV 3 hts (gdV ml_X8_167 im_X0_carry se_X0_X0_carry in_X0 co_X0_carry rfl) rfl rfl rfl (by decide +kernel) ⟨Nat.le_of_ble_eq_true rfl, Nat.le_of_ble_eq_true rfl⟩) hT (fun U hU hW => hK.go hW hS hAz hU) (va_recv hK.1 (va_one ha_8) (ci := 0) (q0 := 0) rfl rfl) rfl rfl hl.1 rfl (lv_room (Nat.le_of_ble_eq_true rfl)) dX8_replyCells_31 ⟨Nat.le_of_ble_eq_true rfl, Nat.le_of_ble_eq_true rfl⟩) hS (fun q _ h => mL (L' := [4, 31]) (L := [4, 31, 32]) (by decide) h) (fun q h => mL (L' := [4, 31]) (L := [4, 31, 32]) (by decide) h) (fun U_10 r_9 t H locs ht hvm hwr_9 hB hz hk hS => ?_)
    have hRr_9 := hB.1
    have hB := hB.2
    have hT : TX E G U_10 R H := by rw [ht] at hB; exact hB
    have hgr_9 : G r_9 = 31 := hRr_9.1
    have hWr_9 : TW G U_10 R := hRr_9.2.1
    have hW := hWr_9
    have hFr_9 : Fr G [4, 31] B U_10 := hRr_9.2.2.1
    have hCr_9 : C_X0_carry G B R (R h0 2) (B h0 0) (4 : Int32) x_4 U_10 r_9 := hRr_9.2.2.2
    refine lv_aload_n hx hb dX8_replyCells_34 rfl (lv_at hl 2 rfl) ?_
    have ha_11 := tx_10 hT hG
    have hg_12 : G (R h0 1) = 5 := (tw_10 hW hG).2.1
    refine va_get (D := DG E) (ci := 8) (v := .ref (R h0 1)) (C := RX8) (T := TX8) (N := 9) hx hb hts iw_X8 hown hK.1 (va_one ha_11) 0 rfl rfl 1 (by decide) (hts _ fl_X8_26) (fun _ h9 => h9) rfl dX8_replyCells_35 ?_
    refine lv_aload_n hx hb dX8_replyCells_38 rfl (lv_at hl 3 rfl) ?_
    have ha_13 := tx_31 hT hG0
    refine va_get (D := DG E) (ci := 2) (v := .int (U_10 p0 5)) (C := RX2) (T := TX2) (N := 8) hx hb hts iw_X2 hown hK.1 (va_one ha_13) 0 rfl rfl 5 (by decide) (hts _ fl_X8_151) (fun _ h9 => h9) rfl dX8_replyCells_39 ?_
    refine lv_iload_n hx hb dX8_replyCells_42 rfl (lv_at hl 1 rfl) ?_
    refine lv_iadd hx hb dX8_replyCells_43 ?_
    refine lv_topi (fun x_14 ex_14 => ?_)
    refine lv_aload_n hx hb dX8_replyCells_44 rfl (lv_at hl 3 rfl) ?_
    have hb_15 := (tw_31 hWr_9 hG0).2.1
    refine va_get (D := DG E) (ci := 2) (v := .int (U_10 p0 3)) (C := RX2) (T := TX2) (N := 8) hx hb hts iw_X2 hown hK.1 (va_one ha_13) 0 rfl rfl 3 (by decide) (hts _ fl_X8_128) (fun _ h9 => h9) rfl dX8_replyCells_45 ?_
    refine lv_iload_n hx hb dX8_replyCells_48 rfl (lv_at hl 1 rfl) ?_
    refine lv_isub hx hb dX8_replyCells_49 ?_
    refine lv_topi (fun x_16 ex_16 => ?_)
    have ha_17 := tx_31 hT hgr_9
    refine va_callv (rnV (fun H => TX E G U_10 R H) (As := [.ref (R h0 1), .int x_14, .int x_16]) (rest := []) ⟨hx, hb, hml, hown, hts⟩ (x_X2_load l E z0 G hGz U_10 R hW r_9 (R h0 1) x_14 x_16 hgr_9 hg_12) (cwV 3 hts (gdV ml_X8_173 im_X2_load se_X2_X2_load in_X2 co_X2_load rfl) rfl rfl rfl (by decide +kernel) ⟨Nat.le_of_ble_eq_true rfl, Nat.le_of_ble_eq_true rfl⟩) hT (fun U hU hW => hK.go hW hS hAz hU) (va_recv hK.1 (va_one ha_17) (ci := 2) (q0 := 0) rfl rfl) rfl rfl hl.1 rfl (lv_room (Nat.le_of_ble_eq_true rfl)) dX8_replyCells_50 ⟨Nat.le_of_ble_eq_true rfl, Nat.le_of_ble_eq_true rfl⟩) hS (fun q _ h => mL (L' := [31, 32]) (L := [4, 31, 32]) (by decide) h) (fun q h => mL (L' := [31, 32]) (L := [4, 31, 32]) (by decide) h) (fun U_19 t H locs ht hvm hwr_18 hB hz hk hS => ?_)
    have hT : TX E G U_19 R H := by rw [ht] at hB; exact hB
    have hWr_18 : TW G U_19 R := hwr_18.1
    have hW := hWr_18
    have hFr_18 : Fr G [31, 32] U_10 U_19 := hwr_18.2.1
    have hCr_18 : C_X2_load G U_10 R r_9 (R h0 1) x_14 x_16 U_19 := hwr_18.2.2
    refine lv_iinc (v := 4) (lv' := [(2, .int 4), (3, .int x_4), (0, .ref h0), (1, .ref p0)]) hx hb dX8_replyCells_53 hl (k := 1) rfl (by decide) (by decide) rfl (fun ls hl => ?_)
    refine lv_goto (tgt := 2) hx hb dX8_replyCells_56 (by decide) ?_
    refine lv_iload_n hx hb dX8_replyCells_2 rfl (lv_at hl 0 rfl) ?_
    refine lv_aload_n hx hb dX8_replyCells_3 rfl (lv_at hl 3 rfl) ?_
    have ha_20 := tx_31 hT hG0
    have hb_21 := (tw_31 hWr_18 hG0).2.1
    refine va_get (D := DG E) (ci := 2) (v := .int (U_19 p0 3)) (C := RX2) (T := TX2) (N := 8) hx hb hts iw_X2 hown hK.1 (va_one ha_20) 0 rfl rfl 3 (by decide) (hts _ fl_X8_128) (fun _ h9 => h9) rfl dX8_replyCells_4 ?_
    refine lv_icmp_ge (tgt := 59) hx hb dX8_replyCells_7 (by decide) (fun c_22 => ?_) (fun c_22 => ?_)
    · simp only [lt_I, le_I, eq_I, i_0, i_1, i_2, i_3, i_4, i_5, i_6, i_7, i_8, i_10, i_12, i_16, i_20, i_23, i_24, i_31, i_32, i_63, i_64, i_m1] at c_22
      exact W.vret hx hb hr (fun t ht hW9 => ⟨⟨U_19, rfl, ⟨hW, (Fr.c (Fr.c Fr.rf hFr_9 (by decide)) hFr_18 (by decide)), (Or.inr (Or.inl ⟨c_3, x_4, ex_4, r_9, U_10, hFr_9, hCr_9, x_14, ex_14, x_16, ex_16, U_19, hFr_18, hCr_18, c_22, rfl⟩))⟩, (by show TX E G U_19 R t.heap; rw [ht]; exact hT)⟩, hS.F ht⟩) hS.2.2 dX8_replyCells_59
    · simp only [lt_I, le_I, eq_I, i_0, i_1, i_2, i_3, i_4, i_5, i_6, i_7, i_8, i_10, i_12, i_16, i_20, i_23, i_24, i_31, i_32, i_63, i_64, i_m1] at c_22
      refine lv_aload_n hx hb dX8_replyCells_10 rfl (lv_at hl 3 rfl) ?_
      refine va_get (D := DG E) (ci := 2) (v := .int (U_19 p0 2)) (C := RX2) (T := TX2) (N := 8) hx hb hts iw_X2 hown hK.1 (va_one ha_20) 0 rfl rfl 2 (by decide) (hts _ fl_X8_59) (fun _ h9 => h9) rfl dX8_replyCells_11 ?_
      refine lv_iload_n hx hb dX8_replyCells_14 rfl (lv_at hl 0 rfl) ?_
      refine lv_iconst (v := 4) hx hb dX8_replyCells_15 (by decide) ?_
      refine lv_idiv hx hb dX8_replyCells_16 (by decide) ?_
      refine W.eq (g2 := F0 m 17 ls [.int 1, .int (U_19 p0 2)]) (by rfl) ?_
      refine rnSN (As := [.int (U_19 p0 2), .int 1]) (rest := []) ⟨hx, hb, hml, hown, hts⟩ (c_X9_after l ((U_19 p0 2)) 1) ⟨va_cnB (host := RX9) 2 hts (gd1 co_X9_after rfl) rfl rfl rfl (hK.2.1 _ mn_X8_164 #[]) (hts _ in_X9) (by decide +kernel) ⟨Nat.le_of_ble_eq_true rfl, Nat.le_of_ble_eq_true rfl⟩, hts _ st_X9_after, trivial⟩ rfl rfl hl.1 rfl (lv_room (Nat.le_of_ble_eq_true rfl)) dX8_replyCells_17 ⟨Nat.le_of_ble_eq_true rfl, Nat.le_of_ble_eq_true rfl⟩ ?_
      refine W.eq (g2 := F0 m 20 ls [.int (((U_19 p0 2) + 1) &&& 63)]) (by rfl) ?_
      refine lv_topi (fun x_23 ex_23 => ?_)
      have fx_23 := s_and63 ((U_19 p0 2) + 1); rw [← ex_23] at fx_23
      refine lv_istore_n (lv' := [(3, .int x_23), (2, .int 4), (0, .ref h0), (1, .ref p0)]) hx hb dX8_replyCells_20 rfl hl (by decide) rfl (fun ls hl => ?_)
      refine lv_aload_n hx hb dX8_replyCells_21 rfl (lv_at hl 2 rfl) ?_
      have ha_24 := tx_10 hT hG
      refine va_get (D := DG E) (ci := 8) (v := .ref (R h0 2)) (C := RX8) (T := TX8) (N := 9) hx hb hts iw_X8 hown hK.1 (va_one ha_24) 0 rfl rfl 2 (by decide) (hts _ fl_X8_30) (fun _ h9 => h9) rfl dX8_replyCells_22 ?_
      refine lv_aload_n hx hb dX8_replyCells_25 rfl (lv_at hl 2 rfl) ?_
      have l_25 : U_19 h0 0 = (B h0 0) := ((congrFun (hFr_18 h0 (by rw [hG]; decide)) 0)).trans ((congrFun (hFr_9 h0 (by rw [hG]; decide)) 0))
      refine va_get (D := DG E) (ci := 8) (v := .int (U_19 h0 0)) (C := RX8) (T := TX8) (N := 9) hx hb hts iw_X8 hown hK.1 (va_one ha_24) 0 rfl rfl 0 (by decide) (hts _ fl_X8_22) (fun _ h9 => h9) rfl dX8_replyCells_26 ?_
      refine W.eq (g2 := F0 m 29 ls [.int (B h0 0), .ref (R h0 2)]) (by rw [l_25]) ?_
      refine lv_iconst (v := 4) hx hb dX8_replyCells_29 (by decide) ?_
      refine lv_iload_n hx hb dX8_replyCells_30 rfl (lv_at hl 0 rfl) ?_
      have ha_26 := tx_4 hT hg_6
      refine va_callr (rnV (fun H => TX E G U_19 R H) (As := [.int (B h0 0), .int 4, .int x_23]) (rest := []) ⟨hx, hb, hml, hown, hts⟩ (x_X0_carry l E z0 G hGz U_19 R hW (R h0 2) (B h0 0) (4 : Int32) x_23 hg_6 (show 0 ≤ (B h0 0).toInt ∧ (B h0 0).toInt ≤ 3 from by have := i_4; first | decide | omega)) (cwV 3 hts (gdV ml_X8_167 im_X0_carry se_X0_X0_carry in_X0 co_X0_carry rfl) rfl rfl rfl (by decide +kernel) ⟨Nat.le_of_ble_eq_true rfl, Nat.le_of_ble_eq_true rfl⟩) hT (fun U hU hW => hK.go hW hS hAz hU) (va_recv hK.1 (va_one ha_26) (ci := 0) (q0 := 0) rfl rfl) rfl rfl hl.1 rfl (lv_room (Nat.le_of_ble_eq_true rfl)) dX8_replyCells_31 ⟨Nat.le_of_ble_eq_true rfl, Nat.le_of_ble_eq_true rfl⟩) hS (fun q _ h => mL (L' := [4, 31]) (L := [4, 31, 32]) (by decide) h) (fun q h => mL (L' := [4, 31]) (L := [4, 31, 32]) (by decide) h) (fun U_28 r_27 t H locs ht hvm hwr_27 hB hz hk hS => ?_)
      have hRr_27 := hB.1
      have hB := hB.2
      have hT : TX E G U_28 R H := by rw [ht] at hB; exact hB
      have hgr_27 : G r_27 = 31 := hRr_27.1
      have hWr_27 : TW G U_28 R := hRr_27.2.1
      have hW := hWr_27
      have hFr_27 : Fr G [4, 31] U_19 U_28 := hRr_27.2.2.1
      have hCr_27 : C_X0_carry G U_19 R (R h0 2) (B h0 0) (4 : Int32) x_23 U_28 r_27 := hRr_27.2.2.2
      refine lv_aload_n hx hb dX8_replyCells_34 rfl (lv_at hl 2 rfl) ?_
      have ha_29 := tx_10 hT hG
      refine va_get (D := DG E) (ci := 8) (v := .ref (R h0 1)) (C := RX8) (T := TX8) (N := 9) hx hb hts iw_X8 hown hK.1 (va_one ha_29) 0 rfl rfl 1 (by decide) (hts _ fl_X8_26) (fun _ h9 => h9) rfl dX8_replyCells_35 ?_
      refine lv_aload_n hx hb dX8_replyCells_38 rfl (lv_at hl 3 rfl) ?_
      have ha_30 := tx_31 hT hG0
      refine va_get (D := DG E) (ci := 2) (v := .int (U_28 p0 5)) (C := RX2) (T := TX2) (N := 8) hx hb hts iw_X2 hown hK.1 (va_one ha_30) 0 rfl rfl 5 (by decide) (hts _ fl_X8_151) (fun _ h9 => h9) rfl dX8_replyCells_39 ?_
      refine lv_iload_n hx hb dX8_replyCells_42 rfl (lv_at hl 1 rfl) ?_
      refine lv_iadd hx hb dX8_replyCells_43 ?_
      refine lv_topi (fun x_31 ex_31 => ?_)
      refine lv_aload_n hx hb dX8_replyCells_44 rfl (lv_at hl 3 rfl) ?_
      have hb_32 := (tw_31 hWr_27 hG0).2.1
      refine va_get (D := DG E) (ci := 2) (v := .int (U_28 p0 3)) (C := RX2) (T := TX2) (N := 8) hx hb hts iw_X2 hown hK.1 (va_one ha_30) 0 rfl rfl 3 (by decide) (hts _ fl_X8_128) (fun _ h9 => h9) rfl dX8_replyCells_45 ?_
      refine lv_iload_n hx hb dX8_replyCells_48 rfl (lv_at hl 1 rfl) ?_
      refine lv_isub hx hb dX8_replyCells_49 ?_
      refine lv_topi (fun x_33 ex_33 => ?_)
      have ha_34 := tx_31 hT hgr_27
      refine va_callv (rnV (fun H => TX E G U_28 R H) (As := [.ref (R h0 1), .int x_31, .int x_33]) (rest := []) ⟨hx, hb, hml, hown, hts⟩ (x_X2_load l E z0 G hGz U_28 R hW r_27 (R h0 1) x_31 x_33 hgr_27 hg_12) (cwV 3 hts (gdV ml_X8_173 im_X2_load se_X2_X2_load in_X2 co_X2_load rfl) rfl rfl rfl (by decide +kernel) ⟨Nat.le_of_ble_eq_true rfl, Nat.le_of_ble_eq_true rfl⟩) hT (fun U hU hW => hK.go hW hS hAz hU) (va_recv hK.1 (va_one ha_34) (ci := 2) (q0 := 0) rfl rfl) rfl rfl hl.1 rfl (lv_room (Nat.le_of_ble_eq_true rfl)) dX8_replyCells_50 ⟨Nat.le_of_ble_eq_true rfl, Nat.le_of_ble_eq_true rfl⟩) hS (fun q _ h => mL (L' := [31, 32]) (L := [4, 31, 32]) (by decide) h) (fun q h => mL (L' := [31, 32]) (L := [4, 31, 32]) (by decide) h) (fun U_36 t H locs ht hvm hwr_35 hB hz hk hS => ?_)
      have hT : TX E G U_36 R H := by rw [ht] at hB; exact hB
      have hWr_35 : TW G U_36 R := hwr_35.1
      have hW := hWr_35
      have hFr_35 : Fr G [31, 32] U_28 U_36 := hwr_35.2.1
      have hCr_35 : C_X2_load G U_28 R r_27 (R h0 1) x_31 x_33 U_36 := hwr_35.2.2
      refine lv_iinc (v := 8) (lv' := [(2, .int 8), (3, .int x_23), (0, .ref h0), (1, .ref p0)]) hx hb dX8_replyCells_53 hl (k := 1) rfl (by decide) (by decide) rfl (fun ls hl => ?_)
      refine lv_goto (tgt := 2) hx hb dX8_replyCells_56 (by decide) ?_
      refine lv_iload_n hx hb dX8_replyCells_2 rfl (lv_at hl 0 rfl) ?_
      refine lv_aload_n hx hb dX8_replyCells_3 rfl (lv_at hl 3 rfl) ?_
      have ha_37 := tx_31 hT hG0
      have hb_38 := (tw_31 hWr_35 hG0).2.1
      refine va_get (D := DG E) (ci := 2) (v := .int (U_36 p0 3)) (C := RX2) (T := TX2) (N := 8) hx hb hts iw_X2 hown hK.1 (va_one ha_37) 0 rfl rfl 3 (by decide) (hts _ fl_X8_128) (fun _ h9 => h9) rfl dX8_replyCells_4 ?_
      refine lv_icmp_ge (tgt := 59) hx hb dX8_replyCells_7 (by decide) (fun c_39 => ?_) (fun c_39 => ?_)
      · simp only [lt_I, le_I, eq_I, i_0, i_1, i_2, i_3, i_4, i_5, i_6, i_7, i_8, i_10, i_12, i_16, i_20, i_23, i_24, i_31, i_32, i_63, i_64, i_m1] at c_39
        exact W.vret hx hb hr (fun t ht hW9 => ⟨⟨U_36, rfl, ⟨hW, (Fr.c (Fr.c (Fr.c (Fr.c Fr.rf hFr_9 (by decide)) hFr_18 (by decide)) hFr_27 (by decide)) hFr_35 (by decide)), (Or.inr (Or.inr (Or.inl ⟨c_3, x_4, ex_4, r_9, U_10, hFr_9, hCr_9, x_14, ex_14, x_16, ex_16, U_19, hFr_18, hCr_18, c_22, x_23, ex_23, r_27, U_28, hFr_27, hCr_27, x_31, ex_31, x_33, ex_33, U_36, hFr_35, hCr_35, c_39, rfl⟩)))⟩, (by show TX E G U_36 R t.heap; rw [ht]; exact hT)⟩, hS.F ht⟩) hS.2.2 dX8_replyCells_59
      · simp only [lt_I, le_I, eq_I, i_0, i_1, i_2, i_3, i_4, i_5, i_6, i_7, i_8, i_10, i_12, i_16, i_20, i_23, i_24, i_31, i_32, i_63, i_64, i_m1] at c_39
        refine lv_aload_n hx hb dX8_replyCells_10 rfl (lv_at hl 3 rfl) ?_
        refine va_get (D := DG E) (ci := 2) (v := .int (U_36 p0 2)) (C := RX2) (T := TX2) (N := 8) hx hb hts iw_X2 hown hK.1 (va_one ha_37) 0 rfl rfl 2 (by decide) (hts _ fl_X8_59) (fun _ h9 => h9) rfl dX8_replyCells_11 ?_
        refine lv_iload_n hx hb dX8_replyCells_14 rfl (lv_at hl 0 rfl) ?_
        refine lv_iconst (v := 4) hx hb dX8_replyCells_15 (by decide) ?_
        refine lv_idiv hx hb dX8_replyCells_16 (by decide) ?_
        refine W.eq (g2 := F0 m 17 ls [.int 2, .int (U_36 p0 2)]) (by rfl) ?_
        refine rnSN (As := [.int (U_36 p0 2), .int 2]) (rest := []) ⟨hx, hb, hml, hown, hts⟩ (c_X9_after l ((U_36 p0 2)) 2) ⟨va_cnB (host := RX9) 2 hts (gd1 co_X9_after rfl) rfl rfl rfl (hK.2.1 _ mn_X8_164 #[]) (hts _ in_X9) (by decide +kernel) ⟨Nat.le_of_ble_eq_true rfl, Nat.le_of_ble_eq_true rfl⟩, hts _ st_X9_after, trivial⟩ rfl rfl hl.1 rfl (lv_room (Nat.le_of_ble_eq_true rfl)) dX8_replyCells_17 ⟨Nat.le_of_ble_eq_true rfl, Nat.le_of_ble_eq_true rfl⟩ ?_
        refine W.eq (g2 := F0 m 20 ls [.int (((U_36 p0 2) + 2) &&& 63)]) (by rfl) ?_
        refine lv_topi (fun x_40 ex_40 => ?_)
        have fx_40 := s_and63 ((U_36 p0 2) + 2); rw [← ex_40] at fx_40
        refine lv_istore_n (lv' := [(3, .int x_40), (2, .int 8), (0, .ref h0), (1, .ref p0)]) hx hb dX8_replyCells_20 rfl hl (by decide) rfl (fun ls hl => ?_)
        refine lv_aload_n hx hb dX8_replyCells_21 rfl (lv_at hl 2 rfl) ?_
        have ha_41 := tx_10 hT hG
        refine va_get (D := DG E) (ci := 8) (v := .ref (R h0 2)) (C := RX8) (T := TX8) (N := 9) hx hb hts iw_X8 hown hK.1 (va_one ha_41) 0 rfl rfl 2 (by decide) (hts _ fl_X8_30) (fun _ h9 => h9) rfl dX8_replyCells_22 ?_
        refine lv_aload_n hx hb dX8_replyCells_25 rfl (lv_at hl 2 rfl) ?_
        have l_42 : U_36 h0 0 = (B h0 0) := ((congrFun (hFr_35 h0 (by rw [hG]; decide)) 0)).trans (((congrFun (hFr_27 h0 (by rw [hG]; decide)) 0)).trans (((congrFun (hFr_18 h0 (by rw [hG]; decide)) 0)).trans ((congrFun (hFr_9 h0 (by rw [hG]; decide)) 0))))
        refine va_get (D := DG E) (ci := 8) (v := .int (U_36 h0 0)) (C := RX8) (T := TX8) (N := 9) hx hb hts iw_X8 hown hK.1 (va_one ha_41) 0 rfl rfl 0 (by decide) (hts _ fl_X8_22) (fun _ h9 => h9) rfl dX8_replyCells_26 ?_
        refine W.eq (g2 := F0 m 29 ls [.int (B h0 0), .ref (R h0 2)]) (by rw [l_42]) ?_
        refine lv_iconst (v := 4) hx hb dX8_replyCells_29 (by decide) ?_
        refine lv_iload_n hx hb dX8_replyCells_30 rfl (lv_at hl 0 rfl) ?_
        have ha_43 := tx_4 hT hg_6
        refine va_callr (rnV (fun H => TX E G U_36 R H) (As := [.int (B h0 0), .int 4, .int x_40]) (rest := []) ⟨hx, hb, hml, hown, hts⟩ (x_X0_carry l E z0 G hGz U_36 R hW (R h0 2) (B h0 0) (4 : Int32) x_40 hg_6 (show 0 ≤ (B h0 0).toInt ∧ (B h0 0).toInt ≤ 3 from by have := i_4; first | decide | omega)) (cwV 3 hts (gdV ml_X8_167 im_X0_carry se_X0_X0_carry in_X0 co_X0_carry rfl) rfl rfl rfl (by decide +kernel) ⟨Nat.le_of_ble_eq_true rfl, Nat.le_of_ble_eq_true rfl⟩) hT (fun U hU hW => hK.go hW hS hAz hU) (va_recv hK.1 (va_one ha_43) (ci := 0) (q0 := 0) rfl rfl) rfl rfl hl.1 rfl (lv_room (Nat.le_of_ble_eq_true rfl)) dX8_replyCells_31 ⟨Nat.le_of_ble_eq_true rfl, Nat.le_of_ble_eq_true rfl⟩) hS (fun q _ h => mL (L' := [4, 31]) (L := [4, 31, 32]) (by decide) h) (fun q h => mL (L' := [4, 31]) (L := [4, 31, 32]) (by decide) h) (fun U_45 r_44 t H locs ht hvm hwr_44 hB hz hk hS => ?_)
        have hRr_44 := hB.1
        have hB := hB.2
        have hT : TX E G U_45 R H := by rw [ht] at hB; exact hB
        have hgr_44 : G r_44 = 31 := hRr_44.1
        have hWr_44 : TW G U_45 R := hRr_44.2.1
        have hW := hWr_44
        have hFr_44 : Fr G [4, 31] U_36 U_45 := hRr_44.2.2.1
        have hCr_44 : C_X0_carry G U_36 R (R h0 2) (B h0 0) (4 : Int32) x_40 U_45 r_44 := hRr_44.2.2.2
        refine lv_aload_n hx hb dX8_replyCells_34 rfl (lv_at hl 2 rfl) ?_
        have ha_46 := tx_10 hT hG
        refine va_get (D := DG E) (ci := 8) (v := .ref (R h0 1)) (C := RX8) (T := TX8) (N := 9) hx hb hts iw_X8 hown hK.1 (va_one ha_46) 0 rfl rfl 1 (by decide) (hts _ fl_X8_26) (fun _ h9 => h9) rfl dX8_replyCells_35 ?_
        refine lv_aload_n hx hb dX8_replyCells_38 rfl (lv_at hl 3 rfl) ?_
        have ha_47 := tx_31 hT hG0
        refine va_get (D := DG E) (ci := 2) (v := .int (U_45 p0 5)) (C := RX2) (T := TX2) (N := 8) hx hb hts iw_X2 hown hK.1 (va_one ha_47) 0 rfl rfl 5 (by decide) (hts _ fl_X8_151) (fun _ h9 => h9) rfl dX8_replyCells_39 ?_
        refine lv_iload_n hx hb dX8_replyCells_42 rfl (lv_at hl 1 rfl) ?_
        refine lv_iadd hx hb dX8_replyCells_43 ?_
        refine lv_topi (fun x_48 ex_48 => ?_)
        refine lv_aload_n hx hb dX8_replyCells_44 rfl (lv_at hl 3 rfl) ?_
        have hb_49 := (tw_31 hWr_44 hG0).2.1
        refine va_get (D := DG E) (ci := 2) (v := .int (U_45 p0 3)) (C := RX2) (T := TX2) (N := 8) hx hb hts iw_X2 hown hK.1 (va_one ha_47) 0 rfl rfl 3 (by decide) (hts _ fl_X8_128) (fun _ h9 => h9) rfl dX8_replyCells_45 ?_
        refine lv_iload_n hx hb dX8_replyCells_48 rfl (lv_at hl 1 rfl) ?_
        refine lv_isub hx hb dX8_replyCells_49 ?_
        refine lv_topi (fun x_50 ex_50 => ?_)
        have ha_51 := tx_31 hT hgr_44
        refine va_callv (rnV (fun H => TX E G U_45 R H) (As := [.ref (R h0 1), .int x_48, .int x_50]) (rest := []) ⟨hx, hb, hml, hown, hts⟩ (x_X2_load l E z0 G hGz U_45 R hW r_44 (R h0 1) x_48 x_50 hgr_44 hg_12) (cwV 3 hts (gdV ml_X8_173 im_X2_load se_X2_X2_load in_X2 co_X2_load rfl) rfl rfl rfl (by decide +kernel) ⟨Nat.le_of_ble_eq_true rfl, Nat.le_of_ble_eq_true rfl⟩) hT (fun U hU hW => hK.go hW hS hAz hU) (va_recv hK.1 (va_one ha_51) (ci := 2) (q0 := 0) rfl rfl) rfl rfl hl.1 rfl (lv_room (Nat.le_of_ble_eq_true rfl)) dX8_replyCells_50 ⟨Nat.le_of_ble_eq_true rfl, Nat.le_of_ble_eq_true rfl⟩) hS (fun q _ h => mL (L' := [31, 32]) (L := [4, 31, 32]) (by decide) h) (fun q h => mL (L' := [31, 32]) (L := [4, 31, 32]) (by decide) h) (fun U_53 t H locs ht hvm hwr_52 hB hz hk hS => ?_)
        have hT : TX E G U_53 R H := by rw [ht] at hB; exact hB
        have hWr_52 : TW G U_53 R := hwr_52.1
        have hW := hWr_52
        have hFr_52 : Fr G [31, 32] U_45 U_53 := hwr_52.2.1
        have hCr_52 : C_X2_load G U_45 R r_44 (R h0 1) x_48 x_50 U_53 := hwr_52.2.2
        refine lv_iinc (v := 12) (lv' := [(2, .int 12), (3, .int x_40), (0, .ref h0), (1, .ref p0)]) hx hb dX8_replyCells_53 hl (k := 1) rfl (by decide) (by decide) rfl (fun ls hl => ?_)
        refine lv_goto (tgt := 2) hx hb dX8_replyCells_56 (by decide) ?_
        refine lv_iload_n hx hb dX8_replyCells_2 rfl (lv_at hl 0 rfl) ?_
        refine lv_aload_n hx hb dX8_replyCells_3 rfl (lv_at hl 3 rfl) ?_
        have ha_54 := tx_31 hT hG0
        have hb_55 := (tw_31 hWr_52 hG0).2.1
        refine va_get (D := DG E) (ci := 2) (v := .int (U_53 p0 3)) (C := RX2) (T := TX2) (N := 8) hx hb hts iw_X2 hown hK.1 (va_one ha_54) 0 rfl rfl 3 (by decide) (hts _ fl_X8_128) (fun _ h9 => h9) rfl dX8_replyCells_4 ?_
        refine lv_icmp_ge (tgt := 59) hx hb dX8_replyCells_7 (by decide) (fun c_56 => ?_) (fun c_56 => by exfalso; simp only [lt_I, le_I, eq_I, i_0, i_1, i_2, i_3, i_4, i_5, i_6, i_7, i_8, i_10, i_12, i_16, i_20, i_23, i_24, i_31, i_32, i_63, i_64, i_m1] at c_56; omega)
        exact W.vret hx hb hr (fun t ht hW9 => ⟨⟨U_53, rfl, ⟨hW, (Fr.c (Fr.c (Fr.c (Fr.c (Fr.c (Fr.c Fr.rf hFr_9 (by decide)) hFr_18 (by decide)) hFr_27 (by decide)) hFr_35 (by decide)) hFr_44 (by decide)) hFr_52 (by decide)), (Or.inr (Or.inr (Or.inr ⟨c_3, x_4, ex_4, r_9, U_10, hFr_9, hCr_9, x_14, ex_14, x_16, ex_16, U_19, hFr_18, hCr_18, c_22, x_23, ex_23, r_27, U_28, hFr_27, hCr_27, x_31, ex_31, x_33, ex_33, U_36, hFr_35, hCr_35, c_39, x_40, ex_40, r_44, U_45, hFr_44, hCr_44, x_48, ex_48, x_50, ex_50, U_53, hFr_52, hCr_52, rfl⟩)))⟩, (by show TX E G U_53 R t.heap; rw [ht]; exact hT)⟩, hS.F ht⟩) hS.2.2 dX8_replyCells_59
theorem dX8_keptAdd_0 : decode cX8_keptAdd 0 = .ok (.iconst 0, 1) := by decide +kernel
theorem dX8_keptAdd_1 : decode cX8_keptAdd 1 = .ok (.istore_n 2, 1) := by decide +kernel
theorem dX8_keptAdd_2 : decode cX8_keptAdd 2 = .ok (.iload_n 2, 1) := by decide +kernel
theorem dX8_keptAdd_3 : decode cX8_keptAdd 3 = .ok (.iconst 2, 1) := by decide +kernel
theorem dX8_keptAdd_4 : decode cX8_keptAdd 4 = .ok (.if_icmp .ge 21, 3) := by decide +kernel
theorem dX8_keptAdd_7 : decode cX8_keptAdd 7 = .ok (.aload_n 0, 1) := by decide +kernel
theorem dX8_keptAdd_8 : decode cX8_keptAdd 8 = .ok (.getfield 9, 3) := by decide +kernel
theorem dX8_keptAdd_11 : decode cX8_keptAdd 11 = .ok (.iload_n 2, 1) := by decide +kernel
theorem dX8_keptAdd_12 : decode cX8_keptAdd 12 = .ok (.iaload, 1) := by decide +kernel
theorem dX8_keptAdd_13 : decode cX8_keptAdd 13 = .ok (.iload_n 1, 1) := by decide +kernel
theorem dX8_keptAdd_14 : decode cX8_keptAdd 14 = .ok (.if_icmp .ne 5, 3) := by decide +kernel
theorem dX8_keptAdd_17 : decode cX8_keptAdd 17 = .ok (.iload_n 2, 1) := by decide +kernel
theorem dX8_keptAdd_18 : decode cX8_keptAdd 18 = .ok (.ireturn, 1) := by decide +kernel
theorem dX8_keptAdd_19 : decode cX8_keptAdd 19 = .ok (.iinc 2 1, 3) := by decide +kernel
theorem dX8_keptAdd_22 : decode cX8_keptAdd 22 = .ok (.goto (-20), 3) := by decide +kernel
theorem dX8_keptAdd_25 : decode cX8_keptAdd 25 = .ok (.iconst (-1), 1) := by decide +kernel
theorem dX8_keptAdd_26 : decode cX8_keptAdd 26 = .ok (.ireturn, 1) := by decide +kernel
set_option maxHeartbeats 8000000 in
set_option maxRecDepth 100000 in
theorem x_X8_keptAdd (l : Launch) (E : EE) (z0 : Nat) (G : Nat → Nat) (hGz : ∀ q, G q ≠ 0 → z0 ≤ q) (B : AA) (R : RR) (hW : TW G B R) (h0 : Nat) (p0 : Int32) (hG : G h0 = 10) : Met l yX8_keptAdd [Cond.code yX8_keptAdd cX8_keptAdd 3 (some .int)] ({ frames := 0, cells := 0, slots := 0, locals := 0 } : Room) (va_Pc [.ref h0, .int p0] (fun U => TX E G B R U.heap ∧ KS E z0 U)) (va_Qi (fun (r : Int32) (u : Unit) => (-1 ≤ r.toInt ∧ r.toInt ≤ 1) ∧ (C_X8_keptAdd G B R h0 p0 r)) (fun u t => True) (fun _ : Nat => False)) 0 0 (fun _ : Nat => False) := by
  refine Met.ofW (cc := cX8_keptAdd) (maxL := 3) (ret := (some .int)) (by decide) rfl ?_
  intro p e s m args below meth c s₁ B9 hml hv
  obtain ⟨rfl, hT, hK⟩ := hv
  have hx := B9.exec
  have hb := B9.bytes
  have hr := B9.returns
  have hts : ∀ w ∈ TS, w.before ([.ref h0, .int p0] : List Value).toArray s = true := fun w hw => hK.2.1 w hw _
  have hown : s.vm.findClass RX8 = some m.cls := findClass_of_methodNamed B9.named
  have hlocks := B9.notSynchronized
  have hS : va_S (fun _ : Nat => False) s.heap s.heap [] := va_S.rf
  have hAz : ∀ q, (fun _ : Nat => False) q → z0 ≤ q := fun _ h => h.elim
  have hW_0 := hW
  have hl := lv_entry ([.ref h0, .int p0]) (n := 3) (Nat.le_of_ble_eq_true rfl)
  rw [lg_entry_eq]
  generalize (lg_sl ([.ref h0, .int p0]) ++ List.replicate (3 - (lg_sl ([.ref h0, .int p0])).length) Slot.unset).toArray = ls at hl ⊢
  have hl : lv_has ls 3 [(0, .ref h0), (1, .int p0)] := hl
  refine lv_iconst (v := 0) hx hb dX8_keptAdd_0 (by decide) ?_
  refine lv_istore_n (lv' := [(2, .int 0), (0, .ref h0), (1, .int p0)]) hx hb dX8_keptAdd_1 rfl hl (by decide) rfl (fun ls hl => ?_)
  refine lv_iload_n hx hb dX8_keptAdd_2 rfl (lv_at hl 0 rfl) ?_
  refine lv_iconst (v := 2) hx hb dX8_keptAdd_3 (by decide) ?_
  refine lv_icmp_ge (tgt := 25) hx hb dX8_keptAdd_4 (by decide) (fun c_1 => absurd c_1 (by decide)) (fun c_1 => ?_)
  refine lv_aload_n hx hb dX8_keptAdd_7 rfl (lv_at hl 1 rfl) ?_
  have ha_2 := tx_10 hT hG
  have hg_3 : G (R h0 7) = 16 := (tw_10 hW hG).2.2.2.2.1
  refine va_get (D := DG E) (ci := 8) (v := .ref (R h0 7)) (C := RX8) (T := TX8) (N := 9) hx hb hts iw_X8 hown hK.1 (va_one ha_2) 0 rfl rfl 7 (by decide) (hts _ fl_X8_9) (fun _ h9 => h9) rfl dX8_keptAdd_8 ?_
  refine lv_iload_n hx hb dX8_keptAdd_11 rfl (lv_at hl 0 rfl) ?_
  have ha_4 := tx_16 hT hg_3
  refine va_iald (D := DG E) hx hb hK.1 (va_one ha_4) 0 0 rfl rfl (show vp_in (0) 2 from vp_in_iff.mpr ⟨by decide, by decide⟩) dX8_keptAdd_12 ?_
  refine W.eq (g2 := F0 m 13 ls [.int (B (R h0 7) 0)]) (by rfl) ?_
  refine lv_iload_n hx hb dX8_keptAdd_13 rfl (lv_at hl 2 rfl) ?_
  refine lv_icmp_ne (tgt := 19) hx hb dX8_keptAdd_14 (by decide) (fun c_5 => ?_) (fun c_5 => ?_)
  · simp only [lt_I, le_I, eq_I, i_0, i_1, i_2, i_3, i_4, i_5, i_6, i_7, i_8, i_10, i_12, i_16, i_20, i_23, i_24, i_31, i_32, i_63, i_64, i_m1] at c_5
    refine lv_iinc (v := 1) (lv' := [(2, .int 1), (0, .ref h0), (1, .int p0)]) hx hb dX8_keptAdd_19 hl (k := 0) rfl (by decide) (by decide) rfl (fun ls hl => ?_)
    refine lv_goto (tgt := 2) hx hb dX8_keptAdd_22 (by decide) ?_
    refine lv_iload_n hx hb dX8_keptAdd_2 rfl (lv_at hl 0 rfl) ?_
    refine lv_iconst (v := 2) hx hb dX8_keptAdd_3 (by decide) ?_
    refine lv_icmp_ge (tgt := 25) hx hb dX8_keptAdd_4 (by decide) (fun c_6 => absurd c_6 (by decide)) (fun c_6 => ?_)
    refine lv_aload_n hx hb dX8_keptAdd_7 rfl (lv_at hl 1 rfl) ?_
    refine va_get (D := DG E) (ci := 8) (v := .ref (R h0 7)) (C := RX8) (T := TX8) (N := 9) hx hb hts iw_X8 hown hK.1 (va_one ha_2) 0 rfl rfl 7 (by decide) (hts _ fl_X8_9) (fun _ h9 => h9) rfl dX8_keptAdd_8 ?_
    refine lv_iload_n hx hb dX8_keptAdd_11 rfl (lv_at hl 0 rfl) ?_
    refine va_iald (D := DG E) hx hb hK.1 (va_one ha_4) 0 0 rfl rfl (show vp_in (1) 2 from vp_in_iff.mpr ⟨by decide, by decide⟩) dX8_keptAdd_12 ?_
    refine W.eq (g2 := F0 m 13 ls [.int (B (R h0 7) 1)]) (by rfl) ?_
    refine lv_iload_n hx hb dX8_keptAdd_13 rfl (lv_at hl 2 rfl) ?_
    refine lv_icmp_ne (tgt := 19) hx hb dX8_keptAdd_14 (by decide) (fun c_7 => ?_) (fun c_7 => ?_)
    · simp only [lt_I, le_I, eq_I, i_0, i_1, i_2, i_3, i_4, i_5, i_6, i_7, i_8, i_10, i_12, i_16, i_20, i_23, i_24, i_31, i_32, i_63, i_64, i_m1] at c_7
      refine lv_iinc (v := 2) (lv' := [(2, .int 2), (0, .ref h0), (1, .int p0)]) hx hb dX8_keptAdd_19 hl (k := 0) rfl (by decide) (by decide) rfl (fun ls hl => ?_)
      refine lv_goto (tgt := 2) hx hb dX8_keptAdd_22 (by decide) ?_
      refine lv_iload_n hx hb dX8_keptAdd_2 rfl (lv_at hl 0 rfl) ?_
      refine lv_iconst (v := 2) hx hb dX8_keptAdd_3 (by decide) ?_
      refine lv_icmp_ge (tgt := 25) hx hb dX8_keptAdd_4 (by decide) (fun c_8 => ?_) (fun c_8 => absurd c_8 (by decide))
      refine lv_iconst (v := (-1)) hx hb dX8_keptAdd_25 (by decide) ?_
      exact W.iret (v := (-1)) hx hb hr (fun t ht hW9 => ⟨⟨(-1), (), rfl, ⟨(by show -1 ≤ ((-1) : Int32).toInt ∧ ((-1) : Int32).toInt ≤ 1; have := i_m1; omega), (Or.inl ⟨c_5, c_7, rfl⟩)⟩, trivial⟩, hS.F ht⟩) hS.2.2 dX8_keptAdd_26
    · simp only [lt_I, le_I, eq_I, i_0, i_1, i_2, i_3, i_4, i_5, i_6, i_7, i_8, i_10, i_12, i_16, i_20, i_23, i_24, i_31, i_32, i_63, i_64, i_m1] at c_7
      refine lv_iload_n hx hb dX8_keptAdd_17 rfl (lv_at hl 0 rfl) ?_
      exact W.iret (v := 1) hx hb hr (fun t ht hW9 => ⟨⟨1, (), rfl, ⟨(by show -1 ≤ (1 : Int32).toInt ∧ (1 : Int32).toInt ≤ 1; have := i_1; omega), (Or.inr (Or.inl ⟨c_5, c_7, rfl⟩))⟩, trivial⟩, hS.F ht⟩) hS.2.2 dX8_keptAdd_18
  · simp only [lt_I, le_I, eq_I, i_0, i_1, i_2, i_3, i_4, i_5, i_6, i_7, i_8, i_10, i_12, i_16, i_20, i_23, i_24, i_31, i_32, i_63, i_64, i_m1] at c_5
    refine lv_iload_n hx hb dX8_keptAdd_17 rfl (lv_at hl 0 rfl) ?_
    exact W.iret (v := 0) hx hb hr (fun t ht hW9 => ⟨⟨0, (), rfl, ⟨(by show -1 ≤ (0 : Int32).toInt ∧ (0 : Int32).toInt ≤ 1; have := i_0; omega), (Or.inr (Or.inr ⟨c_5, rfl⟩))⟩, trivial⟩, hS.F ht⟩) hS.2.2 dX8_keptAdd_18
theorem dX8_advance_0 : decode cX8_advance 0 = .ok (.aload_n 0, 1) := by decide +kernel
theorem dX8_advance_1 : decode cX8_advance 1 = .ok (.aload_n 0, 1) := by decide +kernel
theorem dX8_advance_2 : decode cX8_advance 2 = .ok (.getfield 49, 3) := by decide +kernel
theorem dX8_advance_5 : decode cX8_advance 5 = .ok (.iload_n 1, 1) := by decide +kernel
theorem dX8_advance_6 : decode cX8_advance 6 = .ok (.invokestatic 164, 3) := by decide +kernel
theorem dX8_advance_9 : decode cX8_advance 9 = .ok (.putfield 49, 3) := by decide +kernel
theorem dX8_advance_12 : decode cX8_advance 12 = .ok (.aload_n 0, 1) := by decide +kernel
theorem dX8_advance_13 : decode cX8_advance 13 = .ok (.iconst 0, 1) := by decide +kernel
theorem dX8_advance_14 : decode cX8_advance 14 = .ok (.putfield 56, 3) := by decide +kernel
theorem dX8_advance_17 : decode cX8_advance 17 = .ok (.return_, 1) := by decide +kernel
set_option maxHeartbeats 8000000 in
set_option maxRecDepth 100000 in
theorem x_X8_advance (l : Launch) (E : EE) (z0 : Nat) (G : Nat → Nat) (hGz : ∀ q, G q ≠ 0 → z0 ≤ q) (B : AA) (R : RR) (hW : TW G B R) (h0 : Nat) (p0 : Int32) (hG : G h0 = 10) : Met l yX8_advance [Cond.code yX8_advance cX8_advance 2 none] ({ frames := 1, cells := 0, slots := 0, locals := 21 } : Room) (va_Pc [.ref h0, .int p0] (fun U => TX E G B R U.heap ∧ KS E z0 U)) (va_Qv (fun (u : AA) => (TW G u R) ∧ (Fr G ([10] : List Nat) B u) ∧ (C_X8_advance G B R h0 p0 u)) (fun u t => TX E G u R t.heap) (fun q : Nat => G q ∈ ([10] : List Nat))) 0 0 (fun q : Nat => G q ∈ ([10] : List Nat)) := by
  refine Met.ofW (cc := cX8_advance) (maxL := 2) (ret := none) (by decide) rfl ?_
  intro p e s m args below meth c s₁ B9 hml hv
  obtain ⟨rfl, hT, hK⟩ := hv
  have hx := B9.exec
  have hb := B9.bytes
  have hr := B9.returns
  have hts : ∀ w ∈ TS, w.before ([.ref h0, .int p0] : List Value).toArray s = true := fun w hw => hK.2.1 w hw _
  have hown : s.vm.findClass RX8 = some m.cls := findClass_of_methodNamed B9.named
  have hlocks := B9.notSynchronized
  have hS : va_S (fun q : Nat => G q ∈ ([10] : List Nat)) s.heap s.heap [] := va_S.rf
  have hAz : ∀ q, (fun q : Nat => G q ∈ ([10] : List Nat)) q → z0 ≤ q := zL hGz (by decide)
  have hW_0 := hW
  have hl := lv_entry ([.ref h0, .int p0]) (n := 2) (Nat.le_of_ble_eq_true rfl)
  rw [lg_entry_eq]
  generalize (lg_sl ([.ref h0, .int p0]) ++ List.replicate (2 - (lg_sl ([.ref h0, .int p0])).length) Slot.unset).toArray = ls at hl ⊢
  have hl : lv_has ls 2 [(0, .ref h0), (1, .int p0)] := hl
  refine lv_aload_n hx hb dX8_advance_0 rfl (lv_at hl 0 rfl) ?_
  refine lv_aload_n hx hb dX8_advance_1 rfl (lv_at hl 0 rfl) ?_
  have ha_1 := tx_10 hT hG
  refine va_get (D := DG E) (ci := 8) (v := .int (B h0 4)) (C := RX8) (T := TX8) (N := 9) hx hb hts iw_X8 hown hK.1 (va_one ha_1) 0 rfl rfl 4 (by decide) (hts _ fl_X8_49) (fun _ h9 => h9) rfl dX8_advance_2 ?_
  refine lv_iload_n hx hb dX8_advance_5 rfl (lv_at hl 1 rfl) ?_
  refine rnSN (As := [.int (B h0 4), .int p0]) (rest := [.ref h0]) ⟨hx, hb, hml, hown, hts⟩ (c_X9_after l ((B h0 4)) p0) ⟨va_cnB (host := RX9) 2 hts (gd1 co_X9_after rfl) rfl rfl rfl (hK.2.1 _ mn_X8_164 #[]) (hts _ in_X9) (by decide +kernel) ⟨Nat.le_of_ble_eq_true rfl, Nat.le_of_ble_eq_true rfl⟩, hts _ st_X9_after, trivial⟩ rfl rfl hl.1 rfl (lv_room (Nat.le_of_ble_eq_true rfl)) dX8_advance_6 ⟨Nat.le_of_ble_eq_true rfl, Nat.le_of_ble_eq_true rfl⟩ ?_
  refine W.eq (g2 := F0 m 9 ls [.int (((B h0 4) + p0) &&& 63), .ref h0]) (by rfl) ?_
  refine lv_topi (fun x_2 ex_2 => ?_)
  have fx_2 := s_and63 ((B h0 4) + p0); rw [← ex_2] at fx_2
  refine rr_put (D := DG E) (ci := 8) (v := .int x_2) (ty := .int) (C := RX8) (T := TX8) (N := 9) hx hb hts iw_X8 tyX8 tyX8_ok nmX8 hown hK.1 ha_1 hS (by show G h0 ∈ ([10] : List Nat); rw [hG]; decide) rfl 4 (by decide) (hts _ fl_X8_49) (fun _ h9 => h9) rfl (by decide +kernel) rfl rfl (Nat.le_of_ble_eq_true rfl) dX8_advance_9 (fun H locs hn ho hz hS => ?_)
  obtain ⟨B_3, eB_3⟩ : ∃ z : AA, z = uA B h0 (upd (B h0) 4 x_2) := ⟨_, rfl⟩
  have sB_3 : B_3 h0 4 = x_2 := by rw [eB_3, uA_s]; exact upd_s
  have nB_3 : ∀ k, k ≠ 4 → B_3 h0 k = B h0 k := fun k hk => by rw [eB_3, uA_s]; exact upd_n hk
  have fB_3 : ∀ c, G c ≠ 10 → B_3 c = B c := fun c hc => by rw [eB_3]; exact uA_n (fun e => hc (by rw [e]; exact hG))
  have hT : TX E G B_3 R H := by rw [eB_3]; exact hT.w (by rw [hG]; exact hn) ho
  have hWB_3 : TW G B_3 R := by rw [eB_3]; exact hW_0.w (by rw [hG]; exact tw_10 hW_0 hG)
  have hW := hWB_3
  refine lv_aload_n hx hb dX8_advance_12 rfl (lv_at hl 0 rfl) ?_
  refine lv_iconst (v := 0) hx hb dX8_advance_13 (by decide) ?_
  have ha_4 := tx_10 hT hG
  refine rr_put (D := DG E) (ci := 8) (v := .int 0) (ty := .boolean) (C := RX8) (T := TX8) (N := 9) hx hb hts iw_X8 tyX8 tyX8_ok nmX8 hown hK.1 ha_4 hS (by show G h0 ∈ ([10] : List Nat); rw [hG]; decide) rfl 6 (by decide) (hts _ fl_X8_56) (fun _ h9 => h9) rfl (by decide +kernel) rfl rfl (Nat.le_of_ble_eq_true rfl) dX8_advance_14 (fun H locs hn ho hz hS => ?_)
  obtain ⟨B_5, eB_5⟩ : ∃ z : AA, z = uA B_3 h0 (upd (B_3 h0) 6 0) := ⟨_, rfl⟩
  have sB_5 : B_5 h0 6 = 0 := by rw [eB_5, uA_s]; exact upd_s
  have nB_5 : ∀ k, k ≠ 6 → B_5 h0 k = B_3 h0 k := fun k hk => by rw [eB_5, uA_s]; exact upd_n hk
  have fB_5 : ∀ c, G c ≠ 10 → B_5 c = B_3 c := fun c hc => by rw [eB_5]; exact uA_n (fun e => hc (by rw [e]; exact hG))
  have hT : TX E G B_5 R H := by rw [eB_5]; exact hT.w (by rw [hG]; exact hn) ho
  have hWB_5 : TW G B_5 R := by rw [eB_5]; exact hWB_3.w (by rw [hG]; exact tw_10 hWB_3 hG)
  have hW := hWB_5
  exact W.vret hx hb hr (fun t ht hW9 => ⟨⟨B_5, rfl, ⟨hW, (Fr.w (Fr.w Fr.rf hG (by decide) eB_3) hG (by decide) eB_5), ⟨x_2, ex_2, B_3, eB_3, B_5, eB_5, rfl⟩⟩, (by show TX E G B_5 R t.heap; rw [ht]; exact hT)⟩, hS.F ht⟩) hS.2.2 dX8_advance_17
theorem dX8_growCell_0 : decode cX8_growCell 0 = .ok (.aload_n 0, 1) := by decide +kernel
theorem dX8_growCell_1 : decode cX8_growCell 1 = .ok (.getfield 26, 3) := by decide +kernel
theorem dX8_growCell_4 : decode cX8_growCell 4 = .ok (.aload_n 1, 1) := by decide +kernel
theorem dX8_growCell_5 : decode cX8_growCell 5 = .ok (.getfield 151, 3) := by decide +kernel
theorem dX8_growCell_8 : decode cX8_growCell 8 = .ok (.invokevirtual 154, 3) := by decide +kernel
theorem dX8_growCell_11 : decode cX8_growCell 11 = .ok (.istore_n 2, 1) := by decide +kernel
theorem dX8_growCell_12 : decode cX8_growCell 12 = .ok (.aload_n 0, 1) := by decide +kernel
theorem dX8_growCell_13 : decode cX8_growCell 13 = .ok (.getfield 26, 3) := by decide +kernel
theorem dX8_growCell_16 : decode cX8_growCell 16 = .ok (.aload_n 1, 1) := by decide +kernel
theorem dX8_growCell_17 : decode cX8_growCell 17 = .ok (.getfield 151, 3) := by decide +kernel
theorem dX8_growCell_20 : decode cX8_growCell 20 = .ok (.iload_n 2, 1) := by decide +kernel
theorem dX8_growCell_21 : decode cX8_growCell 21 = .ok (.aload_n 1, 1) := by decide +kernel
theorem dX8_growCell_22 : decode cX8_growCell 22 = .ok (.getfield 158, 3) := by decide +kernel
theorem dX8_growCell_25 : decode cX8_growCell 25 = .ok (.iadd, 1) := by decide +kernel
theorem dX8_growCell_26 : decode cX8_growCell 26 = .ok (.invokevirtual 161, 3) := by decide +kernel
theorem dX8_growCell_29 : decode cX8_growCell 29 = .ok (.iconst 1, 1) := by decide +kernel
theorem dX8_growCell_30 : decode cX8_growCell 30 = .ok (.istore_n 3, 1) := by decide +kernel
theorem dX8_growCell_31 : decode cX8_growCell 31 = .ok (.iload_n 3, 1) := by decide +kernel
theorem dX8_growCell_32 : decode cX8_growCell 32 = .ok (.ifCond .le 37, 3) := by decide +kernel
theorem dX8_growCell_35 : decode cX8_growCell 35 = .ok (.aload_n 0, 1) := by decide +kernel
theorem dX8_growCell_36 : decode cX8_growCell 36 = .ok (.getfield 9, 3) := by decide +kernel
theorem dX8_growCell_39 : decode cX8_growCell 39 = .ok (.iload_n 3, 1) := by decide +kernel
theorem dX8_growCell_40 : decode cX8_growCell 40 = .ok (.aload_n 0, 1) := by decide +kernel
theorem dX8_growCell_41 : decode cX8_growCell 41 = .ok (.getfield 9, 3) := by decide +kernel
theorem dX8_growCell_44 : decode cX8_growCell 44 = .ok (.iload_n 3, 1) := by decide +kernel
theorem dX8_growCell_45 : decode cX8_growCell 45 = .ok (.iconst 1, 1) := by decide +kernel
theorem dX8_growCell_46 : decode cX8_growCell 46 = .ok (.isub, 1) := by decide +kernel
theorem dX8_growCell_47 : decode cX8_growCell 47 = .ok (.iaload, 1) := by decide +kernel
theorem dX8_growCell_48 : decode cX8_growCell 48 = .ok (.iastore, 1) := by decide +kernel
theorem dX8_growCell_49 : decode cX8_growCell 49 = .ok (.aload_n 0, 1) := by decide +kernel
theorem dX8_growCell_50 : decode cX8_growCell 50 = .ok (.getfield 15, 3) := by decide +kernel
theorem dX8_growCell_53 : decode cX8_growCell 53 = .ok (.iload_n 3, 1) := by decide +kernel
theorem dX8_growCell_54 : decode cX8_growCell 54 = .ok (.aload_n 0, 1) := by decide +kernel
theorem dX8_growCell_55 : decode cX8_growCell 55 = .ok (.getfield 15, 3) := by decide +kernel
theorem dX8_growCell_58 : decode cX8_growCell 58 = .ok (.iload_n 3, 1) := by decide +kernel
theorem dX8_growCell_59 : decode cX8_growCell 59 = .ok (.iconst 1, 1) := by decide +kernel
theorem dX8_growCell_60 : decode cX8_growCell 60 = .ok (.isub, 1) := by decide +kernel
theorem dX8_growCell_61 : decode cX8_growCell 61 = .ok (.iaload, 1) := by decide +kernel
theorem dX8_growCell_62 : decode cX8_growCell 62 = .ok (.iastore, 1) := by decide +kernel
theorem dX8_growCell_63 : decode cX8_growCell 63 = .ok (.iinc 3 (-1), 3) := by decide +kernel
theorem dX8_growCell_66 : decode cX8_growCell 66 = .ok (.goto (-35), 3) := by decide +kernel
theorem dX8_growCell_69 : decode cX8_growCell 69 = .ok (.aload_n 0, 1) := by decide +kernel
theorem dX8_growCell_70 : decode cX8_growCell 70 = .ok (.getfield 9, 3) := by decide +kernel
theorem dX8_growCell_73 : decode cX8_growCell 73 = .ok (.iconst 0, 1) := by decide +kernel
theorem dX8_growCell_74 : decode cX8_growCell 74 = .ok (.aload_n 1, 1) := by decide +kernel
theorem dX8_growCell_75 : decode cX8_growCell 75 = .ok (.getfield 59, 3) := by decide +kernel
theorem dX8_growCell_78 : decode cX8_growCell 78 = .ok (.iastore, 1) := by decide +kernel
theorem dX8_growCell_79 : decode cX8_growCell 79 = .ok (.aload_n 0, 1) := by decide +kernel
theorem dX8_growCell_80 : decode cX8_growCell 80 = .ok (.getfield 15, 3) := by decide +kernel
theorem dX8_growCell_83 : decode cX8_growCell 83 = .ok (.iconst 0, 1) := by decide +kernel
theorem dX8_growCell_84 : decode cX8_growCell 84 = .ok (.iload_n 2, 1) := by decide +kernel
theorem dX8_growCell_85 : decode cX8_growCell 85 = .ok (.iastore, 1) := by decide +kernel
theorem dX8_growCell_86 : decode cX8_growCell 86 = .ok (.iload_n 2, 1) := by decide +kernel
theorem dX8_growCell_87 : decode cX8_growCell 87 = .ok (.ireturn, 1) := by decide +kernel
set_option maxHeartbeats 8000000 in
set_option maxRecDepth 100000 in
theorem x_X8_growCell (l : Launch) (E : EE) (z0 : Nat) (G : Nat → Nat) (hGz : ∀ q, G q ≠ 0 → z0 ≤ q) (B : AA) (R : RR) (hW : TW G B R) (h0 : Nat) (p0 : Nat) (hG : G h0 = 10) (hG0 : G p0 = 31) : Met l yX8_growCell [Cond.code yX8_growCell cX8_growCell 4 (some .int)] ({ frames := 2, cells := 0, slots := 0, locals := 42 } : Room) (va_Pc [.ref h0, .ref p0] (fun U => TX E G B R U.heap ∧ KS E z0 U)) (va_Qi (fun (r : Int32) (u : AA) => (TW G u R) ∧ (Fr G ([14, 16, 17] : List Nat) B u) ∧ (C_X8_growCell G B R h0 p0 u r)) (fun u t => TX E G u R t.heap) (fun q : Nat => G q ∈ ([14, 16, 17] : List Nat))) 0 0 (fun q : Nat => G q ∈ ([14, 16, 17] : List Nat)) := by
  refine Met.ofW (cc := cX8_growCell) (maxL := 4) (ret := (some .int)) (by decide) rfl ?_
  intro p e s m args below meth c s₁ B9 hml hv
  obtain ⟨rfl, hT, hK⟩ := hv
  have hx := B9.exec
  have hb := B9.bytes
  have hr := B9.returns
  have hts : ∀ w ∈ TS, w.before ([.ref h0, .ref p0] : List Value).toArray s = true := fun w hw => hK.2.1 w hw _
  have hown : s.vm.findClass RX8 = some m.cls := findClass_of_methodNamed B9.named
  have hlocks := B9.notSynchronized
  have hS : va_S (fun q : Nat => G q ∈ ([14, 16, 17] : List Nat)) s.heap s.heap [] := va_S.rf
  have hAz : ∀ q, (fun q : Nat => G q ∈ ([14, 16, 17] : List Nat)) q → z0 ≤ q := zL hGz (by decide)
  have hW_0 := hW
  have hl := lv_entry ([.ref h0, .ref p0]) (n := 4) (Nat.le_of_ble_eq_true rfl)
  rw [lg_entry_eq]
  generalize (lg_sl ([.ref h0, .ref p0]) ++ List.replicate (4 - (lg_sl ([.ref h0, .ref p0])).length) Slot.unset).toArray = ls at hl ⊢
  have hl : lv_has ls 4 [(0, .ref h0), (1, .ref p0)] := hl
  refine lv_aload_n hx hb dX8_growCell_0 rfl (lv_at hl 0 rfl) ?_
  have ha_1 := tx_10 hT hG
  have hg_2 : G (R h0 1) = 5 := (tw_10 hW hG).2.1
  refine va_get (D := DG E) (ci := 8) (v := .ref (R h0 1)) (C := RX8) (T := TX8) (N := 9) hx hb hts iw_X8 hown hK.1 (va_one ha_1) 0 rfl rfl 1 (by decide) (hts _ fl_X8_26) (fun _ h9 => h9) rfl dX8_growCell_1 ?_
  refine lv_aload_n hx hb dX8_growCell_4 rfl (lv_at hl 1 rfl) ?_
  have ha_3 := tx_31 hT hG0
  refine va_get (D := DG E) (ci := 2) (v := .int (B p0 5)) (C := RX2) (T := TX2) (N := 8) hx hb hts iw_X2 hown hK.1 (va_one ha_3) 0 rfl rfl 5 (by decide) (hts _ fl_X8_151) (fun _ h9 => h9) rfl dX8_growCell_5 ?_
  have ha_4 := tx_5 hT hg_2
  refine va_calli (rnV (fun H => TX E G B R H) (As := [.int (B p0 5)]) (rest := []) ⟨hx, hb, hml, hown, hts⟩ (x_X1_at l E z0 G hGz B R hW (R h0 1) (B p0 5) hg_2) (cwV 1 hts (gdV ml_X8_154 im_X1_at se_X1_X1_at in_X1 co_X1_at rfl) rfl rfl rfl (by decide +kernel) ⟨Nat.le_of_ble_eq_true rfl, Nat.le_of_ble_eq_true rfl⟩) hT (fun U hU hW => hK.go hW hS hAz hU) (va_recv hK.1 (va_one ha_4) (ci := 1) (q0 := 0) rfl rfl) rfl rfl hl.1 rfl (lv_room (Nat.le_of_ble_eq_true rfl)) dX8_growCell_8 ⟨Nat.le_of_ble_eq_true rfl, Nat.le_of_ble_eq_true rfl⟩) hS (fun q _ h => h.elim) (fun q h => h.elim) (fun r_5 _ t H locs ht hvm hwr_5 hB hz hk hS => ?_)
  have hT : TX E G B R H := hT.kept (fun q hq => hk q hq (fun h => h))
  have hCr_5 : C_X1_at G B R (R h0 1) (B p0 5) r_5 := hwr_5
  refine lv_istore_n (lv' := [(2, .int r_5), (0, .ref h0), (1, .ref p0)]) hx hb dX8_growCell_11 rfl hl (by decide) rfl (fun ls hl => ?_)
  refine lv_aload_n hx hb dX8_growCell_12 rfl (lv_at hl 1 rfl) ?_
  have ha_6 := tx_10 hT hG
  refine va_get (D := DG E) (ci := 8) (v := .ref (R h0 1)) (C := RX8) (T := TX8) (N := 9) hx hb hts iw_X8 hown hK.1 (va_one ha_6) 0 rfl rfl 1 (by decide) (hts _ fl_X8_26) (fun _ h9 => h9) rfl dX8_growCell_13 ?_
  refine lv_aload_n hx hb dX8_growCell_16 rfl (lv_at hl 2 rfl) ?_
  have ha_7 := tx_31 hT hG0
  refine va_get (D := DG E) (ci := 2) (v := .int (B p0 5)) (C := RX2) (T := TX2) (N := 8) hx hb hts iw_X2 hown hK.1 (va_one ha_7) 0 rfl rfl 5 (by decide) (hts _ fl_X8_151) (fun _ h9 => h9) rfl dX8_growCell_17 ?_
  refine lv_iload_n hx hb dX8_growCell_20 rfl (lv_at hl 0 rfl) ?_
  refine lv_aload_n hx hb dX8_growCell_21 rfl (lv_at hl 2 rfl) ?_
  refine va_get (D := DG E) (ci := 2) (v := .int (B p0 6)) (C := RX2) (T := TX2) (N := 8) hx hb hts iw_X2 hown hK.1 (va_one ha_7) 0 rfl rfl 6 (by decide) (hts _ fl_X8_158) (fun _ h9 => h9) rfl dX8_growCell_22 ?_
  refine lv_iadd hx hb dX8_growCell_25 ?_
  refine lv_topi (fun x_8 ex_8 => ?_)
  have ha_9 := tx_5 hT hg_2
  refine va_callv (rnV (fun H => TX E G B R H) (As := [.int (B p0 5), .int x_8]) (rest := []) ⟨hx, hb, hml, hown, hts⟩ (x_X1_put l E z0 G hGz B R hW (R h0 1) (B p0 5) x_8 hg_2) (cwV 2 hts (gdV ml_X8_161 im_X1_put se_X1_X1_put in_X1 co_X1_put rfl) rfl rfl rfl (by decide +kernel) ⟨Nat.le_of_ble_eq_true rfl, Nat.le_of_ble_eq_true rfl⟩) hT (fun U hU hW => hK.go hW hS hAz hU) (va_recv hK.1 (va_one ha_9) (ci := 1) (q0 := 0) rfl rfl) rfl rfl hl.1 rfl (lv_room (Nat.le_of_ble_eq_true rfl)) dX8_growCell_26 ⟨Nat.le_of_ble_eq_true rfl, Nat.le_of_ble_eq_true rfl⟩) hS (fun q _ h => mL (L' := [14]) (L := [14, 16, 17]) (by decide) h) (fun q h => mL (L' := [14]) (L := [14, 16, 17]) (by decide) h) (fun U_11 t H locs ht hvm hwr_10 hB hz hk hS => ?_)
  have hT : TX E G U_11 R H := by rw [ht] at hB; exact hB
  have hWr_10 : TW G U_11 R := hwr_10.1
  have hW := hWr_10
  have hFr_10 : Fr G [14] B U_11 := hwr_10.2.1
  have hCr_10 : C_X1_put G B R (R h0 1) (B p0 5) x_8 U_11 := hwr_10.2.2
  refine lv_iconst (v := 1) hx hb dX8_growCell_29 (by decide) ?_
  refine lv_istore_n (lv' := [(3, .int 1), (2, .int r_5), (0, .ref h0), (1, .ref p0)]) hx hb dX8_growCell_30 rfl hl (by decide) rfl (fun ls hl => ?_)
  refine lv_iload_n hx hb dX8_growCell_31 rfl (lv_at hl 0 rfl) ?_
  refine lv_if_le (tgt := 69) hx hb dX8_growCell_32 (by decide) (fun c_12 => absurd c_12 (by decide)) (fun c_12 => ?_)
  refine lv_aload_n hx hb dX8_growCell_35 rfl (lv_at hl 2 rfl) ?_
  have ha_13 := tx_10 hT hG
  have hg_14 : G (R h0 7) = 16 := (tw_10 hW hG).2.2.2.2.1
  refine va_get (D := DG E) (ci := 8) (v := .ref (R h0 7)) (C := RX8) (T := TX8) (N := 9) hx hb hts iw_X8 hown hK.1 (va_one ha_13) 0 rfl rfl 7 (by decide) (hts _ fl_X8_9) (fun _ h9 => h9) rfl dX8_growCell_36 ?_
  refine lv_iload_n hx hb dX8_growCell_39 rfl (lv_at hl 0 rfl) ?_
  refine lv_aload_n hx hb dX8_growCell_40 rfl (lv_at hl 2 rfl) ?_
  refine va_get (D := DG E) (ci := 8) (v := .ref (R h0 7)) (C := RX8) (T := TX8) (N := 9) hx hb hts iw_X8 hown hK.1 (va_one ha_13) 0 rfl rfl 7 (by decide) (hts _ fl_X8_9) (fun _ h9 => h9) rfl dX8_growCell_41 ?_
  refine lv_iload_n hx hb dX8_growCell_44 rfl (lv_at hl 0 rfl) ?_
  refine lv_iconst (v := 1) hx hb dX8_growCell_45 (by decide) ?_
  refine lv_isub hx hb dX8_growCell_46 ?_
  refine W.eq (g2 := F0 m 47 ls [.int 0, .ref (R h0 7), .int 1, .ref (R h0 7)]) (by rfl) ?_
  have ha_15 := tx_16 hT hg_14
  have l_16 : U_11 (R h0 7) 0 = (B (R h0 7) 0) := (congrFun (hFr_10 (R h0 7) (by rw [hg_14]; decide)) 0)
  refine va_iald (D := DG E) hx hb hK.1 (va_one ha_15) 0 0 rfl rfl (show vp_in (0) 2 from vp_in_iff.mpr ⟨by decide, by decide⟩) dX8_growCell_47 ?_
  refine W.eq (g2 := F0 m 48 ls [.int (B (R h0 7) 0), .int 1, .ref (R h0 7)]) (congrArg (fun z => F0 m 48 ls (.int z :: [.int 1, .ref (R h0 7)])) l_16) ?_
  refine rr_iast (D := DG E) hx hb hK.1 0 ha_15 hS (by show G (R h0 7) ∈ ([14, 16, 17] : List Nat); rw [hg_14]; decide) rfl (show vp_in (1) 2 from vp_in_iff.mpr ⟨by decide, by decide⟩) dX8_growCell_48 (fun H locs hn ho hz hS => ?_)
  obtain ⟨B_17, eB_17⟩ : ∃ z : AA, z = uA U_11 (R h0 7) (upd (U_11 (R h0 7)) 1 (B (R h0 7) 0)) := ⟨_, rfl⟩
  have sB_17 : B_17 (R h0 7) 1 = (B (R h0 7) 0) := by rw [eB_17, uA_s]; exact upd_s
  have nB_17 : ∀ k, k ≠ 1 → B_17 (R h0 7) k = U_11 (R h0 7) k := fun k hk => by rw [eB_17, uA_s]; exact upd_n hk
  have fB_17 : ∀ c, G c ≠ 16 → B_17 c = U_11 c := fun c hc => by rw [eB_17]; exact uA_n (fun e => hc (by rw [e]; exact hg_14))
  have hT : TX E G B_17 R H := by rw [eB_17]; exact hT.w (by rw [hg_14]; exact hn) ho
  have hWB_17 : TW G B_17 R := by rw [eB_17]; exact hWr_10.w (by rw [hg_14]; exact trivial)
  have hW := hWB_17
  refine lv_aload_n hx hb dX8_growCell_49 rfl (lv_at hl 2 rfl) ?_
  have ha_18 := tx_10 hT hG
  have hg_19 : G (R h0 8) = 17 := (tw_10 hW hG).2.2.2.2.2
  refine va_get (D := DG E) (ci := 8) (v := .ref (R h0 8)) (C := RX8) (T := TX8) (N := 9) hx hb hts iw_X8 hown hK.1 (va_one ha_18) 0 rfl rfl 8 (by decide) (hts _ fl_X8_15) (fun _ h9 => h9) rfl dX8_growCell_50 ?_
  refine lv_iload_n hx hb dX8_growCell_53 rfl (lv_at hl 0 rfl) ?_
  refine lv_aload_n hx hb dX8_growCell_54 rfl (lv_at hl 2 rfl) ?_
  refine va_get (D := DG E) (ci := 8) (v := .ref (R h0 8)) (C := RX8) (T := TX8) (N := 9) hx hb hts iw_X8 hown hK.1 (va_one ha_18) 0 rfl rfl 8 (by decide) (hts _ fl_X8_15) (fun _ h9 => h9) rfl dX8_growCell_55 ?_
  refine lv_iload_n hx hb dX8_growCell_58 rfl (lv_at hl 0 rfl) ?_
  refine lv_iconst (v := 1) hx hb dX8_growCell_59 (by decide) ?_
  refine lv_isub hx hb dX8_growCell_60 ?_
  refine W.eq (g2 := F0 m 61 ls [.int 0, .ref (R h0 8), .int 1, .ref (R h0 8)]) (by rfl) ?_
  have ha_20 := tx_17 hT hg_19
  have l_21 : B_17 (R h0 8) 0 = (B (R h0 8) 0) := ((congrFun (fB_17 (R h0 8) (by rw [hg_19]; decide)) 0)).trans ((congrFun (hFr_10 (R h0 8) (by rw [hg_19]; decide)) 0))
  refine va_iald (D := DG E) hx hb hK.1 (va_one ha_20) 0 0 rfl rfl (show vp_in (0) 2 from vp_in_iff.mpr ⟨by decide, by decide⟩) dX8_growCell_61 ?_
  refine W.eq (g2 := F0 m 62 ls [.int (B (R h0 8) 0), .int 1, .ref (R h0 8)]) (congrArg (fun z => F0 m 62 ls (.int z :: [.int 1, .ref (R h0 8)])) l_21) ?_
  refine rr_iast (D := DG E) hx hb hK.1 0 ha_20 hS (by show G (R h0 8) ∈ ([14, 16, 17] : List Nat); rw [hg_19]; decide) rfl (show vp_in (1) 2 from vp_in_iff.mpr ⟨by decide, by decide⟩) dX8_growCell_62 (fun H locs hn ho hz hS => ?_)
  obtain ⟨B_22, eB_22⟩ : ∃ z : AA, z = uA B_17 (R h0 8) (upd (B_17 (R h0 8)) 1 (B (R h0 8) 0)) := ⟨_, rfl⟩
  have sB_22 : B_22 (R h0 8) 1 = (B (R h0 8) 0) := by rw [eB_22, uA_s]; exact upd_s
  have nB_22 : ∀ k, k ≠ 1 → B_22 (R h0 8) k = B_17 (R h0 8) k := fun k hk => by rw [eB_22, uA_s]; exact upd_n hk
  have fB_22 : ∀ c, G c ≠ 17 → B_22 c = B_17 c := fun c hc => by rw [eB_22]; exact uA_n (fun e => hc (by rw [e]; exact hg_19))
  have hT : TX E G B_22 R H := by rw [eB_22]; exact hT.w (by rw [hg_19]; exact hn) ho
  have hWB_22 : TW G B_22 R := by rw [eB_22]; exact hWB_17.w (by rw [hg_19]; exact trivial)
  have hW := hWB_22
  refine lv_iinc (v := 0) (lv' := [(3, .int 0), (2, .int r_5), (0, .ref h0), (1, .ref p0)]) hx hb dX8_growCell_63 hl (k := 0) rfl (by decide) (by decide) rfl (fun ls hl => ?_)
  refine lv_goto (tgt := 31) hx hb dX8_growCell_66 (by decide) ?_
  refine lv_iload_n hx hb dX8_growCell_31 rfl (lv_at hl 0 rfl) ?_
  refine lv_if_le (tgt := 69) hx hb dX8_growCell_32 (by decide) (fun c_23 => ?_) (fun c_23 => absurd c_23 (by decide))
  refine lv_aload_n hx hb dX8_growCell_69 rfl (lv_at hl 2 rfl) ?_
  have ha_24 := tx_10 hT hG
  refine va_get (D := DG E) (ci := 8) (v := .ref (R h0 7)) (C := RX8) (T := TX8) (N := 9) hx hb hts iw_X8 hown hK.1 (va_one ha_24) 0 rfl rfl 7 (by decide) (hts _ fl_X8_9) (fun _ h9 => h9) rfl dX8_growCell_70 ?_
  refine lv_iconst (v := 0) hx hb dX8_growCell_73 (by decide) ?_
  refine lv_aload_n hx hb dX8_growCell_74 rfl (lv_at hl 3 rfl) ?_
  have ha_25 := tx_31 hT hG0
  have l_26 : B_22 p0 2 = (B p0 2) := ((congrFun (fB_22 p0 (by rw [hG0]; decide)) 2)).trans (((congrFun (fB_17 p0 (by rw [hG0]; decide)) 2)).trans ((congrFun (hFr_10 p0 (by rw [hG0]; decide)) 2)))
  refine va_get (D := DG E) (ci := 2) (v := .int (B_22 p0 2)) (C := RX2) (T := TX2) (N := 8) hx hb hts iw_X2 hown hK.1 (va_one ha_25) 0 rfl rfl 2 (by decide) (hts _ fl_X8_59) (fun _ h9 => h9) rfl dX8_growCell_75 ?_
  refine W.eq (g2 := F0 m 78 ls [.int (B p0 2), .int 0, .ref (R h0 7)]) (by rw [l_26]) ?_
  have ha_27 := tx_16 hT hg_14
  refine rr_iast (D := DG E) hx hb hK.1 0 ha_27 hS (by show G (R h0 7) ∈ ([14, 16, 17] : List Nat); rw [hg_14]; decide) rfl (show vp_in (0) 2 from vp_in_iff.mpr ⟨by decide, by decide⟩) dX8_growCell_78 (fun H locs hn ho hz hS => ?_)
  obtain ⟨B_28, eB_28⟩ : ∃ z : AA, z = uA B_22 (R h0 7) (upd (B_22 (R h0 7)) 0 (B p0 2)) := ⟨_, rfl⟩
  have sB_28 : B_28 (R h0 7) 0 = (B p0 2) := by rw [eB_28, uA_s]; exact upd_s
  have nB_28 : ∀ k, k ≠ 0 → B_28 (R h0 7) k = B_22 (R h0 7) k := fun k hk => by rw [eB_28, uA_s]; exact upd_n hk
  have fB_28 : ∀ c, G c ≠ 16 → B_28 c = B_22 c := fun c hc => by rw [eB_28]; exact uA_n (fun e => hc (by rw [e]; exact hg_14))
  have hT : TX E G B_28 R H := by rw [eB_28]; exact hT.w (by rw [hg_14]; exact hn) ho
  have hWB_28 : TW G B_28 R := by rw [eB_28]; exact hWB_22.w (by rw [hg_14]; exact trivial)
  have hW := hWB_28
  refine lv_aload_n hx hb dX8_growCell_79 rfl (lv_at hl 2 rfl) ?_
  have ha_29 := tx_10 hT hG
  refine va_get (D := DG E) (ci := 8) (v := .ref (R h0 8)) (C := RX8) (T := TX8) (N := 9) hx hb hts iw_X8 hown hK.1 (va_one ha_29) 0 rfl rfl 8 (by decide) (hts _ fl_X8_15) (fun _ h9 => h9) rfl dX8_growCell_80 ?_
  refine lv_iconst (v := 0) hx hb dX8_growCell_83 (by decide) ?_
  refine lv_iload_n hx hb dX8_growCell_84 rfl (lv_at hl 1 rfl) ?_
  have ha_30 := tx_17 hT hg_19
  refine rr_iast (D := DG E) hx hb hK.1 0 ha_30 hS (by show G (R h0 8) ∈ ([14, 16, 17] : List Nat); rw [hg_19]; decide) rfl (show vp_in (0) 2 from vp_in_iff.mpr ⟨by decide, by decide⟩) dX8_growCell_85 (fun H locs hn ho hz hS => ?_)
  obtain ⟨B_31, eB_31⟩ : ∃ z : AA, z = uA B_28 (R h0 8) (upd (B_28 (R h0 8)) 0 r_5) := ⟨_, rfl⟩
  have sB_31 : B_31 (R h0 8) 0 = r_5 := by rw [eB_31, uA_s]; exact upd_s
  have nB_31 : ∀ k, k ≠ 0 → B_31 (R h0 8) k = B_28 (R h0 8) k := fun k hk => by rw [eB_31, uA_s]; exact upd_n hk
  have fB_31 : ∀ c, G c ≠ 17 → B_31 c = B_28 c := fun c hc => by rw [eB_31]; exact uA_n (fun e => hc (by rw [e]; exact hg_19))
  have hT : TX E G B_31 R H := by rw [eB_31]; exact hT.w (by rw [hg_19]; exact hn) ho
  have hWB_31 : TW G B_31 R := by rw [eB_31]; exact hWB_28.w (by rw [hg_19]; exact trivial)
  have hW := hWB_31
  refine lv_iload_n hx hb dX8_growCell_86 rfl (lv_at hl 1 rfl) ?_
  exact W.iret (v := r_5) hx hb hr (fun t ht hW9 => ⟨⟨r_5, B_31, rfl, ⟨hW, (Fr.w (Fr.w (Fr.w (Fr.w (Fr.c Fr.rf hFr_10 (by decide)) hg_14 (by decide) eB_17) hg_19 (by decide) eB_22) hg_14 (by decide) eB_28) hg_19 (by decide) eB_31), ⟨r_5, hCr_5, x_8, ex_8, U_11, hFr_10, hCr_10, B_17, eB_17, B_22, eB_22, B_28, eB_28, B_31, eB_31, rfl, rfl⟩⟩, (by show TX E G B_31 R t.heap; rw [ht]; exact hT)⟩, hS.F ht⟩) hS.2.2 dX8_growCell_87
theorem dX8_answerAgain_0 : decode cX8_answerAgain 0 = .ok (.aload_n 1, 1) := by decide +kernel
theorem dX8_answerAgain_1 : decode cX8_answerAgain 1 = .ok (.getfield 75, 3) := by decide +kernel
theorem dX8_answerAgain_4 : decode cX8_answerAgain 4 = .ok (.iconst 2, 1) := by decide +kernel
theorem dX8_answerAgain_5 : decode cX8_answerAgain 5 = .ok (.if_icmp .ne 22, 3) := by decide +kernel
theorem dX8_answerAgain_8 : decode cX8_answerAgain 8 = .ok (.aload_n 1, 1) := by decide +kernel
theorem dX8_answerAgain_9 : decode cX8_answerAgain 9 = .ok (.aload_n 0, 1) := by decide +kernel
theorem dX8_answerAgain_10 : decode cX8_answerAgain 10 = .ok (.getfield 26, 3) := by decide +kernel
theorem dX8_answerAgain_13 : decode cX8_answerAgain 13 = .ok (.invokevirtual 89, 3) := by decide +kernel
theorem dX8_answerAgain_16 : decode cX8_answerAgain 16 = .ok (.ifCond .eq 61, 3) := by decide +kernel
theorem dX8_answerAgain_19 : decode cX8_answerAgain 19 = .ok (.aload_n 0, 1) := by decide +kernel
theorem dX8_answerAgain_20 : decode cX8_answerAgain 20 = .ok (.aload_n 1, 1) := by decide +kernel
theorem dX8_answerAgain_21 : decode cX8_answerAgain 21 = .ok (.invokevirtual 93, 3) := by decide +kernel
theorem dX8_answerAgain_24 : decode cX8_answerAgain 24 = .ok (.goto 53, 3) := by decide +kernel
theorem dX8_answerAgain_27 : decode cX8_answerAgain 27 = .ok (.aload_n 1, 1) := by decide +kernel
theorem dX8_answerAgain_28 : decode cX8_answerAgain 28 = .ok (.getfield 75, 3) := by decide +kernel
theorem dX8_answerAgain_31 : decode cX8_answerAgain 31 = .ok (.iconst 3, 1) := by decide +kernel
theorem dX8_answerAgain_32 : decode cX8_answerAgain 32 = .ok (.if_icmp .ne 34, 3) := by decide +kernel
theorem dX8_answerAgain_35 : decode cX8_answerAgain 35 = .ok (.aload_n 0, 1) := by decide +kernel
theorem dX8_answerAgain_36 : decode cX8_answerAgain 36 = .ok (.aload_n 1, 1) := by decide +kernel
theorem dX8_answerAgain_37 : decode cX8_answerAgain 37 = .ok (.getfield 59, 3) := by decide +kernel
theorem dX8_answerAgain_40 : decode cX8_answerAgain 40 = .ok (.invokevirtual 96, 3) := by decide +kernel
theorem dX8_answerAgain_43 : decode cX8_answerAgain 43 = .ok (.istore_n 2, 1) := by decide +kernel
theorem dX8_answerAgain_44 : decode cX8_answerAgain 44 = .ok (.iload_n 2, 1) := by decide +kernel
theorem dX8_answerAgain_45 : decode cX8_answerAgain 45 = .ok (.iconst (-1), 1) := by decide +kernel
theorem dX8_answerAgain_46 : decode cX8_answerAgain 46 = .ok (.if_icmp .eq 17, 3) := by decide +kernel
theorem dX8_answerAgain_49 : decode cX8_answerAgain 49 = .ok (.aload_n 0, 1) := by decide +kernel
theorem dX8_answerAgain_50 : decode cX8_answerAgain 50 = .ok (.aload_n 1, 1) := by decide +kernel
theorem dX8_answerAgain_51 : decode cX8_answerAgain 51 = .ok (.getfield 59, 3) := by decide +kernel
theorem dX8_answerAgain_54 : decode cX8_answerAgain 54 = .ok (.aload_n 0, 1) := by decide +kernel
theorem dX8_answerAgain_55 : decode cX8_answerAgain 55 = .ok (.getfield 15, 3) := by decide +kernel
theorem dX8_answerAgain_58 : decode cX8_answerAgain 58 = .ok (.iload_n 2, 1) := by decide +kernel
theorem dX8_answerAgain_59 : decode cX8_answerAgain 59 = .ok (.iaload, 1) := by decide +kernel
theorem dX8_answerAgain_60 : decode cX8_answerAgain 60 = .ok (.invokevirtual 99, 3) := by decide +kernel
theorem dX8_answerAgain_63 : decode cX8_answerAgain 63 = .ok (.goto 14, 3) := by decide +kernel
theorem dX8_answerAgain_66 : decode cX8_answerAgain 66 = .ok (.aload_n 0, 1) := by decide +kernel
theorem dX8_answerAgain_67 : decode cX8_answerAgain 67 = .ok (.aload_n 0, 1) := by decide +kernel
theorem dX8_answerAgain_68 : decode cX8_answerAgain 68 = .ok (.getfield 49, 3) := by decide +kernel
theorem dX8_answerAgain_71 : decode cX8_answerAgain 71 = .ok (.invokestatic 102, 3) := by decide +kernel
theorem dX8_answerAgain_74 : decode cX8_answerAgain 74 = .ok (.invokevirtual 105, 3) := by decide +kernel
theorem dX8_answerAgain_77 : decode cX8_answerAgain 77 = .ok (.return_, 1) := by decide +kernel
set_option maxHeartbeats 8000000 in
set_option maxRecDepth 100000 in
theorem x_X8_answerAgain (l : Launch) (E : EE) (z0 : Nat) (G : Nat → Nat) (hGz : ∀ q, G q ≠ 0 → z0 ≤ q) (B : AA) (R : RR) (hW : TW G B R) (h0 : Nat) (p0 : Nat) (hG : G h0 = 10) (hG0 : G p0 = 31) : Met l yX8_answerAgain [Cond.code yX8_answerAgain cX8_answerAgain 3 none] ({ frames := 4, cells := 0, slots := 0, locals := 88 } : Room) (va_Pc [.ref h0, .ref p0] (fun U => TX E G B R U.heap ∧ KS E z0 U)) (va_Qv (fun (u : AA) => (TW G u R) ∧ (Fr G ([4, 31, 32] : List Nat) B u) ∧ (C_X8_answerAgain G B R h0 p0 u)) (fun u t => TX E G u R t.heap) (fun q : Nat => G q ∈ ([4, 31, 32] : List Nat))) 0 0 (fun q : Nat => G q ∈ ([4, 31, 32] : List Nat)) := by
  refine Met.ofW (cc := cX8_answerAgain) (maxL := 3) (ret := none) (by decide) rfl ?_
  intro p e s m args below meth c s₁ B9 hml hv
  obtain ⟨rfl, hT, hK⟩ := hv
  have hx := B9.exec
  have hb := B9.bytes
  have hr := B9.returns
  have hts : ∀ w ∈ TS, w.before ([.ref h0, .ref p0] : List Value).toArray s = true := fun w hw => hK.2.1 w hw _
  have hown : s.vm.findClass RX8 = some m.cls := findClass_of_methodNamed B9.named
  have hlocks := B9.notSynchronized
  have hS : va_S (fun q : Nat => G q ∈ ([4, 31, 32] : List Nat)) s.heap s.heap [] := va_S.rf
  have hAz : ∀ q, (fun q : Nat => G q ∈ ([4, 31, 32] : List Nat)) q → z0 ≤ q := zL hGz (by decide)
  have hW_0 := hW
  have hl := lv_entry ([.ref h0, .ref p0]) (n := 3) (Nat.le_of_ble_eq_true rfl)
  rw [lg_entry_eq]
  generalize (lg_sl ([.ref h0, .ref p0]) ++ List.replicate (3 - (lg_sl ([.ref h0, .ref p0])).length) Slot.unset).toArray = ls at hl ⊢
  have hl : lv_has ls 3 [(0, .ref h0), (1, .ref p0)] := hl
  refine lv_aload_n hx hb dX8_answerAgain_0 rfl (lv_at hl 1 rfl) ?_
  have ha_1 := tx_31 hT hG0
  refine va_get (D := DG E) (ci := 2) (v := .int (B p0 1)) (C := RX2) (T := TX2) (N := 8) hx hb hts iw_X2 hown hK.1 (va_one ha_1) 0 rfl rfl 1 (by decide) (hts _ fl_X8_75) (fun _ h9 => h9) rfl dX8_answerAgain_1 ?_
  refine lv_iconst (v := 2) hx hb dX8_answerAgain_4 (by decide) ?_
  refine lv_icmp_ne (tgt := 27) hx hb dX8_answerAgain_5 (by decide) (fun c_2 => ?_) (fun c_2 => ?_)
  · simp only [lt_I, le_I, eq_I, i_0, i_1, i_2, i_3, i_4, i_5, i_6, i_7, i_8, i_10, i_12, i_16, i_20, i_23, i_24, i_31, i_32, i_63, i_64, i_m1] at c_2
    refine lv_aload_n hx hb dX8_answerAgain_27 rfl (lv_at hl 1 rfl) ?_
    refine va_get (D := DG E) (ci := 2) (v := .int (B p0 1)) (C := RX2) (T := TX2) (N := 8) hx hb hts iw_X2 hown hK.1 (va_one ha_1) 0 rfl rfl 1 (by decide) (hts _ fl_X8_75) (fun _ h9 => h9) rfl dX8_answerAgain_28 ?_
    refine lv_iconst (v := 3) hx hb dX8_answerAgain_31 (by decide) ?_
    refine lv_icmp_ne (tgt := 66) hx hb dX8_answerAgain_32 (by decide) (fun c_3 => ?_) (fun c_3 => ?_)
    · simp only [lt_I, le_I, eq_I, i_0, i_1, i_2, i_3, i_4, i_5, i_6, i_7, i_8, i_10, i_12, i_16, i_20, i_23, i_24, i_31, i_32, i_63, i_64, i_m1] at c_3
      refine lv_aload_n hx hb dX8_answerAgain_66 rfl (lv_at hl 0 rfl) ?_
      refine lv_aload_n hx hb dX8_answerAgain_67 rfl (lv_at hl 0 rfl) ?_
      have ha_4 := tx_10 hT hG
      refine va_get (D := DG E) (ci := 8) (v := .int (B h0 4)) (C := RX8) (T := TX8) (N := 9) hx hb hts iw_X8 hown hK.1 (va_one ha_4) 0 rfl rfl 4 (by decide) (hts _ fl_X8_49) (fun _ h9 => h9) rfl dX8_answerAgain_68 ?_
      refine va_calli (rnSK (fun _ => True) (As := [.int (B h0 4)]) (rest := [.ref h0]) ⟨hx, hb, hml, hown, hts⟩ (x_X9_before l E z0 (B h0 4)) ⟨va_cnB (host := RX9) 1 hts (gd1 co_X9_before rfl) rfl rfl rfl (hK.2.1 _ mn_X8_102 #[]) (hts _ in_X9) (by decide +kernel) ⟨Nat.le_of_ble_eq_true rfl, Nat.le_of_ble_eq_true rfl⟩, hts _ st_X9_before, trivial⟩ trivial (fun U hU hW => hK.go hW hS hAz hU) rfl rfl hl.1 rfl (lv_room (Nat.le_of_ble_eq_true rfl)) dX8_answerAgain_71 ⟨Nat.le_of_ble_eq_true rfl, Nat.le_of_ble_eq_true rfl⟩) hS (fun q _ h => h.elim) (fun q h => h.elim) (fun r_5 _ t H locs ht hvm hwr_5 hB hz hk hS => ?_)
      have hT : TX E G B R H := hT.kept (fun q hq => hk q hq (fun h => h))
      have hzr_5 := s_and63 ((B h0 4) + (-1)); rw [← hwr_5] at hzr_5
      have ha_6 := tx_10 hT hG
      refine va_callv (rnV (fun H => TX E G B R H) (As := [.int r_5]) (rest := []) ⟨hx, hb, hml, hown, hts⟩ (x_X8_acknowledge l E z0 G hGz B R hW h0 r_5 hG) (cwV 1 hts (gdV ml_X8_105 im_X8_acknowledge se_X8_X8_acknowledge in_X8 co_X8_acknowledge rfl) rfl rfl rfl (by decide +kernel) ⟨Nat.le_of_ble_eq_true rfl, Nat.le_of_ble_eq_true rfl⟩) hT (fun U hU hW => hK.go hW hS hAz hU) (va_recv hK.1 (va_one ha_6) (ci := 8) (q0 := 0) rfl rfl) rfl rfl hl.1 rfl (lv_room (Nat.le_of_ble_eq_true rfl)) dX8_answerAgain_74 ⟨Nat.le_of_ble_eq_true rfl, Nat.le_of_ble_eq_true rfl⟩) hS (fun q _ h => mL (L' := [4, 31]) (L := [4, 31, 32]) (by decide) h) (fun q h => mL (L' := [4, 31]) (L := [4, 31, 32]) (by decide) h) (fun U_8 t H locs ht hvm hwr_7 hB hz hk hS => ?_)
      have hT : TX E G U_8 R H := by rw [ht] at hB; exact hB
      have hWr_7 : TW G U_8 R := hwr_7.1
      have hW := hWr_7
      have hFr_7 : Fr G [4, 31] B U_8 := hwr_7.2.1
      have hCr_7 : C_X8_acknowledge G B R h0 r_5 U_8 := hwr_7.2.2
      exact W.vret hx hb hr (fun t ht hW9 => ⟨⟨U_8, rfl, ⟨hW, (Fr.c Fr.rf hFr_7 (by decide)), (Or.inl ⟨c_2, c_3, r_5, hwr_5, U_8, hFr_7, hCr_7, rfl⟩)⟩, (by show TX E G U_8 R t.heap; rw [ht]; exact hT)⟩, hS.F ht⟩) hS.2.2 dX8_answerAgain_77
    · simp only [lt_I, le_I, eq_I, i_0, i_1, i_2, i_3, i_4, i_5, i_6, i_7, i_8, i_10, i_12, i_16, i_20, i_23, i_24, i_31, i_32, i_63, i_64, i_m1] at c_3
      refine lv_aload_n hx hb dX8_answerAgain_35 rfl (lv_at hl 0 rfl) ?_
      refine lv_aload_n hx hb dX8_answerAgain_36 rfl (lv_at hl 1 rfl) ?_
      refine va_get (D := DG E) (ci := 2) (v := .int (B p0 2)) (C := RX2) (T := TX2) (N := 8) hx hb hts iw_X2 hown hK.1 (va_one ha_1) 0 rfl rfl 2 (by decide) (hts _ fl_X8_59) (fun _ h9 => h9) rfl dX8_answerAgain_37 ?_
      have ha_9 := tx_10 hT hG
      refine va_calli (rnV (fun H => TX E G B R H) (As := [.int (B p0 2)]) (rest := []) ⟨hx, hb, hml, hown, hts⟩ (x_X8_keptAdd l E z0 G hGz B R hW h0 (B p0 2) hG) (cwV 1 hts (gdV ml_X8_96 im_X8_keptAdd se_X8_X8_keptAdd in_X8 co_X8_keptAdd rfl) rfl rfl rfl (by decide +kernel) ⟨Nat.le_of_ble_eq_true rfl, Nat.le_of_ble_eq_true rfl⟩) hT (fun U hU hW => hK.go hW hS hAz hU) (va_recv hK.1 (va_one ha_9) (ci := 8) (q0 := 0) rfl rfl) rfl rfl hl.1 rfl (lv_room (Nat.le_of_ble_eq_true rfl)) dX8_answerAgain_40 ⟨Nat.le_of_ble_eq_true rfl, Nat.le_of_ble_eq_true rfl⟩) hS (fun q _ h => h.elim) (fun q h => h.elim) (fun r_10 _ t H locs ht hvm hwr_10 hB hz hk hS => ?_)
      have hT : TX E G B R H := hT.kept (fun q hq => hk q hq (fun h => h))
      have hp0r_10 : -1 ≤ r_10.toInt ∧ r_10.toInt ≤ 1 := hwr_10.1
      have hCr_10 : C_X8_keptAdd G B R h0 (B p0 2) r_10 := hwr_10.2
      refine lv_istore_n (lv' := [(2, .int r_10), (0, .ref h0), (1, .ref p0)]) hx hb dX8_answerAgain_43 rfl hl (by decide) rfl (fun ls hl => ?_)
      refine lv_iload_n hx hb dX8_answerAgain_44 rfl (lv_at hl 0 rfl) ?_
      refine lv_iconst (v := (-1)) hx hb dX8_answerAgain_45 (by decide) ?_
      refine lv_icmp_eq (tgt := 63) hx hb dX8_answerAgain_46 (by decide) (fun c_11 => ?_) (fun c_11 => ?_)
      · simp only [lt_I, le_I, eq_I, i_0, i_1, i_2, i_3, i_4, i_5, i_6, i_7, i_8, i_10, i_12, i_16, i_20, i_23, i_24, i_31, i_32, i_63, i_64, i_m1] at c_11
        refine lv_goto (tgt := 77) hx hb dX8_answerAgain_63 (by decide) ?_
        exact W.vret hx hb hr (fun t ht hW9 => ⟨⟨B, rfl, ⟨hW, Fr.rf, (Or.inr (Or.inl ⟨c_2, c_3, r_10, hCr_10, c_11, rfl⟩))⟩, (by show TX E G B R t.heap; rw [ht]; exact hT)⟩, hS.F ht⟩) hS.2.2 dX8_answerAgain_77
      · simp only [lt_I, le_I, eq_I, i_0, i_1, i_2, i_3, i_4, i_5, i_6, i_7, i_8, i_10, i_12, i_16, i_20, i_23, i_24, i_31, i_32, i_63, i_64, i_m1] at c_11
        refine lv_aload_n hx hb dX8_answerAgain_49 rfl (lv_at hl 1 rfl) ?_
        refine lv_aload_n hx hb dX8_answerAgain_50 rfl (lv_at hl 2 rfl) ?_
        have ha_12 := tx_31 hT hG0
        refine va_get (D := DG E) (ci := 2) (v := .int (B p0 2)) (C := RX2) (T := TX2) (N := 8) hx hb hts iw_X2 hown hK.1 (va_one ha_12) 0 rfl rfl 2 (by decide) (hts _ fl_X8_59) (fun _ h9 => h9) rfl dX8_answerAgain_51 ?_
        refine lv_aload_n hx hb dX8_answerAgain_54 rfl (lv_at hl 1 rfl) ?_
        have ha_13 := tx_10 hT hG
        have hg_14 : G (R h0 8) = 17 := (tw_10 hW hG).2.2.2.2.2
        refine va_get (D := DG E) (ci := 8) (v := .ref (R h0 8)) (C := RX8) (T := TX8) (N := 9) hx hb hts iw_X8 hown hK.1 (va_one ha_13) 0 rfl rfl 8 (by decide) (hts _ fl_X8_15) (fun _ h9 => h9) rfl dX8_answerAgain_55 ?_
        refine lv_iload_n hx hb dX8_answerAgain_58 rfl (lv_at hl 0 rfl) ?_
        have ha_15 := tx_17 hT hg_14
        have hi_16 : vp_in r_10 2 := vp_in_iff.mpr (by omega)
        obtain ⟨n_17, hn_17, en_17⟩ := x_nat (x := r_10) (by omega)
        refine va_iald (D := DG E) hx hb hK.1 (va_one ha_15) 0 0 rfl rfl hi_16 dX8_answerAgain_59 ?_
        refine W.eq (g2 := F0 m 60 ls [.int (B (R h0 8) n_17), .int (B p0 2), .ref h0]) (by rw [en_17]) ?_
        refine va_callv (rnV (fun H => TX E G B R H) (As := [.int (B p0 2), .int (B (R h0 8) n_17)]) (rest := []) ⟨hx, hb, hml, hown, hts⟩ (x_X8_replyOne l E z0 G hGz B R hW h0 (B p0 2) (B (R h0 8) n_17) hG) (cwV 2 hts (gdV ml_X8_99 im_X8_replyOne se_X8_X8_replyOne in_X8 co_X8_replyOne rfl) rfl rfl rfl (by decide +kernel) ⟨Nat.le_of_ble_eq_true rfl, Nat.le_of_ble_eq_true rfl⟩) hT (fun U hU hW => hK.go hW hS hAz hU) (va_recv hK.1 (va_one ha_13) (ci := 8) (q0 := 0) rfl rfl) rfl rfl hl.1 rfl (lv_room (Nat.le_of_ble_eq_true rfl)) dX8_answerAgain_60 ⟨Nat.le_of_ble_eq_true rfl, Nat.le_of_ble_eq_true rfl⟩) hS (fun q _ h => mL (L' := [4, 31, 32]) (L := [4, 31, 32]) (by decide) h) (fun q h => mL (L' := [4, 31, 32]) (L := [4, 31, 32]) (by decide) h) (fun U_19 t H locs ht hvm hwr_18 hB hz hk hS => ?_)
        have hT : TX E G U_19 R H := by rw [ht] at hB; exact hB
        have hWr_18 : TW G U_19 R := hwr_18.1
        have hW := hWr_18
        have hFr_18 : Fr G [4, 31, 32] B U_19 := hwr_18.2.1
        have hCr_18 : C_X8_replyOne G B R h0 (B p0 2) (B (R h0 8) n_17) U_19 := hwr_18.2.2
        refine lv_goto (tgt := 77) hx hb dX8_answerAgain_63 (by decide) ?_
        exact W.vret hx hb hr (fun t ht hW9 => ⟨⟨U_19, rfl, ⟨hW, (Fr.c Fr.rf hFr_18 (by decide)), (Or.inr (Or.inr (Or.inl ⟨c_2, c_3, r_10, hCr_10, c_11, n_17, hn_17, U_19, hFr_18, hCr_18, rfl⟩)))⟩, (by show TX E G U_19 R t.heap; rw [ht]; exact hT)⟩, hS.F ht⟩) hS.2.2 dX8_answerAgain_77
  · simp only [lt_I, le_I, eq_I, i_0, i_1, i_2, i_3, i_4, i_5, i_6, i_7, i_8, i_10, i_12, i_16, i_20, i_23, i_24, i_31, i_32, i_63, i_64, i_m1] at c_2
    refine lv_aload_n hx hb dX8_answerAgain_8 rfl (lv_at hl 1 rfl) ?_
    refine lv_aload_n hx hb dX8_answerAgain_9 rfl (lv_at hl 0 rfl) ?_
    have ha_20 := tx_10 hT hG
    have hg_21 : G (R h0 1) = 5 := (tw_10 hW hG).2.1
    refine va_get (D := DG E) (ci := 8) (v := .ref (R h0 1)) (C := RX8) (T := TX8) (N := 9) hx hb hts iw_X8 hown hK.1 (va_one ha_20) 0 rfl rfl 1 (by decide) (hts _ fl_X8_26) (fun _ h9 => h9) rfl dX8_answerAgain_10 ?_
    refine va_calli (rnV (fun H => TX E G B R H) (As := [.ref (R h0 1)]) (rest := []) ⟨hx, hb, hml, hown, hts⟩ (x_X2_isAllowed l E z0 G hGz B R hW p0 (R h0 1) hG0 hg_21) (cwV 1 hts (gdV ml_X8_89 im_X2_isAllowed se_X2_X2_isAllowed in_X2 co_X2_isAllowed rfl) rfl rfl rfl (by decide +kernel) ⟨Nat.le_of_ble_eq_true rfl, Nat.le_of_ble_eq_true rfl⟩) hT (fun U hU hW => hK.go hW hS hAz hU) (va_recv hK.1 (va_one ha_1) (ci := 2) (q0 := 0) rfl rfl) rfl rfl hl.1 rfl (lv_room (Nat.le_of_ble_eq_true rfl)) dX8_answerAgain_13 ⟨Nat.le_of_ble_eq_true rfl, Nat.le_of_ble_eq_true rfl⟩) hS (fun q _ h => h.elim) (fun q h => h.elim) (fun r_22 _ t H locs ht hvm hwr_22 hB hz hk hS => ?_)
    have hT : TX E G B R H := hT.kept (fun q hq => hk q hq (fun h => h))
    have hbr_22 : r_22 = 0 ∨ r_22 = 1 := hwr_22.1
    have hCr_22 : C_X2_isAllowed G B R p0 (R h0 1) r_22 := hwr_22.2
    have hzr_22 := s_rng hbr_22
    refine lv_if_eq (tgt := 77) hx hb dX8_answerAgain_16 (by decide) (fun c_23 => ?_) (fun c_23 => ?_)
    · simp only [lt_I, le_I, eq_I, i_0, i_1, i_2, i_3, i_4, i_5, i_6, i_7, i_8, i_10, i_12, i_16, i_20, i_23, i_24, i_31, i_32, i_63, i_64, i_m1] at c_23
      exact W.vret hx hb hr (fun t ht hW9 => ⟨⟨B, rfl, ⟨hW, Fr.rf, (Or.inr (Or.inr (Or.inr (Or.inl ⟨c_2, r_22, hCr_22, c_23, rfl⟩))))⟩, (by show TX E G B R t.heap; rw [ht]; exact hT)⟩, hS.F ht⟩) hS.2.2 dX8_answerAgain_77
    · simp only [lt_I, le_I, eq_I, i_0, i_1, i_2, i_3, i_4, i_5, i_6, i_7, i_8, i_10, i_12, i_16, i_20, i_23, i_24, i_31, i_32, i_63, i_64, i_m1] at c_23
      refine lv_aload_n hx hb dX8_answerAgain_19 rfl (lv_at hl 0 rfl) ?_
      refine lv_aload_n hx hb dX8_answerAgain_20 rfl (lv_at hl 1 rfl) ?_
      have ha_24 := tx_10 hT hG
      refine va_callv (rnV (fun H => TX E G B R H) (As := [.ref p0]) (rest := []) ⟨hx, hb, hml, hown, hts⟩ (x_X8_replyCells l E z0 G hGz B R hW h0 p0 hG hG0) (cwV 1 hts (gdV ml_X8_93 im_X8_replyCells se_X8_X8_replyCells in_X8 co_X8_replyCells rfl) rfl rfl rfl (by decide +kernel) ⟨Nat.le_of_ble_eq_true rfl, Nat.le_of_ble_eq_true rfl⟩) hT (fun U hU hW => hK.go hW hS hAz hU) (va_recv hK.1 (va_one ha_24) (ci := 8) (q0 := 0) rfl rfl) rfl rfl hl.1 rfl (lv_room (Nat.le_of_ble_eq_true rfl)) dX8_answerAgain_21 ⟨Nat.le_of_ble_eq_true rfl, Nat.le_of_ble_eq_true rfl⟩) hS (fun q _ h => mL (L' := [4, 31, 32]) (L := [4, 31, 32]) (by decide) h) (fun q h => mL (L' := [4, 31, 32]) (L := [4, 31, 32]) (by decide) h) (fun U_26 t H locs ht hvm hwr_25 hB hz hk hS => ?_)
      have hT : TX E G U_26 R H := by rw [ht] at hB; exact hB
      have hWr_25 : TW G U_26 R := hwr_25.1
      have hW := hWr_25
      have hFr_25 : Fr G [4, 31, 32] B U_26 := hwr_25.2.1
      have hCr_25 : C_X8_replyCells G B R h0 p0 U_26 := hwr_25.2.2
      refine lv_goto (tgt := 77) hx hb dX8_answerAgain_24 (by decide) ?_
      exact W.vret hx hb hr (fun t ht hW9 => ⟨⟨U_26, rfl, ⟨hW, (Fr.c Fr.rf hFr_25 (by decide)), (Or.inr (Or.inr (Or.inr (Or.inr ⟨c_2, r_22, hCr_22, c_23, U_26, hFr_25, hCr_25, rfl⟩))))⟩, (by show TX E G U_26 R t.heap; rw [ht]; exact hT)⟩, hS.F ht⟩) hS.2.2 dX8_answerAgain_77
theorem dX8_takeSend_0 : decode cX8_takeSend 0 = .ok (.aload_n 1, 1) := by decide +kernel
theorem dX8_takeSend_1 : decode cX8_takeSend 1 = .ok (.invokevirtual 109, 3) := by decide +kernel
theorem dX8_takeSend_4 : decode cX8_takeSend 4 = .ok (.aload_n 0, 1) := by decide +kernel
theorem dX8_takeSend_5 : decode cX8_takeSend 5 = .ok (.getfield 52, 3) := by decide +kernel
theorem dX8_takeSend_8 : decode cX8_takeSend 8 = .ok (.if_icmp .ne 5, 3) := by decide +kernel
theorem dX8_takeSend_11 : decode cX8_takeSend 11 = .ok (.iconst 0, 1) := by decide +kernel
theorem dX8_takeSend_12 : decode cX8_takeSend 12 = .ok (.ireturn, 1) := by decide +kernel
theorem dX8_takeSend_13 : decode cX8_takeSend 13 = .ok (.aload_n 0, 1) := by decide +kernel
theorem dX8_takeSend_14 : decode cX8_takeSend 14 = .ok (.getfield 39, 3) := by decide +kernel
theorem dX8_takeSend_17 : decode cX8_takeSend 17 = .ok (.getfield 113, 3) := by decide +kernel
theorem dX8_takeSend_20 : decode cX8_takeSend 20 = .ok (.ifCond .ne 14, 3) := by decide +kernel
theorem dX8_takeSend_23 : decode cX8_takeSend 23 = .ok (.aload_n 0, 1) := by decide +kernel
theorem dX8_takeSend_24 : decode cX8_takeSend 24 = .ok (.aload_n 1, 1) := by decide +kernel
theorem dX8_takeSend_25 : decode cX8_takeSend 25 = .ok (.getfield 59, 3) := by decide +kernel
theorem dX8_takeSend_28 : decode cX8_takeSend 28 = .ok (.iconst 2, 1) := by decide +kernel
theorem dX8_takeSend_29 : decode cX8_takeSend 29 = .ok (.invokevirtual 85, 3) := by decide +kernel
theorem dX8_takeSend_32 : decode cX8_takeSend 32 = .ok (.iconst 0, 1) := by decide +kernel
theorem dX8_takeSend_33 : decode cX8_takeSend 33 = .ok (.ireturn, 1) := by decide +kernel
theorem dX8_takeSend_34 : decode cX8_takeSend 34 = .ok (.aload_n 0, 1) := by decide +kernel
theorem dX8_takeSend_35 : decode cX8_takeSend 35 = .ok (.iconst 1, 1) := by decide +kernel
theorem dX8_takeSend_36 : decode cX8_takeSend 36 = .ok (.putfield 52, 3) := by decide +kernel
theorem dX8_takeSend_39 : decode cX8_takeSend 39 = .ok (.aload_n 0, 1) := by decide +kernel
theorem dX8_takeSend_40 : decode cX8_takeSend 40 = .ok (.getfield 39, 3) := by decide +kernel
theorem dX8_takeSend_43 : decode cX8_takeSend 43 = .ok (.iconst 0, 1) := by decide +kernel
theorem dX8_takeSend_44 : decode cX8_takeSend 44 = .ok (.invokevirtual 116, 3) := by decide +kernel
theorem dX8_takeSend_47 : decode cX8_takeSend 47 = .ok (.astore_n 2, 1) := by decide +kernel
theorem dX8_takeSend_48 : decode cX8_takeSend 48 = .ok (.aload_n 2, 1) := by decide +kernel
theorem dX8_takeSend_49 : decode cX8_takeSend 49 = .ok (.getfield 120, 3) := by decide +kernel
theorem dX8_takeSend_52 : decode cX8_takeSend 52 = .ok (.aload_n 2, 1) := by decide +kernel
theorem dX8_takeSend_53 : decode cX8_takeSend 53 = .ok (.getfield 125, 3) := by decide +kernel
theorem dX8_takeSend_56 : decode cX8_takeSend 56 = .ok (.isub, 1) := by decide +kernel
theorem dX8_takeSend_57 : decode cX8_takeSend 57 = .ok (.istore_n 3, 1) := by decide +kernel
theorem dX8_takeSend_58 : decode cX8_takeSend 58 = .ok (.aload_n 1, 1) := by decide +kernel
theorem dX8_takeSend_59 : decode cX8_takeSend 59 = .ok (.getfield 128, 3) := by decide +kernel
theorem dX8_takeSend_62 : decode cX8_takeSend 62 = .ok (.iload_n 3, 1) := by decide +kernel
theorem dX8_takeSend_63 : decode cX8_takeSend 63 = .ok (.if_icmp .le 14, 3) := by decide +kernel
theorem dX8_takeSend_66 : decode cX8_takeSend 66 = .ok (.aload_n 0, 1) := by decide +kernel
theorem dX8_takeSend_67 : decode cX8_takeSend 67 = .ok (.aload_n 1, 1) := by decide +kernel
theorem dX8_takeSend_68 : decode cX8_takeSend 68 = .ok (.getfield 59, 3) := by decide +kernel
theorem dX8_takeSend_71 : decode cX8_takeSend 71 = .ok (.iconst 4, 1) := by decide +kernel
theorem dX8_takeSend_72 : decode cX8_takeSend 72 = .ok (.invokevirtual 85, 3) := by decide +kernel
theorem dX8_takeSend_75 : decode cX8_takeSend 75 = .ok (.iconst 4, 1) := by decide +kernel
theorem dX8_takeSend_76 : decode cX8_takeSend 76 = .ok (.ireturn, 1) := by decide +kernel
theorem dX8_takeSend_77 : decode cX8_takeSend 77 = .ok (.aload_n 1, 1) := by decide +kernel
theorem dX8_takeSend_78 : decode cX8_takeSend 78 = .ok (.aload_n 0, 1) := by decide +kernel
theorem dX8_takeSend_79 : decode cX8_takeSend 79 = .ok (.getfield 26, 3) := by decide +kernel
theorem dX8_takeSend_82 : decode cX8_takeSend 82 = .ok (.aload_n 2, 1) := by decide +kernel
theorem dX8_takeSend_83 : decode cX8_takeSend 83 = .ok (.getfield 129, 3) := by decide +kernel
theorem dX8_takeSend_86 : decode cX8_takeSend 86 = .ok (.aload_n 2, 1) := by decide +kernel
theorem dX8_takeSend_87 : decode cX8_takeSend 87 = .ok (.getfield 125, 3) := by decide +kernel
theorem dX8_takeSend_90 : decode cX8_takeSend 90 = .ok (.iadd, 1) := by decide +kernel
theorem dX8_takeSend_91 : decode cX8_takeSend 91 = .ok (.iload_n 3, 1) := by decide +kernel
theorem dX8_takeSend_92 : decode cX8_takeSend 92 = .ok (.invokevirtual 132, 3) := by decide +kernel
theorem dX8_takeSend_95 : decode cX8_takeSend 95 = .ok (.aload_n 2, 1) := by decide +kernel
theorem dX8_takeSend_96 : decode cX8_takeSend 96 = .ok (.dup, 1) := by decide +kernel
theorem dX8_takeSend_97 : decode cX8_takeSend 97 = .ok (.getfield 125, 3) := by decide +kernel
theorem dX8_takeSend_100 : decode cX8_takeSend 100 = .ok (.aload_n 1, 1) := by decide +kernel
theorem dX8_takeSend_101 : decode cX8_takeSend 101 = .ok (.getfield 128, 3) := by decide +kernel
theorem dX8_takeSend_104 : decode cX8_takeSend 104 = .ok (.iadd, 1) := by decide +kernel
theorem dX8_takeSend_105 : decode cX8_takeSend 105 = .ok (.putfield 125, 3) := by decide +kernel
theorem dX8_takeSend_108 : decode cX8_takeSend 108 = .ok (.aload_n 1, 1) := by decide +kernel
theorem dX8_takeSend_109 : decode cX8_takeSend 109 = .ok (.invokevirtual 136, 3) := by decide +kernel
theorem dX8_takeSend_112 : decode cX8_takeSend 112 = .ok (.ifCond .eq 16, 3) := by decide +kernel
theorem dX8_takeSend_115 : decode cX8_takeSend 115 = .ok (.aload_n 0, 1) := by decide +kernel
theorem dX8_takeSend_116 : decode cX8_takeSend 116 = .ok (.getfield 39, 3) := by decide +kernel
theorem dX8_takeSend_119 : decode cX8_takeSend 119 = .ok (.iconst 0, 1) := by decide +kernel
theorem dX8_takeSend_120 : decode cX8_takeSend 120 = .ok (.invokevirtual 139, 3) := by decide +kernel
theorem dX8_takeSend_123 : decode cX8_takeSend 123 = .ok (.aload_n 0, 1) := by decide +kernel
theorem dX8_takeSend_124 : decode cX8_takeSend 124 = .ok (.iconst 0, 1) := by decide +kernel
theorem dX8_takeSend_125 : decode cX8_takeSend 125 = .ok (.putfield 52, 3) := by decide +kernel
theorem dX8_takeSend_128 : decode cX8_takeSend 128 = .ok (.aload_n 0, 1) := by decide +kernel
theorem dX8_takeSend_129 : decode cX8_takeSend 129 = .ok (.iconst 1, 1) := by decide +kernel
theorem dX8_takeSend_130 : decode cX8_takeSend 130 = .ok (.invokevirtual 142, 3) := by decide +kernel
theorem dX8_takeSend_133 : decode cX8_takeSend 133 = .ok (.aload_n 0, 1) := by decide +kernel
theorem dX8_takeSend_134 : decode cX8_takeSend 134 = .ok (.aload_n 1, 1) := by decide +kernel
theorem dX8_takeSend_135 : decode cX8_takeSend 135 = .ok (.getfield 59, 3) := by decide +kernel
theorem dX8_takeSend_138 : decode cX8_takeSend 138 = .ok (.invokevirtual 105, 3) := by decide +kernel
theorem dX8_takeSend_141 : decode cX8_takeSend 141 = .ok (.iconst 0, 1) := by decide +kernel
theorem dX8_takeSend_142 : decode cX8_takeSend 142 = .ok (.ireturn, 1) := by decide +kernel
set_option maxHeartbeats 8000000 in
set_option maxRecDepth 100000 in
theorem x_X8_takeSend (l : Launch) (E : EE) (z0 : Nat) (G : Nat → Nat) (hGz : ∀ q, G q ≠ 0 → z0 ≤ q) (B : AA) (R : RR) (hW : TW G B R) (h0 : Nat) (p0 : Nat) (hG : G h0 = 10) (hG0 : G p0 = 31) : Met l yX8_takeSend [Cond.code yX8_takeSend cX8_takeSend 4 (some .int)] ({ frames := 3, cells := 0, slots := 0, locals := 69 } : Room) (va_Pc [.ref h0, .ref p0] (fun U => TX E G B R U.heap ∧ KS E z0 U)) (va_Qi (fun (r : Int32) (u : AA) => (TW G u R) ∧ (Fr G ([10, 4, 31, 14, 13, 5, 15, 11] : List Nat) B u) ∧ (C_X8_takeSend G B R h0 p0 u r)) (fun u t => TX E G u R t.heap) (fun q : Nat => G q ∈ ([10, 4, 31, 14, 13, 5, 15, 11] : List Nat))) 0 0 (fun q : Nat => G q ∈ ([10, 4, 31, 14, 13, 5, 15, 11] : List Nat)) := by
  refine Met.ofW (cc := cX8_takeSend) (maxL := 4) (ret := (some .int)) (by decide) rfl ?_
  intro p e s m args below meth c s₁ B9 hml hv
  obtain ⟨rfl, hT, hK⟩ := hv
  have hx := B9.exec
  have hb := B9.bytes
  have hr := B9.returns
  have hts : ∀ w ∈ TS, w.before ([.ref h0, .ref p0] : List Value).toArray s = true := fun w hw => hK.2.1 w hw _
  have hown : s.vm.findClass RX8 = some m.cls := findClass_of_methodNamed B9.named
  have hlocks := B9.notSynchronized
  have hS : va_S (fun q : Nat => G q ∈ ([10, 4, 31, 14, 13, 5, 15, 11] : List Nat)) s.heap s.heap [] := va_S.rf
  have hAz : ∀ q, (fun q : Nat => G q ∈ ([10, 4, 31, 14, 13, 5, 15, 11] : List Nat)) q → z0 ≤ q := zL hGz (by decide)
  have hW_0 := hW
  have hl := lv_entry ([.ref h0, .ref p0]) (n := 4) (Nat.le_of_ble_eq_true rfl)
  rw [lg_entry_eq]
  generalize (lg_sl ([.ref h0, .ref p0]) ++ List.replicate (4 - (lg_sl ([.ref h0, .ref p0])).length) Slot.unset).toArray = ls at hl ⊢
  have hl : lv_has ls 4 [(0, .ref h0), (1, .ref p0)] := hl
  refine lv_aload_n hx hb dX8_takeSend_0 rfl (lv_at hl 1 rfl) ?_
  have ha_1 := tx_31 hT hG0
  refine va_calli (rnV (fun H => TX E G B R H) (As := []) (rest := []) ⟨hx, hb, hml, hown, hts⟩ (x_X2_isFirst l E z0 G hGz B R hW p0 hG0) (cwV 0 hts (gdV ml_X8_109 im_X2_isFirst se_X2_X2_isFirst in_X2 co_X2_isFirst rfl) rfl rfl rfl (by decide +kernel) ⟨Nat.le_of_ble_eq_true rfl, Nat.le_of_ble_eq_true rfl⟩) hT (fun U hU hW => hK.go hW hS hAz hU) (va_recv hK.1 (va_one ha_1) (ci := 2) (q0 := 0) rfl rfl) rfl rfl hl.1 rfl (lv_room (Nat.le_of_ble_eq_true rfl)) dX8_takeSend_1 ⟨Nat.le_of_ble_eq_true rfl, Nat.le_of_ble_eq_true rfl⟩) hS (fun q _ h => h.elim) (fun q h => h.elim) (fun r_2 _ t H locs ht hvm hwr_2 hB hz hk hS => ?_)
  have hT : TX E G B R H := hT.kept (fun q hq => hk q hq (fun h => h))
  have hbr_2 : r_2 = 0 ∨ r_2 = 1 := hwr_2.1
  have hCr_2 : C_X2_isFirst G B R p0 r_2 := hwr_2.2
  have hzr_2 := s_rng hbr_2
  refine lv_aload_n hx hb dX8_takeSend_4 rfl (lv_at hl 0 rfl) ?_
  have ha_3 := tx_10 hT hG
  refine va_get (D := DG E) (ci := 8) (v := .int (B h0 5)) (C := RX8) (T := TX8) (N := 9) hx hb hts iw_X8 hown hK.1 (va_one ha_3) 0 rfl rfl 5 (by decide) (hts _ fl_X8_52) (fun _ h9 => h9) rfl dX8_takeSend_5 ?_
  refine lv_icmp_ne (tgt := 13) hx hb dX8_takeSend_8 (by decide) (fun c_4 => ?_) (fun c_4 => ?_)
  · simp only [lt_I, le_I, eq_I, i_0, i_1, i_2, i_3, i_4, i_5, i_6, i_7, i_8, i_10, i_12, i_16, i_20, i_23, i_24, i_31, i_32, i_63, i_64, i_m1] at c_4
    refine lv_aload_n hx hb dX8_takeSend_13 rfl (lv_at hl 0 rfl) ?_
    have hg_5 : G (R h0 3) = 11 := (tw_10 hW hG).2.2.2.1
    refine va_get (D := DG E) (ci := 8) (v := .ref (R h0 3)) (C := RX8) (T := TX8) (N := 9) hx hb hts iw_X8 hown hK.1 (va_one ha_3) 0 rfl rfl 3 (by decide) (hts _ fl_X8_39) (fun _ h9 => h9) rfl dX8_takeSend_14 ?_
    have ha_6 := tx_11 hT hg_5
    have hb_7 := (tw_11 hW_0 hg_5).2.2.2
    refine va_get (D := DG E) (ci := 5) (v := .int (B (R h0 3) 4)) (C := RX5) (T := TX5) (N := 6) hx hb hts iw_X5 hown hK.1 (va_one ha_6) 0 rfl rfl 4 (by decide) (hts _ fl_X8_113) (fun _ h9 => h9) rfl dX8_takeSend_17 ?_
    refine lv_if_ne (tgt := 34) hx hb dX8_takeSend_20 (by decide) (fun c_8 => ?_) (fun c_8 => ?_)
    · simp only [lt_I, le_I, eq_I, i_0, i_1, i_2, i_3, i_4, i_5, i_6, i_7, i_8, i_10, i_12, i_16, i_20, i_23, i_24, i_31, i_32, i_63, i_64, i_m1] at c_8
      refine lv_aload_n hx hb dX8_takeSend_34 rfl (lv_at hl 0 rfl) ?_
      refine lv_iconst (v := 1) hx hb dX8_takeSend_35 (by decide) ?_
      refine rr_put (D := DG E) (ci := 8) (v := .int 1) (ty := .boolean) (C := RX8) (T := TX8) (N := 9) hx hb hts iw_X8 tyX8 tyX8_ok nmX8 hown hK.1 ha_3 hS (by show G h0 ∈ ([10, 4, 31, 14, 13, 5, 15, 11] : List Nat); rw [hG]; decide) rfl 5 (by decide) (hts _ fl_X8_52) (fun _ h9 => h9) rfl (by decide +kernel) rfl rfl (Nat.le_of_ble_eq_true rfl) dX8_takeSend_36 (fun H locs hn ho hz hS => ?_)
      obtain ⟨B_9, eB_9⟩ : ∃ z : AA, z = uA B h0 (upd (B h0) 5 1) := ⟨_, rfl⟩
      have sB_9 : B_9 h0 5 = 1 := by rw [eB_9, uA_s]; exact upd_s
      have nB_9 : ∀ k, k ≠ 5 → B_9 h0 k = B h0 k := fun k hk => by rw [eB_9, uA_s]; exact upd_n hk
      have fB_9 : ∀ c, G c ≠ 10 → B_9 c = B c := fun c hc => by rw [eB_9]; exact uA_n (fun e => hc (by rw [e]; exact hG))
      have hT : TX E G B_9 R H := by rw [eB_9]; exact hT.w (by rw [hG]; exact hn) ho
      have hWB_9 : TW G B_9 R := by rw [eB_9]; exact hW_0.w (by rw [hG]; exact tw_10 hW_0 hG)
      have hW := hWB_9
      refine lv_aload_n hx hb dX8_takeSend_39 rfl (lv_at hl 0 rfl) ?_
      have ha_10 := tx_10 hT hG
      refine va_get (D := DG E) (ci := 8) (v := .ref (R h0 3)) (C := RX8) (T := TX8) (N := 9) hx hb hts iw_X8 hown hK.1 (va_one ha_10) 0 rfl rfl 3 (by decide) (hts _ fl_X8_39) (fun _ h9 => h9) rfl dX8_takeSend_40 ?_
      refine lv_iconst (v := 0) hx hb dX8_takeSend_43 (by decide) ?_
      have ha_11 := tx_11 hT hg_5
      refine va_callr (rnV (fun H => TX E G B_9 R H) (As := [.int 0]) (rest := []) ⟨hx, hb, hml, hown, hts⟩ (x_X5_at l E z0 G hGz B_9 R hW (R h0 3) (0 : Int32) hg_5 (show 0 ≤ (0 : Int32).toInt ∧ (0 : Int32).toInt ≤ 4 from by have := i_0; first | decide | omega)) (cwV 1 hts (gdV ml_X8_116 im_X5_at se_X5_X5_at in_X5 co_X5_at rfl) rfl rfl rfl (by decide +kernel) ⟨Nat.le_of_ble_eq_true rfl, Nat.le_of_ble_eq_true rfl⟩) hT (fun U hU hW => hK.go hW hS hAz hU) (va_recv hK.1 (va_one ha_11) (ci := 5) (q0 := 0) rfl rfl) rfl rfl hl.1 rfl (lv_room (Nat.le_of_ble_eq_true rfl)) dX8_takeSend_44 ⟨Nat.le_of_ble_eq_true rfl, Nat.le_of_ble_eq_true rfl⟩) hS (fun q _ h => h.elim) (fun q h => h.elim) (fun _ r_12 t H locs ht hvm hwr_12 hB hz hk hS => ?_)
      have hT : TX E G B_9 R H := hT.kept (fun q hq => hk q hq (fun h => h))
      have hRr_12 := hB
      have hgr_12 : G r_12 = 13 := hRr_12.1
      have hCr_12 : C_X5_at G B_9 R (R h0 3) (0 : Int32) r_12 := hRr_12.2
      refine lv_astore_n (lv' := [(2, .ref r_12), (0, .ref h0), (1, .ref p0)]) hx hb dX8_takeSend_47 rfl hl (by decide) rfl (fun ls hl => ?_)
      refine lv_aload_n hx hb dX8_takeSend_48 rfl (lv_at hl 0 rfl) ?_
      have ha_13 := tx_13 hT hgr_12
      have l_14 : B_9 r_12 3 = (B r_12 3) := (congrFun (fB_9 r_12 (by rw [hgr_12]; decide)) 3)
      have hb_15 := (tw_13 hW_0 hgr_12)
      refine va_get (D := DG E) (ci := 4) (v := .int (B_9 r_12 3)) (C := RX4) (T := TX4) (N := 10) hx hb hts iw_X4 hown hK.1 (va_one ha_13) 0 rfl rfl 3 (by decide) (hts _ fl_X8_120) (fun _ h9 => h9) rfl dX8_takeSend_49 ?_
      refine W.eq (g2 := F0 m 52 ls [.int (B r_12 3)]) (by rw [l_14]) ?_
      refine lv_aload_n hx hb dX8_takeSend_52 rfl (lv_at hl 0 rfl) ?_
      have l_16 : B_9 r_12 9 = (B r_12 9) := (congrFun (fB_9 r_12 (by rw [hgr_12]; decide)) 9)
      refine va_get (D := DG E) (ci := 4) (v := .int (B_9 r_12 9)) (C := RX4) (T := TX4) (N := 10) hx hb hts iw_X4 hown hK.1 (va_one ha_13) 0 rfl rfl 9 (by decide) (hts _ fl_X8_125) (fun _ h9 => h9) rfl dX8_takeSend_53 ?_
      refine W.eq (g2 := F0 m 56 ls [.int (B r_12 9), .int (B r_12 3)]) (by rw [l_16]) ?_
      refine lv_isub hx hb dX8_takeSend_56 ?_
      refine lv_topi (fun x_17 ex_17 => ?_)
      refine lv_istore_n (lv' := [(3, .int x_17), (2, .ref r_12), (0, .ref h0), (1, .ref p0)]) hx hb dX8_takeSend_57 rfl hl (by decide) rfl (fun ls hl => ?_)
      refine lv_aload_n hx hb dX8_takeSend_58 rfl (lv_at hl 3 rfl) ?_
      have ha_18 := tx_31 hT hG0
      have l_19 : B_9 p0 3 = (B p0 3) := (congrFun (fB_9 p0 (by rw [hG0]; decide)) 3)
      have hb_20 := (tw_31 hW_0 hG0).2.1
      refine va_get (D := DG E) (ci := 2) (v := .int (B_9 p0 3)) (C := RX2) (T := TX2) (N := 8) hx hb hts iw_X2 hown hK.1 (va_one ha_18) 0 rfl rfl 3 (by decide) (hts _ fl_X8_128) (fun _ h9 => h9) rfl dX8_takeSend_59 ?_
      refine W.eq (g2 := F0 m 62 ls [.int (B p0 3)]) (by rw [l_19]) ?_
      refine lv_iload_n hx hb dX8_takeSend_62 rfl (lv_at hl 0 rfl) ?_
      refine lv_icmp_le (tgt := 77) hx hb dX8_takeSend_63 (by decide) (fun c_21 => ?_) (fun c_21 => ?_)
      · simp only [lt_I, le_I, eq_I, i_0, i_1, i_2, i_3, i_4, i_5, i_6, i_7, i_8, i_10, i_12, i_16, i_20, i_23, i_24, i_31, i_32, i_63, i_64, i_m1] at c_21
        refine lv_aload_n hx hb dX8_takeSend_77 rfl (lv_at hl 3 rfl) ?_
        refine lv_aload_n hx hb dX8_takeSend_78 rfl (lv_at hl 2 rfl) ?_
        have ha_22 := tx_10 hT hG
        have hg_23 : G (R h0 1) = 5 := (tw_10 hW hG).2.1
        refine va_get (D := DG E) (ci := 8) (v := .ref (R h0 1)) (C := RX8) (T := TX8) (N := 9) hx hb hts iw_X8 hown hK.1 (va_one ha_22) 0 rfl rfl 1 (by decide) (hts _ fl_X8_26) (fun _ h9 => h9) rfl dX8_takeSend_79 ?_
        refine lv_aload_n hx hb dX8_takeSend_82 rfl (lv_at hl 1 rfl) ?_
        have l_24 : B_9 r_12 2 = (B r_12 2) := (congrFun (fB_9 r_12 (by rw [hgr_12]; decide)) 2)
        refine va_get (D := DG E) (ci := 4) (v := .int (B_9 r_12 2)) (C := RX4) (T := TX4) (N := 10) hx hb hts iw_X4 hown hK.1 (va_one ha_13) 0 rfl rfl 2 (by decide) (hts _ fl_X8_129) (fun _ h9 => h9) rfl dX8_takeSend_83 ?_
        refine W.eq (g2 := F0 m 86 ls [.int (B r_12 2), .ref (R h0 1), .ref p0]) (by rw [l_24]) ?_
        refine lv_aload_n hx hb dX8_takeSend_86 rfl (lv_at hl 1 rfl) ?_
        refine va_get (D := DG E) (ci := 4) (v := .int (B_9 r_12 9)) (C := RX4) (T := TX4) (N := 10) hx hb hts iw_X4 hown hK.1 (va_one ha_13) 0 rfl rfl 9 (by decide) (hts _ fl_X8_125) (fun _ h9 => h9) rfl dX8_takeSend_87 ?_
        refine W.eq (g2 := F0 m 90 ls [.int (B r_12 9), .int (B r_12 2), .ref (R h0 1), .ref p0]) (by rw [l_16]) ?_
        refine lv_iadd hx hb dX8_takeSend_90 ?_
        refine lv_topi (fun x_25 ex_25 => ?_)
        refine lv_iload_n hx hb dX8_takeSend_91 rfl (lv_at hl 0 rfl) ?_
        refine va_callv (rnV (fun H => TX E G B_9 R H) (As := [.ref (R h0 1), .int x_25, .int x_17]) (rest := []) ⟨hx, hb, hml, hown, hts⟩ (x_X2_unload l E z0 G hGz B_9 R hW p0 (R h0 1) x_25 x_17 hG0 hg_23) (cwV 3 hts (gdV ml_X8_132 im_X2_unload se_X2_X2_unload in_X2 co_X2_unload rfl) rfl rfl rfl (by decide +kernel) ⟨Nat.le_of_ble_eq_true rfl, Nat.le_of_ble_eq_true rfl⟩) hT (fun U hU hW => hK.go hW hS hAz hU) (va_recv hK.1 (va_one ha_18) (ci := 2) (q0 := 0) rfl rfl) rfl rfl hl.1 rfl (lv_room (Nat.le_of_ble_eq_true rfl)) dX8_takeSend_92 ⟨Nat.le_of_ble_eq_true rfl, Nat.le_of_ble_eq_true rfl⟩) hS (fun q _ h => mL (L' := [14]) (L := [10, 4, 31, 14, 13, 5, 15, 11]) (by decide) h) (fun q h => mL (L' := [14]) (L := [10, 4, 31, 14, 13, 5, 15, 11]) (by decide) h) (fun U_27 t H locs ht hvm hwr_26 hB hz hk hS => ?_)
        have hT : TX E G U_27 R H := by rw [ht] at hB; exact hB
        have hWr_26 : TW G U_27 R := hwr_26.1
        have hW := hWr_26
        have hFr_26 : Fr G [14] B_9 U_27 := hwr_26.2.1
        have hCr_26 : C_X2_unload G B_9 R p0 (R h0 1) x_25 x_17 U_27 := hwr_26.2.2
        refine lv_aload_n hx hb dX8_takeSend_95 rfl (lv_at hl 1 rfl) ?_
        refine lv_dup hx hb dX8_takeSend_96 rfl ?_
        have ha_28 := tx_13 hT hgr_12
        have l_29 : U_27 r_12 9 = (B r_12 9) := ((congrFun (hFr_26 r_12 (by rw [hgr_12]; decide)) 9)).trans ((congrFun (fB_9 r_12 (by rw [hgr_12]; decide)) 9))
        refine va_get (D := DG E) (ci := 4) (v := .int (U_27 r_12 9)) (C := RX4) (T := TX4) (N := 10) hx hb hts iw_X4 hown hK.1 (va_one ha_28) 0 rfl rfl 9 (by decide) (hts _ fl_X8_125) (fun _ h9 => h9) rfl dX8_takeSend_97 ?_
        refine W.eq (g2 := F0 m 100 ls [.int (B r_12 9), .ref r_12]) (by rw [l_29]) ?_
        refine lv_aload_n hx hb dX8_takeSend_100 rfl (lv_at hl 3 rfl) ?_
        have ha_30 := tx_31 hT hG0
        have l_31 : U_27 p0 3 = (B p0 3) := ((congrFun (hFr_26 p0 (by rw [hG0]; decide)) 3)).trans ((congrFun (fB_9 p0 (by rw [hG0]; decide)) 3))
        refine va_get (D := DG E) (ci := 2) (v := .int (U_27 p0 3)) (C := RX2) (T := TX2) (N := 8) hx hb hts iw_X2 hown hK.1 (va_one ha_30) 0 rfl rfl 3 (by decide) (hts _ fl_X8_128) (fun _ h9 => h9) rfl dX8_takeSend_101 ?_
        refine W.eq (g2 := F0 m 104 ls [.int (B p0 3), .int (B r_12 9), .ref r_12]) (by rw [l_31]) ?_
        refine lv_iadd hx hb dX8_takeSend_104 ?_
        refine lv_topi (fun x_32 ex_32 => ?_)
        refine rr_put (D := DG E) (ci := 4) (v := .int x_32) (ty := .int) (C := RX4) (T := TX4) (N := 10) hx hb hts iw_X4 tyX4 tyX4_ok nmX4 hown hK.1 ha_28 hS (by show G r_12 ∈ ([10, 4, 31, 14, 13, 5, 15, 11] : List Nat); rw [hgr_12]; decide) rfl 9 (by decide) (hts _ fl_X8_125) (fun _ h9 => h9) rfl (by decide +kernel) rfl rfl (Nat.le_of_ble_eq_true rfl) dX8_takeSend_105 (fun H locs hn ho hz hS => ?_)
        obtain ⟨B_33, eB_33⟩ : ∃ z : AA, z = uA U_27 r_12 (upd (U_27 r_12) 9 x_32) := ⟨_, rfl⟩
        have sB_33 : B_33 r_12 9 = x_32 := by rw [eB_33, uA_s]; exact upd_s
        have nB_33 : ∀ k, k ≠ 9 → B_33 r_12 k = U_27 r_12 k := fun k hk => by rw [eB_33, uA_s]; exact upd_n hk
        have fB_33 : ∀ c, G c ≠ 13 → B_33 c = U_27 c := fun c hc => by rw [eB_33]; exact uA_n (fun e => hc (by rw [e]; exact hgr_12))
        have hT : TX E G B_33 R H := by rw [eB_33]; exact hT.w (by rw [hgr_12]; exact hn) ho
        have hWB_33 : TW G B_33 R := by rw [eB_33]; exact hWr_26.w (by rw [hgr_12]; exact tw_13 hWr_26 hgr_12)
        have hW := hWB_33
        refine lv_aload_n hx hb dX8_takeSend_108 rfl (lv_at hl 3 rfl) ?_
        have ha_34 := tx_31 hT hG0
        refine va_calli (rnV (fun H => TX E G B_33 R H) (As := []) (rest := []) ⟨hx, hb, hml, hown, hts⟩ (x_X2_isLast l E z0 G hGz B_33 R hW p0 hG0) (cwV 0 hts (gdV ml_X8_136 im_X2_isLast se_X2_X2_isLast in_X2 co_X2_isLast rfl) rfl rfl rfl (by decide +kernel) ⟨Nat.le_of_ble_eq_true rfl, Nat.le_of_ble_eq_true rfl⟩) hT (fun U hU hW => hK.go hW hS hAz hU) (va_recv hK.1 (va_one ha_34) (ci := 2) (q0 := 0) rfl rfl) rfl rfl hl.1 rfl (lv_room (Nat.le_of_ble_eq_true rfl)) dX8_takeSend_109 ⟨Nat.le_of_ble_eq_true rfl, Nat.le_of_ble_eq_true rfl⟩) hS (fun q _ h => h.elim) (fun q h => h.elim) (fun r_35 _ t H locs ht hvm hwr_35 hB hz hk hS => ?_)
        have hT : TX E G B_33 R H := hT.kept (fun q hq => hk q hq (fun h => h))
        have hbr_35 : r_35 = 0 ∨ r_35 = 1 := hwr_35.1
        have hCr_35 : C_X2_isLast G B_33 R p0 r_35 := hwr_35.2
        have hzr_35 := s_rng hbr_35
        refine lv_if_eq (tgt := 128) hx hb dX8_takeSend_112 (by decide) (fun c_36 => ?_) (fun c_36 => ?_)
        · simp only [lt_I, le_I, eq_I, i_0, i_1, i_2, i_3, i_4, i_5, i_6, i_7, i_8, i_10, i_12, i_16, i_20, i_23, i_24, i_31, i_32, i_63, i_64, i_m1] at c_36
          refine lv_aload_n hx hb dX8_takeSend_128 rfl (lv_at hl 2 rfl) ?_
          refine lv_iconst (v := 1) hx hb dX8_takeSend_129 (by decide) ?_
          have ha_37 := tx_10 hT hG
          refine va_callv (rnV (fun H => TX E G B_33 R H) (As := [.int 1]) (rest := []) ⟨hx, hb, hml, hown, hts⟩ (x_X8_advance l E z0 G hGz B_33 R hW h0 (1 : Int32) hG) (cwV 1 hts (gdV ml_X8_142 im_X8_advance se_X8_X8_advance in_X8 co_X8_advance rfl) rfl rfl rfl (by decide +kernel) ⟨Nat.le_of_ble_eq_true rfl, Nat.le_of_ble_eq_true rfl⟩) hT (fun U hU hW => hK.go hW hS hAz hU) (va_recv hK.1 (va_one ha_37) (ci := 8) (q0 := 0) rfl rfl) rfl rfl hl.1 rfl (lv_room (Nat.le_of_ble_eq_true rfl)) dX8_takeSend_130 ⟨Nat.le_of_ble_eq_true rfl, Nat.le_of_ble_eq_true rfl⟩) hS (fun q _ h => mL (L' := [10]) (L := [10, 4, 31, 14, 13, 5, 15, 11]) (by decide) h) (fun q h => mL (L' := [10]) (L := [10, 4, 31, 14, 13, 5, 15, 11]) (by decide) h) (fun U_39 t H locs ht hvm hwr_38 hB hz hk hS => ?_)
          have hT : TX E G U_39 R H := by rw [ht] at hB; exact hB
          have hWr_38 : TW G U_39 R := hwr_38.1
          have hW := hWr_38
          have hFr_38 : Fr G [10] B_33 U_39 := hwr_38.2.1
          have hCr_38 : C_X8_advance G B_33 R h0 (1 : Int32) U_39 := hwr_38.2.2
          refine lv_aload_n hx hb dX8_takeSend_133 rfl (lv_at hl 2 rfl) ?_
          refine lv_aload_n hx hb dX8_takeSend_134 rfl (lv_at hl 3 rfl) ?_
          have ha_40 := tx_31 hT hG0
          have l_41 : U_39 p0 2 = (B p0 2) := ((congrFun (hFr_38 p0 (by rw [hG0]; decide)) 2)).trans (((congrFun (fB_33 p0 (by rw [hG0]; decide)) 2)).trans (((congrFun (hFr_26 p0 (by rw [hG0]; decide)) 2)).trans ((congrFun (fB_9 p0 (by rw [hG0]; decide)) 2))))
          refine va_get (D := DG E) (ci := 2) (v := .int (U_39 p0 2)) (C := RX2) (T := TX2) (N := 8) hx hb hts iw_X2 hown hK.1 (va_one ha_40) 0 rfl rfl 2 (by decide) (hts _ fl_X8_59) (fun _ h9 => h9) rfl dX8_takeSend_135 ?_
          refine W.eq (g2 := F0 m 138 ls [.int (B p0 2), .ref h0]) (by rw [l_41]) ?_
          have ha_42 := tx_10 hT hG
          refine va_callv (rnV (fun H => TX E G U_39 R H) (As := [.int (B p0 2)]) (rest := []) ⟨hx, hb, hml, hown, hts⟩ (x_X8_acknowledge l E z0 G hGz U_39 R hW h0 (B p0 2) hG) (cwV 1 hts (gdV ml_X8_105 im_X8_acknowledge se_X8_X8_acknowledge in_X8 co_X8_acknowledge rfl) rfl rfl rfl (by decide +kernel) ⟨Nat.le_of_ble_eq_true rfl, Nat.le_of_ble_eq_true rfl⟩) hT (fun U hU hW => hK.go hW hS hAz hU) (va_recv hK.1 (va_one ha_42) (ci := 8) (q0 := 0) rfl rfl) rfl rfl hl.1 rfl (lv_room (Nat.le_of_ble_eq_true rfl)) dX8_takeSend_138 ⟨Nat.le_of_ble_eq_true rfl, Nat.le_of_ble_eq_true rfl⟩) hS (fun q _ h => mL (L' := [4, 31]) (L := [10, 4, 31, 14, 13, 5, 15, 11]) (by decide) h) (fun q h => mL (L' := [4, 31]) (L := [10, 4, 31, 14, 13, 5, 15, 11]) (by decide) h) (fun U_44 t H locs ht hvm hwr_43 hB hz hk hS => ?_)
          have hT : TX E G U_44 R H := by rw [ht] at hB; exact hB
          have hWr_43 : TW G U_44 R := hwr_43.1
          have hW := hWr_43
          have hFr_43 : Fr G [4, 31] U_39 U_44 := hwr_43.2.1
          have hCr_43 : C_X8_acknowledge G U_39 R h0 (B p0 2) U_44 := hwr_43.2.2
          refine lv_iconst (v := 0) hx hb dX8_takeSend_141 (by decide) ?_
          exact W.iret (v := 0) hx hb hr (fun t ht hW9 => ⟨⟨0, U_44, rfl, ⟨hW, (Fr.c (Fr.c (Fr.w (Fr.c (Fr.w Fr.rf hG (by decide) eB_9) hFr_26 (by decide)) hgr_12 (by decide) eB_33) hFr_38 (by decide)) hFr_43 (by decide)), (Or.inl ⟨r_2, hCr_2, c_4, c_8, B_9, eB_9, r_12, hCr_12, x_17, ex_17, c_21, x_25, ex_25, U_27, hFr_26, hCr_26, x_32, ex_32, B_33, eB_33, r_35, hCr_35, c_36, U_39, hFr_38, hCr_38, U_44, hFr_43, hCr_43, rfl, rfl⟩)⟩, (by show TX E G U_44 R t.heap; rw [ht]; exact hT)⟩, hS.F ht⟩) hS.2.2 dX8_takeSend_142
        · simp only [lt_I, le_I, eq_I, i_0, i_1, i_2, i_3, i_4, i_5, i_6, i_7, i_8, i_10, i_12, i_16, i_20, i_23, i_24, i_31, i_32, i_63, i_64, i_m1] at c_36
          refine lv_aload_n hx hb dX8_takeSend_115 rfl (lv_at hl 2 rfl) ?_
          have ha_45 := tx_10 hT hG
          refine va_get (D := DG E) (ci := 8) (v := .ref (R h0 3)) (C := RX8) (T := TX8) (N := 9) hx hb hts iw_X8 hown hK.1 (va_one ha_45) 0 rfl rfl 3 (by decide) (hts _ fl_X8_39) (fun _ h9 => h9) rfl dX8_takeSend_116 ?_
          refine lv_iconst (v := 0) hx hb dX8_takeSend_119 (by decide) ?_
          have l_46 : B_33 (R h0 3) 4 = (B (R h0 3) 4) := ((congrFun (fB_33 (R h0 3) (by rw [hg_5]; decide)) 4)).trans (((congrFun (hFr_26 (R h0 3) (by rw [hg_5]; decide)) 4)).trans ((congrFun (fB_9 (R h0 3) (by rw [hg_5]; decide)) 4)))
          have ha_47 := tx_11 hT hg_5
          refine va_callv (rnV (fun H => TX E G B_33 R H) (As := [.int 0]) (rest := []) ⟨hx, hb, hml, hown, hts⟩ (x_X5_completeFirst l E z0 G hGz B_33 R hW (R h0 3) (0 : Int32) hg_5 (show 1 ≤ (B_33 (R h0 3) 4).toInt from by have := congrArg Int32.toInt l_46; have := i_0; first | decide | omega)) (cwV 1 hts (gdV ml_X8_139 im_X5_completeFirst se_X5_X5_completeFirst in_X5 co_X5_completeFirst rfl) rfl rfl rfl (by decide +kernel) ⟨Nat.le_of_ble_eq_true rfl, Nat.le_of_ble_eq_true rfl⟩) hT (fun U hU hW => hK.go hW hS hAz hU) (va_recv hK.1 (va_one ha_47) (ci := 5) (q0 := 0) rfl rfl) rfl rfl hl.1 rfl (lv_room (Nat.le_of_ble_eq_true rfl)) dX8_takeSend_120 ⟨Nat.le_of_ble_eq_true rfl, Nat.le_of_ble_eq_true rfl⟩) hS (fun q _ h => mL (L' := [5, 15, 11]) (L := [10, 4, 31, 14, 13, 5, 15, 11]) (by decide) h) (fun q h => mL (L' := [5, 15, 11]) (L := [10, 4, 31, 14, 13, 5, 15, 11]) (by decide) h) (fun U_49 t H locs ht hvm hwr_48 hB hz hk hS => ?_)
          have hT : TX E G U_49 R H := by rw [ht] at hB; exact hB
          have hWr_48 : TW G U_49 R := hwr_48.1
          have hW := hWr_48
          have hFr_48 : Fr G [5, 15, 11] B_33 U_49 := hwr_48.2.1
          have hCr_48 : C_X5_completeFirst G B_33 R (R h0 3) (0 : Int32) U_49 := hwr_48.2.2
          refine lv_aload_n hx hb dX8_takeSend_123 rfl (lv_at hl 2 rfl) ?_
          refine lv_iconst (v := 0) hx hb dX8_takeSend_124 (by decide) ?_
          have ha_50 := tx_10 hT hG
          refine rr_put (D := DG E) (ci := 8) (v := .int 0) (ty := .boolean) (C := RX8) (T := TX8) (N := 9) hx hb hts iw_X8 tyX8 tyX8_ok nmX8 hown hK.1 ha_50 hS (by show G h0 ∈ ([10, 4, 31, 14, 13, 5, 15, 11] : List Nat); rw [hG]; decide) rfl 5 (by decide) (hts _ fl_X8_52) (fun _ h9 => h9) rfl (by decide +kernel) rfl rfl (Nat.le_of_ble_eq_true rfl) dX8_takeSend_125 (fun H locs hn ho hz hS => ?_)
          obtain ⟨B_51, eB_51⟩ : ∃ z : AA, z = uA U_49 h0 (upd (U_49 h0) 5 0) := ⟨_, rfl⟩
          have sB_51 : B_51 h0 5 = 0 := by rw [eB_51, uA_s]; exact upd_s
          have nB_51 : ∀ k, k ≠ 5 → B_51 h0 k = U_49 h0 k := fun k hk => by rw [eB_51, uA_s]; exact upd_n hk
          have fB_51 : ∀ c, G c ≠ 10 → B_51 c = U_49 c := fun c hc => by rw [eB_51]; exact uA_n (fun e => hc (by rw [e]; exact hG))
          have hT : TX E G B_51 R H := by rw [eB_51]; exact hT.w (by rw [hG]; exact hn) ho
          have hWB_51 : TW G B_51 R := by rw [eB_51]; exact hWr_48.w (by rw [hG]; exact tw_10 hWr_48 hG)
          have hW := hWB_51
          refine lv_aload_n hx hb dX8_takeSend_128 rfl (lv_at hl 2 rfl) ?_
          refine lv_iconst (v := 1) hx hb dX8_takeSend_129 (by decide) ?_
          have ha_52 := tx_10 hT hG
          refine va_callv (rnV (fun H => TX E G B_51 R H) (As := [.int 1]) (rest := []) ⟨hx, hb, hml, hown, hts⟩ (x_X8_advance l E z0 G hGz B_51 R hW h0 (1 : Int32) hG) (cwV 1 hts (gdV ml_X8_142 im_X8_advance se_X8_X8_advance in_X8 co_X8_advance rfl) rfl rfl rfl (by decide +kernel) ⟨Nat.le_of_ble_eq_true rfl, Nat.le_of_ble_eq_true rfl⟩) hT (fun U hU hW => hK.go hW hS hAz hU) (va_recv hK.1 (va_one ha_52) (ci := 8) (q0 := 0) rfl rfl) rfl rfl hl.1 rfl (lv_room (Nat.le_of_ble_eq_true rfl)) dX8_takeSend_130 ⟨Nat.le_of_ble_eq_true rfl, Nat.le_of_ble_eq_true rfl⟩) hS (fun q _ h => mL (L' := [10]) (L := [10, 4, 31, 14, 13, 5, 15, 11]) (by decide) h) (fun q h => mL (L' := [10]) (L := [10, 4, 31, 14, 13, 5, 15, 11]) (by decide) h) (fun U_54 t H locs ht hvm hwr_53 hB hz hk hS => ?_)
          have hT : TX E G U_54 R H := by rw [ht] at hB; exact hB
          have hWr_53 : TW G U_54 R := hwr_53.1
          have hW := hWr_53
          have hFr_53 : Fr G [10] B_51 U_54 := hwr_53.2.1
          have hCr_53 : C_X8_advance G B_51 R h0 (1 : Int32) U_54 := hwr_53.2.2
          refine lv_aload_n hx hb dX8_takeSend_133 rfl (lv_at hl 2 rfl) ?_
          refine lv_aload_n hx hb dX8_takeSend_134 rfl (lv_at hl 3 rfl) ?_
          have ha_55 := tx_31 hT hG0
          have l_56 : U_54 p0 2 = (B p0 2) := ((congrFun (hFr_53 p0 (by rw [hG0]; decide)) 2)).trans (((congrFun (fB_51 p0 (by rw [hG0]; decide)) 2)).trans (((congrFun (hFr_48 p0 (by rw [hG0]; decide)) 2)).trans (((congrFun (fB_33 p0 (by rw [hG0]; decide)) 2)).trans (((congrFun (hFr_26 p0 (by rw [hG0]; decide)) 2)).trans ((congrFun (fB_9 p0 (by rw [hG0]; decide)) 2))))))
          refine va_get (D := DG E) (ci := 2) (v := .int (U_54 p0 2)) (C := RX2) (T := TX2) (N := 8) hx hb hts iw_X2 hown hK.1 (va_one ha_55) 0 rfl rfl 2 (by decide) (hts _ fl_X8_59) (fun _ h9 => h9) rfl dX8_takeSend_135 ?_
          refine W.eq (g2 := F0 m 138 ls [.int (B p0 2), .ref h0]) (by rw [l_56]) ?_
          have ha_57 := tx_10 hT hG
          refine va_callv (rnV (fun H => TX E G U_54 R H) (As := [.int (B p0 2)]) (rest := []) ⟨hx, hb, hml, hown, hts⟩ (x_X8_acknowledge l E z0 G hGz U_54 R hW h0 (B p0 2) hG) (cwV 1 hts (gdV ml_X8_105 im_X8_acknowledge se_X8_X8_acknowledge in_X8 co_X8_acknowledge rfl) rfl rfl rfl (by decide +kernel) ⟨Nat.le_of_ble_eq_true rfl, Nat.le_of_ble_eq_true rfl⟩) hT (fun U hU hW => hK.go hW hS hAz hU) (va_recv hK.1 (va_one ha_57) (ci := 8) (q0 := 0) rfl rfl) rfl rfl hl.1 rfl (lv_room (Nat.le_of_ble_eq_true rfl)) dX8_takeSend_138 ⟨Nat.le_of_ble_eq_true rfl, Nat.le_of_ble_eq_true rfl⟩) hS (fun q _ h => mL (L' := [4, 31]) (L := [10, 4, 31, 14, 13, 5, 15, 11]) (by decide) h) (fun q h => mL (L' := [4, 31]) (L := [10, 4, 31, 14, 13, 5, 15, 11]) (by decide) h) (fun U_59 t H locs ht hvm hwr_58 hB hz hk hS => ?_)
          have hT : TX E G U_59 R H := by rw [ht] at hB; exact hB
          have hWr_58 : TW G U_59 R := hwr_58.1
          have hW := hWr_58
          have hFr_58 : Fr G [4, 31] U_54 U_59 := hwr_58.2.1
          have hCr_58 : C_X8_acknowledge G U_54 R h0 (B p0 2) U_59 := hwr_58.2.2
          refine lv_iconst (v := 0) hx hb dX8_takeSend_141 (by decide) ?_
          exact W.iret (v := 0) hx hb hr (fun t ht hW9 => ⟨⟨0, U_59, rfl, ⟨hW, (Fr.c (Fr.c (Fr.w (Fr.c (Fr.w (Fr.c (Fr.w Fr.rf hG (by decide) eB_9) hFr_26 (by decide)) hgr_12 (by decide) eB_33) hFr_48 (by decide)) hG (by decide) eB_51) hFr_53 (by decide)) hFr_58 (by decide)), (Or.inr (Or.inl ⟨r_2, hCr_2, c_4, c_8, B_9, eB_9, r_12, hCr_12, x_17, ex_17, c_21, x_25, ex_25, U_27, hFr_26, hCr_26, x_32, ex_32, B_33, eB_33, r_35, hCr_35, c_36, U_49, hFr_48, hCr_48, B_51, eB_51, U_54, hFr_53, hCr_53, U_59, hFr_58, hCr_58, rfl, rfl⟩))⟩, (by show TX E G U_59 R t.heap; rw [ht]; exact hT)⟩, hS.F ht⟩) hS.2.2 dX8_takeSend_142
      · simp only [lt_I, le_I, eq_I, i_0, i_1, i_2, i_3, i_4, i_5, i_6, i_7, i_8, i_10, i_12, i_16, i_20, i_23, i_24, i_31, i_32, i_63, i_64, i_m1] at c_21
        refine lv_aload_n hx hb dX8_takeSend_66 rfl (lv_at hl 2 rfl) ?_
        refine lv_aload_n hx hb dX8_takeSend_67 rfl (lv_at hl 3 rfl) ?_
        have l_60 : B_9 p0 2 = (B p0 2) := (congrFun (fB_9 p0 (by rw [hG0]; decide)) 2)
        refine va_get (D := DG E) (ci := 2) (v := .int (B_9 p0 2)) (C := RX2) (T := TX2) (N := 8) hx hb hts iw_X2 hown hK.1 (va_one ha_18) 0 rfl rfl 2 (by decide) (hts _ fl_X8_59) (fun _ h9 => h9) rfl dX8_takeSend_68 ?_
        refine W.eq (g2 := F0 m 71 ls [.int (B p0 2), .ref h0]) (by rw [l_60]) ?_
        refine lv_iconst (v := 4) hx hb dX8_takeSend_71 (by decide) ?_
        have ha_61 := tx_10 hT hG
        refine va_callv (rnV (fun H => TX E G B_9 R H) (As := [.int (B p0 2), .int 4]) (rest := []) ⟨hx, hb, hml, hown, hts⟩ (x_X8_refuse l E z0 G hGz B_9 R hW h0 (B p0 2) (4 : Int32) hG) (cwV 2 hts (gdV ml_X8_85 im_X8_refuse se_X8_X8_refuse in_X8 co_X8_refuse rfl) rfl rfl rfl (by decide +kernel) ⟨Nat.le_of_ble_eq_true rfl, Nat.le_of_ble_eq_true rfl⟩) hT (fun U hU hW => hK.go hW hS hAz hU) (va_recv hK.1 (va_one ha_61) (ci := 8) (q0 := 0) rfl rfl) rfl rfl hl.1 rfl (lv_room (Nat.le_of_ble_eq_true rfl)) dX8_takeSend_72 ⟨Nat.le_of_ble_eq_true rfl, Nat.le_of_ble_eq_true rfl⟩) hS (fun q _ h => mL (L' := [4, 31]) (L := [10, 4, 31, 14, 13, 5, 15, 11]) (by decide) h) (fun q h => mL (L' := [4, 31]) (L := [10, 4, 31, 14, 13, 5, 15, 11]) (by decide) h) (fun U_63 t H locs ht hvm hwr_62 hB hz hk hS => ?_)
        have hT : TX E G U_63 R H := by rw [ht] at hB; exact hB
        have hWr_62 : TW G U_63 R := hwr_62.1
        have hW := hWr_62
        have hFr_62 : Fr G [4, 31] B_9 U_63 := hwr_62.2.1
        have hCr_62 : C_X8_refuse G B_9 R h0 (B p0 2) (4 : Int32) U_63 := hwr_62.2.2
        refine lv_iconst (v := 4) hx hb dX8_takeSend_75 (by decide) ?_
        exact W.iret (v := 4) hx hb hr (fun t ht hW9 => ⟨⟨4, U_63, rfl, ⟨hW, (Fr.c (Fr.w Fr.rf hG (by decide) eB_9) hFr_62 (by decide)), (Or.inr (Or.inr (Or.inl ⟨r_2, hCr_2, c_4, c_8, B_9, eB_9, r_12, hCr_12, x_17, ex_17, c_21, U_63, hFr_62, hCr_62, rfl, rfl⟩)))⟩, (by show TX E G U_63 R t.heap; rw [ht]; exact hT)⟩, hS.F ht⟩) hS.2.2 dX8_takeSend_76
    · simp only [lt_I, le_I, eq_I, i_0, i_1, i_2, i_3, i_4, i_5, i_6, i_7, i_8, i_10, i_12, i_16, i_20, i_23, i_24, i_31, i_32, i_63, i_64, i_m1] at c_8
      refine lv_aload_n hx hb dX8_takeSend_23 rfl (lv_at hl 0 rfl) ?_
      refine lv_aload_n hx hb dX8_takeSend_24 rfl (lv_at hl 1 rfl) ?_
      have ha_64 := tx_31 hT hG0
      refine va_get (D := DG E) (ci := 2) (v := .int (B p0 2)) (C := RX2) (T := TX2) (N := 8) hx hb hts iw_X2 hown hK.1 (va_one ha_64) 0 rfl rfl 2 (by decide) (hts _ fl_X8_59) (fun _ h9 => h9) rfl dX8_takeSend_25 ?_
      refine lv_iconst (v := 2) hx hb dX8_takeSend_28 (by decide) ?_
      refine va_callv (rnV (fun H => TX E G B R H) (As := [.int (B p0 2), .int 2]) (rest := []) ⟨hx, hb, hml, hown, hts⟩ (x_X8_refuse l E z0 G hGz B R hW h0 (B p0 2) (2 : Int32) hG) (cwV 2 hts (gdV ml_X8_85 im_X8_refuse se_X8_X8_refuse in_X8 co_X8_refuse rfl) rfl rfl rfl (by decide +kernel) ⟨Nat.le_of_ble_eq_true rfl, Nat.le_of_ble_eq_true rfl⟩) hT (fun U hU hW => hK.go hW hS hAz hU) (va_recv hK.1 (va_one ha_3) (ci := 8) (q0 := 0) rfl rfl) rfl rfl hl.1 rfl (lv_room (Nat.le_of_ble_eq_true rfl)) dX8_takeSend_29 ⟨Nat.le_of_ble_eq_true rfl, Nat.le_of_ble_eq_true rfl⟩) hS (fun q _ h => mL (L' := [4, 31]) (L := [10, 4, 31, 14, 13, 5, 15, 11]) (by decide) h) (fun q h => mL (L' := [4, 31]) (L := [10, 4, 31, 14, 13, 5, 15, 11]) (by decide) h) (fun U_66 t H locs ht hvm hwr_65 hB hz hk hS => ?_)
      have hT : TX E G U_66 R H := by rw [ht] at hB; exact hB
      have hWr_65 : TW G U_66 R := hwr_65.1
      have hW := hWr_65
      have hFr_65 : Fr G [4, 31] B U_66 := hwr_65.2.1
      have hCr_65 : C_X8_refuse G B R h0 (B p0 2) (2 : Int32) U_66 := hwr_65.2.2
      refine lv_iconst (v := 0) hx hb dX8_takeSend_32 (by decide) ?_
      exact W.iret (v := 0) hx hb hr (fun t ht hW9 => ⟨⟨0, U_66, rfl, ⟨hW, (Fr.c Fr.rf hFr_65 (by decide)), (Or.inr (Or.inr (Or.inr (Or.inl ⟨r_2, hCr_2, c_4, c_8, U_66, hFr_65, hCr_65, rfl, rfl⟩))))⟩, (by show TX E G U_66 R t.heap; rw [ht]; exact hT)⟩, hS.F ht⟩) hS.2.2 dX8_takeSend_33
  · simp only [lt_I, le_I, eq_I, i_0, i_1, i_2, i_3, i_4, i_5, i_6, i_7, i_8, i_10, i_12, i_16, i_20, i_23, i_24, i_31, i_32, i_63, i_64, i_m1] at c_4
    refine lv_iconst (v := 0) hx hb dX8_takeSend_11 (by decide) ?_
    exact W.iret (v := 0) hx hb hr (fun t ht hW9 => ⟨⟨0, B, rfl, ⟨hW, Fr.rf, (Or.inr (Or.inr (Or.inr (Or.inr ⟨r_2, hCr_2, c_4, rfl, rfl⟩))))⟩, (by show TX E G B R t.heap; rw [ht]; exact hT)⟩, hS.F ht⟩) hS.2.2 dX8_takeSend_12
theorem dX8_takeReach_0 : decode cX8_takeReach 0 = .ok (.aload_n 1, 1) := by decide +kernel
theorem dX8_takeReach_1 : decode cX8_takeReach 1 = .ok (.aload_n 0, 1) := by decide +kernel
theorem dX8_takeReach_2 : decode cX8_takeReach 2 = .ok (.getfield 26, 3) := by decide +kernel
theorem dX8_takeReach_5 : decode cX8_takeReach 5 = .ok (.invokevirtual 89, 3) := by decide +kernel
theorem dX8_takeReach_8 : decode cX8_takeReach 8 = .ok (.ifCond .ne 14, 3) := by decide +kernel
theorem dX8_takeReach_11 : decode cX8_takeReach 11 = .ok (.aload_n 0, 1) := by decide +kernel
theorem dX8_takeReach_12 : decode cX8_takeReach 12 = .ok (.aload_n 1, 1) := by decide +kernel
theorem dX8_takeReach_13 : decode cX8_takeReach 13 = .ok (.getfield 59, 3) := by decide +kernel
theorem dX8_takeReach_16 : decode cX8_takeReach 16 = .ok (.iconst 3, 1) := by decide +kernel
theorem dX8_takeReach_17 : decode cX8_takeReach 17 = .ok (.invokevirtual 85, 3) := by decide +kernel
theorem dX8_takeReach_20 : decode cX8_takeReach 20 = .ok (.iconst 5, 1) := by decide +kernel
theorem dX8_takeReach_21 : decode cX8_takeReach 21 = .ok (.ireturn, 1) := by decide +kernel
theorem dX8_takeReach_22 : decode cX8_takeReach 22 = .ok (.aload_n 1, 1) := by decide +kernel
theorem dX8_takeReach_23 : decode cX8_takeReach 23 = .ok (.getfield 75, 3) := by decide +kernel
theorem dX8_takeReach_26 : decode cX8_takeReach 26 = .ok (.iconst 2, 1) := by decide +kernel
theorem dX8_takeReach_27 : decode cX8_takeReach 27 = .ok (.if_icmp .ne 22, 3) := by decide +kernel
theorem dX8_takeReach_30 : decode cX8_takeReach 30 = .ok (.aload_n 0, 1) := by decide +kernel
theorem dX8_takeReach_31 : decode cX8_takeReach 31 = .ok (.aload_n 1, 1) := by decide +kernel
theorem dX8_takeReach_32 : decode cX8_takeReach 32 = .ok (.invokevirtual 93, 3) := by decide +kernel
theorem dX8_takeReach_35 : decode cX8_takeReach 35 = .ok (.aload_n 0, 1) := by decide +kernel
theorem dX8_takeReach_36 : decode cX8_takeReach 36 = .ok (.aload_n 1, 1) := by decide +kernel
theorem dX8_takeReach_37 : decode cX8_takeReach 37 = .ok (.getfield 128, 3) := by decide +kernel
theorem dX8_takeReach_40 : decode cX8_takeReach 40 = .ok (.invokestatic 145, 3) := by decide +kernel
theorem dX8_takeReach_43 : decode cX8_takeReach 43 = .ok (.invokevirtual 142, 3) := by decide +kernel
theorem dX8_takeReach_46 : decode cX8_takeReach 46 = .ok (.goto 61, 3) := by decide +kernel
theorem dX8_takeReach_49 : decode cX8_takeReach 49 = .ok (.aload_n 1, 1) := by decide +kernel
theorem dX8_takeReach_50 : decode cX8_takeReach 50 = .ok (.getfield 75, 3) := by decide +kernel
theorem dX8_takeReach_53 : decode cX8_takeReach 53 = .ok (.iconst 3, 1) := by decide +kernel
theorem dX8_takeReach_54 : decode cX8_takeReach 54 = .ok (.if_icmp .ne 24, 3) := by decide +kernel
theorem dX8_takeReach_57 : decode cX8_takeReach 57 = .ok (.aload_n 0, 1) := by decide +kernel
theorem dX8_takeReach_58 : decode cX8_takeReach 58 = .ok (.aload_n 1, 1) := by decide +kernel
theorem dX8_takeReach_59 : decode cX8_takeReach 59 = .ok (.getfield 59, 3) := by decide +kernel
theorem dX8_takeReach_62 : decode cX8_takeReach 62 = .ok (.aload_n 0, 1) := by decide +kernel
theorem dX8_takeReach_63 : decode cX8_takeReach 63 = .ok (.aload_n 1, 1) := by decide +kernel
theorem dX8_takeReach_64 : decode cX8_takeReach 64 = .ok (.invokevirtual 148, 3) := by decide +kernel
theorem dX8_takeReach_67 : decode cX8_takeReach 67 = .ok (.invokevirtual 99, 3) := by decide +kernel
theorem dX8_takeReach_70 : decode cX8_takeReach 70 = .ok (.aload_n 0, 1) := by decide +kernel
theorem dX8_takeReach_71 : decode cX8_takeReach 71 = .ok (.iconst 1, 1) := by decide +kernel
theorem dX8_takeReach_72 : decode cX8_takeReach 72 = .ok (.invokevirtual 142, 3) := by decide +kernel
theorem dX8_takeReach_75 : decode cX8_takeReach 75 = .ok (.goto 32, 3) := by decide +kernel
theorem dX8_takeReach_78 : decode cX8_takeReach 78 = .ok (.aload_n 1, 1) := by decide +kernel
theorem dX8_takeReach_79 : decode cX8_takeReach 79 = .ok (.aload_n 0, 1) := by decide +kernel
theorem dX8_takeReach_80 : decode cX8_takeReach 80 = .ok (.getfield 26, 3) := by decide +kernel
theorem dX8_takeReach_83 : decode cX8_takeReach 83 = .ok (.aload_n 1, 1) := by decide +kernel
theorem dX8_takeReach_84 : decode cX8_takeReach 84 = .ok (.getfield 151, 3) := by decide +kernel
theorem dX8_takeReach_87 : decode cX8_takeReach 87 = .ok (.aload_n 1, 1) := by decide +kernel
theorem dX8_takeReach_88 : decode cX8_takeReach 88 = .ok (.getfield 128, 3) := by decide +kernel
theorem dX8_takeReach_91 : decode cX8_takeReach 91 = .ok (.invokevirtual 132, 3) := by decide +kernel
theorem dX8_takeReach_94 : decode cX8_takeReach 94 = .ok (.aload_n 0, 1) := by decide +kernel
theorem dX8_takeReach_95 : decode cX8_takeReach 95 = .ok (.iconst 1, 1) := by decide +kernel
theorem dX8_takeReach_96 : decode cX8_takeReach 96 = .ok (.invokevirtual 142, 3) := by decide +kernel
theorem dX8_takeReach_99 : decode cX8_takeReach 99 = .ok (.aload_n 0, 1) := by decide +kernel
theorem dX8_takeReach_100 : decode cX8_takeReach 100 = .ok (.aload_n 1, 1) := by decide +kernel
theorem dX8_takeReach_101 : decode cX8_takeReach 101 = .ok (.getfield 59, 3) := by decide +kernel
theorem dX8_takeReach_104 : decode cX8_takeReach 104 = .ok (.invokevirtual 105, 3) := by decide +kernel
theorem dX8_takeReach_107 : decode cX8_takeReach 107 = .ok (.iconst 0, 1) := by decide +kernel
theorem dX8_takeReach_108 : decode cX8_takeReach 108 = .ok (.ireturn, 1) := by decide +kernel
set_option maxHeartbeats 8000000 in
set_option maxRecDepth 100000 in
theorem x_X8_takeReach (l : Launch) (E : EE) (z0 : Nat) (G : Nat → Nat) (hGz : ∀ q, G q ≠ 0 → z0 ≤ q) (B : AA) (R : RR) (hW : TW G B R) (h0 : Nat) (p0 : Nat) (hG : G h0 = 10) (hG0 : G p0 = 31) : Met l yX8_takeReach [Cond.code yX8_takeReach cX8_takeReach 2 (some .int)] ({ frames := 4, cells := 0, slots := 0, locals := 88 } : Room) (va_Pc [.ref h0, .ref p0] (fun U => TX E G B R U.heap ∧ KS E z0 U)) (va_Qi (fun (r : Int32) (u : AA) => (TW G u R) ∧ (Fr G ([10, 4, 31, 32, 14, 16, 17] : List Nat) B u) ∧ (C_X8_takeReach G B R h0 p0 u r)) (fun u t => TX E G u R t.heap) (fun q : Nat => G q ∈ ([10, 4, 31, 32, 14, 16, 17] : List Nat))) 0 0 (fun q : Nat => G q ∈ ([10, 4, 31, 32, 14, 16, 17] : List Nat)) := by
  refine Met.ofW (cc := cX8_takeReach) (maxL := 2) (ret := (some .int)) (by decide) rfl ?_
  intro p e s m args below meth c s₁ B9 hml hv
  obtain ⟨rfl, hT, hK⟩ := hv
  have hx := B9.exec
  have hb := B9.bytes
  have hr := B9.returns
  have hts : ∀ w ∈ TS, w.before ([.ref h0, .ref p0] : List Value).toArray s = true := fun w hw => hK.2.1 w hw _
  have hown : s.vm.findClass RX8 = some m.cls := findClass_of_methodNamed B9.named
  have hlocks := B9.notSynchronized
  have hS : va_S (fun q : Nat => G q ∈ ([10, 4, 31, 32, 14, 16, 17] : List Nat)) s.heap s.heap [] := va_S.rf
  have hAz : ∀ q, (fun q : Nat => G q ∈ ([10, 4, 31, 32, 14, 16, 17] : List Nat)) q → z0 ≤ q := zL hGz (by decide)
  have hW_0 := hW
  have hl := lv_entry ([.ref h0, .ref p0]) (n := 2) (Nat.le_of_ble_eq_true rfl)
  rw [lg_entry_eq]
  generalize (lg_sl ([.ref h0, .ref p0]) ++ List.replicate (2 - (lg_sl ([.ref h0, .ref p0])).length) Slot.unset).toArray = ls at hl ⊢
  have hl : lv_has ls 2 [(0, .ref h0), (1, .ref p0)] := hl
  refine lv_aload_n hx hb dX8_takeReach_0 rfl (lv_at hl 1 rfl) ?_
  refine lv_aload_n hx hb dX8_takeReach_1 rfl (lv_at hl 0 rfl) ?_
  have ha_1 := tx_10 hT hG
  have hg_2 : G (R h0 1) = 5 := (tw_10 hW hG).2.1
  refine va_get (D := DG E) (ci := 8) (v := .ref (R h0 1)) (C := RX8) (T := TX8) (N := 9) hx hb hts iw_X8 hown hK.1 (va_one ha_1) 0 rfl rfl 1 (by decide) (hts _ fl_X8_26) (fun _ h9 => h9) rfl dX8_takeReach_2 ?_
  have ha_3 := tx_31 hT hG0
  refine va_calli (rnV (fun H => TX E G B R H) (As := [.ref (R h0 1)]) (rest := []) ⟨hx, hb, hml, hown, hts⟩ (x_X2_isAllowed l E z0 G hGz B R hW p0 (R h0 1) hG0 hg_2) (cwV 1 hts (gdV ml_X8_89 im_X2_isAllowed se_X2_X2_isAllowed in_X2 co_X2_isAllowed rfl) rfl rfl rfl (by decide +kernel) ⟨Nat.le_of_ble_eq_true rfl, Nat.le_of_ble_eq_true rfl⟩) hT (fun U hU hW => hK.go hW hS hAz hU) (va_recv hK.1 (va_one ha_3) (ci := 2) (q0 := 0) rfl rfl) rfl rfl hl.1 rfl (lv_room (Nat.le_of_ble_eq_true rfl)) dX8_takeReach_5 ⟨Nat.le_of_ble_eq_true rfl, Nat.le_of_ble_eq_true rfl⟩) hS (fun q _ h => h.elim) (fun q h => h.elim) (fun r_4 _ t H locs ht hvm hwr_4 hB hz hk hS => ?_)
  have hT : TX E G B R H := hT.kept (fun q hq => hk q hq (fun h => h))
  have hbr_4 : r_4 = 0 ∨ r_4 = 1 := hwr_4.1
  have hCr_4 : C_X2_isAllowed G B R p0 (R h0 1) r_4 := hwr_4.2
  have hzr_4 := s_rng hbr_4
  refine lv_if_ne (tgt := 22) hx hb dX8_takeReach_8 (by decide) (fun c_5 => ?_) (fun c_5 => ?_)
  · simp only [lt_I, le_I, eq_I, i_0, i_1, i_2, i_3, i_4, i_5, i_6, i_7, i_8, i_10, i_12, i_16, i_20, i_23, i_24, i_31, i_32, i_63, i_64, i_m1] at c_5
    refine lv_aload_n hx hb dX8_takeReach_22 rfl (lv_at hl 1 rfl) ?_
    have ha_6 := tx_31 hT hG0
    refine va_get (D := DG E) (ci := 2) (v := .int (B p0 1)) (C := RX2) (T := TX2) (N := 8) hx hb hts iw_X2 hown hK.1 (va_one ha_6) 0 rfl rfl 1 (by decide) (hts _ fl_X8_75) (fun _ h9 => h9) rfl dX8_takeReach_23 ?_
    refine lv_iconst (v := 2) hx hb dX8_takeReach_26 (by decide) ?_
    refine lv_icmp_ne (tgt := 49) hx hb dX8_takeReach_27 (by decide) (fun c_7 => ?_) (fun c_7 => ?_)
    · simp only [lt_I, le_I, eq_I, i_0, i_1, i_2, i_3, i_4, i_5, i_6, i_7, i_8, i_10, i_12, i_16, i_20, i_23, i_24, i_31, i_32, i_63, i_64, i_m1] at c_7
      refine lv_aload_n hx hb dX8_takeReach_49 rfl (lv_at hl 1 rfl) ?_
      refine va_get (D := DG E) (ci := 2) (v := .int (B p0 1)) (C := RX2) (T := TX2) (N := 8) hx hb hts iw_X2 hown hK.1 (va_one ha_6) 0 rfl rfl 1 (by decide) (hts _ fl_X8_75) (fun _ h9 => h9) rfl dX8_takeReach_50 ?_
      refine lv_iconst (v := 3) hx hb dX8_takeReach_53 (by decide) ?_
      refine lv_icmp_ne (tgt := 78) hx hb dX8_takeReach_54 (by decide) (fun c_8 => ?_) (fun c_8 => ?_)
      · simp only [lt_I, le_I, eq_I, i_0, i_1, i_2, i_3, i_4, i_5, i_6, i_7, i_8, i_10, i_12, i_16, i_20, i_23, i_24, i_31, i_32, i_63, i_64, i_m1] at c_8
        refine lv_aload_n hx hb dX8_takeReach_78 rfl (lv_at hl 1 rfl) ?_
        refine lv_aload_n hx hb dX8_takeReach_79 rfl (lv_at hl 0 rfl) ?_
        have ha_9 := tx_10 hT hG
        refine va_get (D := DG E) (ci := 8) (v := .ref (R h0 1)) (C := RX8) (T := TX8) (N := 9) hx hb hts iw_X8 hown hK.1 (va_one ha_9) 0 rfl rfl 1 (by decide) (hts _ fl_X8_26) (fun _ h9 => h9) rfl dX8_takeReach_80 ?_
        refine lv_aload_n hx hb dX8_takeReach_83 rfl (lv_at hl 1 rfl) ?_
        refine va_get (D := DG E) (ci := 2) (v := .int (B p0 5)) (C := RX2) (T := TX2) (N := 8) hx hb hts iw_X2 hown hK.1 (va_one ha_6) 0 rfl rfl 5 (by decide) (hts _ fl_X8_151) (fun _ h9 => h9) rfl dX8_takeReach_84 ?_
        refine lv_aload_n hx hb dX8_takeReach_87 rfl (lv_at hl 1 rfl) ?_
        have hb_10 := (tw_31 hW_0 hG0).2.1
        refine va_get (D := DG E) (ci := 2) (v := .int (B p0 3)) (C := RX2) (T := TX2) (N := 8) hx hb hts iw_X2 hown hK.1 (va_one ha_6) 0 rfl rfl 3 (by decide) (hts _ fl_X8_128) (fun _ h9 => h9) rfl dX8_takeReach_88 ?_
        refine va_callv (rnV (fun H => TX E G B R H) (As := [.ref (R h0 1), .int (B p0 5), .int (B p0 3)]) (rest := []) ⟨hx, hb, hml, hown, hts⟩ (x_X2_unload l E z0 G hGz B R hW p0 (R h0 1) (B p0 5) (B p0 3) hG0 hg_2) (cwV 3 hts (gdV ml_X8_132 im_X2_unload se_X2_X2_unload in_X2 co_X2_unload rfl) rfl rfl rfl (by decide +kernel) ⟨Nat.le_of_ble_eq_true rfl, Nat.le_of_ble_eq_true rfl⟩) hT (fun U hU hW => hK.go hW hS hAz hU) (va_recv hK.1 (va_one ha_6) (ci := 2) (q0 := 0) rfl rfl) rfl rfl hl.1 rfl (lv_room (Nat.le_of_ble_eq_true rfl)) dX8_takeReach_91 ⟨Nat.le_of_ble_eq_true rfl, Nat.le_of_ble_eq_true rfl⟩) hS (fun q _ h => mL (L' := [14]) (L := [10, 4, 31, 32, 14, 16, 17]) (by decide) h) (fun q h => mL (L' := [14]) (L := [10, 4, 31, 32, 14, 16, 17]) (by decide) h) (fun U_12 t H locs ht hvm hwr_11 hB hz hk hS => ?_)
        have hT : TX E G U_12 R H := by rw [ht] at hB; exact hB
        have hWr_11 : TW G U_12 R := hwr_11.1
        have hW := hWr_11
        have hFr_11 : Fr G [14] B U_12 := hwr_11.2.1
        have hCr_11 : C_X2_unload G B R p0 (R h0 1) (B p0 5) (B p0 3) U_12 := hwr_11.2.2
        refine lv_aload_n hx hb dX8_takeReach_94 rfl (lv_at hl 0 rfl) ?_
        refine lv_iconst (v := 1) hx hb dX8_takeReach_95 (by decide) ?_
        have ha_13 := tx_10 hT hG
        refine va_callv (rnV (fun H => TX E G U_12 R H) (As := [.int 1]) (rest := []) ⟨hx, hb, hml, hown, hts⟩ (x_X8_advance l E z0 G hGz U_12 R hW h0 (1 : Int32) hG) (cwV 1 hts (gdV ml_X8_142 im_X8_advance se_X8_X8_advance in_X8 co_X8_advance rfl) rfl rfl rfl (by decide +kernel) ⟨Nat.le_of_ble_eq_true rfl, Nat.le_of_ble_eq_true rfl⟩) hT (fun U hU hW => hK.go hW hS hAz hU) (va_recv hK.1 (va_one ha_13) (ci := 8) (q0 := 0) rfl rfl) rfl rfl hl.1 rfl (lv_room (Nat.le_of_ble_eq_true rfl)) dX8_takeReach_96 ⟨Nat.le_of_ble_eq_true rfl, Nat.le_of_ble_eq_true rfl⟩) hS (fun q _ h => mL (L' := [10]) (L := [10, 4, 31, 32, 14, 16, 17]) (by decide) h) (fun q h => mL (L' := [10]) (L := [10, 4, 31, 32, 14, 16, 17]) (by decide) h) (fun U_15 t H locs ht hvm hwr_14 hB hz hk hS => ?_)
        have hT : TX E G U_15 R H := by rw [ht] at hB; exact hB
        have hWr_14 : TW G U_15 R := hwr_14.1
        have hW := hWr_14
        have hFr_14 : Fr G [10] U_12 U_15 := hwr_14.2.1
        have hCr_14 : C_X8_advance G U_12 R h0 (1 : Int32) U_15 := hwr_14.2.2
        refine lv_aload_n hx hb dX8_takeReach_99 rfl (lv_at hl 0 rfl) ?_
        refine lv_aload_n hx hb dX8_takeReach_100 rfl (lv_at hl 1 rfl) ?_
        have ha_16 := tx_31 hT hG0
        have l_17 : U_15 p0 2 = (B p0 2) := ((congrFun (hFr_14 p0 (by rw [hG0]; decide)) 2)).trans ((congrFun (hFr_11 p0 (by rw [hG0]; decide)) 2))
        refine va_get (D := DG E) (ci := 2) (v := .int (U_15 p0 2)) (C := RX2) (T := TX2) (N := 8) hx hb hts iw_X2 hown hK.1 (va_one ha_16) 0 rfl rfl 2 (by decide) (hts _ fl_X8_59) (fun _ h9 => h9) rfl dX8_takeReach_101 ?_
        refine W.eq (g2 := F0 m 104 ls [.int (B p0 2), .ref h0]) (by rw [l_17]) ?_
        have ha_18 := tx_10 hT hG
        refine va_callv (rnV (fun H => TX E G U_15 R H) (As := [.int (B p0 2)]) (rest := []) ⟨hx, hb, hml, hown, hts⟩ (x_X8_acknowledge l E z0 G hGz U_15 R hW h0 (B p0 2) hG) (cwV 1 hts (gdV ml_X8_105 im_X8_acknowledge se_X8_X8_acknowledge in_X8 co_X8_acknowledge rfl) rfl rfl rfl (by decide +kernel) ⟨Nat.le_of_ble_eq_true rfl, Nat.le_of_ble_eq_true rfl⟩) hT (fun U hU hW => hK.go hW hS hAz hU) (va_recv hK.1 (va_one ha_18) (ci := 8) (q0 := 0) rfl rfl) rfl rfl hl.1 rfl (lv_room (Nat.le_of_ble_eq_true rfl)) dX8_takeReach_104 ⟨Nat.le_of_ble_eq_true rfl, Nat.le_of_ble_eq_true rfl⟩) hS (fun q _ h => mL (L' := [4, 31]) (L := [10, 4, 31, 32, 14, 16, 17]) (by decide) h) (fun q h => mL (L' := [4, 31]) (L := [10, 4, 31, 32, 14, 16, 17]) (by decide) h) (fun U_20 t H locs ht hvm hwr_19 hB hz hk hS => ?_)
        have hT : TX E G U_20 R H := by rw [ht] at hB; exact hB
        have hWr_19 : TW G U_20 R := hwr_19.1
        have hW := hWr_19
        have hFr_19 : Fr G [4, 31] U_15 U_20 := hwr_19.2.1
        have hCr_19 : C_X8_acknowledge G U_15 R h0 (B p0 2) U_20 := hwr_19.2.2
        refine lv_iconst (v := 0) hx hb dX8_takeReach_107 (by decide) ?_
        exact W.iret (v := 0) hx hb hr (fun t ht hW9 => ⟨⟨0, U_20, rfl, ⟨hW, (Fr.c (Fr.c (Fr.c Fr.rf hFr_11 (by decide)) hFr_14 (by decide)) hFr_19 (by decide)), (Or.inl ⟨r_4, hCr_4, c_5, c_7, c_8, U_12, hFr_11, hCr_11, U_15, hFr_14, hCr_14, U_20, hFr_19, hCr_19, rfl, rfl⟩)⟩, (by show TX E G U_20 R t.heap; rw [ht]; exact hT)⟩, hS.F ht⟩) hS.2.2 dX8_takeReach_108
      · simp only [lt_I, le_I, eq_I, i_0, i_1, i_2, i_3, i_4, i_5, i_6, i_7, i_8, i_10, i_12, i_16, i_20, i_23, i_24, i_31, i_32, i_63, i_64, i_m1] at c_8
        refine lv_aload_n hx hb dX8_takeReach_57 rfl (lv_at hl 0 rfl) ?_
        refine lv_aload_n hx hb dX8_takeReach_58 rfl (lv_at hl 1 rfl) ?_
        refine va_get (D := DG E) (ci := 2) (v := .int (B p0 2)) (C := RX2) (T := TX2) (N := 8) hx hb hts iw_X2 hown hK.1 (va_one ha_6) 0 rfl rfl 2 (by decide) (hts _ fl_X8_59) (fun _ h9 => h9) rfl dX8_takeReach_59 ?_
        refine lv_aload_n hx hb dX8_takeReach_62 rfl (lv_at hl 0 rfl) ?_
        refine lv_aload_n hx hb dX8_takeReach_63 rfl (lv_at hl 1 rfl) ?_
        have ha_21 := tx_10 hT hG
        refine va_calli (rnV (fun H => TX E G B R H) (As := [.ref p0]) (rest := [.int (B p0 2), .ref h0]) ⟨hx, hb, hml, hown, hts⟩ (x_X8_growCell l E z0 G hGz B R hW h0 p0 hG hG0) (cwV 1 hts (gdV ml_X8_148 im_X8_growCell se_X8_X8_growCell in_X8 co_X8_growCell rfl) rfl rfl rfl (by decide +kernel) ⟨Nat.le_of_ble_eq_true rfl, Nat.le_of_ble_eq_true rfl⟩) hT (fun U hU hW => hK.go hW hS hAz hU) (va_recv hK.1 (va_one ha_21) (ci := 8) (q0 := 0) rfl rfl) rfl rfl hl.1 rfl (lv_room (Nat.le_of_ble_eq_true rfl)) dX8_takeReach_64 ⟨Nat.le_of_ble_eq_true rfl, Nat.le_of_ble_eq_true rfl⟩) hS (fun q _ h => mL (L' := [14, 16, 17]) (L := [10, 4, 31, 32, 14, 16, 17]) (by decide) h) (fun q h => mL (L' := [14, 16, 17]) (L := [10, 4, 31, 32, 14, 16, 17]) (by decide) h) (fun r_22 U_23 t H locs ht hvm hwr_22 hB hz hk hS => ?_)
        have hT : TX E G U_23 R H := by rw [ht] at hB; exact hB
        have hWr_22 : TW G U_23 R := hwr_22.1
        have hW := hWr_22
        have hFr_22 : Fr G [14, 16, 17] B U_23 := hwr_22.2.1
        have hCr_22 : C_X8_growCell G B R h0 p0 U_23 r_22 := hwr_22.2.2
        have ha_24 := tx_10 hT hG
        refine va_callv (rnV (fun H => TX E G U_23 R H) (As := [.int (B p0 2), .int r_22]) (rest := []) ⟨hx, hb, hml, hown, hts⟩ (x_X8_replyOne l E z0 G hGz U_23 R hW h0 (B p0 2) r_22 hG) (cwV 2 hts (gdV ml_X8_99 im_X8_replyOne se_X8_X8_replyOne in_X8 co_X8_replyOne rfl) rfl rfl rfl (by decide +kernel) ⟨Nat.le_of_ble_eq_true rfl, Nat.le_of_ble_eq_true rfl⟩) hT (fun U hU hW => hK.go hW hS hAz hU) (va_recv hK.1 (va_one ha_24) (ci := 8) (q0 := 0) rfl rfl) rfl rfl hl.1 rfl (lv_room (Nat.le_of_ble_eq_true rfl)) dX8_takeReach_67 ⟨Nat.le_of_ble_eq_true rfl, Nat.le_of_ble_eq_true rfl⟩) hS (fun q _ h => mL (L' := [4, 31, 32]) (L := [10, 4, 31, 32, 14, 16, 17]) (by decide) h) (fun q h => mL (L' := [4, 31, 32]) (L := [10, 4, 31, 32, 14, 16, 17]) (by decide) h) (fun U_26 t H locs ht hvm hwr_25 hB hz hk hS => ?_)
        have hT : TX E G U_26 R H := by rw [ht] at hB; exact hB
        have hWr_25 : TW G U_26 R := hwr_25.1
        have hW := hWr_25
        have hFr_25 : Fr G [4, 31, 32] U_23 U_26 := hwr_25.2.1
        have hCr_25 : C_X8_replyOne G U_23 R h0 (B p0 2) r_22 U_26 := hwr_25.2.2
        refine lv_aload_n hx hb dX8_takeReach_70 rfl (lv_at hl 0 rfl) ?_
        refine lv_iconst (v := 1) hx hb dX8_takeReach_71 (by decide) ?_
        have ha_27 := tx_10 hT hG
        refine va_callv (rnV (fun H => TX E G U_26 R H) (As := [.int 1]) (rest := []) ⟨hx, hb, hml, hown, hts⟩ (x_X8_advance l E z0 G hGz U_26 R hW h0 (1 : Int32) hG) (cwV 1 hts (gdV ml_X8_142 im_X8_advance se_X8_X8_advance in_X8 co_X8_advance rfl) rfl rfl rfl (by decide +kernel) ⟨Nat.le_of_ble_eq_true rfl, Nat.le_of_ble_eq_true rfl⟩) hT (fun U hU hW => hK.go hW hS hAz hU) (va_recv hK.1 (va_one ha_27) (ci := 8) (q0 := 0) rfl rfl) rfl rfl hl.1 rfl (lv_room (Nat.le_of_ble_eq_true rfl)) dX8_takeReach_72 ⟨Nat.le_of_ble_eq_true rfl, Nat.le_of_ble_eq_true rfl⟩) hS (fun q _ h => mL (L' := [10]) (L := [10, 4, 31, 32, 14, 16, 17]) (by decide) h) (fun q h => mL (L' := [10]) (L := [10, 4, 31, 32, 14, 16, 17]) (by decide) h) (fun U_29 t H locs ht hvm hwr_28 hB hz hk hS => ?_)
        have hT : TX E G U_29 R H := by rw [ht] at hB; exact hB
        have hWr_28 : TW G U_29 R := hwr_28.1
        have hW := hWr_28
        have hFr_28 : Fr G [10] U_26 U_29 := hwr_28.2.1
        have hCr_28 : C_X8_advance G U_26 R h0 (1 : Int32) U_29 := hwr_28.2.2
        refine lv_goto (tgt := 107) hx hb dX8_takeReach_75 (by decide) ?_
        refine lv_iconst (v := 0) hx hb dX8_takeReach_107 (by decide) ?_
        exact W.iret (v := 0) hx hb hr (fun t ht hW9 => ⟨⟨0, U_29, rfl, ⟨hW, (Fr.c (Fr.c (Fr.c Fr.rf hFr_22 (by decide)) hFr_25 (by decide)) hFr_28 (by decide)), (Or.inr (Or.inl ⟨r_4, hCr_4, c_5, c_7, c_8, r_22, U_23, hFr_22, hCr_22, U_26, hFr_25, hCr_25, U_29, hFr_28, hCr_28, rfl, rfl⟩))⟩, (by show TX E G U_29 R t.heap; rw [ht]; exact hT)⟩, hS.F ht⟩) hS.2.2 dX8_takeReach_108
    · simp only [lt_I, le_I, eq_I, i_0, i_1, i_2, i_3, i_4, i_5, i_6, i_7, i_8, i_10, i_12, i_16, i_20, i_23, i_24, i_31, i_32, i_63, i_64, i_m1] at c_7
      refine lv_aload_n hx hb dX8_takeReach_30 rfl (lv_at hl 0 rfl) ?_
      refine lv_aload_n hx hb dX8_takeReach_31 rfl (lv_at hl 1 rfl) ?_
      have ha_30 := tx_10 hT hG
      refine va_callv (rnV (fun H => TX E G B R H) (As := [.ref p0]) (rest := []) ⟨hx, hb, hml, hown, hts⟩ (x_X8_replyCells l E z0 G hGz B R hW h0 p0 hG hG0) (cwV 1 hts (gdV ml_X8_93 im_X8_replyCells se_X8_X8_replyCells in_X8 co_X8_replyCells rfl) rfl rfl rfl (by decide +kernel) ⟨Nat.le_of_ble_eq_true rfl, Nat.le_of_ble_eq_true rfl⟩) hT (fun U hU hW => hK.go hW hS hAz hU) (va_recv hK.1 (va_one ha_30) (ci := 8) (q0 := 0) rfl rfl) rfl rfl hl.1 rfl (lv_room (Nat.le_of_ble_eq_true rfl)) dX8_takeReach_32 ⟨Nat.le_of_ble_eq_true rfl, Nat.le_of_ble_eq_true rfl⟩) hS (fun q _ h => mL (L' := [4, 31, 32]) (L := [10, 4, 31, 32, 14, 16, 17]) (by decide) h) (fun q h => mL (L' := [4, 31, 32]) (L := [10, 4, 31, 32, 14, 16, 17]) (by decide) h) (fun U_32 t H locs ht hvm hwr_31 hB hz hk hS => ?_)
      have hT : TX E G U_32 R H := by rw [ht] at hB; exact hB
      have hWr_31 : TW G U_32 R := hwr_31.1
      have hW := hWr_31
      have hFr_31 : Fr G [4, 31, 32] B U_32 := hwr_31.2.1
      have hCr_31 : C_X8_replyCells G B R h0 p0 U_32 := hwr_31.2.2
      refine lv_aload_n hx hb dX8_takeReach_35 rfl (lv_at hl 0 rfl) ?_
      refine lv_aload_n hx hb dX8_takeReach_36 rfl (lv_at hl 1 rfl) ?_
      have ha_33 := tx_31 hT hG0
      have hb_34 := (tw_31 hWr_31 hG0).2.1
      refine va_get (D := DG E) (ci := 2) (v := .int (U_32 p0 3)) (C := RX2) (T := TX2) (N := 8) hx hb hts iw_X2 hown hK.1 (va_one ha_33) 0 rfl rfl 3 (by decide) (hts _ fl_X8_128) (fun _ h9 => h9) rfl dX8_takeReach_37 ?_
      refine rnSN (As := [.int (U_32 p0 3)]) (rest := [.ref h0]) ⟨hx, hb, hml, hown, hts⟩ (c_X9_numbersFor l ((U_32 p0 3))) ⟨va_cnB (host := RX9) 1 hts (gd1 co_X9_numbersFor rfl) rfl rfl rfl (hK.2.1 _ mn_X8_145 #[]) (hts _ in_X9) (by decide +kernel) ⟨Nat.le_of_ble_eq_true rfl, Nat.le_of_ble_eq_true rfl⟩, hts _ st_X9_numbersFor, trivial⟩ rfl rfl hl.1 rfl (lv_room (Nat.le_of_ble_eq_true rfl)) dX8_takeReach_40 ⟨Nat.le_of_ble_eq_true rfl, Nat.le_of_ble_eq_true rfl⟩ ?_
      refine W.eq (g2 := F0 m 43 ls [.int ((((U_32 p0 3) + 4) - 1) / 4), .ref h0]) (by rfl) ?_
      refine lv_topi (fun x_35 ex_35 => ?_)
      have ha_36 := tx_10 hT hG
      refine va_callv (rnV (fun H => TX E G U_32 R H) (As := [.int x_35]) (rest := []) ⟨hx, hb, hml, hown, hts⟩ (x_X8_advance l E z0 G hGz U_32 R hW h0 x_35 hG) (cwV 1 hts (gdV ml_X8_142 im_X8_advance se_X8_X8_advance in_X8 co_X8_advance rfl) rfl rfl rfl (by decide +kernel) ⟨Nat.le_of_ble_eq_true rfl, Nat.le_of_ble_eq_true rfl⟩) hT (fun U hU hW => hK.go hW hS hAz hU) (va_recv hK.1 (va_one ha_36) (ci := 8) (q0 := 0) rfl rfl) rfl rfl hl.1 rfl (lv_room (Nat.le_of_ble_eq_true rfl)) dX8_takeReach_43 ⟨Nat.le_of_ble_eq_true rfl, Nat.le_of_ble_eq_true rfl⟩) hS (fun q _ h => mL (L' := [10]) (L := [10, 4, 31, 32, 14, 16, 17]) (by decide) h) (fun q h => mL (L' := [10]) (L := [10, 4, 31, 32, 14, 16, 17]) (by decide) h) (fun U_38 t H locs ht hvm hwr_37 hB hz hk hS => ?_)
      have hT : TX E G U_38 R H := by rw [ht] at hB; exact hB
      have hWr_37 : TW G U_38 R := hwr_37.1
      have hW := hWr_37
      have hFr_37 : Fr G [10] U_32 U_38 := hwr_37.2.1
      have hCr_37 : C_X8_advance G U_32 R h0 x_35 U_38 := hwr_37.2.2
      refine lv_goto (tgt := 107) hx hb dX8_takeReach_46 (by decide) ?_
      refine lv_iconst (v := 0) hx hb dX8_takeReach_107 (by decide) ?_
      exact W.iret (v := 0) hx hb hr (fun t ht hW9 => ⟨⟨0, U_38, rfl, ⟨hW, (Fr.c (Fr.c Fr.rf hFr_31 (by decide)) hFr_37 (by decide)), (Or.inr (Or.inr (Or.inl ⟨r_4, hCr_4, c_5, c_7, U_32, hFr_31, hCr_31, x_35, ex_35, U_38, hFr_37, hCr_37, rfl, rfl⟩)))⟩, (by show TX E G U_38 R t.heap; rw [ht]; exact hT)⟩, hS.F ht⟩) hS.2.2 dX8_takeReach_108
  · simp only [lt_I, le_I, eq_I, i_0, i_1, i_2, i_3, i_4, i_5, i_6, i_7, i_8, i_10, i_12, i_16, i_20, i_23, i_24, i_31, i_32, i_63, i_64, i_m1] at c_5
    refine lv_aload_n hx hb dX8_takeReach_11 rfl (lv_at hl 0 rfl) ?_
    refine lv_aload_n hx hb dX8_takeReach_12 rfl (lv_at hl 1 rfl) ?_
    have ha_39 := tx_31 hT hG0
    refine va_get (D := DG E) (ci := 2) (v := .int (B p0 2)) (C := RX2) (T := TX2) (N := 8) hx hb hts iw_X2 hown hK.1 (va_one ha_39) 0 rfl rfl 2 (by decide) (hts _ fl_X8_59) (fun _ h9 => h9) rfl dX8_takeReach_13 ?_
    refine lv_iconst (v := 3) hx hb dX8_takeReach_16 (by decide) ?_
    have ha_40 := tx_10 hT hG
    refine va_callv (rnV (fun H => TX E G B R H) (As := [.int (B p0 2), .int 3]) (rest := []) ⟨hx, hb, hml, hown, hts⟩ (x_X8_refuse l E z0 G hGz B R hW h0 (B p0 2) (3 : Int32) hG) (cwV 2 hts (gdV ml_X8_85 im_X8_refuse se_X8_X8_refuse in_X8 co_X8_refuse rfl) rfl rfl rfl (by decide +kernel) ⟨Nat.le_of_ble_eq_true rfl, Nat.le_of_ble_eq_true rfl⟩) hT (fun U hU hW => hK.go hW hS hAz hU) (va_recv hK.1 (va_one ha_40) (ci := 8) (q0 := 0) rfl rfl) rfl rfl hl.1 rfl (lv_room (Nat.le_of_ble_eq_true rfl)) dX8_takeReach_17 ⟨Nat.le_of_ble_eq_true rfl, Nat.le_of_ble_eq_true rfl⟩) hS (fun q _ h => mL (L' := [4, 31]) (L := [10, 4, 31, 32, 14, 16, 17]) (by decide) h) (fun q h => mL (L' := [4, 31]) (L := [10, 4, 31, 32, 14, 16, 17]) (by decide) h) (fun U_42 t H locs ht hvm hwr_41 hB hz hk hS => ?_)
    have hT : TX E G U_42 R H := by rw [ht] at hB; exact hB
    have hWr_41 : TW G U_42 R := hwr_41.1
    have hW := hWr_41
    have hFr_41 : Fr G [4, 31] B U_42 := hwr_41.2.1
    have hCr_41 : C_X8_refuse G B R h0 (B p0 2) (3 : Int32) U_42 := hwr_41.2.2
    refine lv_iconst (v := 5) hx hb dX8_takeReach_20 (by decide) ?_
    exact W.iret (v := 5) hx hb hr (fun t ht hW9 => ⟨⟨5, U_42, rfl, ⟨hW, (Fr.c Fr.rf hFr_41 (by decide)), (Or.inr (Or.inr (Or.inr ⟨r_4, hCr_4, c_5, U_42, hFr_41, hCr_41, rfl, rfl⟩)))⟩, (by show TX E G U_42 R t.heap; rw [ht]; exact hT)⟩, hS.F ht⟩) hS.2.2 dX8_takeReach_21
theorem dX8_takeIn_0 : decode cX8_takeIn 0 = .ok (.aload_n 0, 1) := by decide +kernel
theorem dX8_takeIn_1 : decode cX8_takeIn 1 = .ok (.getfield 49, 3) := by decide +kernel
theorem dX8_takeIn_4 : decode cX8_takeIn 4 = .ok (.aload_n 1, 1) := by decide +kernel
theorem dX8_takeIn_5 : decode cX8_takeIn 5 = .ok (.getfield 59, 3) := by decide +kernel
theorem dX8_takeIn_8 : decode cX8_takeIn 8 = .ok (.invokestatic 64, 3) := by decide +kernel
theorem dX8_takeIn_11 : decode cX8_takeIn 11 = .ok (.istore_n 2, 1) := by decide +kernel
theorem dX8_takeIn_12 : decode cX8_takeIn 12 = .ok (.iload_n 2, 1) := by decide +kernel
theorem dX8_takeIn_13 : decode cX8_takeIn 13 = .ok (.bipush 32, 2) := by decide +kernel
theorem dX8_takeIn_15 : decode cX8_takeIn 15 = .ok (.if_icmp .lt 10, 3) := by decide +kernel
theorem dX8_takeIn_18 : decode cX8_takeIn 18 = .ok (.aload_n 0, 1) := by decide +kernel
theorem dX8_takeIn_19 : decode cX8_takeIn 19 = .ok (.aload_n 1, 1) := by decide +kernel
theorem dX8_takeIn_20 : decode cX8_takeIn 20 = .ok (.invokevirtual 68, 3) := by decide +kernel
theorem dX8_takeIn_23 : decode cX8_takeIn 23 = .ok (.iconst 0, 1) := by decide +kernel
theorem dX8_takeIn_24 : decode cX8_takeIn 24 = .ok (.ireturn, 1) := by decide +kernel
theorem dX8_takeIn_25 : decode cX8_takeIn 25 = .ok (.iload_n 2, 1) := by decide +kernel
theorem dX8_takeIn_26 : decode cX8_takeIn 26 = .ok (.ifCond .le 9, 3) := by decide +kernel
theorem dX8_takeIn_29 : decode cX8_takeIn 29 = .ok (.aload_n 0, 1) := by decide +kernel
theorem dX8_takeIn_30 : decode cX8_takeIn 30 = .ok (.invokevirtual 72, 3) := by decide +kernel
theorem dX8_takeIn_33 : decode cX8_takeIn 33 = .ok (.iconst 0, 1) := by decide +kernel
theorem dX8_takeIn_34 : decode cX8_takeIn 34 = .ok (.ireturn, 1) := by decide +kernel
theorem dX8_takeIn_35 : decode cX8_takeIn 35 = .ok (.aload_n 1, 1) := by decide +kernel
theorem dX8_takeIn_36 : decode cX8_takeIn 36 = .ok (.getfield 75, 3) := by decide +kernel
theorem dX8_takeIn_39 : decode cX8_takeIn 39 = .ok (.ifCond .ne 11, 3) := by decide +kernel
theorem dX8_takeIn_42 : decode cX8_takeIn 42 = .ok (.aload_n 0, 1) := by decide +kernel
theorem dX8_takeIn_43 : decode cX8_takeIn 43 = .ok (.aload_n 1, 1) := by decide +kernel
theorem dX8_takeIn_44 : decode cX8_takeIn 44 = .ok (.invokevirtual 78, 3) := by decide +kernel
theorem dX8_takeIn_47 : decode cX8_takeIn 47 = .ok (.goto 8, 3) := by decide +kernel
theorem dX8_takeIn_50 : decode cX8_takeIn 50 = .ok (.aload_n 0, 1) := by decide +kernel
theorem dX8_takeIn_51 : decode cX8_takeIn 51 = .ok (.aload_n 1, 1) := by decide +kernel
theorem dX8_takeIn_52 : decode cX8_takeIn 52 = .ok (.invokevirtual 82, 3) := by decide +kernel
theorem dX8_takeIn_55 : decode cX8_takeIn 55 = .ok (.ireturn, 1) := by decide +kernel
set_option maxHeartbeats 8000000 in
set_option maxRecDepth 100000 in
theorem x_X8_takeIn (l : Launch) (E : EE) (z0 : Nat) (G : Nat → Nat) (hGz : ∀ q, G q ≠ 0 → z0 ≤ q) (B : AA) (R : RR) (hW : TW G B R) (h0 : Nat) (p0 : Nat) (hG : G h0 = 10) (hG0 : G p0 = 31) : Met l yX8_takeIn [Cond.code yX8_takeIn cX8_takeIn 3 (some .int)] ({ frames := 5, cells := 0, slots := 0, locals := 110 } : Room) (va_Pc [.ref h0, .ref p0] (fun U => TX E G B R U.heap ∧ KS E z0 U)) (va_Qi (fun (r : Int32) (u : AA) => (TW G u R) ∧ (Fr G ([10, 4, 31, 32, 14, 13, 5, 15, 11, 16, 17] : List Nat) B u) ∧ (C_X8_takeIn G B R h0 p0 u r)) (fun u t => TX E G u R t.heap) (fun q : Nat => G q ∈ ([10, 4, 31, 32, 14, 13, 5, 15, 11, 16, 17] : List Nat))) 0 0 (fun q : Nat => G q ∈ ([10, 4, 31, 32, 14, 13, 5, 15, 11, 16, 17] : List Nat)) := by
  refine Met.ofW (cc := cX8_takeIn) (maxL := 3) (ret := (some .int)) (by decide) rfl ?_
  intro p e s m args below meth c s₁ B9 hml hv
  obtain ⟨rfl, hT, hK⟩ := hv
  have hx := B9.exec
  have hb := B9.bytes
  have hr := B9.returns
  have hts : ∀ w ∈ TS, w.before ([.ref h0, .ref p0] : List Value).toArray s = true := fun w hw => hK.2.1 w hw _
  have hown : s.vm.findClass RX8 = some m.cls := findClass_of_methodNamed B9.named
  have hlocks := B9.notSynchronized
  have hS : va_S (fun q : Nat => G q ∈ ([10, 4, 31, 32, 14, 13, 5, 15, 11, 16, 17] : List Nat)) s.heap s.heap [] := va_S.rf
  have hAz : ∀ q, (fun q : Nat => G q ∈ ([10, 4, 31, 32, 14, 13, 5, 15, 11, 16, 17] : List Nat)) q → z0 ≤ q := zL hGz (by decide)
  have hW_0 := hW
  have hl := lv_entry ([.ref h0, .ref p0]) (n := 3) (Nat.le_of_ble_eq_true rfl)
  rw [lg_entry_eq]
  generalize (lg_sl ([.ref h0, .ref p0]) ++ List.replicate (3 - (lg_sl ([.ref h0, .ref p0])).length) Slot.unset).toArray = ls at hl ⊢
  have hl : lv_has ls 3 [(0, .ref h0), (1, .ref p0)] := hl
  refine lv_aload_n hx hb dX8_takeIn_0 rfl (lv_at hl 0 rfl) ?_
  have ha_1 := tx_10 hT hG
  refine va_get (D := DG E) (ci := 8) (v := .int (B h0 4)) (C := RX8) (T := TX8) (N := 9) hx hb hts iw_X8 hown hK.1 (va_one ha_1) 0 rfl rfl 4 (by decide) (hts _ fl_X8_49) (fun _ h9 => h9) rfl dX8_takeIn_1 ?_
  refine lv_aload_n hx hb dX8_takeIn_4 rfl (lv_at hl 1 rfl) ?_
  have ha_2 := tx_31 hT hG0
  refine va_get (D := DG E) (ci := 2) (v := .int (B p0 2)) (C := RX2) (T := TX2) (N := 8) hx hb hts iw_X2 hown hK.1 (va_one ha_2) 0 rfl rfl 2 (by decide) (hts _ fl_X8_59) (fun _ h9 => h9) rfl dX8_takeIn_5 ?_
  refine rnSN (As := [.int (B h0 4), .int (B p0 2)]) (rest := []) ⟨hx, hb, hml, hown, hts⟩ (c_X9_distance l ((B h0 4)) ((B p0 2))) ⟨va_cnB (host := RX9) 2 hts (gd1 co_X9_distance rfl) rfl rfl rfl (hK.2.1 _ mn_X8_64 #[]) (hts _ in_X9) (by decide +kernel) ⟨Nat.le_of_ble_eq_true rfl, Nat.le_of_ble_eq_true rfl⟩, hts _ st_X9_distance, trivial⟩ rfl rfl hl.1 rfl (lv_room (Nat.le_of_ble_eq_true rfl)) dX8_takeIn_8 ⟨Nat.le_of_ble_eq_true rfl, Nat.le_of_ble_eq_true rfl⟩ ?_
  refine W.eq (g2 := F0 m 11 ls [.int (((B p0 2) - (B h0 4)) &&& 63)]) (by rfl) ?_
  refine lv_topi (fun x_3 ex_3 => ?_)
  have fx_3 := s_and63 ((B p0 2) - (B h0 4)); rw [← ex_3] at fx_3
  refine lv_istore_n (lv' := [(2, .int x_3), (0, .ref h0), (1, .ref p0)]) hx hb dX8_takeIn_11 rfl hl (by decide) rfl (fun ls hl => ?_)
  refine lv_iload_n hx hb dX8_takeIn_12 rfl (lv_at hl 0 rfl) ?_
  refine lv_bipush (v := 32) hx hb dX8_takeIn_13 (by decide) ?_
  refine lv_icmp_lt (tgt := 25) hx hb dX8_takeIn_15 (by decide) (fun c_4 => ?_) (fun c_4 => ?_)
  · simp only [lt_I, le_I, eq_I, i_0, i_1, i_2, i_3, i_4, i_5, i_6, i_7, i_8, i_10, i_12, i_16, i_20, i_23, i_24, i_31, i_32, i_63, i_64, i_m1] at c_4
    refine lv_iload_n hx hb dX8_takeIn_25 rfl (lv_at hl 0 rfl) ?_
    refine lv_if_le (tgt := 35) hx hb dX8_takeIn_26 (by decide) (fun c_5 => ?_) (fun c_5 => ?_)
    · simp only [lt_I, le_I, eq_I, i_0, i_1, i_2, i_3, i_4, i_5, i_6, i_7, i_8, i_10, i_12, i_16, i_20, i_23, i_24, i_31, i_32, i_63, i_64, i_m1] at c_5
      refine lv_aload_n hx hb dX8_takeIn_35 rfl (lv_at hl 2 rfl) ?_
      refine va_get (D := DG E) (ci := 2) (v := .int (B p0 1)) (C := RX2) (T := TX2) (N := 8) hx hb hts iw_X2 hown hK.1 (va_one ha_2) 0 rfl rfl 1 (by decide) (hts _ fl_X8_75) (fun _ h9 => h9) rfl dX8_takeIn_36 ?_
      refine lv_if_ne (tgt := 50) hx hb dX8_takeIn_39 (by decide) (fun c_6 => ?_) (fun c_6 => ?_)
      · simp only [lt_I, le_I, eq_I, i_0, i_1, i_2, i_3, i_4, i_5, i_6, i_7, i_8, i_10, i_12, i_16, i_20, i_23, i_24, i_31, i_32, i_63, i_64, i_m1] at c_6
        refine lv_aload_n hx hb dX8_takeIn_50 rfl (lv_at hl 1 rfl) ?_
        refine lv_aload_n hx hb dX8_takeIn_51 rfl (lv_at hl 2 rfl) ?_
        refine va_calli (rnV (fun H => TX E G B R H) (As := [.ref p0]) (rest := []) ⟨hx, hb, hml, hown, hts⟩ (x_X8_takeReach l E z0 G hGz B R hW h0 p0 hG hG0) (cwV 1 hts (gdV ml_X8_82 im_X8_takeReach se_X8_X8_takeReach in_X8 co_X8_takeReach rfl) rfl rfl rfl (by decide +kernel) ⟨Nat.le_of_ble_eq_true rfl, Nat.le_of_ble_eq_true rfl⟩) hT (fun U hU hW => hK.go hW hS hAz hU) (va_recv hK.1 (va_one ha_1) (ci := 8) (q0 := 0) rfl rfl) rfl rfl hl.1 rfl (lv_room (Nat.le_of_ble_eq_true rfl)) dX8_takeIn_52 ⟨Nat.le_of_ble_eq_true rfl, Nat.le_of_ble_eq_true rfl⟩) hS (fun q _ h => mL (L' := [10, 4, 31, 32, 14, 16, 17]) (L := [10, 4, 31, 32, 14, 13, 5, 15, 11, 16, 17]) (by decide) h) (fun q h => mL (L' := [10, 4, 31, 32, 14, 16, 17]) (L := [10, 4, 31, 32, 14, 13, 5, 15, 11, 16, 17]) (by decide) h) (fun r_7 U_8 t H locs ht hvm hwr_7 hB hz hk hS => ?_)
        have hT : TX E G U_8 R H := by rw [ht] at hB; exact hB
        have hWr_7 : TW G U_8 R := hwr_7.1
        have hW := hWr_7
        have hFr_7 : Fr G [10, 4, 31, 32, 14, 16, 17] B U_8 := hwr_7.2.1
        have hCr_7 : C_X8_takeReach G B R h0 p0 U_8 r_7 := hwr_7.2.2
        exact W.iret (v := r_7) hx hb hr (fun t ht hW9 => ⟨⟨r_7, U_8, rfl, ⟨hW, (Fr.c Fr.rf hFr_7 (by decide)), (Or.inl ⟨x_3, ex_3, c_4, c_5, c_6, r_7, U_8, hFr_7, hCr_7, rfl, rfl⟩)⟩, (by show TX E G U_8 R t.heap; rw [ht]; exact hT)⟩, hS.F ht⟩) hS.2.2 dX8_takeIn_55
      · simp only [lt_I, le_I, eq_I, i_0, i_1, i_2, i_3, i_4, i_5, i_6, i_7, i_8, i_10, i_12, i_16, i_20, i_23, i_24, i_31, i_32, i_63, i_64, i_m1] at c_6
        refine lv_aload_n hx hb dX8_takeIn_42 rfl (lv_at hl 1 rfl) ?_
        refine lv_aload_n hx hb dX8_takeIn_43 rfl (lv_at hl 2 rfl) ?_
        refine va_calli (rnV (fun H => TX E G B R H) (As := [.ref p0]) (rest := []) ⟨hx, hb, hml, hown, hts⟩ (x_X8_takeSend l E z0 G hGz B R hW h0 p0 hG hG0) (cwV 1 hts (gdV ml_X8_78 im_X8_takeSend se_X8_X8_takeSend in_X8 co_X8_takeSend rfl) rfl rfl rfl (by decide +kernel) ⟨Nat.le_of_ble_eq_true rfl, Nat.le_of_ble_eq_true rfl⟩) hT (fun U hU hW => hK.go hW hS hAz hU) (va_recv hK.1 (va_one ha_1) (ci := 8) (q0 := 0) rfl rfl) rfl rfl hl.1 rfl (lv_room (Nat.le_of_ble_eq_true rfl)) dX8_takeIn_44 ⟨Nat.le_of_ble_eq_true rfl, Nat.le_of_ble_eq_true rfl⟩) hS (fun q _ h => mL (L' := [10, 4, 31, 14, 13, 5, 15, 11]) (L := [10, 4, 31, 32, 14, 13, 5, 15, 11, 16, 17]) (by decide) h) (fun q h => mL (L' := [10, 4, 31, 14, 13, 5, 15, 11]) (L := [10, 4, 31, 32, 14, 13, 5, 15, 11, 16, 17]) (by decide) h) (fun r_9 U_10 t H locs ht hvm hwr_9 hB hz hk hS => ?_)
        have hT : TX E G U_10 R H := by rw [ht] at hB; exact hB
        have hWr_9 : TW G U_10 R := hwr_9.1
        have hW := hWr_9
        have hFr_9 : Fr G [10, 4, 31, 14, 13, 5, 15, 11] B U_10 := hwr_9.2.1
        have hCr_9 : C_X8_takeSend G B R h0 p0 U_10 r_9 := hwr_9.2.2
        refine lv_goto (tgt := 55) hx hb dX8_takeIn_47 (by decide) ?_
        exact W.iret (v := r_9) hx hb hr (fun t ht hW9 => ⟨⟨r_9, U_10, rfl, ⟨hW, (Fr.c Fr.rf hFr_9 (by decide)), (Or.inr (Or.inl ⟨x_3, ex_3, c_4, c_5, c_6, r_9, U_10, hFr_9, hCr_9, rfl, rfl⟩))⟩, (by show TX E G U_10 R t.heap; rw [ht]; exact hT)⟩, hS.F ht⟩) hS.2.2 dX8_takeIn_55
    · simp only [lt_I, le_I, eq_I, i_0, i_1, i_2, i_3, i_4, i_5, i_6, i_7, i_8, i_10, i_12, i_16, i_20, i_23, i_24, i_31, i_32, i_63, i_64, i_m1] at c_5
      refine lv_aload_n hx hb dX8_takeIn_29 rfl (lv_at hl 1 rfl) ?_
      refine va_callv (rnV (fun H => TX E G B R H) (As := []) (rest := []) ⟨hx, hb, hml, hown, hts⟩ (x_X8_tellSequence l E z0 G hGz B R hW h0 hG) (cwV 0 hts (gdV ml_X8_72 im_X8_tellSequence se_X8_X8_tellSequence in_X8 co_X8_tellSequence rfl) rfl rfl rfl (by decide +kernel) ⟨Nat.le_of_ble_eq_true rfl, Nat.le_of_ble_eq_true rfl⟩) hT (fun U hU hW => hK.go hW hS hAz hU) (va_recv hK.1 (va_one ha_1) (ci := 8) (q0 := 0) rfl rfl) rfl rfl hl.1 rfl (lv_room (Nat.le_of_ble_eq_true rfl)) dX8_takeIn_30 ⟨Nat.le_of_ble_eq_true rfl, Nat.le_of_ble_eq_true rfl⟩) hS (fun q _ h => mL (L' := [10, 4, 31]) (L := [10, 4, 31, 32, 14, 13, 5, 15, 11, 16, 17]) (by decide) h) (fun q h => mL (L' := [10, 4, 31]) (L := [10, 4, 31, 32, 14, 13, 5, 15, 11, 16, 17]) (by decide) h) (fun U_12 t H locs ht hvm hwr_11 hB hz hk hS => ?_)
      have hT : TX E G U_12 R H := by rw [ht] at hB; exact hB
      have hWr_11 : TW G U_12 R := hwr_11.1
      have hW := hWr_11
      have hFr_11 : Fr G [10, 4, 31] B U_12 := hwr_11.2.1
      have hCr_11 : C_X8_tellSequence G B R h0 U_12 := hwr_11.2.2
      refine lv_iconst (v := 0) hx hb dX8_takeIn_33 (by decide) ?_
      exact W.iret (v := 0) hx hb hr (fun t ht hW9 => ⟨⟨0, U_12, rfl, ⟨hW, (Fr.c Fr.rf hFr_11 (by decide)), (Or.inr (Or.inr (Or.inl ⟨x_3, ex_3, c_4, c_5, U_12, hFr_11, hCr_11, rfl, rfl⟩)))⟩, (by show TX E G U_12 R t.heap; rw [ht]; exact hT)⟩, hS.F ht⟩) hS.2.2 dX8_takeIn_34
  · simp only [lt_I, le_I, eq_I, i_0, i_1, i_2, i_3, i_4, i_5, i_6, i_7, i_8, i_10, i_12, i_16, i_20, i_23, i_24, i_31, i_32, i_63, i_64, i_m1] at c_4
    refine lv_aload_n hx hb dX8_takeIn_18 rfl (lv_at hl 1 rfl) ?_
    refine lv_aload_n hx hb dX8_takeIn_19 rfl (lv_at hl 2 rfl) ?_
    refine va_callv (rnV (fun H => TX E G B R H) (As := [.ref p0]) (rest := []) ⟨hx, hb, hml, hown, hts⟩ (x_X8_answerAgain l E z0 G hGz B R hW h0 p0 hG hG0) (cwV 1 hts (gdV ml_X8_68 im_X8_answerAgain se_X8_X8_answerAgain in_X8 co_X8_answerAgain rfl) rfl rfl rfl (by decide +kernel) ⟨Nat.le_of_ble_eq_true rfl, Nat.le_of_ble_eq_true rfl⟩) hT (fun U hU hW => hK.go hW hS hAz hU) (va_recv hK.1 (va_one ha_1) (ci := 8) (q0 := 0) rfl rfl) rfl rfl hl.1 rfl (lv_room (Nat.le_of_ble_eq_true rfl)) dX8_takeIn_20 ⟨Nat.le_of_ble_eq_true rfl, Nat.le_of_ble_eq_true rfl⟩) hS (fun q _ h => mL (L' := [4, 31, 32]) (L := [10, 4, 31, 32, 14, 13, 5, 15, 11, 16, 17]) (by decide) h) (fun q h => mL (L' := [4, 31, 32]) (L := [10, 4, 31, 32, 14, 13, 5, 15, 11, 16, 17]) (by decide) h) (fun U_14 t H locs ht hvm hwr_13 hB hz hk hS => ?_)
    have hT : TX E G U_14 R H := by rw [ht] at hB; exact hB
    have hWr_13 : TW G U_14 R := hwr_13.1
    have hW := hWr_13
    have hFr_13 : Fr G [4, 31, 32] B U_14 := hwr_13.2.1
    have hCr_13 : C_X8_answerAgain G B R h0 p0 U_14 := hwr_13.2.2
    refine lv_iconst (v := 0) hx hb dX8_takeIn_23 (by decide) ?_
    exact W.iret (v := 0) hx hb hr (fun t ht hW9 => ⟨⟨0, U_14, rfl, ⟨hW, (Fr.c Fr.rf hFr_13 (by decide)), (Or.inr (Or.inr (Or.inr ⟨x_3, ex_3, c_4, U_14, hFr_13, hCr_13, rfl, rfl⟩)))⟩, (by show TX E G U_14 R t.heap; rw [ht]; exact hT)⟩, hS.F ht⟩) hS.2.2 dX8_takeIn_24
theorem dX8_completeAll_0 : decode cX8_completeAll 0 = .ok (.aload_n 0, 1) := by decide +kernel
theorem dX8_completeAll_1 : decode cX8_completeAll 1 = .ok (.getfield 39, 3) := by decide +kernel
theorem dX8_completeAll_4 : decode cX8_completeAll 4 = .ok (.aload_n 0, 1) := by decide +kernel
theorem dX8_completeAll_5 : decode cX8_completeAll 5 = .ok (.getfield 52, 3) := by decide +kernel
theorem dX8_completeAll_8 : decode cX8_completeAll 8 = .ok (.ifCond .eq 7, 3) := by decide +kernel
theorem dX8_completeAll_11 : decode cX8_completeAll 11 = .ok (.iload_n 1, 1) := by decide +kernel
theorem dX8_completeAll_12 : decode cX8_completeAll 12 = .ok (.goto 4, 3) := by decide +kernel
theorem dX8_completeAll_15 : decode cX8_completeAll 15 = .ok (.iconst 5, 1) := by decide +kernel
theorem dX8_completeAll_16 : decode cX8_completeAll 16 = .ok (.invokevirtual 182, 3) := by decide +kernel
theorem dX8_completeAll_19 : decode cX8_completeAll 19 = .ok (.aload_n 0, 1) := by decide +kernel
theorem dX8_completeAll_20 : decode cX8_completeAll 20 = .ok (.iconst 0, 1) := by decide +kernel
theorem dX8_completeAll_21 : decode cX8_completeAll 21 = .ok (.putfield 52, 3) := by decide +kernel
theorem dX8_completeAll_24 : decode cX8_completeAll 24 = .ok (.return_, 1) := by decide +kernel
set_option maxHeartbeats 8000000 in
set_option maxRecDepth 100000 in
theorem x_X8_completeAll (l : Launch) (E : EE) (z0 : Nat) (G : Nat → Nat) (hGz : ∀ q, G q ≠ 0 → z0 ≤ q) (B : AA) (R : RR) (hW : TW G B R) (h0 : Nat) (p0 : Int32) (hG : G h0 = 10) : Met l yX8_completeAll [Cond.code yX8_completeAll cX8_completeAll 2 none] ({ frames := 3, cells := 0, slots := 0, locals := 68 } : Room) (va_Pc [.ref h0, .int p0] (fun U => TX E G B R U.heap ∧ KS E z0 U)) (va_Qv (fun (u : AA) => (TW G u R) ∧ (Fr G ([5, 15, 11, 10] : List Nat) B u) ∧ (C_X8_completeAll G B R h0 p0 u)) (fun u t => TX E G u R t.heap) (fun q : Nat => G q ∈ ([5, 15, 11, 10] : List Nat))) 0 0 (fun q : Nat => G q ∈ ([5, 15, 11, 10] : List Nat)) := by
  refine Met.ofW (cc := cX8_completeAll) (maxL := 2) (ret := none) (by decide) rfl ?_
  intro p e s m args below meth c s₁ B9 hml hv
  obtain ⟨rfl, hT, hK⟩ := hv
  have hx := B9.exec
  have hb := B9.bytes
  have hr := B9.returns
  have hts : ∀ w ∈ TS, w.before ([.ref h0, .int p0] : List Value).toArray s = true := fun w hw => hK.2.1 w hw _
  have hown : s.vm.findClass RX8 = some m.cls := findClass_of_methodNamed B9.named
  have hlocks := B9.notSynchronized
  have hS : va_S (fun q : Nat => G q ∈ ([5, 15, 11, 10] : List Nat)) s.heap s.heap [] := va_S.rf
  have hAz : ∀ q, (fun q : Nat => G q ∈ ([5, 15, 11, 10] : List Nat)) q → z0 ≤ q := zL hGz (by decide)
  have hW_0 := hW
  have hl := lv_entry ([.ref h0, .int p0]) (n := 2) (Nat.le_of_ble_eq_true rfl)
  rw [lg_entry_eq]
  generalize (lg_sl ([.ref h0, .int p0]) ++ List.replicate (2 - (lg_sl ([.ref h0, .int p0])).length) Slot.unset).toArray = ls at hl ⊢
  have hl : lv_has ls 2 [(0, .ref h0), (1, .int p0)] := hl
  refine lv_aload_n hx hb dX8_completeAll_0 rfl (lv_at hl 0 rfl) ?_
  have ha_1 := tx_10 hT hG
  have hg_2 : G (R h0 3) = 11 := (tw_10 hW hG).2.2.2.1
  refine va_get (D := DG E) (ci := 8) (v := .ref (R h0 3)) (C := RX8) (T := TX8) (N := 9) hx hb hts iw_X8 hown hK.1 (va_one ha_1) 0 rfl rfl 3 (by decide) (hts _ fl_X8_39) (fun _ h9 => h9) rfl dX8_completeAll_1 ?_
  refine lv_aload_n hx hb dX8_completeAll_4 rfl (lv_at hl 0 rfl) ?_
  refine va_get (D := DG E) (ci := 8) (v := .int (B h0 5)) (C := RX8) (T := TX8) (N := 9) hx hb hts iw_X8 hown hK.1 (va_one ha_1) 0 rfl rfl 5 (by decide) (hts _ fl_X8_52) (fun _ h9 => h9) rfl dX8_completeAll_5 ?_
  refine lv_if_eq (tgt := 15) hx hb dX8_completeAll_8 (by decide) (fun c_3 => ?_) (fun c_3 => ?_)
  · simp only [lt_I, le_I, eq_I, i_0, i_1, i_2, i_3, i_4, i_5, i_6, i_7, i_8, i_10, i_12, i_16, i_20, i_23, i_24, i_31, i_32, i_63, i_64, i_m1] at c_3
    refine lv_iconst (v := 5) hx hb dX8_completeAll_15 (by decide) ?_
    have ha_4 := tx_11 hT hg_2
    refine va_callv (rnV (fun H => TX E G B R H) (As := [.int 5]) (rest := []) ⟨hx, hb, hml, hown, hts⟩ (x_X5_completeAll l E z0 G hGz B R hW (R h0 3) (5 : Int32) hg_2) (cwV 1 hts (gdV ml_X8_182 im_X5_completeAll se_X5_X5_completeAll in_X5 co_X5_completeAll rfl) rfl rfl rfl (by decide +kernel) ⟨Nat.le_of_ble_eq_true rfl, Nat.le_of_ble_eq_true rfl⟩) hT (fun U hU hW => hK.go hW hS hAz hU) (va_recv hK.1 (va_one ha_4) (ci := 5) (q0 := 0) rfl rfl) rfl rfl hl.1 rfl (lv_room (Nat.le_of_ble_eq_true rfl)) dX8_completeAll_16 ⟨Nat.le_of_ble_eq_true rfl, Nat.le_of_ble_eq_true rfl⟩) hS (fun q _ h => mL (L' := [5, 15, 11]) (L := [5, 15, 11, 10]) (by decide) h) (fun q h => mL (L' := [5, 15, 11]) (L := [5, 15, 11, 10]) (by decide) h) (fun U_6 t H locs ht hvm hwr_5 hB hz hk hS => ?_)
    have hT : TX E G U_6 R H := by rw [ht] at hB; exact hB
    have hWr_5 : TW G U_6 R := hwr_5.1
    have hW := hWr_5
    have hFr_5 : Fr G [5, 15, 11] B U_6 := hwr_5.2.1
    have hCr_5 : C_X5_completeAll G B R (R h0 3) (5 : Int32) U_6 := hwr_5.2.2
    refine lv_aload_n hx hb dX8_completeAll_19 rfl (lv_at hl 0 rfl) ?_
    refine lv_iconst (v := 0) hx hb dX8_completeAll_20 (by decide) ?_
    have ha_7 := tx_10 hT hG
    refine rr_put (D := DG E) (ci := 8) (v := .int 0) (ty := .boolean) (C := RX8) (T := TX8) (N := 9) hx hb hts iw_X8 tyX8 tyX8_ok nmX8 hown hK.1 ha_7 hS (by show G h0 ∈ ([5, 15, 11, 10] : List Nat); rw [hG]; decide) rfl 5 (by decide) (hts _ fl_X8_52) (fun _ h9 => h9) rfl (by decide +kernel) rfl rfl (Nat.le_of_ble_eq_true rfl) dX8_completeAll_21 (fun H locs hn ho hz hS => ?_)
    obtain ⟨B_8, eB_8⟩ : ∃ z : AA, z = uA U_6 h0 (upd (U_6 h0) 5 0) := ⟨_, rfl⟩
    have sB_8 : B_8 h0 5 = 0 := by rw [eB_8, uA_s]; exact upd_s
    have nB_8 : ∀ k, k ≠ 5 → B_8 h0 k = U_6 h0 k := fun k hk => by rw [eB_8, uA_s]; exact upd_n hk
    have fB_8 : ∀ c, G c ≠ 10 → B_8 c = U_6 c := fun c hc => by rw [eB_8]; exact uA_n (fun e => hc (by rw [e]; exact hG))
    have hT : TX E G B_8 R H := by rw [eB_8]; exact hT.w (by rw [hG]; exact hn) ho
    have hWB_8 : TW G B_8 R := by rw [eB_8]; exact hWr_5.w (by rw [hG]; exact tw_10 hWr_5 hG)
    have hW := hWB_8
    exact W.vret hx hb hr (fun t ht hW9 => ⟨⟨B_8, rfl, ⟨hW, (Fr.w (Fr.c Fr.rf hFr_5 (by decide)) hG (by decide) eB_8), (Or.inl ⟨c_3, U_6, hFr_5, hCr_5, B_8, eB_8, rfl⟩)⟩, (by show TX E G B_8 R t.heap; rw [ht]; exact hT)⟩, hS.F ht⟩) hS.2.2 dX8_completeAll_24
  · simp only [lt_I, le_I, eq_I, i_0, i_1, i_2, i_3, i_4, i_5, i_6, i_7, i_8, i_10, i_12, i_16, i_20, i_23, i_24, i_31, i_32, i_63, i_64, i_m1] at c_3
    refine lv_iload_n hx hb dX8_completeAll_11 rfl (lv_at hl 1 rfl) ?_
    refine lv_goto (tgt := 16) hx hb dX8_completeAll_12 (by decide) ?_
    have ha_9 := tx_11 hT hg_2
    refine va_callv (rnV (fun H => TX E G B R H) (As := [.int p0]) (rest := []) ⟨hx, hb, hml, hown, hts⟩ (x_X5_completeAll l E z0 G hGz B R hW (R h0 3) p0 hg_2) (cwV 1 hts (gdV ml_X8_182 im_X5_completeAll se_X5_X5_completeAll in_X5 co_X5_completeAll rfl) rfl rfl rfl (by decide +kernel) ⟨Nat.le_of_ble_eq_true rfl, Nat.le_of_ble_eq_true rfl⟩) hT (fun U hU hW => hK.go hW hS hAz hU) (va_recv hK.1 (va_one ha_9) (ci := 5) (q0 := 0) rfl rfl) rfl rfl hl.1 rfl (lv_room (Nat.le_of_ble_eq_true rfl)) dX8_completeAll_16 ⟨Nat.le_of_ble_eq_true rfl, Nat.le_of_ble_eq_true rfl⟩) hS (fun q _ h => mL (L' := [5, 15, 11]) (L := [5, 15, 11, 10]) (by decide) h) (fun q h => mL (L' := [5, 15, 11]) (L := [5, 15, 11, 10]) (by decide) h) (fun U_11 t H locs ht hvm hwr_10 hB hz hk hS => ?_)
    have hT : TX E G U_11 R H := by rw [ht] at hB; exact hB
    have hWr_10 : TW G U_11 R := hwr_10.1
    have hW := hWr_10
    have hFr_10 : Fr G [5, 15, 11] B U_11 := hwr_10.2.1
    have hCr_10 : C_X5_completeAll G B R (R h0 3) p0 U_11 := hwr_10.2.2
    refine lv_aload_n hx hb dX8_completeAll_19 rfl (lv_at hl 0 rfl) ?_
    refine lv_iconst (v := 0) hx hb dX8_completeAll_20 (by decide) ?_
    have ha_12 := tx_10 hT hG
    refine rr_put (D := DG E) (ci := 8) (v := .int 0) (ty := .boolean) (C := RX8) (T := TX8) (N := 9) hx hb hts iw_X8 tyX8 tyX8_ok nmX8 hown hK.1 ha_12 hS (by show G h0 ∈ ([5, 15, 11, 10] : List Nat); rw [hG]; decide) rfl 5 (by decide) (hts _ fl_X8_52) (fun _ h9 => h9) rfl (by decide +kernel) rfl rfl (Nat.le_of_ble_eq_true rfl) dX8_completeAll_21 (fun H locs hn ho hz hS => ?_)
    obtain ⟨B_13, eB_13⟩ : ∃ z : AA, z = uA U_11 h0 (upd (U_11 h0) 5 0) := ⟨_, rfl⟩
    have sB_13 : B_13 h0 5 = 0 := by rw [eB_13, uA_s]; exact upd_s
    have nB_13 : ∀ k, k ≠ 5 → B_13 h0 k = U_11 h0 k := fun k hk => by rw [eB_13, uA_s]; exact upd_n hk
    have fB_13 : ∀ c, G c ≠ 10 → B_13 c = U_11 c := fun c hc => by rw [eB_13]; exact uA_n (fun e => hc (by rw [e]; exact hG))
    have hT : TX E G B_13 R H := by rw [eB_13]; exact hT.w (by rw [hG]; exact hn) ho
    have hWB_13 : TW G B_13 R := by rw [eB_13]; exact hWr_10.w (by rw [hG]; exact tw_10 hWr_10 hG)
    have hW := hWB_13
    exact W.vret hx hb hr (fun t ht hW9 => ⟨⟨B_13, rfl, ⟨hW, (Fr.w (Fr.c Fr.rf hFr_10 (by decide)) hG (by decide) eB_13), (Or.inr ⟨c_3, U_11, hFr_10, hCr_10, B_13, eB_13, rfl⟩)⟩, (by show TX E G B_13 R t.heap; rw [ht]; exact hT)⟩, hS.F ht⟩) hS.2.2 dX8_completeAll_24

