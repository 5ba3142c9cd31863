set_option maxHeartbeats 8000000 in
set_option maxRecDepth 100000 in
theorem t_X8_forgetAdds (l : Launch) (E : EE) (z0 : Nat) (G : Nat → Nat) (hGz : ∀ q, G q ≠ 0 → z0 ≤ q) (h0 : Nat) (hG : G h0 = 10) : Met l yX8_forgetAdds [Cond.code yX8_forgetAdds cX8_forgetAdds 2 none] ({ frames := 0, cells := 0, slots := 0, locals := 0 } : Room) (va_Pc [.ref h0] (fun U => (TH E (T1 E) G [] U.heap) ∧ KS E z0 U)) (va_Qv (fun (_ : Unit) => True) (fun _ t => TH E (T1 E) G [] t.heap) (fun q : Nat => G q ∈ ([16, 17] : List Nat))) 0 0 (fun q : Nat => G q ∈ ([16, 17] : List Nat)) := by
  refine Met.ofW (cc := cX8_forgetAdds) (maxL := 2) (ret := none) (by decide) rfl ?_
  intro p e s m args below meth c s₁ B hml hv
  obtain ⟨rfl, hT, hK⟩ := hv
  have hx := B.exec
  have hb := B.bytes
  have hr := B.returns
  have hts : ∀ w ∈ TS, w.before ([.ref h0] : List Value).toArray s = true := fun w hw => hK.2.1 w hw _
  have hown : s.vm.findClass RX8 = some m.cls := findClass_of_methodNamed B.named
  have hlocks := B.notSynchronized
  have hS : va_S (fun q : Nat => G q ∈ ([16, 17] : List Nat)) s.heap s.heap [] := va_S.rf
  have hAz : ∀ q, (fun q : Nat => G q ∈ ([16, 17] : List Nat)) q → z0 ≤ q := zL hGz (by decide)
  have hl := lv_entry ([.ref h0]) (n := 2) (Nat.le_of_ble_eq_true rfl)
  rw [lg_entry_eq]
  generalize (lg_sl ([.ref h0]) ++ List.replicate (2 - (lg_sl ([.ref h0])).length) Slot.unset).toArray = ls at hl ⊢
  have hl : lv_has ls 2 [(0, .ref h0)] := hl
  refine lv_iconst (v := 0) hx hb dX8_forgetAdds_0 (by decide) ?_
  refine lv_istore_n (lv' := [(1, .int 0), (0, .ref h0)]) hx hb dX8_forgetAdds_1 rfl hl (by decide) rfl (fun ls hl => ?_)
  refine lv_iload_n hx hb dX8_forgetAdds_2 rfl (lv_at hl 0 rfl) ?_
  refine lv_iconst (v := 2) hx hb dX8_forgetAdds_3 (by decide) ?_
  refine lv_icmp_ge (tgt := 27) hx hb dX8_forgetAdds_4 (by decide) (fun c_1 => absurd c_1 (by decide)) (fun c_1 => ?_)
  refine lv_aload_n hx hb dX8_forgetAdds_7 rfl (lv_at hl 1 rfl) ?_
  obtain ⟨v0_2, v1_2, v2_2, v3_2, v4_2, v5_2, v6_2, v7_2, v8_2, ha_2, hb0_2, hg1_2, hg2_2, hg3_2, hg7_2, hg8_2⟩ := tr_10 hT hG
  refine va_get (D := DG E) (ci := 8) (v := .ref v7_2) (C := RX8) (T := TX8) (N := 9) hx hb hts iw_X8 hown hK.1 (va_one ha_2) 0 rfl rfl 7 (by decide) (hts _ fl_X8_9) (fun _ h9 => h9) rfl dX8_forgetAdds_8 ?_
  refine lv_iload_n hx hb dX8_forgetAdds_11 rfl (lv_at hl 0 rfl) ?_
  refine lv_iconst (v := (-1)) hx hb dX8_forgetAdds_12 (by decide) ?_
  obtain ⟨f_3, ha_3⟩ := tr_16 hT hg7_2
  refine rr_iast (D := DG E) hx hb hK.1 0 ha_3 hS (by show G v7_2 ∈ ([16, 17] : List Nat); rw [hg7_2]; decide) rfl (show vp_in (0) 2 from vp_in_iff.mpr ⟨by decide, by decide⟩) dX8_forgetAdds_13 (fun H locs hn ho hz hS => ?_)
  have hT : TH E (T1 E) G [] H := hT.set hg7_2 (show T1 E G 16 _ from ⟨_, rfl⟩) hn ho
  have ha_2 := ha_2.kept (ho _ (ne_G hG hg7_2 (by decide)))
  refine lv_aload_n hx hb dX8_forgetAdds_14 rfl (lv_at hl 1 rfl) ?_
  refine va_get (D := DG E) (ci := 8) (v := .ref v8_2) (C := RX8) (T := TX8) (N := 9) hx hb hts iw_X8 hown hK.1 (va_one ha_2) 0 rfl rfl 8 (by decide) (hts _ fl_X8_15) (fun _ h9 => h9) rfl dX8_forgetAdds_15 ?_
  refine lv_iload_n hx hb dX8_forgetAdds_18 rfl (lv_at hl 0 rfl) ?_
  refine lv_iconst (v := 0) hx hb dX8_forgetAdds_19 (by decide) ?_
  obtain ⟨f_4, ha_4⟩ := tr_17 hT hg8_2
  refine rr_iast (D := DG E) hx hb hK.1 0 ha_4 hS (by show G v8_2 ∈ ([16, 17] : List Nat); rw [hg8_2]; decide) rfl (show vp_in (0) 2 from vp_in_iff.mpr ⟨by decide, by decide⟩) dX8_forgetAdds_20 (fun H locs hn ho hz hS => ?_)
  have hT : TH E (T1 E) G [] H := hT.set hg8_2 (show T1 E G 17 _ from ⟨_, rfl⟩) hn ho
  have ha_2 := ha_2.kept (ho _ (ne_G hG hg8_2 (by decide)))
  refine lv_iinc (v := 1) (lv' := [(1, .int 1), (0, .ref h0)]) hx hb dX8_forgetAdds_21 hl (k := 0) rfl (by decide) (by decide) rfl (fun ls hl => ?_)
  refine lv_goto (tgt := 2) hx hb dX8_forgetAdds_24 (by decide) ?_
  refine lv_iload_n hx hb dX8_forgetAdds_2 rfl (lv_at hl 0 rfl) ?_
  refine lv_iconst (v := 2) hx hb dX8_forgetAdds_3 (by decide) ?_
  refine lv_icmp_ge (tgt := 27) hx hb dX8_forgetAdds_4 (by decide) (fun c_5 => absurd c_5 (by decide)) (fun c_5 => ?_)
  refine lv_aload_n hx hb dX8_forgetAdds_7 rfl (lv_at hl 1 rfl) ?_
  refine va_get (D := DG E) (ci := 8) (v := .ref v7_2) (C := RX8) (T := TX8) (N := 9) hx hb hts iw_X8 hown hK.1 (va_one ha_2) 0 rfl rfl 7 (by decide) (hts _ fl_X8_9) (fun _ h9 => h9) rfl dX8_forgetAdds_8 ?_
  refine lv_iload_n hx hb dX8_forgetAdds_11 rfl (lv_at hl 0 rfl) ?_
  refine lv_iconst (v := (-1)) hx hb dX8_forgetAdds_12 (by decide) ?_
  obtain ⟨f_6, ha_6⟩ := tr_16 hT hg7_2
  refine rr_iast (D := DG E) hx hb hK.1 0 ha_6 hS (by show G v7_2 ∈ ([16, 17] : List Nat); rw [hg7_2]; decide) rfl (show vp_in (1) 2 from vp_in_iff.mpr ⟨by decide, by decide⟩) dX8_forgetAdds_13 (fun H locs hn ho hz hS => ?_)
  have hT : TH E (T1 E) G [] H := hT.set hg7_2 (show T1 E G 16 _ from ⟨_, rfl⟩) hn ho
  have ha_2 := ha_2.kept (ho _ (ne_G hG hg7_2 (by decide)))
  refine lv_aload_n hx hb dX8_forgetAdds_14 rfl (lv_at hl 1 rfl) ?_
  refine va_get (D := DG E) (ci := 8) (v := .ref v8_2) (C := RX8) (T := TX8) (N := 9) hx hb hts iw_X8 hown hK.1 (va_one ha_2) 0 rfl rfl 8 (by decide) (hts _ fl_X8_15) (fun _ h9 => h9) rfl dX8_forgetAdds_15 ?_
  refine lv_iload_n hx hb dX8_forgetAdds_18 rfl (lv_at hl 0 rfl) ?_
  refine lv_iconst (v := 0) hx hb dX8_forgetAdds_19 (by decide) ?_
  obtain ⟨f_7, ha_7⟩ := tr_17 hT hg8_2
  refine rr_iast (D := DG E) hx hb hK.1 0 ha_7 hS (by show G v8_2 ∈ ([16, 17] : List Nat); rw [hg8_2]; decide) rfl (show vp_in (1) 2 from vp_in_iff.mpr ⟨by decide, by decide⟩) dX8_forgetAdds_20 (fun H locs hn ho hz hS => ?_)
  have hT : TH E (T1 E) G [] H := hT.set hg8_2 (show T1 E G 17 _ from ⟨_, rfl⟩) hn ho
  have ha_2 := ha_2.kept (ho _ (ne_G hG hg8_2 (by decide)))
  refine lv_iinc (v := 2) (lv' := [(1, .int 2), (0, .ref h0)]) hx hb dX8_forgetAdds_21 hl (k := 0) rfl (by decide) (by decide) rfl (fun ls hl => ?_)
  refine lv_goto (tgt := 2) hx hb dX8_forgetAdds_24 (by decide) ?_
  refine lv_iload_n hx hb dX8_forgetAdds_2 rfl (lv_at hl 0 rfl) ?_
  refine lv_iconst (v := 2) hx hb dX8_forgetAdds_3 (by decide) ?_
  refine lv_icmp_ge (tgt := 27) hx hb dX8_forgetAdds_4 (by decide) (fun c_8 => ?_) (fun c_8 => absurd c_8 (by decide))
  exact W.vret hx hb hr (fun t ht hW => ⟨⟨(), rfl, trivial, (by show TH E (T1 E) G [] t.heap; rw [ht]; exact hT)⟩, hS.F ht⟩) hS.2.2 dX8_forgetAdds_27
theorem dX8_clear_0 : decode cX8_clear 0 = .ok (.aload_n 0, 1) := by decide +kernel
theorem dX8_clear_1 : decode cX8_clear 1 = .ok (.getfield 39, 3) := by decide +kernel
theorem dX8_clear_4 : decode cX8_clear 4 = .ok (.invokevirtual 46, 3) := by decide +kernel
theorem dX8_clear_7 : decode cX8_clear 7 = .ok (.aload_n 0, 1) := by decide +kernel
theorem dX8_clear_8 : decode cX8_clear 8 = .ok (.iconst 0, 1) := by decide +kernel
theorem dX8_clear_9 : decode cX8_clear 9 = .ok (.putfield 49, 3) := by decide +kernel
theorem dX8_clear_12 : decode cX8_clear 12 = .ok (.aload_n 0, 1) := by decide +kernel
theorem dX8_clear_13 : decode cX8_clear 13 = .ok (.iconst 0, 1) := by decide +kernel
theorem dX8_clear_14 : decode cX8_clear 14 = .ok (.putfield 52, 3) := by decide +kernel
theorem dX8_clear_17 : decode cX8_clear 17 = .ok (.aload_n 0, 1) := by decide +kernel
theorem dX8_clear_18 : decode cX8_clear 18 = .ok (.iconst 0, 1) := by decide +kernel
theorem dX8_clear_19 : decode cX8_clear 19 = .ok (.putfield 56, 3) := by decide +kernel
theorem dX8_clear_22 : decode cX8_clear 22 = .ok (.aload_n 0, 1) := by decide +kernel
theorem dX8_clear_23 : decode cX8_clear 23 = .ok (.invokevirtual 43, 3) := by decide +kernel
theorem dX8_clear_26 : decode cX8_clear 26 = .ok (.return_, 1) := by decide +kernel
set_option maxHeartbeats 8000000 in
set_option maxRecDepth 100000 in
theorem t_X8_clear (l : Launch) (E : EE) (z0 : Nat) (G : Nat → Nat) (hGz : ∀ q, G q ≠ 0 → z0 ≤ q) (h0 : Nat) (hG : G h0 = 10) : Met l yX8_clear [Cond.code yX8_clear cX8_clear 1 none] ({ frames := 1, cells := 0, slots := 0, locals := 21 } : Room) (va_Pc [.ref h0] (fun U => (TH E (T1 E) G [] U.heap) ∧ KS E z0 U)) (va_Qv (fun (_ : Unit) => True) (fun _ t => TH E (T1 E) G [] t.heap) (fun q : Nat => G q ∈ ([10, 11, 16, 17] : List Nat))) 0 0 (fun q : Nat => G q ∈ ([10, 11, 16, 17] : List Nat)) := by
  refine Met.ofW (cc := cX8_clear) (maxL := 1) (ret := none) (by decide) rfl ?_
  intro p e s m args below meth c s₁ B hml hv
  obtain ⟨rfl, hT, hK⟩ := hv
  have hx := B.exec
  have hb := B.bytes
  have hr := B.returns
  have hts : ∀ w ∈ TS, w.before ([.ref h0] : List Value).toArray s = true := fun w hw => hK.2.1 w hw _
  have hown : s.vm.findClass RX8 = some m.cls := findClass_of_methodNamed B.named
  have hlocks := B.notSynchronized
  have hS : va_S (fun q : Nat => G q ∈ ([10, 11, 16, 17] : List Nat)) s.heap s.heap [] := va_S.rf
  have hAz : ∀ q, (fun q : Nat => G q ∈ ([10, 11, 16, 17] : List Nat)) q → z0 ≤ q := zL hGz (by decide)
  have hl := lv_entry ([.ref h0]) (n := 1) (Nat.le_of_ble_eq_true rfl)
  rw [lg_entry_eq]
  generalize (lg_sl ([.ref h0]) ++ List.replicate (1 - (lg_sl ([.ref h0])).length) Slot.unset).toArray = ls at hl ⊢
  have hl : lv_has ls 1 [(0, .ref h0)] := hl
  refine lv_aload_n hx hb dX8_clear_0 rfl (lv_at hl 0 rfl) ?_
  obtain ⟨v0_1, v1_1, v2_1, v3_1, v4_1, v5_1, v6_1, v7_1, v8_1, ha_1, hb0_1, hg1_1, hg2_1, hg3_1, hg7_1, hg8_1⟩ := tr_10 hT hG
  refine va_get (D := DG E) (ci := 8) (v := .ref v3_1) (C := RX8) (T := TX8) (N := 9) hx hb hts iw_X8 hown hK.1 (va_one ha_1) 0 rfl rfl 3 (by decide) (hts _ fl_X8_39) (fun _ h9 => h9) rfl dX8_clear_1 ?_
  obtain ⟨v0_2, v1_2, v2_2, v3_2, v4_2, v5_2, ha_2, hg1_2, hg2_2, hb3_2, hb4_2⟩ := tr_11 hT hg3_1
  refine va_callv (rnV (fun H => TH E (T1 E) G [] H) (As := []) (rest := []) ⟨hx, hb, hml, hown, hts⟩ (t_X5_clear l E z0 G hGz v3_1 hg3_1) (cwV 0 hts (gdV ml_X8_46 im_X5_clear se_X5_X5_clear in_X5 co_X5_clear rfl) rfl rfl rfl (by decide +kernel) ⟨Nat.le_of_ble_eq_true rfl, Nat.le_of_ble_eq_true rfl⟩) hT (fun U hU hW => hK.go hW hS hAz hU) (va_recv hK.1 (va_one ha_2) (ci := 5) (q0 := 0) rfl rfl) rfl rfl hl.1 rfl (lv_room (Nat.le_of_ble_eq_true rfl)) dX8_clear_4 ⟨Nat.le_of_ble_eq_true rfl, Nat.le_of_ble_eq_true rfl⟩) hS (fun q _ h => mL (L' := [11]) (L := [10, 11, 16, 17]) (by decide) h) (fun q h => mL (L' := [11]) (L := [10, 11, 16, 17]) (by decide) h) (fun _ t H locs ht hvm hwr_3 hB hz hk hS => ?_)
  have hT : TH E (T1 E) G [] H := by rw [ht] at hB; exact hB
  have ha_1 := ha_1.kept (hk _ ha_1.lt (nL hG (by decide)))
  refine lv_aload_n hx hb dX8_clear_7 rfl (lv_at hl 0 rfl) ?_
  refine lv_iconst (v := 0) hx hb dX8_clear_8 (by decide) ?_
  refine rr_put (D := DG E) (ci := 8) (v := .int 0) (ty := .int) (C := RX8) (T := TX8) (N := 9) hx hb hts iw_X8 tyX8 tyX8_ok nmX8 hown hK.1 ha_1 hS (by show G h0 ∈ ([10, 11, 16, 17] : List Nat); rw [hG]; decide) rfl 4 (by decide) (hts _ fl_X8_49) (fun _ h9 => h9) rfl (by decide +kernel) rfl rfl (Nat.le_of_ble_eq_true rfl) dX8_clear_9 (fun H locs hn ho hz hS => ?_)
  have hr_4 : va_at (DG E) vwCl (h0, .inr (8, [.int v0_1, .ref v1_1, .ref v2_1, .ref v3_1, .int 0, .int v5_1, .int v6_1, .ref v7_1, .ref v8_1])) H := hn
  have hT : TH E (T1 E) G [] H := hT.set hG (show T1 E G 10 _ from ⟨v0_1, v1_1, v2_1, v3_1, 0, v5_1, v6_1, v7_1, v8_1, rfl, (by omega), hg1_1, hg2_1, hg3_1, hg7_1, hg8_1⟩) hr_4 ho
  refine lv_aload_n hx hb dX8_clear_12 rfl (lv_at hl 0 rfl) ?_
  refine lv_iconst (v := 0) hx hb dX8_clear_13 (by decide) ?_
  refine rr_put (D := DG E) (ci := 8) (v := .int 0) (ty := .boolean) (C := RX8) (T := TX8) (N := 9) hx hb hts iw_X8 tyX8 tyX8_ok nmX8 hown hK.1 hr_4 hS (by show G h0 ∈ ([10, 11, 16, 17] : List Nat); rw [hG]; decide) rfl 5 (by decide) (hts _ fl_X8_52) (fun _ h9 => h9) rfl (by decide +kernel) rfl rfl (Nat.le_of_ble_eq_true rfl) dX8_clear_14 (fun H locs hn ho hz hS => ?_)
  have hr_5 : va_at (DG E) vwCl (h0, .inr (8, [.int v0_1, .ref v1_1, .ref v2_1, .ref v3_1, .int 0, .int 0, .int v6_1, .ref v7_1, .ref v8_1])) H := hn
  have hT : TH E (T1 E) G [] H := hT.set hG (show T1 E G 10 _ from ⟨v0_1, v1_1, v2_1, v3_1, 0, 0, v6_1, v7_1, v8_1, rfl, (by omega), hg1_1, hg2_1, hg3_1, hg7_1, hg8_1⟩) hr_5 ho
  refine lv_aload_n hx hb dX8_clear_17 rfl (lv_at hl 0 rfl) ?_
  refine lv_iconst (v := 0) hx hb dX8_clear_18 (by decide) ?_
  refine rr_put (D := DG E) (ci := 8) (v := .int 0) (ty := .boolean) (C := RX8) (T := TX8) (N := 9) hx hb hts iw_X8 tyX8 tyX8_ok nmX8 hown hK.1 hr_5 hS (by show G h0 ∈ ([10, 11, 16, 17] : List Nat); rw [hG]; decide) rfl 6 (by decide) (hts _ fl_X8_56) (fun _ h9 => h9) rfl (by decide +kernel) rfl rfl (Nat.le_of_ble_eq_true rfl) dX8_clear_19 (fun H locs hn ho hz hS => ?_)
  have hr_6 : va_at (DG E) vwCl (h0, .inr (8, [.int v0_1, .ref v1_1, .ref v2_1, .ref v3_1, .int 0, .int 0, .int 0, .ref v7_1, .ref v8_1])) H := hn
  have hT : TH E (T1 E) G [] H := hT.set hG (show T1 E G 10 _ from ⟨v0_1, v1_1, v2_1, v3_1, 0, 0, 0, v7_1, v8_1, rfl, (by omega), hg1_1, hg2_1, hg3_1, hg7_1, hg8_1⟩) hr_6 ho
  refine lv_aload_n hx hb dX8_clear_22 rfl (lv_at hl 0 rfl) ?_
  refine va_callv (rnV (fun H => TH E (T1 E) G [] H) (As := []) (rest := []) ⟨hx, hb, hml, hown, hts⟩ (t_X8_forgetAdds l E z0 G hGz h0 hG) (cwV 0 hts (gdV ml_X8_43 im_X8_forgetAdds se_X8_X8_forgetAdds in_X8 co_X8_forgetAdds rfl) rfl rfl rfl (by decide +kernel) ⟨Nat.le_of_ble_eq_true rfl, Nat.le_of_ble_eq_true rfl⟩) hT (fun U hU hW => hK.go hW hS hAz hU) (va_recv hK.1 (va_one hr_6) (ci := 8) (q0 := 0) rfl rfl) rfl rfl hl.1 rfl (lv_room (Nat.le_of_ble_eq_true rfl)) dX8_clear_23 ⟨Nat.le_of_ble_eq_true rfl, Nat.le_of_ble_eq_true rfl⟩) hS (fun q _ h => mL (L' := [16, 17]) (L := [10, 11, 16, 17]) (by decide) h) (fun q h => mL (L' := [16, 17]) (L := [10, 11, 16, 17]) (by decide) h) (fun _ t H locs ht hvm hwr_7 hB hz hk hS => ?_)
  have hT : TH E (T1 E) G [] H := by rw [ht] at hB; exact hB
  have hr_6 := hr_6.kept (hk _ hr_6.lt (nL hG (by decide)))
  exact W.vret hx hb hr (fun t ht hW => ⟨⟨(), rfl, trivial, (by show TH E (T1 E) G [] t.heap; rw [ht]; exact hT)⟩, hS.F ht⟩) hS.2.2 dX8_clear_26
theorem dX8_refuse_0 : decode cX8_refuse 0 = .ok (.aload_n 0, 1) := by decide +kernel
theorem dX8_refuse_1 : decode cX8_refuse 1 = .ok (.getfield 30, 3) := by decide +kernel
theorem dX8_refuse_4 : decode cX8_refuse 4 = .ok (.aload_n 0, 1) := by decide +kernel
theorem dX8_refuse_5 : decode cX8_refuse 5 = .ok (.getfield 22, 3) := by decide +kernel
theorem dX8_refuse_8 : decode cX8_refuse 8 = .ok (.bipush 6, 2) := by decide +kernel
theorem dX8_refuse_10 : decode cX8_refuse 10 = .ok (.iload_n 1, 1) := by decide +kernel
theorem dX8_refuse_11 : decode cX8_refuse 11 = .ok (.invokevirtual 167, 3) := by decide +kernel
theorem dX8_refuse_14 : decode cX8_refuse 14 = .ok (.iload_n 2, 1) := by decide +kernel
theorem dX8_refuse_15 : decode cX8_refuse 15 = .ok (.putfield 179, 3) := by decide +kernel
theorem dX8_refuse_18 : decode cX8_refuse 18 = .ok (.return_, 1) := by decide +kernel
set_option maxHeartbeats 8000000 in
set_option maxRecDepth 100000 in
theorem t_X8_refuse (l : Launch) (E : EE) (z0 : Nat) (G : Nat → Nat) (hGz : ∀ q, G q ≠ 0 → z0 ≤ q) (h0 : Nat) (p0 : Int32) (p1 : Int32) (hG : G h0 = 10) : Met l yX8_refuse [Cond.code yX8_refuse cX8_refuse 3 none] ({ frames := 2, cells := 0, slots := 0, locals := 47 } : Room) (va_Pc [.ref h0, .int p0, .int p1] (fun U => (TH E (T1 E) G [] U.heap) ∧ KS E z0 U)) (va_Qv (fun (_ : Unit) => True) (fun _ t => TH E (T1 E) G [] t.heap) (fun q : Nat => G q ∈ ([4, 31] : List Nat))) 0 0 (fun q : Nat => G q ∈ ([4, 31] : List Nat)) := by
  refine Met.ofW (cc := cX8_refuse) (maxL := 3) (ret := none) (by decide) rfl ?_
  intro p e s m args below meth c s₁ B hml hv
  obtain ⟨rfl, hT, hK⟩ := hv
  have hx := B.exec
  have hb := B.bytes
  have hr := B.returns
  have hts : ∀ w ∈ TS, w.before ([.ref h0, .int p0, .int p1] : List Value).toArray s = true := fun w hw => hK.2.1 w hw _
  have hown : s.vm.findClass RX8 = some m.cls := findClass_of_methodNamed B.named
  have hlocks := B.notSynchronized
  have hS : va_S (fun q : Nat => G q ∈ ([4, 31] : List Nat)) s.heap s.heap [] := va_S.rf
  have hAz : ∀ q, (fun q : Nat => G q ∈ ([4, 31] : List Nat)) q → z0 ≤ q := zL hGz (by decide)
  have hl := lv_entry ([.ref h0, .int p0, .int p1]) (n := 3) (Nat.le_of_ble_eq_true rfl)
  rw [lg_entry_eq]
  generalize (lg_sl ([.ref h0, .int p0, .int p1]) ++ List.replicate (3 - (lg_sl ([.ref h0, .int p0, .int p1])).length) Slot.unset).toArray = ls at hl ⊢
  have hl : lv_has ls 3 [(0, .ref h0), (1, .int p0), (2, .int p1)] := hl
  refine lv_aload_n hx hb dX8_refuse_0 rfl (lv_at hl 0 rfl) ?_
  obtain ⟨v0_1, v1_1, v2_1, v3_1, v4_1, v5_1, v6_1, v7_1, v8_1, ha_1, hb0_1, hg1_1, hg2_1, hg3_1, hg7_1, hg8_1⟩ := tr_10 hT hG
  refine va_get (D := DG E) (ci := 8) (v := .ref v2_1) (C := RX8) (T := TX8) (N := 9) hx hb hts iw_X8 hown hK.1 (va_one ha_1) 0 rfl rfl 2 (by decide) (hts _ fl_X8_30) (fun _ h9 => h9) rfl dX8_refuse_1 ?_
  refine lv_aload_n hx hb dX8_refuse_4 rfl (lv_at hl 0 rfl) ?_
  refine va_get (D := DG E) (ci := 8) (v := .int v0_1) (C := RX8) (T := TX8) (N := 9) hx hb hts iw_X8 hown hK.1 (va_one ha_1) 0 rfl rfl 0 (by decide) (hts _ fl_X8_22) (fun _ h9 => h9) rfl dX8_refuse_5 ?_
  refine lv_bipush (v := 6) hx hb dX8_refuse_8 (by decide) ?_
  refine lv_iload_n hx hb dX8_refuse_10 rfl (lv_at hl 1 rfl) ?_
  obtain ⟨v0_2, v1_2, v2_2, v3_2, ha_2, hg0_2, hb1_2, hg2_2, hg3_2⟩ := tr_4 hT hg2_1
  refine va_callr (rnV (fun H => TH E (T1 E) G [] H) (As := [.int v0_1, .int 6, .int p0]) (rest := []) ⟨hx, hb, hml, hown, hts⟩ (t_X0_carry l E z0 G hGz v2_1 v0_1 6 p0 hg2_1 (by have := i_6; first | omega | decide)) (cwV 3 hts (gdV ml_X8_167 im_X0_carry se_X0_X0_carry in_X0 co_X0_carry rfl) rfl rfl rfl (by decide +kernel) ⟨Nat.le_of_ble_eq_true rfl, Nat.le_of_ble_eq_true rfl⟩) hT (fun U hU hW => hK.go hW hS hAz hU) (va_recv hK.1 (va_one ha_2) (ci := 0) (q0 := 0) rfl rfl) rfl rfl hl.1 rfl (lv_room (Nat.le_of_ble_eq_true rfl)) dX8_refuse_11 ⟨Nat.le_of_ble_eq_true rfl, Nat.le_of_ble_eq_true rfl⟩) hS (fun q _ h => mL (L' := [4, 31]) (L := [4, 31]) (by decide) h) (fun q h => mL (L' := [4, 31]) (L := [4, 31]) (by decide) h) (fun _ r_3 t H locs ht hvm hwr_3 hB hz hk hS => ?_)
  have hT : TH E (T1 E) G [] H := by have hB := hB.2; rw [ht] at hB; exact hB
  have grr_3 : G r_3 = 31 := hB.1
  have ha_1 := ha_1.kept (hk _ ha_1.lt (nL hG (by decide)))
  refine lv_iload_n hx hb dX8_refuse_14 rfl (lv_at hl 2 rfl) ?_
  obtain ⟨v0_4, v1_4, v2_4, v3_4, v4_4, v5_4, v6_4, v7_4, ha_4, hb0_4, hb3_4, hg7_4⟩ := tr_31 hT grr_3
  refine rr_put (D := DG E) (ci := 2) (v := .int p1) (ty := .int) (C := RX2) (T := TX2) (N := 8) hx hb hts iw_X2 tyX2 tyX2_ok nmX2 hown hK.1 ha_4 hS (by show G r_3 ∈ ([4, 31] : List Nat); rw [grr_3]; decide) rfl 4 (by decide) (hts _ fl_X8_179) (fun _ h9 => h9) rfl (by decide +kernel) rfl rfl (Nat.le_of_ble_eq_true rfl) dX8_refuse_15 (fun H locs hn ho hz hS => ?_)
  have hr_5 : va_at (DG E) vwCl (r_3, .inr (2, [.int v0_4, .int v1_4, .int v2_4, .int v3_4, .int p1, .int v5_4, .int v6_4, .ref v7_4])) H := hn
  have hT : TH E (T1 E) G [] H := hT.set grr_3 (show T1 E G 31 _ from ⟨v0_4, v1_4, v2_4, v3_4, p1, v5_4, v6_4, v7_4, rfl, (by omega), (by omega), hg7_4⟩) hr_5 ho
  have ha_1 := ha_1.kept (ho _ (ne_G hG grr_3 (by decide)))
  exact W.vret hx hb hr (fun t ht hW => ⟨⟨(), rfl, trivial, (by show TH E (T1 E) G [] t.heap; rw [ht]; exact hT)⟩, hS.F ht⟩) hS.2.2 dX8_refuse_18
theorem dX8_acknowledge_0 : decode cX8_acknowledge 0 = .ok (.aload_n 0, 1) := by decide +kernel
theorem dX8_acknowledge_1 : decode cX8_acknowledge 1 = .ok (.getfield 30, 3) := by decide +kernel
theorem dX8_acknowledge_4 : decode cX8_acknowledge 4 = .ok (.aload_n 0, 1) := by decide +kernel
theorem dX8_acknowledge_5 : decode cX8_acknowledge 5 = .ok (.getfield 22, 3) := by decide +kernel
theorem dX8_acknowledge_8 : decode cX8_acknowledge 8 = .ok (.iconst 5, 1) := by decide +kernel
theorem dX8_acknowledge_9 : decode cX8_acknowledge 9 = .ok (.iload_n 1, 1) := by decide +kernel
theorem dX8_acknowledge_10 : decode cX8_acknowledge 10 = .ok (.invokevirtual 167, 3) := by decide +kernel
theorem dX8_acknowledge_13 : decode cX8_acknowledge 13 = .ok (.pop, 1) := by decide +kernel
theorem dX8_acknowledge_14 : decode cX8_acknowledge 14 = .ok (.return_, 1) := by decide +kernel
set_option maxHeartbeats 8000000 in
set_option maxRecDepth 100000 in
theorem t_X8_acknowledge (l : Launch) (E : EE) (z0 : Nat) (G : Nat → Nat) (hGz : ∀ q, G q ≠ 0 → z0 ≤ q) (h0 : Nat) (p0 : Int32) (hG : G h0 = 10) : Met l yX8_acknowledge [Cond.code yX8_acknowledge cX8_acknowledge 2 none] ({ frames := 2, cells := 0, slots := 0, locals := 47 } : Room) (va_Pc [.ref h0, .int p0] (fun U => (TH E (T1 E) G [] U.heap) ∧ KS E z0 U)) (va_Qv (fun (_ : Unit) => True) (fun _ t => TH E (T1 E) G [] t.heap) (fun q : Nat => G q ∈ ([4, 31] : List Nat))) 0 0 (fun q : Nat => G q ∈ ([4, 31] : List Nat)) := by
  refine Met.ofW (cc := cX8_acknowledge) (maxL := 2) (ret := none) (by decide) rfl ?_
  intro p e s m args below meth c s₁ B hml hv
  obtain ⟨rfl, hT, hK⟩ := hv
  have hx := B.exec
  have hb := B.bytes
  have hr := B.returns
  have hts : ∀ w ∈ TS, w.before ([.ref h0, .int p0] : List Value).toArray s = true := fun w hw => hK.2.1 w hw _
  have hown : s.vm.findClass RX8 = some m.cls := findClass_of_methodNamed B.named
  have hlocks := B.notSynchronized
  have hS : va_S (fun q : Nat => G q ∈ ([4, 31] : List Nat)) s.heap s.heap [] := va_S.rf
  have hAz : ∀ q, (fun q : Nat => G q ∈ ([4, 31] : List Nat)) q → z0 ≤ q := zL hGz (by decide)
  have hl := lv_entry ([.ref h0, .int p0]) (n := 2) (Nat.le_of_ble_eq_true rfl)
  rw [lg_entry_eq]
  generalize (lg_sl ([.ref h0, .int p0]) ++ List.replicate (2 - (lg_sl ([.ref h0, .int p0])).length) Slot.unset).toArray = ls at hl ⊢
  have hl : lv_has ls 2 [(0, .ref h0), (1, .int p0)] := hl
  refine lv_aload_n hx hb dX8_acknowledge_0 rfl (lv_at hl 0 rfl) ?_
  obtain ⟨v0_1, v1_1, v2_1, v3_1, v4_1, v5_1, v6_1, v7_1, v8_1, ha_1, hb0_1, hg1_1, hg2_1, hg3_1, hg7_1, hg8_1⟩ := tr_10 hT hG
  refine va_get (D := DG E) (ci := 8) (v := .ref v2_1) (C := RX8) (T := TX8) (N := 9) hx hb hts iw_X8 hown hK.1 (va_one ha_1) 0 rfl rfl 2 (by decide) (hts _ fl_X8_30) (fun _ h9 => h9) rfl dX8_acknowledge_1 ?_
  refine lv_aload_n hx hb dX8_acknowledge_4 rfl (lv_at hl 0 rfl) ?_
  refine va_get (D := DG E) (ci := 8) (v := .int v0_1) (C := RX8) (T := TX8) (N := 9) hx hb hts iw_X8 hown hK.1 (va_one ha_1) 0 rfl rfl 0 (by decide) (hts _ fl_X8_22) (fun _ h9 => h9) rfl dX8_acknowledge_5 ?_
  refine lv_iconst (v := 5) hx hb dX8_acknowledge_8 (by decide) ?_
  refine lv_iload_n hx hb dX8_acknowledge_9 rfl (lv_at hl 1 rfl) ?_
  obtain ⟨v0_2, v1_2, v2_2, v3_2, ha_2, hg0_2, hb1_2, hg2_2, hg3_2⟩ := tr_4 hT hg2_1
  refine va_callr (rnV (fun H => TH E (T1 E) G [] H) (As := [.int v0_1, .int 5, .int p0]) (rest := []) ⟨hx, hb, hml, hown, hts⟩ (t_X0_carry l E z0 G hGz v2_1 v0_1 5 p0 hg2_1 (by have := i_5; first | omega | decide)) (cwV 3 hts (gdV ml_X8_167 im_X0_carry se_X0_X0_carry in_X0 co_X0_carry rfl) rfl rfl rfl (by decide +kernel) ⟨Nat.le_of_ble_eq_true rfl, Nat.le_of_ble_eq_true rfl⟩) hT (fun U hU hW => hK.go hW hS hAz hU) (va_recv hK.1 (va_one ha_2) (ci := 0) (q0 := 0) rfl rfl) rfl rfl hl.1 rfl (lv_room (Nat.le_of_ble_eq_true rfl)) dX8_acknowledge_10 ⟨Nat.le_of_ble_eq_true rfl, Nat.le_of_ble_eq_true rfl⟩) hS (fun q _ h => mL (L' := [4, 31]) (L := [4, 31]) (by decide) h) (fun q h => mL (L' := [4, 31]) (L := [4, 31]) (by decide) h) (fun _ r_3 t H locs ht hvm hwr_3 hB hz hk hS => ?_)
  have hT : TH E (T1 E) G [] H := by have hB := hB.2; rw [ht] at hB; exact hB
  have grr_3 : G r_3 = 31 := hB.1
  have ha_1 := ha_1.kept (hk _ ha_1.lt (nL hG (by decide)))
  refine lv_pop hx hb dX8_acknowledge_13 rfl ?_
  exact W.vret hx hb hr (fun t ht hW => ⟨⟨(), rfl, trivial, (by show TH E (T1 E) G [] t.heap; rw [ht]; exact hT)⟩, hS.F ht⟩) hS.2.2 dX8_acknowledge_14
theorem dX8_tellSequence_0 : decode cX8_tellSequence 0 = .ok (.aload_n 0, 1) := by decide +kernel
theorem dX8_tellSequence_1 : decode cX8_tellSequence 1 = .ok (.getfield 56, 3) := by decide +kernel
theorem dX8_tellSequence_4 : decode cX8_tellSequence 4 = .ok (.ifCond .ne 17, 3) := by decide +kernel
theorem dX8_tellSequence_7 : decode cX8_tellSequence 7 = .ok (.aload_n 0, 1) := by decide +kernel
theorem dX8_tellSequence_8 : decode cX8_tellSequence 8 = .ok (.aload_n 0, 1) := by decide +kernel
theorem dX8_tellSequence_9 : decode cX8_tellSequence 9 = .ok (.getfield 49, 3) := by decide +kernel
theorem dX8_tellSequence_12 : decode cX8_tellSequence 12 = .ok (.iconst 1, 1) := by decide +kernel
theorem dX8_tellSequence_13 : decode cX8_tellSequence 13 = .ok (.invokevirtual 85, 3) := by decide +kernel
theorem dX8_tellSequence_16 : decode cX8_tellSequence 16 = .ok (.aload_n 0, 1) := by decide +kernel
theorem dX8_tellSequence_17 : decode cX8_tellSequence 17 = .ok (.iconst 1, 1) := by decide +kernel
theorem dX8_tellSequence_18 : decode cX8_tellSequence 18 = .ok (.putfield 56, 3) := by decide +kernel
theorem dX8_tellSequence_21 : decode cX8_tellSequence 21 = .ok (.return_, 1) := by decide +kernel
set_option maxHeartbeats 8000000 in
set_option maxRecDepth 100000 in
theorem t_X8_tellSequence (l : Launch) (E : EE) (z0 : Nat) (G : Nat → Nat) (hGz : ∀ q, G q ≠ 0 → z0 ≤ q) (h0 : Nat) (hG : G h0 = 10) : Met l yX8_tellSequence [Cond.code yX8_tellSequence cX8_tellSequence 1 none] ({ frames := 3, cells := 0, slots := 0, locals := 69 } : Room) (va_Pc [.ref h0] (fun U => (TH E (T1 E) G [] U.heap) ∧ KS E z0 U)) (va_Qv (fun (_ : Unit) => True) (fun _ t => TH E (T1 E) G [] t.heap) (fun q : Nat => G q ∈ ([10, 4, 31] : List Nat))) 0 0 (fun q : Nat => G q ∈ ([10, 4, 31] : List Nat)) := by
  refine Met.ofW (cc := cX8_tellSequence) (maxL := 1) (ret := none) (by decide) rfl ?_
  intro p e s m args below meth c s₁ B hml hv
  obtain ⟨rfl, hT, hK⟩ := hv
  have hx := B.exec
  have hb := B.bytes
  have hr := B.returns
  have hts : ∀ w ∈ TS, w.before ([.ref h0] : List Value).toArray s = true := fun w hw => hK.2.1 w hw _
  have hown : s.vm.findClass RX8 = some m.cls := findClass_of_methodNamed B.named
  have hlocks := B.notSynchronized
  have hS : va_S (fun q : Nat => G q ∈ ([10, 4, 31] : List Nat)) s.heap s.heap [] := va_S.rf
  have hAz : ∀ q, (fun q : Nat => G q ∈ ([10, 4, 31] : List Nat)) q → z0 ≤ q := zL hGz (by decide)
  have hl := lv_entry ([.ref h0]) (n := 1) (Nat.le_of_ble_eq_true rfl)
  rw [lg_entry_eq]
  generalize (lg_sl ([.ref h0]) ++ List.replicate (1 - (lg_sl ([.ref h0])).length) Slot.unset).toArray = ls at hl ⊢
  have hl : lv_has ls 1 [(0, .ref h0)] := hl
  refine lv_aload_n hx hb dX8_tellSequence_0 rfl (lv_at hl 0 rfl) ?_
  obtain ⟨v0_1, v1_1, v2_1, v3_1, v4_1, v5_1, v6_1, v7_1, v8_1, ha_1, hb0_1, hg1_1, hg2_1, hg3_1, hg7_1, hg8_1⟩ := tr_10 hT hG
  refine va_get (D := DG E) (ci := 8) (v := .int v6_1) (C := RX8) (T := TX8) (N := 9) hx hb hts iw_X8 hown hK.1 (va_one ha_1) 0 rfl rfl 6 (by decide) (hts _ fl_X8_56) (fun _ h9 => h9) rfl dX8_tellSequence_1 ?_
  refine lv_if_ne (tgt := 21) hx hb dX8_tellSequence_4 (by decide) (fun c_2 => ?_) (fun c_2 => ?_)
  · simp only [lt_I, le_I, eq_I, i_0, i_1, i_2, i_3, i_4, i_5, i_6, i_7, i_8, i_10, i_12, i_16, i_20, i_23, i_24, i_31, i_32, i_63, i_64, i_m1] at c_2
    exact W.vret hx hb hr (fun t ht hW => ⟨⟨(), rfl, trivial, (by show TH E (T1 E) G [] t.heap; rw [ht]; exact hT)⟩, hS.F ht⟩) hS.2.2 dX8_tellSequence_21
  · simp only [lt_I, le_I, eq_I, i_0, i_1, i_2, i_3, i_4, i_5, i_6, i_7, i_8, i_10, i_12, i_16, i_20, i_23, i_24, i_31, i_32, i_63, i_64, i_m1] at c_2
    refine lv_aload_n hx hb dX8_tellSequence_7 rfl (lv_at hl 0 rfl) ?_
    refine lv_aload_n hx hb dX8_tellSequence_8 rfl (lv_at hl 0 rfl) ?_
    refine va_get (D := DG E) (ci := 8) (v := .int v4_1) (C := RX8) (T := TX8) (N := 9) hx hb hts iw_X8 hown hK.1 (va_one ha_1) 0 rfl rfl 4 (by decide) (hts _ fl_X8_49) (fun _ h9 => h9) rfl dX8_tellSequence_9 ?_
    refine lv_iconst (v := 1) hx hb dX8_tellSequence_12 (by decide) ?_
    refine va_callv (rnV (fun H => TH E (T1 E) G [] H) (As := [.int v4_1, .int 1]) (rest := []) ⟨hx, hb, hml, hown, hts⟩ (t_X8_refuse l E z0 G hGz h0 v4_1 1 hG) (cwV 2 hts (gdV ml_X8_85 im_X8_refuse se_X8_X8_refuse in_X8 co_X8_refuse rfl) rfl rfl rfl (by decide +kernel) ⟨Nat.le_of_ble_eq_true rfl, Nat.le_of_ble_eq_true rfl⟩) hT (fun U hU hW => hK.go hW hS hAz hU) (va_recv hK.1 (va_one ha_1) (ci := 8) (q0 := 0) rfl rfl) rfl rfl hl.1 rfl (lv_room (Nat.le_of_ble_eq_true rfl)) dX8_tellSequence_13 ⟨Nat.le_of_ble_eq_true rfl, Nat.le_of_ble_eq_true rfl⟩) hS (fun q _ h => mL (L' := [4, 31]) (L := [10, 4, 31]) (by decide) h) (fun q h => mL (L' := [4, 31]) (L := [10, 4, 31]) (by decide) h) (fun _ t H locs ht hvm hwr_3 hB hz hk hS => ?_)
    have hT : TH E (T1 E) G [] H := by rw [ht] at hB; exact hB
    have ha_1 := ha_1.kept (hk _ ha_1.lt (nL hG (by decide)))
    refine lv_aload_n hx hb dX8_tellSequence_16 rfl (lv_at hl 0 rfl) ?_
    refine lv_iconst (v := 1) hx hb dX8_tellSequence_17 (by decide) ?_
    refine rr_put (D := DG E) (ci := 8) (v := .int 1) (ty := .boolean) (C := RX8) (T := TX8) (N := 9) hx hb hts iw_X8 tyX8 tyX8_ok nmX8 hown hK.1 ha_1 hS (by show G h0 ∈ ([10, 4, 31] : List Nat); rw [hG]; decide) rfl 6 (by decide) (hts _ fl_X8_56) (fun _ h9 => h9) rfl (by decide +kernel) rfl rfl (Nat.le_of_ble_eq_true rfl) dX8_tellSequence_18 (fun H locs hn ho hz hS => ?_)
    have hr_4 : va_at (DG E) vwCl (h0, .inr (8, [.int v0_1, .ref v1_1, .ref v2_1, .ref v3_1, .int v4_1, .int v5_1, .int 1, .ref v7_1, .ref v8_1])) H := hn
    have hT : TH E (T1 E) G [] H := hT.set hG (show T1 E G 10 _ from ⟨v0_1, v1_1, v2_1, v3_1, v4_1, v5_1, 1, v7_1, v8_1, rfl, (by omega), hg1_1, hg2_1, hg3_1, hg7_1, hg8_1⟩) hr_4 ho
    exact W.vret hx hb hr (fun t ht hW => ⟨⟨(), rfl, trivial, (by show TH E (T1 E) G [] t.heap; rw [ht]; exact hT)⟩, hS.F ht⟩) hS.2.2 dX8_tellSequence_21
theorem dX8_replyOne_0 : decode cX8_replyOne 0 = .ok (.aload_n 0, 1) := by decide +kernel
theorem dX8_replyOne_1 : decode cX8_replyOne 1 = .ok (.getfield 30, 3) := by decide +kernel
theorem dX8_replyOne_4 : decode cX8_replyOne 4 = .ok (.aload_n 0, 1) := by decide +kernel
theorem dX8_replyOne_5 : decode cX8_replyOne 5 = .ok (.getfield 22, 3) := by decide +kernel
theorem dX8_replyOne_8 : decode cX8_replyOne 8 = .ok (.iconst 4, 1) := by decide +kernel
theorem dX8_replyOne_9 : decode cX8_replyOne 9 = .ok (.iload_n 1, 1) := by decide +kernel
theorem dX8_replyOne_10 : decode cX8_replyOne 10 = .ok (.invokevirtual 167, 3) := by decide +kernel
theorem dX8_replyOne_13 : decode cX8_replyOne 13 = .ok (.astore_n 3, 1) := by decide +kernel
theorem dX8_replyOne_14 : decode cX8_replyOne 14 = .ok (.aload_n 3, 1) := by decide +kernel
theorem dX8_replyOne_15 : decode cX8_replyOne 15 = .ok (.iconst 1, 1) := by decide +kernel
theorem dX8_replyOne_16 : decode cX8_replyOne 16 = .ok (.putfield 128, 3) := by decide +kernel
theorem dX8_replyOne_19 : decode cX8_replyOne 19 = .ok (.aload_n 3, 1) := by decide +kernel
theorem dX8_replyOne_20 : decode cX8_replyOne 20 = .ok (.getfield 176, 3) := by decide +kernel
theorem dX8_replyOne_23 : decode cX8_replyOne 23 = .ok (.iconst 0, 1) := by decide +kernel
theorem dX8_replyOne_24 : decode cX8_replyOne 24 = .ok (.iload_n 2, 1) := by decide +kernel
theorem dX8_replyOne_25 : decode cX8_replyOne 25 = .ok (.iastore, 1) := by decide +kernel
theorem dX8_replyOne_26 : decode cX8_replyOne 26 = .ok (.return_, 1) := by decide +kernel
set_option maxHeartbeats 8000000 in
set_option maxRecDepth 100000 in
theorem t_X8_replyOne (l : Launch) (E : EE) (z0 : Nat) (G : Nat → Nat) (hGz : ∀ q, G q ≠ 0 → z0 ≤ q) (h0 : Nat) (p0 : Int32) (p1 : Int32) (hG : G h0 = 10) : Met l yX8_replyOne [Cond.code yX8_replyOne cX8_replyOne 4 none] ({ frames := 2, cells := 0, slots := 0, locals := 47 } : Room) (va_Pc [.ref h0, .int p0, .int p1] (fun U => (TH E (T1 E) G [] U.heap) ∧ KS E z0 U)) (va_Qv (fun (_ : Unit) => True) (fun _ t => TH E (T1 E) G [] t.heap) (fun q : Nat => G q ∈ ([4, 31, 32] : List Nat))) 0 0 (fun q : Nat => G q ∈ ([4, 31, 32] : List Nat)) := by
  refine Met.ofW (cc := cX8_replyOne) (maxL := 4) (ret := none) (by decide) rfl ?_
  intro p e s m args below meth c s₁ B hml hv
  obtain ⟨rfl, hT, hK⟩ := hv
  have hx := B.exec
  have hb := B.bytes
  have hr := B.returns
  have hts : ∀ w ∈ TS, w.before ([.ref h0, .int p0, .int p1] : List Value).toArray s = true := fun w hw => hK.2.1 w hw _
  have hown : s.vm.findClass RX8 = some m.cls := findClass_of_methodNamed B.named
  have hlocks := B.notSynchronized
  have hS : va_S (fun q : Nat => G q ∈ ([4, 31, 32] : List Nat)) s.heap s.heap [] := va_S.rf
  have hAz : ∀ q, (fun q : Nat => G q ∈ ([4, 31, 32] : List Nat)) q → z0 ≤ q := zL hGz (by decide)
  have hl := lv_entry ([.ref h0, .int p0, .int p1]) (n := 4) (Nat.le_of_ble_eq_true rfl)
  rw [lg_entry_eq]
  generalize (lg_sl ([.ref h0, .int p0, .int p1]) ++ List.replicate (4 - (lg_sl ([.ref h0, .int p0, .int p1])).length) Slot.unset).toArray = ls at hl ⊢
  have hl : lv_has ls 4 [(0, .ref h0), (1, .int p0), (2, .int p1)] := hl
  refine lv_aload_n hx hb dX8_replyOne_0 rfl (lv_at hl 0 rfl) ?_
  obtain ⟨v0_1, v1_1, v2_1, v3_1, v4_1, v5_1, v6_1, v7_1, v8_1, ha_1, hb0_1, hg1_1, hg2_1, hg3_1, hg7_1, hg8_1⟩ := tr_10 hT hG
  refine va_get (D := DG E) (ci := 8) (v := .ref v2_1) (C := RX8) (T := TX8) (N := 9) hx hb hts iw_X8 hown hK.1 (va_one ha_1) 0 rfl rfl 2 (by decide) (hts _ fl_X8_30) (fun _ h9 => h9) rfl dX8_replyOne_1 ?_
  refine lv_aload_n hx hb dX8_replyOne_4 rfl (lv_at hl 0 rfl) ?_
  refine va_get (D := DG E) (ci := 8) (v := .int v0_1) (C := RX8) (T := TX8) (N := 9) hx hb hts iw_X8 hown hK.1 (va_one ha_1) 0 rfl rfl 0 (by decide) (hts _ fl_X8_22) (fun _ h9 => h9) rfl dX8_replyOne_5 ?_
  refine lv_iconst (v := 4) hx hb dX8_replyOne_8 (by decide) ?_
  refine lv_iload_n hx hb dX8_replyOne_9 rfl (lv_at hl 1 rfl) ?_
  obtain ⟨v0_2, v1_2, v2_2, v3_2, ha_2, hg0_2, hb1_2, hg2_2, hg3_2⟩ := tr_4 hT hg2_1
  refine va_callr (rnV (fun H => TH E (T1 E) G [] H) (As := [.int v0_1, .int 4, .int p0]) (rest := []) ⟨hx, hb, hml, hown, hts⟩ (t_X0_carry l E z0 G hGz v2_1 v0_1 4 p0 hg2_1 (by have := i_4; first | omega | decide)) (cwV 3 hts (gdV ml_X8_167 im_X0_carry se_X0_X0_carry in_X0 co_X0_carry rfl) rfl rfl rfl (by decide +kernel) ⟨Nat.le_of_ble_eq_true rfl, Nat.le_of_ble_eq_true rfl⟩) hT (fun U hU hW => hK.go hW hS hAz hU) (va_recv hK.1 (va_one ha_2) (ci := 0) (q0 := 0) rfl rfl) rfl rfl hl.1 rfl (lv_room (Nat.le_of_ble_eq_true rfl)) dX8_replyOne_10 ⟨Nat.le_of_ble_eq_true rfl, Nat.le_of_ble_eq_true rfl⟩) hS (fun q _ h => mL (L' := [4, 31]) (L := [4, 31, 32]) (by decide) h) (fun q h => mL (L' := [4, 31]) (L := [4, 31, 32]) (by decide) h) (fun _ r_3 t H locs ht hvm hwr_3 hB hz hk hS => ?_)
  have hT : TH E (T1 E) G [] H := by have hB := hB.2; rw [ht] at hB; exact hB
  have grr_3 : G r_3 = 31 := hB.1
  have ha_1 := ha_1.kept (hk _ ha_1.lt (nL hG (by decide)))
  refine lv_astore_n (lv' := [(3, .ref r_3), (0, .ref h0), (1, .int p0), (2, .int p1)]) hx hb dX8_replyOne_13 rfl hl (by decide) rfl (fun ls hl => ?_)
  refine lv_aload_n hx hb dX8_replyOne_14 rfl (lv_at hl 0 rfl) ?_
  refine lv_iconst (v := 1) hx hb dX8_replyOne_15 (by decide) ?_
  obtain ⟨v0_4, v1_4, v2_4, v3_4, v4_4, v5_4, v6_4, v7_4, ha_4, hb0_4, hb3_4, hg7_4⟩ := tr_31 hT grr_3
  refine rr_put (D := DG E) (ci := 2) (v := .int 1) (ty := .int) (C := RX2) (T := TX2) (N := 8) hx hb hts iw_X2 tyX2 tyX2_ok nmX2 hown hK.1 ha_4 hS (by show G r_3 ∈ ([4, 31, 32] : List Nat); rw [grr_3]; decide) rfl 3 (by decide) (hts _ fl_X8_128) (fun _ h9 => h9) rfl (by decide +kernel) rfl rfl (Nat.le_of_ble_eq_true rfl) dX8_replyOne_16 (fun H locs hn ho hz hS => ?_)
  have hr_5 : va_at (DG E) vwCl (r_3, .inr (2, [.int v0_4, .int v1_4, .int v2_4, .int 1, .int v4_4, .int v5_4, .int v6_4, .ref v7_4])) H := hn
  have hT : TH E (T1 E) G [] H := hT.set grr_3 (show T1 E G 31 _ from ⟨v0_4, v1_4, v2_4, 1, v4_4, v5_4, v6_4, v7_4, rfl, (by omega), (by decide), hg7_4⟩) hr_5 ho
  have ha_1 := ha_1.kept (ho _ (ne_G hG grr_3 (by decide)))
  refine lv_aload_n hx hb dX8_replyOne_19 rfl (lv_at hl 0 rfl) ?_
  refine va_get (D := DG E) (ci := 2) (v := .ref v7_4) (C := RX2) (T := TX2) (N := 8) hx hb hts iw_X2 hown hK.1 (va_one hr_5) 0 rfl rfl 7 (by decide) (hts _ fl_X8_176) (fun _ h9 => h9) rfl dX8_replyOne_20 ?_
  refine lv_iconst (v := 0) hx hb dX8_replyOne_23 (by decide) ?_
  refine lv_iload_n hx hb dX8_replyOne_24 rfl (lv_at hl 3 rfl) ?_
  obtain ⟨f_6, ha_6⟩ := tr_32 hT hg7_4
  refine rr_iast (D := DG E) hx hb hK.1 0 ha_6 hS (by show G v7_4 ∈ ([4, 31, 32] : List Nat); rw [hg7_4]; decide) rfl (show vp_in (0) 4 from vp_in_iff.mpr ⟨by decide, by decide⟩) dX8_replyOne_25 (fun H locs hn ho hz hS => ?_)
  have hT : TH E (T1 E) G [] H := hT.set hg7_4 (show T1 E G 32 _ from ⟨_, rfl⟩) hn ho
  have ha_1 := ha_1.kept (ho _ (ne_G hG hg7_4 (by decide)))
  have hr_5 := hr_5.kept (ho _ (ne_G grr_3 hg7_4 (by decide)))
  exact W.vret hx hb hr (fun t ht hW => ⟨⟨(), rfl, trivial, (by show TH E (T1 E) G [] t.heap; rw [ht]; exact hT)⟩, hS.F ht⟩) hS.2.2 dX8_replyOne_26
theorem dX8_replyCells_0 : decode cX8_replyCells 0 = .ok (.iconst 0, 1) := by decide +kernel
theorem dX8_replyCells_1 : decode cX8_replyCells 1 = .ok (.istore_n 2, 1) := by decide +kernel
theorem dX8_replyCells_2 : decode cX8_replyCells 2 = .ok (.iload_n 2, 1) := by decide +kernel
theorem dX8_replyCells_3 : decode cX8_replyCells 3 = .ok (.aload_n 1, 1) := by decide +kernel
theorem dX8_replyCells_4 : decode cX8_replyCells 4 = .ok (.getfield 128, 3) := by decide +kernel
theorem dX8_replyCells_7 : decode cX8_replyCells 7 = .ok (.if_icmp .ge 52, 3) := by decide +kernel
theorem dX8_replyCells_10 : decode cX8_replyCells 10 = .ok (.aload_n 1, 1) := by decide +kernel
theorem dX8_replyCells_11 : decode cX8_replyCells 11 = .ok (.getfield 59, 3) := by decide +kernel
theorem dX8_replyCells_14 : decode cX8_replyCells 14 = .ok (.iload_n 2, 1) := by decide +kernel
theorem dX8_replyCells_15 : decode cX8_replyCells 15 = .ok (.iconst 4, 1) := by decide +kernel
theorem dX8_replyCells_16 : decode cX8_replyCells 16 = .ok (.idiv, 1) := by decide +kernel
theorem dX8_replyCells_17 : decode cX8_replyCells 17 = .ok (.invokestatic 164, 3) := by decide +kernel
theorem dX8_replyCells_20 : decode cX8_replyCells 20 = .ok (.istore_n 3, 1) := by decide +kernel
theorem dX8_replyCells_21 : decode cX8_replyCells 21 = .ok (.aload_n 0, 1) := by decide +kernel
theorem dX8_replyCells_22 : decode cX8_replyCells 22 = .ok (.getfield 30, 3) := by decide +kernel
theorem dX8_replyCells_25 : decode cX8_replyCells 25 = .ok (.aload_n 0, 1) := by decide +kernel
theorem dX8_replyCells_26 : decode cX8_replyCells 26 = .ok (.getfield 22, 3) := by decide +kernel
theorem dX8_replyCells_29 : decode cX8_replyCells 29 = .ok (.iconst 4, 1) := by decide +kernel
theorem dX8_replyCells_30 : decode cX8_replyCells 30 = .ok (.iload_n 3, 1) := by decide +kernel
theorem dX8_replyCells_31 : decode cX8_replyCells 31 = .ok (.invokevirtual 167, 3) := by decide +kernel
theorem dX8_replyCells_34 : decode cX8_replyCells 34 = .ok (.aload_n 0, 1) := by decide +kernel
theorem dX8_replyCells_35 : decode cX8_replyCells 35 = .ok (.getfield 26, 3) := by decide +kernel
theorem dX8_replyCells_38 : decode cX8_replyCells 38 = .ok (.aload_n 1, 1) := by decide +kernel
theorem dX8_replyCells_39 : decode cX8_replyCells 39 = .ok (.getfield 151, 3) := by decide +kernel
theorem dX8_replyCells_42 : decode cX8_replyCells 42 = .ok (.iload_n 2, 1) := by decide +kernel
theorem dX8_replyCells_43 : decode cX8_replyCells 43 = .ok (.iadd, 1) := by decide +kernel
theorem dX8_replyCells_44 : decode cX8_replyCells 44 = .ok (.aload_n 1, 1) := by decide +kernel
theorem dX8_replyCells_45 : decode cX8_replyCells 45 = .ok (.getfield 128, 3) := by decide +kernel
theorem dX8_replyCells_48 : decode cX8_replyCells 48 = .ok (.iload_n 2, 1) := by decide +kernel
theorem dX8_replyCells_49 : decode cX8_replyCells 49 = .ok (.isub, 1) := by decide +kernel
theorem dX8_replyCells_50 : decode cX8_replyCells 50 = .ok (.invokevirtual 173, 3) := by decide +kernel
theorem dX8_replyCells_53 : decode cX8_replyCells 53 = .ok (.iinc 2 4, 3) := by decide +kernel
theorem dX8_replyCells_56 : decode cX8_replyCells 56 = .ok (.goto (-54), 3) := by decide +kernel
theorem dX8_replyCells_59 : decode cX8_replyCells 59 = .ok (.return_, 1) := by decide +kernel
set_option maxHeartbeats 8000000 in
set_option maxRecDepth 100000 in
theorem t_X8_replyCells (l : Launch) (E : EE) (z0 : Nat) (G : Nat → Nat) (hGz : ∀ q, G q ≠ 0 → z0 ≤ q) (h0 : Nat) (p0 : Nat) (hG : G h0 = 10) (hG0 : G p0 = 31) : Met l yX8_replyCells [Cond.code yX8_replyCells cX8_replyCells 4 none] ({ frames := 3, cells := 0, slots := 0, locals := 65 } : Room) (va_Pc [.ref h0, .ref p0] (fun U => (TH E (T1 E) G [] U.heap) ∧ KS E z0 U)) (va_Qv (fun (_ : Unit) => True) (fun _ t => TH E (T1 E) G [] t.heap) (fun q : Nat => G q ∈ ([4, 31, 32] : List Nat))) 0 0 (fun q : Nat => G q ∈ ([4, 31, 32] : List Nat)) := by
  refine Met.ofW (cc := cX8_replyCells) (maxL := 4) (ret := none) (by decide) rfl ?_
  intro p e s m args below meth c s₁ B hml hv
  obtain ⟨rfl, hT, hK⟩ := hv
  have hx := B.exec
  have hb := B.bytes
  have hr := B.returns
  have hts : ∀ w ∈ TS, w.before ([.ref h0, .ref p0] : List Value).toArray s = true := fun w hw => hK.2.1 w hw _
  have hown : s.vm.findClass RX8 = some m.cls := findClass_of_methodNamed B.named
  have hlocks := B.notSynchronized
  have hS : va_S (fun q : Nat => G q ∈ ([4, 31, 32] : List Nat)) s.heap s.heap [] := va_S.rf
  have hAz : ∀ q, (fun q : Nat => G q ∈ ([4, 31, 32] : List Nat)) q → z0 ≤ q := zL hGz (by decide)
  have hl := lv_entry ([.ref h0, .ref p0]) (n := 4) (Nat.le_of_ble_eq_true rfl)
  rw [lg_entry_eq]
  generalize (lg_sl ([.ref h0, .ref p0]) ++ List.replicate (4 - (lg_sl ([.ref h0, .ref p0])).length) Slot.unset).toArray = ls at hl ⊢
  have hl : lv_has ls 4 [(0, .ref h0), (1, .ref p0)] := hl
  refine lv_iconst (v := 0) hx hb dX8_replyCells_0 (by decide) ?_
  refine lv_istore_n (lv' := [(2, .int 0), (0, .ref h0), (1, .ref p0)]) hx hb dX8_replyCells_1 rfl hl (by decide) rfl (fun ls hl => ?_)
  refine lv_iload_n hx hb dX8_replyCells_2 rfl (lv_at hl 0 rfl) ?_
  refine lv_aload_n hx hb dX8_replyCells_3 rfl (lv_at hl 2 rfl) ?_
  obtain ⟨v0_1, v1_1, v2_1, v3_1, v4_1, v5_1, v6_1, v7_1, ha_1, hb0_1, hb3_1, hg7_1⟩ := tr_31 hT hG0
  refine va_get (D := DG E) (ci := 2) (v := .int v3_1) (C := RX2) (T := TX2) (N := 8) hx hb hts iw_X2 hown hK.1 (va_one ha_1) 0 rfl rfl 3 (by decide) (hts _ fl_X8_128) (fun _ h9 => h9) rfl dX8_replyCells_4 ?_
  refine lv_icmp_ge (tgt := 59) hx hb dX8_replyCells_7 (by decide) (fun c_2 => ?_) (fun c_2 => ?_)
  · simp only [lt_I, le_I, eq_I, i_0, i_1, i_2, i_3, i_4, i_5, i_6, i_7, i_8, i_10, i_12, i_16, i_20, i_23, i_24, i_31, i_32, i_63, i_64, i_m1] at c_2
    exact W.vret hx hb hr (fun t ht hW => ⟨⟨(), rfl, trivial, (by show TH E (T1 E) G [] t.heap; rw [ht]; exact hT)⟩, hS.F ht⟩) hS.2.2 dX8_replyCells_59
  · simp only [lt_I, le_I, eq_I, i_0, i_1, i_2, i_3, i_4, i_5, i_6, i_7, i_8, i_10, i_12, i_16, i_20, i_23, i_24, i_31, i_32, i_63, i_64, i_m1] at c_2
    refine lv_aload_n hx hb dX8_replyCells_10 rfl (lv_at hl 2 rfl) ?_
    refine va_get (D := DG E) (ci := 2) (v := .int v2_1) (C := RX2) (T := TX2) (N := 8) hx hb hts iw_X2 hown hK.1 (va_one ha_1) 0 rfl rfl 2 (by decide) (hts _ fl_X8_59) (fun _ h9 => h9) rfl dX8_replyCells_11 ?_
    refine lv_iload_n hx hb dX8_replyCells_14 rfl (lv_at hl 0 rfl) ?_
    refine lv_iconst (v := 4) hx hb dX8_replyCells_15 (by decide) ?_
    refine lv_idiv hx hb dX8_replyCells_16 (by decide) ?_
    refine W.eq (g2 := F0 m 17 ls [.int 0, .int v2_1]) (by rfl) ?_
    refine rnSN (As := [.int v2_1, .int 0]) (rest := []) ⟨hx, hb, hml, hown, hts⟩ (c_X9_after l v2_1 0) ⟨va_cnB (host := RX9) 2 hts (gd1 co_X9_after rfl) rfl rfl rfl (hK.2.1 _ mn_X8_164 #[]) (hts _ in_X9) (by decide +kernel) ⟨Nat.le_of_ble_eq_true rfl, Nat.le_of_ble_eq_true rfl⟩, hts _ st_X9_after, trivial⟩ rfl rfl hl.1 rfl (lv_room (Nat.le_of_ble_eq_true rfl)) dX8_replyCells_17 ⟨Nat.le_of_ble_eq_true rfl, Nat.le_of_ble_eq_true rfl⟩ ?_
    refine W.eq (g2 := F0 m 20 ls [.int ((v2_1 + 0) &&& 63)]) (by rfl) ?_
    refine lv_topi (fun x_3 ex_3 => ?_)
    have fx_3 := s_and63 (v2_1 + 0); rw [← ex_3] at fx_3
    refine lv_istore_n (lv' := [(3, .int x_3), (2, .int 0), (0, .ref h0), (1, .ref p0)]) hx hb dX8_replyCells_20 rfl hl (by decide) rfl (fun ls hl => ?_)
    refine lv_aload_n hx hb dX8_replyCells_21 rfl (lv_at hl 2 rfl) ?_
    obtain ⟨v0_4, v1_4, v2_4, v3_4, v4_4, v5_4, v6_4, v7_4, v8_4, ha_4, hb0_4, hg1_4, hg2_4, hg3_4, hg7_4, hg8_4⟩ := tr_10 hT hG
    refine va_get (D := DG E) (ci := 8) (v := .ref v2_4) (C := RX8) (T := TX8) (N := 9) hx hb hts iw_X8 hown hK.1 (va_one ha_4) 0 rfl rfl 2 (by decide) (hts _ fl_X8_30) (fun _ h9 => h9) rfl dX8_replyCells_22 ?_
    refine lv_aload_n hx hb dX8_replyCells_25 rfl (lv_at hl 2 rfl) ?_
    refine va_get (D := DG E) (ci := 8) (v := .int v0_4) (C := RX8) (T := TX8) (N := 9) hx hb hts iw_X8 hown hK.1 (va_one ha_4) 0 rfl rfl 0 (by decide) (hts _ fl_X8_22) (fun _ h9 => h9) rfl dX8_replyCells_26 ?_
    refine lv_iconst (v := 4) hx hb dX8_replyCells_29 (by decide) ?_
    refine lv_iload_n hx hb dX8_replyCells_30 rfl (lv_at hl 0 rfl) ?_
    obtain ⟨v0_5, v1_5, v2_5, v3_5, ha_5, hg0_5, hb1_5, hg2_5, hg3_5⟩ := tr_4 hT hg2_4
    refine va_callr (rnV (fun H => TH E (T1 E) G [] H) (As := [.int v0_4, .int 4, .int x_3]) (rest := []) ⟨hx, hb, hml, hown, hts⟩ (t_X0_carry l E z0 G hGz v2_4 v0_4 4 x_3 hg2_4 (by have := i_4; first | omega | decide)) (cwV 3 hts (gdV ml_X8_167 im_X0_carry se_X0_X0_carry in_X0 co_X0_carry rfl) rfl rfl rfl (by decide +kernel) ⟨Nat.le_of_ble_eq_true rfl, Nat.le_of_ble_eq_true rfl⟩) hT (fun U hU hW => hK.go hW hS hAz hU) (va_recv hK.1 (va_one ha_5) (ci := 0) (q0 := 0) rfl rfl) rfl rfl hl.1 rfl (lv_room (Nat.le_of_ble_eq_true rfl)) dX8_replyCells_31 ⟨Nat.le_of_ble_eq_true rfl, Nat.le_of_ble_eq_true rfl⟩) hS (fun q _ h => mL (L' := [4, 31]) (L := [4, 31, 32]) (by decide) h) (fun q h => mL (L' := [4, 31]) (L := [4, 31, 32]) (by decide) h) (fun _ r_6 t H locs ht hvm hwr_6 hB hz hk hS => ?_)
    have hT : TH E (T1 E) G [] H := by have hB := hB.2; rw [ht] at hB; exact hB
    have grr_6 : G r_6 = 31 := hB.1
    have ha_4 := ha_4.kept (hk _ ha_4.lt (nL hG (by decide)))
    refine lv_aload_n hx hb dX8_replyCells_34 rfl (lv_at hl 2 rfl) ?_
    refine va_get (D := DG E) (ci := 8) (v := .ref v1_4) (C := RX8) (T := TX8) (N := 9) hx hb hts iw_X8 hown hK.1 (va_one ha_4) 0 rfl rfl 1 (by decide) (hts _ fl_X8_26) (fun _ h9 => h9) rfl dX8_replyCells_35 ?_
    refine lv_aload_n hx hb dX8_replyCells_38 rfl (lv_at hl 3 rfl) ?_
    obtain ⟨v0_7, v1_7, v2_7, v3_7, v4_7, v5_7, v6_7, v7_7, ha_7, hb0_7, hb3_7, hg7_7⟩ := tr_31 hT hG0
    refine va_get (D := DG E) (ci := 2) (v := .int v5_7) (C := RX2) (T := TX2) (N := 8) hx hb hts iw_X2 hown hK.1 (va_one ha_7) 0 rfl rfl 5 (by decide) (hts _ fl_X8_151) (fun _ h9 => h9) rfl dX8_replyCells_39 ?_
    refine lv_iload_n hx hb dX8_replyCells_42 rfl (lv_at hl 1 rfl) ?_
    refine lv_iadd hx hb dX8_replyCells_43 ?_
    refine lv_topi (fun x_8 ex_8 => ?_)
    refine lv_aload_n hx hb dX8_replyCells_44 rfl (lv_at hl 3 rfl) ?_
    refine va_get (D := DG E) (ci := 2) (v := .int v3_7) (C := RX2) (T := TX2) (N := 8) hx hb hts iw_X2 hown hK.1 (va_one ha_7) 0 rfl rfl 3 (by decide) (hts _ fl_X8_128) (fun _ h9 => h9) rfl dX8_replyCells_45 ?_
    refine lv_iload_n hx hb dX8_replyCells_48 rfl (lv_at hl 1 rfl) ?_
    refine lv_isub hx hb dX8_replyCells_49 ?_
    refine lv_topi (fun x_9 ex_9 => ?_)
    obtain ⟨v0_10, v1_10, v2_10, v3_10, v4_10, v5_10, v6_10, v7_10, ha_10, hb0_10, hb3_10, hg7_10⟩ := tr_31 hT grr_6
    refine va_callv (rnV (fun H => TH E (T1 E) G [] H) (As := [.ref v1_4, .int x_8, .int x_9]) (rest := []) ⟨hx, hb, hml, hown, hts⟩ (t_X2_load l E z0 G hGz r_6 v1_4 x_8 x_9 grr_6 hg1_4) (cwV 3 hts (gdV ml_X8_173 im_X2_load se_X2_X2_load in_X2 co_X2_load rfl) rfl rfl rfl (by decide +kernel) ⟨Nat.le_of_ble_eq_true rfl, Nat.le_of_ble_eq_true rfl⟩) hT (fun U hU hW => hK.go hW hS hAz hU) (va_recv hK.1 (va_one ha_10) (ci := 2) (q0 := 0) rfl rfl) rfl rfl hl.1 rfl (lv_room (Nat.le_of_ble_eq_true rfl)) dX8_replyCells_50 ⟨Nat.le_of_ble_eq_true rfl, Nat.le_of_ble_eq_true rfl⟩) hS (fun q _ h => mL (L' := [31, 32]) (L := [4, 31, 32]) (by decide) h) (fun q h => mL (L' := [31, 32]) (L := [4, 31, 32]) (by decide) h) (fun _ t H locs ht hvm hwr_11 hB hz hk hS => ?_)
    have hT : TH E (T1 E) G [] H := by rw [ht] at hB; exact hB
    have ha_4 := ha_4.kept (hk _ ha_4.lt (nL hG (by decide)))
    refine lv_iinc (v := 4) (lv' := [(2, .int 4), (3, .int x_3), (0, .ref h0), (1, .ref p0)]) hx hb dX8_replyCells_53 hl (k := 1) rfl (by decide) (by decide) rfl (fun ls hl => ?_)
    refine lv_goto (tgt := 2) hx hb dX8_replyCells_56 (by decide) ?_
    refine lv_iload_n hx hb dX8_replyCells_2 rfl (lv_at hl 0 rfl) ?_
    refine lv_aload_n hx hb dX8_replyCells_3 rfl (lv_at hl 3 rfl) ?_
    obtain ⟨v0_12, v1_12, v2_12, v3_12, v4_12, v5_12, v6_12, v7_12, ha_12, hb0_12, hb3_12, hg7_12⟩ := tr_31 hT hG0
    refine va_get (D := DG E) (ci := 2) (v := .int v3_12) (C := RX2) (T := TX2) (N := 8) hx hb hts iw_X2 hown hK.1 (va_one ha_12) 0 rfl rfl 3 (by decide) (hts _ fl_X8_128) (fun _ h9 => h9) rfl dX8_replyCells_4 ?_
    refine lv_icmp_ge (tgt := 59) hx hb dX8_replyCells_7 (by decide) (fun c_13 => ?_) (fun c_13 => ?_)
    · simp only [lt_I, le_I, eq_I, i_0, i_1, i_2, i_3, i_4, i_5, i_6, i_7, i_8, i_10, i_12, i_16, i_20, i_23, i_24, i_31, i_32, i_63, i_64, i_m1] at c_13
      exact W.vret hx hb hr (fun t ht hW => ⟨⟨(), rfl, trivial, (by show TH E (T1 E) G [] t.heap; rw [ht]; exact hT)⟩, hS.F ht⟩) hS.2.2 dX8_replyCells_59
    · simp only [lt_I, le_I, eq_I, i_0, i_1, i_2, i_3, i_4, i_5, i_6, i_7, i_8, i_10, i_12, i_16, i_20, i_23, i_24, i_31, i_32, i_63, i_64, i_m1] at c_13
      refine lv_aload_n hx hb dX8_replyCells_10 rfl (lv_at hl 3 rfl) ?_
      refine va_get (D := DG E) (ci := 2) (v := .int v2_12) (C := RX2) (T := TX2) (N := 8) hx hb hts iw_X2 hown hK.1 (va_one ha_12) 0 rfl rfl 2 (by decide) (hts _ fl_X8_59) (fun _ h9 => h9) rfl dX8_replyCells_11 ?_
      refine lv_iload_n hx hb dX8_replyCells_14 rfl (lv_at hl 0 rfl) ?_
      refine lv_iconst (v := 4) hx hb dX8_replyCells_15 (by decide) ?_
      refine lv_idiv hx hb dX8_replyCells_16 (by decide) ?_
      refine W.eq (g2 := F0 m 17 ls [.int 1, .int v2_12]) (by rfl) ?_
      refine rnSN (As := [.int v2_12, .int 1]) (rest := []) ⟨hx, hb, hml, hown, hts⟩ (c_X9_after l v2_12 1) ⟨va_cnB (host := RX9) 2 hts (gd1 co_X9_after rfl) rfl rfl rfl (hK.2.1 _ mn_X8_164 #[]) (hts _ in_X9) (by decide +kernel) ⟨Nat.le_of_ble_eq_true rfl, Nat.le_of_ble_eq_true rfl⟩, hts _ st_X9_after, trivial⟩ rfl rfl hl.1 rfl (lv_room (Nat.le_of_ble_eq_true rfl)) dX8_replyCells_17 ⟨Nat.le_of_ble_eq_true rfl, Nat.le_of_ble_eq_true rfl⟩ ?_
      refine W.eq (g2 := F0 m 20 ls [.int ((v2_12 + 1) &&& 63)]) (by rfl) ?_
      refine lv_topi (fun x_14 ex_14 => ?_)
      have fx_14 := s_and63 (v2_12 + 1); rw [← ex_14] at fx_14
      refine lv_istore_n (lv' := [(3, .int x_14), (2, .int 4), (0, .ref h0), (1, .ref p0)]) hx hb dX8_replyCells_20 rfl hl (by decide) rfl (fun ls hl => ?_)
      refine lv_aload_n hx hb dX8_replyCells_21 rfl (lv_at hl 2 rfl) ?_
      refine va_get (D := DG E) (ci := 8) (v := .ref v2_4) (C := RX8) (T := TX8) (N := 9) hx hb hts iw_X8 hown hK.1 (va_one ha_4) 0 rfl rfl 2 (by decide) (hts _ fl_X8_30) (fun _ h9 => h9) rfl dX8_replyCells_22 ?_
      refine lv_aload_n hx hb dX8_replyCells_25 rfl (lv_at hl 2 rfl) ?_
      refine va_get (D := DG E) (ci := 8) (v := .int v0_4) (C := RX8) (T := TX8) (N := 9) hx hb hts iw_X8 hown hK.1 (va_one ha_4) 0 rfl rfl 0 (by decide) (hts _ fl_X8_22) (fun _ h9 => h9) rfl dX8_replyCells_26 ?_
      refine lv_iconst (v := 4) hx hb dX8_replyCells_29 (by decide) ?_
      refine lv_iload_n hx hb dX8_replyCells_30 rfl (lv_at hl 0 rfl) ?_
      obtain ⟨v0_15, v1_15, v2_15, v3_15, ha_15, hg0_15, hb1_15, hg2_15, hg3_15⟩ := tr_4 hT hg2_4
      refine va_callr (rnV (fun H => TH E (T1 E) G [] H) (As := [.int v0_4, .int 4, .int x_14]) (rest := []) ⟨hx, hb, hml, hown, hts⟩ (t_X0_carry l E z0 G hGz v2_4 v0_4 4 x_14 hg2_4 (by have := i_4; first | omega | decide)) (cwV 3 hts (gdV ml_X8_167 im_X0_carry se_X0_X0_carry in_X0 co_X0_carry rfl) rfl rfl rfl (by decide +kernel) ⟨Nat.le_of_ble_eq_true rfl, Nat.le_of_ble_eq_true rfl⟩) hT (fun U hU hW => hK.go hW hS hAz hU) (va_recv hK.1 (va_one ha_15) (ci := 0) (q0 := 0) rfl rfl) rfl rfl hl.1 rfl (lv_room (Nat.le_of_ble_eq_true rfl)) dX8_replyCells_31 ⟨Nat.le_of_ble_eq_true rfl, Nat.le_of_ble_eq_true rfl⟩) hS (fun q _ h => mL (L' := [4, 31]) (L := [4, 31, 32]) (by decide) h) (fun q h => mL (L' := [4, 31]) (L := [4, 31, 32]) (by decide) h) (fun _ r_16 t H locs ht hvm hwr_16 hB hz hk hS => ?_)
      have hT : TH E (T1 E) G [] H := by have hB := hB.2; rw [ht] at hB; exact hB
      have grr_16 : G r_16 = 31 := hB.1
      have ha_4 := ha_4.kept (hk _ ha_4.lt (nL hG (by decide)))
      refine lv_aload_n hx hb dX8_replyCells_34 rfl (lv_at hl 2 rfl) ?_
      refine va_get (D := DG E) (ci := 8) (v := .ref v1_4) (C := RX8) (T := TX8) (N := 9) hx hb hts iw_X8 hown hK.1 (va_one ha_4) 0 rfl rfl 1 (by decide) (hts _ fl_X8_26) (fun _ h9 => h9) rfl dX8_replyCells_35 ?_
      refine lv_aload_n hx hb dX8_replyCells_38 rfl (lv_at hl 3 rfl) ?_
      obtain ⟨v0_17, v1_17, v2_17, v3_17, v4_17, v5_17, v6_17, v7_17, ha_17, hb0_17, hb3_17, hg7_17⟩ := tr_31 hT hG0
      refine va_get (D := DG E) (ci := 2) (v := .int v5_17) (C := RX2) (T := TX2) (N := 8) hx hb hts iw_X2 hown hK.1 (va_one ha_17) 0 rfl rfl 5 (by decide) (hts _ fl_X8_151) (fun _ h9 => h9) rfl dX8_replyCells_39 ?_
      refine lv_iload_n hx hb dX8_replyCells_42 rfl (lv_at hl 1 rfl) ?_
      refine lv_iadd hx hb dX8_replyCells_43 ?_
      refine lv_topi (fun x_18 ex_18 => ?_)
      refine lv_aload_n hx hb dX8_replyCells_44 rfl (lv_at hl 3 rfl) ?_
      refine va_get (D := DG E) (ci := 2) (v := .int v3_17) (C := RX2) (T := TX2) (N := 8) hx hb hts iw_X2 hown hK.1 (va_one ha_17) 0 rfl rfl 3 (by decide) (hts _ fl_X8_128) (fun _ h9 => h9) rfl dX8_replyCells_45 ?_
      refine lv_iload_n hx hb dX8_replyCells_48 rfl (lv_at hl 1 rfl) ?_
      refine lv_isub hx hb dX8_replyCells_49 ?_
      refine lv_topi (fun x_19 ex_19 => ?_)
      obtain ⟨v0_20, v1_20, v2_20, v3_20, v4_20, v5_20, v6_20, v7_20, ha_20, hb0_20, hb3_20, hg7_20⟩ := tr_31 hT grr_16
      refine va_callv (rnV (fun H => TH E (T1 E) G [] H) (As := [.ref v1_4, .int x_18, .int x_19]) (rest := []) ⟨hx, hb, hml, hown, hts⟩ (t_X2_load l E z0 G hGz r_16 v1_4 x_18 x_19 grr_16 hg1_4) (cwV 3 hts (gdV ml_X8_173 im_X2_load se_X2_X2_load in_X2 co_X2_load rfl) rfl rfl rfl (by decide +kernel) ⟨Nat.le_of_ble_eq_true rfl, Nat.le_of_ble_eq_true rfl⟩) hT (fun U hU hW => hK.go hW hS hAz hU) (va_recv hK.1 (va_one ha_20) (ci := 2) (q0 := 0) rfl rfl) rfl rfl hl.1 rfl (lv_room (Nat.le_of_ble_eq_true rfl)) dX8_replyCells_50 ⟨Nat.le_of_ble_eq_true rfl, Nat.le_of_ble_eq_true rfl⟩) hS (fun q _ h => mL (L' := [31, 32]) (L := [4, 31, 32]) (by decide) h) (fun q h => mL (L' := [31, 32]) (L := [4, 31, 32]) (by decide) h) (fun _ t H locs ht hvm hwr_21 hB hz hk hS => ?_)
      have hT : TH E (T1 E) G [] H := by rw [ht] at hB; exact hB
      have ha_4 := ha_4.kept (hk _ ha_4.lt (nL hG (by decide)))
      refine lv_iinc (v := 8) (lv' := [(2, .int 8), (3, .int x_14), (0, .ref h0), (1, .ref p0)]) hx hb dX8_replyCells_53 hl (k := 1) rfl (by decide) (by decide) rfl (fun ls hl => ?_)
      refine lv_goto (tgt := 2) hx hb dX8_replyCells_56 (by decide) ?_
      refine lv_iload_n hx hb dX8_replyCells_2 rfl (lv_at hl 0 rfl) ?_
      refine lv_aload_n hx hb dX8_replyCells_3 rfl (lv_at hl 3 rfl) ?_
      obtain ⟨v0_22, v1_22, v2_22, v3_22, v4_22, v5_22, v6_22, v7_22, ha_22, hb0_22, hb3_22, hg7_22⟩ := tr_31 hT hG0
      refine va_get (D := DG E) (ci := 2) (v := .int v3_22) (C := RX2) (T := TX2) (N := 8) hx hb hts iw_X2 hown hK.1 (va_one ha_22) 0 rfl rfl 3 (by decide) (hts _ fl_X8_128) (fun _ h9 => h9) rfl dX8_replyCells_4 ?_
      refine lv_icmp_ge (tgt := 59) hx hb dX8_replyCells_7 (by decide) (fun c_23 => ?_) (fun c_23 => ?_)
      · simp only [lt_I, le_I, eq_I, i_0, i_1, i_2, i_3, i_4, i_5, i_6, i_7, i_8, i_10, i_12, i_16, i_20, i_23, i_24, i_31, i_32, i_63, i_64, i_m1] at c_23
        exact W.vret hx hb hr (fun t ht hW => ⟨⟨(), rfl, trivial, (by show TH E (T1 E) G [] t.heap; rw [ht]; exact hT)⟩, hS.F ht⟩) hS.2.2 dX8_replyCells_59
      · simp only [lt_I, le_I, eq_I, i_0, i_1, i_2, i_3, i_4, i_5, i_6, i_7, i_8, i_10, i_12, i_16, i_20, i_23, i_24, i_31, i_32, i_63, i_64, i_m1] at c_23
        refine lv_aload_n hx hb dX8_replyCells_10 rfl (lv_at hl 3 rfl) ?_
        refine va_get (D := DG E) (ci := 2) (v := .int v2_22) (C := RX2) (T := TX2) (N := 8) hx hb hts iw_X2 hown hK.1 (va_one ha_22) 0 rfl rfl 2 (by decide) (hts _ fl_X8_59) (fun _ h9 => h9) rfl dX8_replyCells_11 ?_
        refine lv_iload_n hx hb dX8_replyCells_14 rfl (lv_at hl 0 rfl) ?_
        refine lv_iconst (v := 4) hx hb dX8_replyCells_15 (by decide) ?_
        refine lv_idiv hx hb dX8_replyCells_16 (by decide) ?_
        refine W.eq (g2 := F0 m 17 ls [.int 2, .int v2_22]) (by rfl) ?_
        refine rnSN (As := [.int v2_22, .int 2]) (rest := []) ⟨hx, hb, hml, hown, hts⟩ (c_X9_after l v2_22 2) ⟨va_cnB (host := RX9) 2 hts (gd1 co_X9_after rfl) rfl rfl rfl (hK.2.1 _ mn_X8_164 #[]) (hts _ in_X9) (by decide +kernel) ⟨Nat.le_of_ble_eq_true rfl, Nat.le_of_ble_eq_true rfl⟩, hts _ st_X9_after, trivial⟩ rfl rfl hl.1 rfl (lv_room (Nat.le_of_ble_eq_true rfl)) dX8_replyCells_17 ⟨Nat.le_of_ble_eq_true rfl, Nat.le_of_ble_eq_true rfl⟩ ?_
        refine W.eq (g2 := F0 m 20 ls [.int ((v2_22 + 2) &&& 63)]) (by rfl) ?_
        refine lv_topi (fun x_24 ex_24 => ?_)
        have fx_24 := s_and63 (v2_22 + 2); rw [← ex_24] at fx_24
        refine lv_istore_n (lv' := [(3, .int x_24), (2, .int 8), (0, .ref h0), (1, .ref p0)]) hx hb dX8_replyCells_20 rfl hl (by decide) rfl (fun ls hl => ?_)
        refine lv_aload_n hx hb dX8_replyCells_21 rfl (lv_at hl 2 rfl) ?_
        refine va_get (D := DG E) (ci := 8) (v := .ref v2_4) (C := RX8) (T := TX8) (N := 9) hx hb hts iw_X8 hown hK.1 (va_one ha_4) 0 rfl rfl 2 (by decide) (hts _ fl_X8_30) (fun _ h9 => h9) rfl dX8_replyCells_22 ?_
        refine lv_aload_n hx hb dX8_replyCells_25 rfl (lv_at hl 2 rfl) ?_
        refine va_get (D := DG E) (ci := 8) (v := .int v0_4) (C := RX8) (T := TX8) (N := 9) hx hb hts iw_X8 hown hK.1 (va_one ha_4) 0 rfl rfl 0 (by decide) (hts _ fl_X8_22) (fun _ h9 => h9) rfl dX8_replyCells_26 ?_
        refine lv_iconst (v := 4) hx hb dX8_replyCells_29 (by decide) ?_
        refine lv_iload_n hx hb dX8_replyCells_30 rfl (lv_at hl 0 rfl) ?_
        obtain ⟨v0_25, v1_25, v2_25, v3_25, ha_25, hg0_25, hb1_25, hg2_25, hg3_25⟩ := tr_4 hT hg2_4
        refine va_callr (rnV (fun H => TH E (T1 E) G [] H) (As := [.int v0_4, .int 4, .int x_24]) (rest := []) ⟨hx, hb, hml, hown, hts⟩ (t_X0_carry l E z0 G hGz v2_4 v0_4 4 x_24 hg2_4 (by have := i_4; first | omega | decide)) (cwV 3 hts (gdV ml_X8_167 im_X0_carry se_X0_X0_carry in_X0 co_X0_carry rfl) rfl rfl rfl (by decide +kernel) ⟨Nat.le_of_ble_eq_true rfl, Nat.le_of_ble_eq_true rfl⟩) hT (fun U hU hW => hK.go hW hS hAz hU) (va_recv hK.1 (va_one ha_25) (ci := 0) (q0 := 0) rfl rfl) rfl rfl hl.1 rfl (lv_room (Nat.le_of_ble_eq_true rfl)) dX8_replyCells_31 ⟨Nat.le_of_ble_eq_true rfl, Nat.le_of_ble_eq_true rfl⟩) hS (fun q _ h => mL (L' := [4, 31]) (L := [4, 31, 32]) (by decide) h) (fun q h => mL (L' := [4, 31]) (L := [4, 31, 32]) (by decide) h) (fun _ r_26 t H locs ht hvm hwr_26 hB hz hk hS => ?_)
        have hT : TH E (T1 E) G [] H := by have hB := hB.2; rw [ht] at hB; exact hB
        have grr_26 : G r_26 = 31 := hB.1
        have ha_4 := ha_4.kept (hk _ ha_4.lt (nL hG (by decide)))
        refine lv_aload_n hx hb dX8_replyCells_34 rfl (lv_at hl 2 rfl) ?_
        refine va_get (D := DG E) (ci := 8) (v := .ref v1_4) (C := RX8) (T := TX8) (N := 9) hx hb hts iw_X8 hown hK.1 (va_one ha_4) 0 rfl rfl 1 (by decide) (hts _ fl_X8_26) (fun _ h9 => h9) rfl dX8_replyCells_35 ?_
        refine lv_aload_n hx hb dX8_replyCells_38 rfl (lv_at hl 3 rfl) ?_
        obtain ⟨v0_27, v1_27, v2_27, v3_27, v4_27, v5_27, v6_27, v7_27, ha_27, hb0_27, hb3_27, hg7_27⟩ := tr_31 hT hG0
        refine va_get (D := DG E) (ci := 2) (v := .int v5_27) (C := RX2) (T := TX2) (N := 8) hx hb hts iw_X2 hown hK.1 (va_one ha_27) 0 rfl rfl 5 (by decide) (hts _ fl_X8_151) (fun _ h9 => h9) rfl dX8_replyCells_39 ?_
        refine lv_iload_n hx hb dX8_replyCells_42 rfl (lv_at hl 1 rfl) ?_
        refine lv_iadd hx hb dX8_replyCells_43 ?_
        refine lv_topi (fun x_28 ex_28 => ?_)
        refine lv_aload_n hx hb dX8_replyCells_44 rfl (lv_at hl 3 rfl) ?_
        refine va_get (D := DG E) (ci := 2) (v := .int v3_27) (C := RX2) (T := TX2) (N := 8) hx hb hts iw_X2 hown hK.1 (va_one ha_27) 0 rfl rfl 3 (by decide) (hts _ fl_X8_128) (fun _ h9 => h9) rfl dX8_replyCells_45 ?_
        refine lv_iload_n hx hb dX8_replyCells_48 rfl (lv_at hl 1 rfl) ?_
        refine lv_isub hx hb dX8_replyCells_49 ?_
        refine lv_topi (fun x_29 ex_29 => ?_)
        obtain ⟨v0_30, v1_30, v2_30, v3_30, v4_30, v5_30, v6_30, v7_30, ha_30, hb0_30, hb3_30, hg7_30⟩ := tr_31 hT grr_26
        refine va_callv (rnV (fun H => TH E (T1 E) G [] H) (As := [.ref v1_4, .int x_28, .int x_29]) (rest := []) ⟨hx, hb, hml, hown, hts⟩ (t_X2_load l E z0 G hGz r_26 v1_4 x_28 x_29 grr_26 hg1_4) (cwV 3 hts (gdV ml_X8_173 im_X2_load se_X2_X2_load in_X2 co_X2_load rfl) rfl rfl rfl (by decide +kernel) ⟨Nat.le_of_ble_eq_true rfl, Nat.le_of_ble_eq_true rfl⟩) hT (fun U hU hW => hK.go hW hS hAz hU) (va_recv hK.1 (va_one ha_30) (ci := 2) (q0 := 0) rfl rfl) rfl rfl hl.1 rfl (lv_room (Nat.le_of_ble_eq_true rfl)) dX8_replyCells_50 ⟨Nat.le_of_ble_eq_true rfl, Nat.le_of_ble_eq_true rfl⟩) hS (fun q _ h => mL (L' := [31, 32]) (L := [4, 31, 32]) (by decide) h) (fun q h => mL (L' := [31, 32]) (L := [4, 31, 32]) (by decide) h) (fun _ t H locs ht hvm hwr_31 hB hz hk hS => ?_)
        have hT : TH E (T1 E) G [] H := by rw [ht] at hB; exact hB
        have ha_4 := ha_4.kept (hk _ ha_4.lt (nL hG (by decide)))
        refine lv_iinc (v := 12) (lv' := [(2, .int 12), (3, .int x_24), (0, .ref h0), (1, .ref p0)]) hx hb dX8_replyCells_53 hl (k := 1) rfl (by decide) (by decide) rfl (fun ls hl => ?_)
        refine lv_goto (tgt := 2) hx hb dX8_replyCells_56 (by decide) ?_
        refine lv_iload_n hx hb dX8_replyCells_2 rfl (lv_at hl 0 rfl) ?_
        refine lv_aload_n hx hb dX8_replyCells_3 rfl (lv_at hl 3 rfl) ?_
        obtain ⟨v0_32, v1_32, v2_32, v3_32, v4_32, v5_32, v6_32, v7_32, ha_32, hb0_32, hb3_32, hg7_32⟩ := tr_31 hT hG0
        refine va_get (D := DG E) (ci := 2) (v := .int v3_32) (C := RX2) (T := TX2) (N := 8) hx hb hts iw_X2 hown hK.1 (va_one ha_32) 0 rfl rfl 3 (by decide) (hts _ fl_X8_128) (fun _ h9 => h9) rfl dX8_replyCells_4 ?_
        refine lv_icmp_ge (tgt := 59) hx hb dX8_replyCells_7 (by decide) (fun c_33 => ?_) (fun c_33 => by exfalso; simp only [lt_I, le_I, eq_I, i_0, i_1, i_2, i_3, i_4, i_5, i_6, i_7, i_8, i_10, i_12, i_16, i_20, i_23, i_24, i_31, i_32, i_63, i_64, i_m1] at c_33; omega)
        simp only [lt_I, le_I, eq_I, i_0, i_1, i_2, i_3, i_4, i_5, i_6, i_7, i_8, i_10, i_12, i_16, i_20, i_23, i_24, i_31, i_32, i_63, i_64, i_m1] at c_33
        exact W.vret hx hb hr (fun t ht hW => ⟨⟨(), rfl, trivial, (by show TH E (T1 E) G [] t.heap; rw [ht]; exact hT)⟩, hS.F ht⟩) hS.2.2 dX8_replyCells_59
theorem dX8_keptAdd_0 : decode cX8_keptAdd 0 = .ok (.iconst 0, 1) := by decide +kernel
theorem dX8_keptAdd_1 : decode cX8_keptAdd 1 = .ok (.istore_n 2, 1) := by decide +kernel
theorem dX8_keptAdd_2 : decode cX8_keptAdd 2 = .ok (.iload_n 2, 1) := by decide +kernel
theorem dX8_keptAdd_3 : decode cX8_keptAdd 3 = .ok (.iconst 2, 1) := by decide +kernel
theorem dX8_keptAdd_4 : decode cX8_keptAdd 4 = .ok (.if_icmp .ge 21, 3) := by decide +kernel
theorem dX8_keptAdd_7 : decode cX8_keptAdd 7 = .ok (.aload_n 0, 1) := by decide +kernel
theorem dX8_keptAdd_8 : decode cX8_keptAdd 8 = .ok (.getfield 9, 3) := by decide +kernel
theorem dX8_keptAdd_11 : decode cX8_keptAdd 11 = .ok (.iload_n 2, 1) := by decide +kernel
theorem dX8_keptAdd_12 : decode cX8_keptAdd 12 = .ok (.iaload, 1) := by decide +kernel
theorem dX8_keptAdd_13 : decode cX8_keptAdd 13 = .ok (.iload_n 1, 1) := by decide +kernel
theorem dX8_keptAdd_14 : decode cX8_keptAdd 14 = .ok (.if_icmp .ne 5, 3) := by decide +kernel
theorem dX8_keptAdd_17 : decode cX8_keptAdd 17 = .ok (.iload_n 2, 1) := by decide +kernel
theorem dX8_keptAdd_18 : decode cX8_keptAdd 18 = .ok (.ireturn, 1) := by decide +kernel
theorem dX8_keptAdd_19 : decode cX8_keptAdd 19 = .ok (.iinc 2 1, 3) := by decide +kernel
theorem dX8_keptAdd_22 : decode cX8_keptAdd 22 = .ok (.goto (-20), 3) := by decide +kernel
theorem dX8_keptAdd_25 : decode cX8_keptAdd 25 = .ok (.iconst (-1), 1) := by decide +kernel
theorem dX8_keptAdd_26 : decode cX8_keptAdd 26 = .ok (.ireturn, 1) := by decide +kernel
set_option maxHeartbeats 8000000 in
set_option maxRecDepth 100000 in
theorem t_X8_keptAdd (l : Launch) (E : EE) (z0 : Nat) (G : Nat → Nat) (hGz : ∀ q, G q ≠ 0 → z0 ≤ q) (h0 : Nat) (p0 : Int32) (hG : G h0 = 10) : Met l yX8_keptAdd [Cond.code yX8_keptAdd cX8_keptAdd 3 (some .int)] ({ frames := 0, cells := 0, slots := 0, locals := 0 } : Room) (va_Pc [.ref h0, .int p0] (fun U => (TH E (T1 E) G [] U.heap) ∧ KS E z0 U)) (va_Qi (fun (r : Int32) (_ : Unit) => -1 ≤ r.toInt ∧ r.toInt ≤ 1) (fun _ t => True) (fun _ : Nat => False)) 0 0 (fun _ : Nat => False) := by
  refine Met.ofW (cc := cX8_keptAdd) (maxL := 3) (ret := (some .int)) (by decide) rfl ?_
  intro p e s m args below meth c s₁ B hml hv
  obtain ⟨rfl, hT, hK⟩ := hv
  have hx := B.exec
  have hb := B.bytes
  have hr := B.returns
  have hts : ∀ w ∈ TS, w.before ([.ref h0, .int p0] : List Value).toArray s = true := fun w hw => hK.2.1 w hw _
  have hown : s.vm.findClass RX8 = some m.cls := findClass_of_methodNamed B.named
  have hlocks := B.notSynchronized
  have hS : va_S (fun _ : Nat => False) s.heap s.heap [] := va_S.rf
  have hAz : ∀ q, (fun _ : Nat => False) q → z0 ≤ q := fun _ h => h.elim
  have hl := lv_entry ([.ref h0, .int p0]) (n := 3) (Nat.le_of_ble_eq_true rfl)
  rw [lg_entry_eq]
  generalize (lg_sl ([.ref h0, .int p0]) ++ List.replicate (3 - (lg_sl ([.ref h0, .int p0])).length) Slot.unset).toArray = ls at hl ⊢
  have hl : lv_has ls 3 [(0, .ref h0), (1, .int p0)] := hl
  refine lv_iconst (v := 0) hx hb dX8_keptAdd_0 (by decide) ?_
  refine lv_istore_n (lv' := [(2, .int 0), (0, .ref h0), (1, .int p0)]) hx hb dX8_keptAdd_1 rfl hl (by decide) rfl (fun ls hl => ?_)
  refine lv_iload_n hx hb dX8_keptAdd_2 rfl (lv_at hl 0 rfl) ?_
  refine lv_iconst (v := 2) hx hb dX8_keptAdd_3 (by decide) ?_
  refine lv_icmp_ge (tgt := 25) hx hb dX8_keptAdd_4 (by decide) (fun c_1 => absurd c_1 (by decide)) (fun c_1 => ?_)
  refine lv_aload_n hx hb dX8_keptAdd_7 rfl (lv_at hl 1 rfl) ?_
  obtain ⟨v0_2, v1_2, v2_2, v3_2, v4_2, v5_2, v6_2, v7_2, v8_2, ha_2, hb0_2, hg1_2, hg2_2, hg3_2, hg7_2, hg8_2⟩ := tr_10 hT hG
  refine va_get (D := DG E) (ci := 8) (v := .ref v7_2) (C := RX8) (T := TX8) (N := 9) hx hb hts iw_X8 hown hK.1 (va_one ha_2) 0 rfl rfl 7 (by decide) (hts _ fl_X8_9) (fun _ h9 => h9) rfl dX8_keptAdd_8 ?_
  refine lv_iload_n hx hb dX8_keptAdd_11 rfl (lv_at hl 0 rfl) ?_
  obtain ⟨f_3, ha_3⟩ := tr_16 hT hg7_2
  refine va_iald (D := DG E) hx hb hK.1 (va_one ha_3) 0 0 rfl rfl (show vp_in (0) 2 from vp_in_iff.mpr ⟨by decide, by decide⟩) dX8_keptAdd_12 ?_
  refine W.eq (g2 := F0 m 13 ls [.int (f_3 (0 : Int32).toNatClampNeg)]) (by rfl) ?_
  refine lv_topi (fun x_4 ex_4 => ?_)
  refine lv_iload_n hx hb dX8_keptAdd_13 rfl (lv_at hl 2 rfl) ?_
  refine lv_icmp_ne (tgt := 19) hx hb dX8_keptAdd_14 (by decide) (fun c_5 => ?_) (fun c_5 => ?_)
  · simp only [lt_I, le_I, eq_I, i_0, i_1, i_2, i_3, i_4, i_5, i_6, i_7, i_8, i_10, i_12, i_16, i_20, i_23, i_24, i_31, i_32, i_63, i_64, i_m1] at c_5
    refine lv_iinc (v := 1) (lv' := [(2, .int 1), (0, .ref h0), (1, .int p0)]) hx hb dX8_keptAdd_19 hl (k := 0) rfl (by decide) (by decide) rfl (fun ls hl => ?_)
    refine lv_goto (tgt := 2) hx hb dX8_keptAdd_22 (by decide) ?_
    refine lv_iload_n hx hb dX8_keptAdd_2 rfl (lv_at hl 0 rfl) ?_
    refine lv_iconst (v := 2) hx hb dX8_keptAdd_3 (by decide) ?_
    refine lv_icmp_ge (tgt := 25) hx hb dX8_keptAdd_4 (by decide) (fun c_6 => absurd c_6 (by decide)) (fun c_6 => ?_)
    refine lv_aload_n hx hb dX8_keptAdd_7 rfl (lv_at hl 1 rfl) ?_
    refine va_get (D := DG E) (ci := 8) (v := .ref v7_2) (C := RX8) (T := TX8) (N := 9) hx hb hts iw_X8 hown hK.1 (va_one ha_2) 0 rfl rfl 7 (by decide) (hts _ fl_X8_9) (fun _ h9 => h9) rfl dX8_keptAdd_8 ?_
    refine lv_iload_n hx hb dX8_keptAdd_11 rfl (lv_at hl 0 rfl) ?_
    refine va_iald (D := DG E) hx hb hK.1 (va_one ha_3) 0 0 rfl rfl (show vp_in (1) 2 from vp_in_iff.mpr ⟨by decide, by decide⟩) dX8_keptAdd_12 ?_
    refine W.eq (g2 := F0 m 13 ls [.int (f_3 (1 : Int32).toNatClampNeg)]) (by rfl) ?_
    refine lv_topi (fun x_7 ex_7 => ?_)
    refine lv_iload_n hx hb dX8_keptAdd_13 rfl (lv_at hl 2 rfl) ?_
    refine lv_icmp_ne (tgt := 19) hx hb dX8_keptAdd_14 (by decide) (fun c_8 => ?_) (fun c_8 => ?_)
    · simp only [lt_I, le_I, eq_I, i_0, i_1, i_2, i_3, i_4, i_5, i_6, i_7, i_8, i_10, i_12, i_16, i_20, i_23, i_24, i_31, i_32, i_63, i_64, i_m1] at c_8
      refine lv_iinc (v := 2) (lv' := [(2, .int 2), (0, .ref h0), (1, .int p0)]) hx hb dX8_keptAdd_19 hl (k := 0) rfl (by decide) (by decide) rfl (fun ls hl => ?_)
      refine lv_goto (tgt := 2) hx hb dX8_keptAdd_22 (by decide) ?_
      refine lv_iload_n hx hb dX8_keptAdd_2 rfl (lv_at hl 0 rfl) ?_
      refine lv_iconst (v := 2) hx hb dX8_keptAdd_3 (by decide) ?_
      refine lv_icmp_ge (tgt := 25) hx hb dX8_keptAdd_4 (by decide) (fun c_9 => ?_) (fun c_9 => absurd c_9 (by decide))
      refine lv_iconst (v := (-1)) hx hb dX8_keptAdd_25 (by decide) ?_
      exact W.iret (v := (-1)) hx hb hr (fun t ht hW => ⟨⟨(-1), (), rfl, (by have h9 := i_m1; omega), trivial⟩, hS.F ht⟩) hS.2.2 dX8_keptAdd_26
    · simp only [lt_I, le_I, eq_I, i_0, i_1, i_2, i_3, i_4, i_5, i_6, i_7, i_8, i_10, i_12, i_16, i_20, i_23, i_24, i_31, i_32, i_63, i_64, i_m1] at c_8
      refine lv_iload_n hx hb dX8_keptAdd_17 rfl (lv_at hl 0 rfl) ?_
      exact W.iret (v := 1) hx hb hr (fun t ht hW => ⟨⟨1, (), rfl, (by have h9 := i_1; omega), trivial⟩, hS.F ht⟩) hS.2.2 dX8_keptAdd_18
  · simp only [lt_I, le_I, eq_I, i_0, i_1, i_2, i_3, i_4, i_5, i_6, i_7, i_8, i_10, i_12, i_16, i_20, i_23, i_24, i_31, i_32, i_63, i_64, i_m1] at c_5
    refine lv_iload_n hx hb dX8_keptAdd_17 rfl (lv_at hl 0 rfl) ?_
    exact W.iret (v := 0) hx hb hr (fun t ht hW => ⟨⟨0, (), rfl, (by have h9 := i_0; omega), trivial⟩, hS.F ht⟩) hS.2.2 dX8_keptAdd_18
theorem dX8_advance_0 : decode cX8_advance 0 = .ok (.aload_n 0, 1) := by decide +kernel
theorem dX8_advance_1 : decode cX8_advance 1 = .ok (.aload_n 0, 1) := by decide +kernel
theorem dX8_advance_2 : decode cX8_advance 2 = .ok (.getfield 49, 3) := by decide +kernel
theorem dX8_advance_5 : decode cX8_advance 5 = .ok (.iload_n 1, 1) := by decide +kernel
theorem dX8_advance_6 : decode cX8_advance 6 = .ok (.invokestatic 164, 3) := by decide +kernel
theorem dX8_advance_9 : decode cX8_advance 9 = .ok (.putfield 49, 3) := by decide +kernel
theorem dX8_advance_12 : decode cX8_advance 12 = .ok (.aload_n 0, 1) := by decide +kernel
theorem dX8_advance_13 : decode cX8_advance 13 = .ok (.iconst 0, 1) := by decide +kernel
theorem dX8_advance_14 : decode cX8_advance 14 = .ok (.putfield 56, 3) := by decide +kernel
theorem dX8_advance_17 : decode cX8_advance 17 = .ok (.return_, 1) := by decide +kernel
set_option maxHeartbeats 8000000 in
set_option maxRecDepth 100000 in
theorem t_X8_advance (l : Launch) (E : EE) (z0 : Nat) (G : Nat → Nat) (hGz : ∀ q, G q ≠ 0 → z0 ≤ q) (h0 : Nat) (p0 : Int32) (hG : G h0 = 10) : Met l yX8_advance [Cond.code yX8_advance cX8_advance 2 none] ({ frames := 1, cells := 0, slots := 0, locals := 21 } : Room) (va_Pc [.ref h0, .int p0] (fun U => (TH E (T1 E) G [] U.heap) ∧ KS E z0 U)) (va_Qv (fun (_ : Unit) => True) (fun _ t => TH E (T1 E) G [] t.heap) (fun q : Nat => G q ∈ ([10] : List Nat))) 0 0 (fun q : Nat => G q ∈ ([10] : List Nat)) := by
  refine Met.ofW (cc := cX8_advance) (maxL := 2) (ret := none) (by decide) rfl ?_
  intro p e s m args below meth c s₁ B hml hv
  obtain ⟨rfl, hT, hK⟩ := hv
  have hx := B.exec
  have hb := B.bytes
  have hr := B.returns
  have hts : ∀ w ∈ TS, w.before ([.ref h0, .int p0] : List Value).toArray s = true := fun w hw => hK.2.1 w hw _
  have hown : s.vm.findClass RX8 = some m.cls := findClass_of_methodNamed B.named
  have hlocks := B.notSynchronized
  have hS : va_S (fun q : Nat => G q ∈ ([10] : List Nat)) s.heap s.heap [] := va_S.rf
  have hAz : ∀ q, (fun q : Nat => G q ∈ ([10] : List Nat)) q → z0 ≤ q := zL hGz (by decide)
  have hl := lv_entry ([.ref h0, .int p0]) (n := 2) (Nat.le_of_ble_eq_true rfl)
  rw [lg_entry_eq]
  generalize (lg_sl ([.ref h0, .int p0]) ++ List.replicate (2 - (lg_sl ([.ref h0, .int p0])).length) Slot.unset).toArray = ls at hl ⊢
  have hl : lv_has ls 2 [(0, .ref h0), (1, .int p0)] := hl
  refine lv_aload_n hx hb dX8_advance_0 rfl (lv_at hl 0 rfl) ?_
  refine lv_aload_n hx hb dX8_advance_1 rfl (lv_at hl 0 rfl) ?_
  obtain ⟨v0_1, v1_1, v2_1, v3_1, v4_1, v5_1, v6_1, v7_1, v8_1, ha_1, hb0_1, hg1_1, hg2_1, hg3_1, hg7_1, hg8_1⟩ := tr_10 hT hG
  refine va_get (D := DG E) (ci := 8) (v := .int v4_1) (C := RX8) (T := TX8) (N := 9) hx hb hts iw_X8 hown hK.1 (va_one ha_1) 0 rfl rfl 4 (by decide) (hts _ fl_X8_49) (fun _ h9 => h9) rfl dX8_advance_2 ?_
  refine lv_iload_n hx hb dX8_advance_5 rfl (lv_at hl 1 rfl) ?_
  refine rnSN (As := [.int v4_1, .int p0]) (rest := [.ref h0]) ⟨hx, hb, hml, hown, hts⟩ (c_X9_after l v4_1 p0) ⟨va_cnB (host := RX9) 2 hts (gd1 co_X9_after rfl) rfl rfl rfl (hK.2.1 _ mn_X8_164 #[]) (hts _ in_X9) (by decide +kernel) ⟨Nat.le_of_ble_eq_true rfl, Nat.le_of_ble_eq_true rfl⟩, hts _ st_X9_after, trivial⟩ rfl rfl hl.1 rfl (lv_room (Nat.le_of_ble_eq_true rfl)) dX8_advance_6 ⟨Nat.le_of_ble_eq_true rfl, Nat.le_of_ble_eq_true rfl⟩ ?_
  refine W.eq (g2 := F0 m 9 ls [.int ((v4_1 + p0) &&& 63), .ref h0]) (by rfl) ?_
  refine lv_topi (fun x_2 ex_2 => ?_)
  have fx_2 := s_and63 (v4_1 + p0); rw [← ex_2] at fx_2
  refine rr_put (D := DG E) (ci := 8) (v := .int x_2) (ty := .int) (C := RX8) (T := TX8) (N := 9) hx hb hts iw_X8 tyX8 tyX8_ok nmX8 hown hK.1 ha_1 hS (by show G h0 ∈ ([10] : List Nat); rw [hG]; decide) rfl 4 (by decide) (hts _ fl_X8_49) (fun _ h9 => h9) rfl (by decide +kernel) rfl rfl (Nat.le_of_ble_eq_true rfl) dX8_advance_9 (fun H locs hn ho hz hS => ?_)
  have hr_3 : va_at (DG E) vwCl (h0, .inr (8, [.int v0_1, .ref v1_1, .ref v2_1, .ref v3_1, .int x_2, .int v5_1, .int v6_1, .ref v7_1, .ref v8_1])) H := hn
  have hT : TH E (T1 E) G [] H := hT.set hG (show T1 E G 10 _ from ⟨v0_1, v1_1, v2_1, v3_1, x_2, v5_1, v6_1, v7_1, v8_1, rfl, (by omega), hg1_1, hg2_1, hg3_1, hg7_1, hg8_1⟩) hr_3 ho
  refine lv_aload_n hx hb dX8_advance_12 rfl (lv_at hl 0 rfl) ?_
  refine lv_iconst (v := 0) hx hb dX8_advance_13 (by decide) ?_
  refine rr_put (D := DG E) (ci := 8) (v := .int 0) (ty := .boolean) (C := RX8) (T := TX8) (N := 9) hx hb hts iw_X8 tyX8 tyX8_ok nmX8 hown hK.1 hr_3 hS (by show G h0 ∈ ([10] : List Nat); rw [hG]; decide) rfl 6 (by decide) (hts _ fl_X8_56) (fun _ h9 => h9) rfl (by decide +kernel) rfl rfl (Nat.le_of_ble_eq_true rfl) dX8_advance_14 (fun H locs hn ho hz hS => ?_)
  have hr_4 : va_at (DG E) vwCl (h0, .inr (8, [.int v0_1, .ref v1_1, .ref v2_1, .ref v3_1, .int x_2, .int v5_1, .int 0, .ref v7_1, .ref v8_1])) H := hn
  have hT : TH E (T1 E) G [] H := hT.set hG (show T1 E G 10 _ from ⟨v0_1, v1_1, v2_1, v3_1, x_2, v5_1, 0, v7_1, v8_1, rfl, (by omega), hg1_1, hg2_1, hg3_1, hg7_1, hg8_1⟩) hr_4 ho
  exact W.vret hx hb hr (fun t ht hW => ⟨⟨(), rfl, trivial, (by show TH E (T1 E) G [] t.heap; rw [ht]; exact hT)⟩, hS.F ht⟩) hS.2.2 dX8_advance_17
theorem dX8_growCell_0 : decode cX8_growCell 0 = .ok (.aload_n 0, 1) := by decide +kernel
theorem dX8_growCell_1 : decode cX8_growCell 1 = .ok (.getfield 26, 3) := by decide +kernel
theorem dX8_growCell_4 : decode cX8_growCell 4 = .ok (.aload_n 1, 1) := by decide +kernel
theorem dX8_growCell_5 : decode cX8_growCell 5 = .ok (.getfield 151, 3) := by decide +kernel
theorem dX8_growCell_8 : decode cX8_growCell 8 = .ok (.invokevirtual 154, 3) := by decide +kernel
theorem dX8_growCell_11 : decode cX8_growCell 11 = .ok (.istore_n 2, 1) := by decide +kernel
theorem dX8_growCell_12 : decode cX8_growCell 12 = .ok (.aload_n 0, 1) := by decide +kernel
theorem dX8_growCell_13 : decode cX8_growCell 13 = .ok (.getfield 26, 3) := by decide +kernel
theorem dX8_growCell_16 : decode cX8_growCell 16 = .ok (.aload_n 1, 1) := by decide +kernel
theorem dX8_growCell_17 : decode cX8_growCell 17 = .ok (.getfield 151, 3) := by decide +kernel
theorem dX8_growCell_20 : decode cX8_growCell 20 = .ok (.iload_n 2, 1) := by decide +kernel
theorem dX8_growCell_21 : decode cX8_growCell 21 = .ok (.aload_n 1, 1) := by decide +kernel
theorem dX8_growCell_22 : decode cX8_growCell 22 = .ok (.getfield 158, 3) := by decide +kernel
theorem dX8_growCell_25 : decode cX8_growCell 25 = .ok (.iadd, 1) := by decide +kernel
theorem dX8_growCell_26 : decode cX8_growCell 26 = .ok (.invokevirtual 161, 3) := by decide +kernel
theorem dX8_growCell_29 : decode cX8_growCell 29 = .ok (.iconst 1, 1) := by decide +kernel
theorem dX8_growCell_30 : decode cX8_growCell 30 = .ok (.istore_n 3, 1) := by decide +kernel
theorem dX8_growCell_31 : decode cX8_growCell 31 = .ok (.iload_n 3, 1) := by decide +kernel
theorem dX8_growCell_32 : decode cX8_growCell 32 = .ok (.ifCond .le 37, 3) := by decide +kernel
theorem dX8_growCell_35 : decode cX8_growCell 35 = .ok (.aload_n 0, 1) := by decide +kernel
theorem dX8_growCell_36 : decode cX8_growCell 36 = .ok (.getfield 9, 3) := by decide +kernel
theorem dX8_growCell_39 : decode cX8_growCell 39 = .ok (.iload_n 3, 1) := by decide +kernel
theorem dX8_growCell_40 : decode cX8_growCell 40 = .ok (.aload_n 0, 1) := by decide +kernel
theorem dX8_growCell_41 : decode cX8_growCell 41 = .ok (.getfield 9, 3) := by decide +kernel
theorem dX8_growCell_44 : decode cX8_growCell 44 = .ok (.iload_n 3, 1) := by decide +kernel
theorem dX8_growCell_45 : decode cX8_growCell 45 = .ok (.iconst 1, 1) := by decide +kernel
theorem dX8_growCell_46 : decode cX8_growCell 46 = .ok (.isub, 1) := by decide +kernel
theorem dX8_growCell_47 : decode cX8_growCell 47 = .ok (.iaload, 1) := by decide +kernel
theorem dX8_growCell_48 : decode cX8_growCell 48 = .ok (.iastore, 1) := by decide +kernel
theorem dX8_growCell_49 : decode cX8_growCell 49 = .ok (.aload_n 0, 1) := by decide +kernel
theorem dX8_growCell_50 : decode cX8_growCell 50 = .ok (.getfield 15, 3) := by decide +kernel
theorem dX8_growCell_53 : decode cX8_growCell 53 = .ok (.iload_n 3, 1) := by decide +kernel
theorem dX8_growCell_54 : decode cX8_growCell 54 = .ok (.aload_n 0, 1) := by decide +kernel
theorem dX8_growCell_55 : decode cX8_growCell 55 = .ok (.getfield 15, 3) := by decide +kernel
theorem dX8_growCell_58 : decode cX8_growCell 58 = .ok (.iload_n 3, 1) := by decide +kernel
theorem dX8_growCell_59 : decode cX8_growCell 59 = .ok (.iconst 1, 1) := by decide +kernel
theorem dX8_growCell_60 : decode cX8_growCell 60 = .ok (.isub, 1) := by decide +kernel
theorem dX8_growCell_61 : decode cX8_growCell 61 = .ok (.iaload, 1) := by decide +kernel
theorem dX8_growCell_62 : decode cX8_growCell 62 = .ok (.iastore, 1) := by decide +kernel
theorem dX8_growCell_63 : decode cX8_growCell 63 = .ok (.iinc 3 (-1), 3) := by decide +kernel
theorem dX8_growCell_66 : decode cX8_growCell 66 = .ok (.goto (-35), 3) := by decide +kernel
theorem dX8_growCell_69 : decode cX8_growCell 69 = .ok (.aload_n 0, 1) := by decide +kernel
theorem dX8_growCell_70 : decode cX8_growCell 70 = .ok (.getfield 9, 3) := by decide +kernel
theorem dX8_growCell_73 : decode cX8_growCell 73 = .ok (.iconst 0, 1) := by decide +kernel
theorem dX8_growCell_74 : decode cX8_growCell 74 = .ok (.aload_n 1, 1) := by decide +kernel
theorem dX8_growCell_75 : decode cX8_growCell 75 = .ok (.getfield 59, 3) := by decide +kernel
theorem dX8_growCell_78 : decode cX8_growCell 78 = .ok (.iastore, 1) := by decide +kernel
theorem dX8_growCell_79 : decode cX8_growCell 79 = .ok (.aload_n 0, 1) := by decide +kernel
theorem dX8_growCell_80 : decode cX8_growCell 80 = .ok (.getfield 15, 3) := by decide +kernel
theorem dX8_growCell_83 : decode cX8_growCell 83 = .ok (.iconst 0, 1) := by decide +kernel
theorem dX8_growCell_84 : decode cX8_growCell 84 = .ok (.iload_n 2, 1) := by decide +kernel
theorem dX8_growCell_85 : decode cX8_growCell 85 = .ok (.iastore, 1) := by decide +kernel
theorem dX8_growCell_86 : decode cX8_growCell 86 = .ok (.iload_n 2, 1) := by decide +kernel
theorem dX8_growCell_87 : decode cX8_growCell 87 = .ok (.ireturn, 1) := by decide +kernel
set_option maxHeartbeats 8000000 in
set_option maxRecDepth 100000 in
theorem t_X8_growCell (l : Launch) (E : EE) (z0 : Nat) (G : Nat → Nat) (hGz : ∀ q, G q ≠ 0 → z0 ≤ q) (h0 : Nat) (p0 : Nat) (hG : G h0 = 10) (hG0 : G p0 = 31) : Met l yX8_growCell [Cond.code yX8_growCell cX8_growCell 4 (some .int)] ({ frames := 2, cells := 0, slots := 0, locals := 42 } : Room) (va_Pc [.ref h0, .ref p0] (fun U => (TH E (T1 E) G [] U.heap) ∧ KS E z0 U)) (va_Qi (fun (r : Int32) (_ : Unit) => True) (fun _ t => TH E (T1 E) G [] t.heap) (fun q : Nat => G q ∈ ([14, 16, 17] : List Nat))) 0 0 (fun q : Nat => G q ∈ ([14, 16, 17] : List Nat)) := by
  refine Met.ofW (cc := cX8_growCell) (maxL := 4) (ret := (some .int)) (by decide) rfl ?_
  intro p e s m args below meth c s₁ B hml hv
  obtain ⟨rfl, hT, hK⟩ := hv
  have hx := B.exec
  have hb := B.bytes
  have hr := B.returns
  have hts : ∀ w ∈ TS, w.before ([.ref h0, .ref p0] : List Value).toArray s = true := fun w hw => hK.2.1 w hw _
  have hown : s.vm.findClass RX8 = some m.cls := findClass_of_methodNamed B.named
  have hlocks := B.notSynchronized
  have hS : va_S (fun q : Nat => G q ∈ ([14, 16, 17] : List Nat)) s.heap s.heap [] := va_S.rf
  have hAz : ∀ q, (fun q : Nat => G q ∈ ([14, 16, 17] : List Nat)) q → z0 ≤ q := zL hGz (by decide)
  have hl := lv_entry ([.ref h0, .ref p0]) (n := 4) (Nat.le_of_ble_eq_true rfl)
  rw [lg_entry_eq]
  generalize (lg_sl ([.ref h0, .ref p0]) ++ List.replicate (4 - (lg_sl ([.ref h0, .ref p0])).length) Slot.unset).toArray = ls at hl ⊢
  have hl : lv_has ls 4 [(0, .ref h0), (1, .ref p0)] := hl
  refine lv_aload_n hx hb dX8_growCell_0 rfl (lv_at hl 0 rfl) ?_
  obtain ⟨v0_1, v1_1, v2_1, v3_1, v4_1, v5_1, v6_1, v7_1, v8_1, ha_1, hb0_1, hg1_1, hg2_1, hg3_1, hg7_1, hg8_1⟩ := tr_10 hT hG
  refine va_get (D := DG E) (ci := 8) (v := .ref v1_1) (C := RX8) (T := TX8) (N := 9) hx hb hts iw_X8 hown hK.1 (va_one ha_1) 0 rfl rfl 1 (by decide) (hts _ fl_X8_26) (fun _ h9 => h9) rfl dX8_growCell_1 ?_
  refine lv_aload_n hx hb dX8_growCell_4 rfl (lv_at hl 1 rfl) ?_
  obtain ⟨v0_2, v1_2, v2_2, v3_2, v4_2, v5_2, v6_2, v7_2, ha_2, hb0_2, hb3_2, hg7_2⟩ := tr_31 hT hG0
  refine va_get (D := DG E) (ci := 2) (v := .int v5_2) (C := RX2) (T := TX2) (N := 8) hx hb hts iw_X2 hown hK.1 (va_one ha_2) 0 rfl rfl 5 (by decide) (hts _ fl_X8_151) (fun _ h9 => h9) rfl dX8_growCell_5 ?_
  obtain ⟨v0_3, v1_3, v2_3, v3_3, v4_3, ha_3, hg0_3, hg1_3, hg2_3, hb3_3, hb4_3⟩ := tr_5 hT hg1_1
  refine va_calli (rnV (fun H => TH E (T1 E) G [] H) (As := [.int v5_2]) (rest := []) ⟨hx, hb, hml, hown, hts⟩ (t_X1_at l E z0 G hGz v1_1 v5_2 hg1_1) (cwV 1 hts (gdV ml_X8_154 im_X1_at se_X1_X1_at in_X1 co_X1_at rfl) rfl rfl rfl (by decide +kernel) ⟨Nat.le_of_ble_eq_true rfl, Nat.le_of_ble_eq_true rfl⟩) hT (fun U hU hW => hK.go hW hS hAz hU) (va_recv hK.1 (va_one ha_3) (ci := 1) (q0 := 0) rfl rfl) rfl rfl hl.1 rfl (lv_room (Nat.le_of_ble_eq_true rfl)) dX8_growCell_8 ⟨Nat.le_of_ble_eq_true rfl, Nat.le_of_ble_eq_true rfl⟩) hS (fun q _ h => h.elim) (fun q h => h.elim) (fun r_4 _ t H locs ht hvm hwr_4 hB hz hk hS => ?_)
  have hT : TH E (T1 E) G [] H := hT.kept (fun q hq => hk q hq (fun h => h))
  have ha_1 := ha_1.kept (hk _ ha_1.lt (fun h => h))
  have ha_2 := ha_2.kept (hk _ ha_2.lt (fun h => h))
  have ha_3 := ha_3.kept (hk _ ha_3.lt (fun h => h))
  refine lv_istore_n (lv' := [(2, .int r_4), (0, .ref h0), (1, .ref p0)]) hx hb dX8_growCell_11 rfl hl (by decide) rfl (fun ls hl => ?_)
  refine lv_aload_n hx hb dX8_growCell_12 rfl (lv_at hl 1 rfl) ?_
  refine va_get (D := DG E) (ci := 8) (v := .ref v1_1) (C := RX8) (T := TX8) (N := 9) hx hb hts iw_X8 hown hK.1 (va_one ha_1) 0 rfl rfl 1 (by decide) (hts _ fl_X8_26) (fun _ h9 => h9) rfl dX8_growCell_13 ?_
  refine lv_aload_n hx hb dX8_growCell_16 rfl (lv_at hl 2 rfl) ?_
  refine va_get (D := DG E) (ci := 2) (v := .int v5_2) (C := RX2) (T := TX2) (N := 8) hx hb hts iw_X2 hown hK.1 (va_one ha_2) 0 rfl rfl 5 (by decide) (hts _ fl_X8_151) (fun _ h9 => h9) rfl dX8_growCell_17 ?_
  refine lv_iload_n hx hb dX8_growCell_20 rfl (lv_at hl 0 rfl) ?_
  refine lv_aload_n hx hb dX8_growCell_21 rfl (lv_at hl 2 rfl) ?_
  refine va_get (D := DG E) (ci := 2) (v := .int v6_2) (C := RX2) (T := TX2) (N := 8) hx hb hts iw_X2 hown hK.1 (va_one ha_2) 0 rfl rfl 6 (by decide) (hts _ fl_X8_158) (fun _ h9 => h9) rfl dX8_growCell_22 ?_
  refine lv_iadd hx hb dX8_growCell_25 ?_
  refine lv_topi (fun x_5 ex_5 => ?_)
  refine va_callv (rnV (fun H => TH E (T1 E) G [] H) (As := [.int v5_2, .int x_5]) (rest := []) ⟨hx, hb, hml, hown, hts⟩ (t_X1_put l E z0 G hGz v1_1 v5_2 x_5 hg1_1) (cwV 2 hts (gdV ml_X8_161 im_X1_put se_X1_X1_put in_X1 co_X1_put rfl) rfl rfl rfl (by decide +kernel) ⟨Nat.le_of_ble_eq_true rfl, Nat.le_of_ble_eq_true rfl⟩) hT (fun U hU hW => hK.go hW hS hAz hU) (va_recv hK.1 (va_one ha_3) (ci := 1) (q0 := 0) rfl rfl) rfl rfl hl.1 rfl (lv_room (Nat.le_of_ble_eq_true rfl)) dX8_growCell_26 ⟨Nat.le_of_ble_eq_true rfl, Nat.le_of_ble_eq_true rfl⟩) hS (fun q _ h => mL (L' := [14]) (L := [14, 16, 17]) (by decide) h) (fun q h => mL (L' := [14]) (L := [14, 16, 17]) (by decide) h) (fun _ t H locs ht hvm hwr_6 hB hz hk hS => ?_)
  have hT : TH E (T1 E) G [] H := by rw [ht] at hB; exact hB
  have ha_1 := ha_1.kept (hk _ ha_1.lt (nL hG (by decide)))
  have ha_2 := ha_2.kept (hk _ ha_2.lt (nL hG0 (by decide)))
  have ha_3 := ha_3.kept (hk _ ha_3.lt (nL hg1_1 (by decide)))
  refine lv_iconst (v := 1) hx hb dX8_growCell_29 (by decide) ?_
  refine lv_istore_n (lv' := [(3, .int 1), (2, .int r_4), (0, .ref h0), (1, .ref p0)]) hx hb dX8_growCell_30 rfl hl (by decide) rfl (fun ls hl => ?_)
  refine lv_iload_n hx hb dX8_growCell_31 rfl (lv_at hl 0 rfl) ?_
  refine lv_if_le (tgt := 69) hx hb dX8_growCell_32 (by decide) (fun c_7 => absurd c_7 (by decide)) (fun c_7 => ?_)
  refine lv_aload_n hx hb dX8_growCell_35 rfl (lv_at hl 2 rfl) ?_
  refine va_get (D := DG E) (ci := 8) (v := .ref v7_1) (C := RX8) (T := TX8) (N := 9) hx hb hts iw_X8 hown hK.1 (va_one ha_1) 0 rfl rfl 7 (by decide) (hts _ fl_X8_9) (fun _ h9 => h9) rfl dX8_growCell_36 ?_
  refine lv_iload_n hx hb dX8_growCell_39 rfl (lv_at hl 0 rfl) ?_
  refine lv_aload_n hx hb dX8_growCell_40 rfl (lv_at hl 2 rfl) ?_
  refine va_get (D := DG E) (ci := 8) (v := .ref v7_1) (C := RX8) (T := TX8) (N := 9) hx hb hts iw_X8 hown hK.1 (va_one ha_1) 0 rfl rfl 7 (by decide) (hts _ fl_X8_9) (fun _ h9 => h9) rfl dX8_growCell_41 ?_
  refine lv_iload_n hx hb dX8_growCell_44 rfl (lv_at hl 0 rfl) ?_
  refine lv_iconst (v := 1) hx hb dX8_growCell_45 (by decide) ?_
  refine lv_isub hx hb dX8_growCell_46 ?_
  refine W.eq (g2 := F0 m 47 ls [.int 0, .ref v7_1, .int 1, .ref v7_1]) (by rfl) ?_
  obtain ⟨f_8, ha_8⟩ := tr_16 hT hg7_1
  refine va_iald (D := DG E) hx hb hK.1 (va_one ha_8) 0 0 rfl rfl (show vp_in (0) 2 from vp_in_iff.mpr ⟨by decide, by decide⟩) dX8_growCell_47 ?_
  refine W.eq (g2 := F0 m 48 ls [.int (f_8 (0 : Int32).toNatClampNeg), .int 1, .ref v7_1]) (by rfl) ?_
  refine lv_topi (fun x_9 ex_9 => ?_)
  refine rr_iast (D := DG E) hx hb hK.1 0 ha_8 hS (by show G v7_1 ∈ ([14, 16, 17] : List Nat); rw [hg7_1]; decide) rfl (show vp_in (1) 2 from vp_in_iff.mpr ⟨by decide, by decide⟩) dX8_growCell_48 (fun H locs hn ho hz hS => ?_)
  have hT : TH E (T1 E) G [] H := hT.set hg7_1 (show T1 E G 16 _ from ⟨_, rfl⟩) hn ho
  have ha_1 := ha_1.kept (ho _ (ne_G hG hg7_1 (by decide)))
  have ha_2 := ha_2.kept (ho _ (ne_G hG0 hg7_1 (by decide)))
  have ha_3 := ha_3.kept (ho _ (ne_G hg1_1 hg7_1 (by decide)))
  refine lv_aload_n hx hb dX8_growCell_49 rfl (lv_at hl 2 rfl) ?_
  refine va_get (D := DG E) (ci := 8) (v := .ref v8_1) (C := RX8) (T := TX8) (N := 9) hx hb hts iw_X8 hown hK.1 (va_one ha_1) 0 rfl rfl 8 (by decide) (hts _ fl_X8_15) (fun _ h9 => h9) rfl dX8_growCell_50 ?_
  refine lv_iload_n hx hb dX8_growCell_53 rfl (lv_at hl 0 rfl) ?_
  refine lv_aload_n hx hb dX8_growCell_54 rfl (lv_at hl 2 rfl) ?_
  refine va_get (D := DG E) (ci := 8) (v := .ref v8_1) (C := RX8) (T := TX8) (N := 9) hx hb hts iw_X8 hown hK.1 (va_one ha_1) 0 rfl rfl 8 (by decide) (hts _ fl_X8_15) (fun _ h9 => h9) rfl dX8_growCell_55 ?_
  refine lv_iload_n hx hb dX8_growCell_58 rfl (lv_at hl 0 rfl) ?_
  refine lv_iconst (v := 1) hx hb dX8_growCell_59 (by decide) ?_
  refine lv_isub hx hb dX8_growCell_60 ?_
  refine W.eq (g2 := F0 m 61 ls [.int 0, .ref v8_1, .int 1, .ref v8_1]) (by rfl) ?_
  obtain ⟨f_10, ha_10⟩ := tr_17 hT hg8_1
  refine va_iald (D := DG E) hx hb hK.1 (va_one ha_10) 0 0 rfl rfl (show vp_in (0) 2 from vp_in_iff.mpr ⟨by decide, by decide⟩) dX8_growCell_61 ?_
  refine W.eq (g2 := F0 m 62 ls [.int (f_10 (0 : Int32).toNatClampNeg), .int 1, .ref v8_1]) (by rfl) ?_
  refine lv_topi (fun x_11 ex_11 => ?_)
  refine rr_iast (D := DG E) hx hb hK.1 0 ha_10 hS (by show G v8_1 ∈ ([14, 16, 17] : List Nat); rw [hg8_1]; decide) rfl (show vp_in (1) 2 from vp_in_iff.mpr ⟨by decide, by decide⟩) dX8_growCell_62 (fun H locs hn ho hz hS => ?_)
  have hT : TH E (T1 E) G [] H := hT.set hg8_1 (show T1 E G 17 _ from ⟨_, rfl⟩) hn ho
  have ha_1 := ha_1.kept (ho _ (ne_G hG hg8_1 (by decide)))
  have ha_2 := ha_2.kept (ho _ (ne_G hG0 hg8_1 (by decide)))
  have ha_3 := ha_3.kept (ho _ (ne_G hg1_1 hg8_1 (by decide)))
  refine lv_iinc (v := 0) (lv' := [(3, .int 0), (2, .int r_4), (0, .ref h0), (1, .ref p0)]) hx hb dX8_growCell_63 hl (k := 0) rfl (by decide) (by decide) rfl (fun ls hl => ?_)
  refine lv_goto (tgt := 31) hx hb dX8_growCell_66 (by decide) ?_
  refine lv_iload_n hx hb dX8_growCell_31 rfl (lv_at hl 0 rfl) ?_
  refine lv_if_le (tgt := 69) hx hb dX8_growCell_32 (by decide) (fun c_12 => ?_) (fun c_12 => absurd c_12 (by decide))
  refine lv_aload_n hx hb dX8_growCell_69 rfl (lv_at hl 2 rfl) ?_
  refine va_get (D := DG E) (ci := 8) (v := .ref v7_1) (C := RX8) (T := TX8) (N := 9) hx hb hts iw_X8 hown hK.1 (va_one ha_1) 0 rfl rfl 7 (by decide) (hts _ fl_X8_9) (fun _ h9 => h9) rfl dX8_growCell_70 ?_
  refine lv_iconst (v := 0) hx hb dX8_growCell_73 (by decide) ?_
  refine lv_aload_n hx hb dX8_growCell_74 rfl (lv_at hl 3 rfl) ?_
  refine va_get (D := DG E) (ci := 2) (v := .int v2_2) (C := RX2) (T := TX2) (N := 8) hx hb hts iw_X2 hown hK.1 (va_one ha_2) 0 rfl rfl 2 (by decide) (hts _ fl_X8_59) (fun _ h9 => h9) rfl dX8_growCell_75 ?_
  obtain ⟨f_13, ha_13⟩ := tr_16 hT hg7_1
  refine rr_iast (D := DG E) hx hb hK.1 0 ha_13 hS (by show G v7_1 ∈ ([14, 16, 17] : List Nat); rw [hg7_1]; decide) rfl (show vp_in (0) 2 from vp_in_iff.mpr ⟨by decide, by decide⟩) dX8_growCell_78 (fun H locs hn ho hz hS => ?_)
  have hT : TH E (T1 E) G [] H := hT.set hg7_1 (show T1 E G 16 _ from ⟨_, rfl⟩) hn ho
  have ha_1 := ha_1.kept (ho _ (ne_G hG hg7_1 (by decide)))
  have ha_2 := ha_2.kept (ho _ (ne_G hG0 hg7_1 (by decide)))
  have ha_3 := ha_3.kept (ho _ (ne_G hg1_1 hg7_1 (by decide)))
  refine lv_aload_n hx hb dX8_growCell_79 rfl (lv_at hl 2 rfl) ?_
  refine va_get (D := DG E) (ci := 8) (v := .ref v8_1) (C := RX8) (T := TX8) (N := 9) hx hb hts iw_X8 hown hK.1 (va_one ha_1) 0 rfl rfl 8 (by decide) (hts _ fl_X8_15) (fun _ h9 => h9) rfl dX8_growCell_80 ?_
  refine lv_iconst (v := 0) hx hb dX8_growCell_83 (by decide) ?_
  refine lv_iload_n hx hb dX8_growCell_84 rfl (lv_at hl 1 rfl) ?_
  obtain ⟨f_14, ha_14⟩ := tr_17 hT hg8_1
  refine rr_iast (D := DG E) hx hb hK.1 0 ha_14 hS (by show G v8_1 ∈ ([14, 16, 17] : List Nat); rw [hg8_1]; decide) rfl (show vp_in (0) 2 from vp_in_iff.mpr ⟨by decide, by decide⟩) dX8_growCell_85 (fun H locs hn ho hz hS => ?_)
  have hT : TH E (T1 E) G [] H := hT.set hg8_1 (show T1 E G 17 _ from ⟨_, rfl⟩) hn ho
  have ha_1 := ha_1.kept (ho _ (ne_G hG hg8_1 (by decide)))
  have ha_2 := ha_2.kept (ho _ (ne_G hG0 hg8_1 (by decide)))
  have ha_3 := ha_3.kept (ho _ (ne_G hg1_1 hg8_1 (by decide)))
  refine lv_iload_n hx hb dX8_growCell_86 rfl (lv_at hl 1 rfl) ?_
  exact W.iret (v := r_4) hx hb hr (fun t ht hW => ⟨⟨r_4, (), rfl, trivial, (by show TH E (T1 E) G [] t.heap; rw [ht]; exact hT)⟩, hS.F ht⟩) hS.2.2 dX8_growCell_87
theorem dX8_answerAgain_0 : decode cX8_answerAgain 0 = .ok (.aload_n 1, 1) := by decide +kernel
theorem dX8_answerAgain_1 : decode cX8_answerAgain 1 = .ok (.getfield 75, 3) := by decide +kernel
theorem dX8_answerAgain_4 : decode cX8_answerAgain 4 = .ok (.iconst 2, 1) := by decide +kernel
theorem dX8_answerAgain_5 : decode cX8_answerAgain 5 = .ok (.if_icmp .ne 22, 3) := by decide +kernel
theorem dX8_answerAgain_8 : decode cX8_answerAgain 8 = .ok (.aload_n 1, 1) := by decide +kernel
theorem dX8_answerAgain_9 : decode cX8_answerAgain 9 = .ok (.aload_n 0, 1) := by decide +kernel
theorem dX8_answerAgain_10 : decode cX8_answerAgain 10 = .ok (.getfield 26, 3) := by decide +kernel
theorem dX8_answerAgain_13 : decode cX8_answerAgain 13 = .ok (.invokevirtual 89, 3) := by decide +kernel
theorem dX8_answerAgain_16 : decode cX8_answerAgain 16 = .ok (.ifCond .eq 61, 3) := by decide +kernel
theorem dX8_answerAgain_19 : decode cX8_answerAgain 19 = .ok (.aload_n 0, 1) := by decide +kernel
theorem dX8_answerAgain_20 : decode cX8_answerAgain 20 = .ok (.aload_n 1, 1) := by decide +kernel
theorem dX8_answerAgain_21 : decode cX8_answerAgain 21 = .ok (.invokevirtual 93, 3) := by decide +kernel
theorem dX8_answerAgain_24 : decode cX8_answerAgain 24 = .ok (.goto 53, 3) := by decide +kernel
theorem dX8_answerAgain_27 : decode cX8_answerAgain 27 = .ok (.aload_n 1, 1) := by decide +kernel
theorem dX8_answerAgain_28 : decode cX8_answerAgain 28 = .ok (.getfield 75, 3) := by decide +kernel
theorem dX8_answerAgain_31 : decode cX8_answerAgain 31 = .ok (.iconst 3, 1) := by decide +kernel
theorem dX8_answerAgain_32 : decode cX8_answerAgain 32 = .ok (.if_icmp .ne 34, 3) := by decide +kernel
theorem dX8_answerAgain_35 : decode cX8_answerAgain 35 = .ok (.aload_n 0, 1) := by decide +kernel
theorem dX8_answerAgain_36 : decode cX8_answerAgain 36 = .ok (.aload_n 1, 1) := by decide +kernel
theorem dX8_answerAgain_37 : decode cX8_answerAgain 37 = .ok (.getfield 59, 3) := by decide +kernel
theorem dX8_answerAgain_40 : decode cX8_answerAgain 40 = .ok (.invokevirtual 96, 3) := by decide +kernel
theorem dX8_answerAgain_43 : decode cX8_answerAgain 43 = .ok (.istore_n 2, 1) := by decide +kernel
theorem dX8_answerAgain_44 : decode cX8_answerAgain 44 = .ok (.iload_n 2, 1) := by decide +kernel
theorem dX8_answerAgain_45 : decode cX8_answerAgain 45 = .ok (.iconst (-1), 1) := by decide +kernel
theorem dX8_answerAgain_46 : decode cX8_answerAgain 46 = .ok (.if_icmp .eq 17, 3) := by decide +kernel
theorem dX8_answerAgain_49 : decode cX8_answerAgain 49 = .ok (.aload_n 0, 1) := by decide +kernel
theorem dX8_answerAgain_50 : decode cX8_answerAgain 50 = .ok (.aload_n 1, 1) := by decide +kernel
theorem dX8_answerAgain_51 : decode cX8_answerAgain 51 = .ok (.getfield 59, 3) := by decide +kernel
theorem dX8_answerAgain_54 : decode cX8_answerAgain 54 = .ok (.aload_n 0, 1) := by decide +kernel
theorem dX8_answerAgain_55 : decode cX8_answerAgain 55 = .ok (.getfield 15, 3) := by decide +kernel
theorem dX8_answerAgain_58 : decode cX8_answerAgain 58 = .ok (.iload_n 2, 1) := by decide +kernel
theorem dX8_answerAgain_59 : decode cX8_answerAgain 59 = .ok (.iaload, 1) := by decide +kernel
theorem dX8_answerAgain_60 : decode cX8_answerAgain 60 = .ok (.invokevirtual 99, 3) := by decide +kernel
theorem dX8_answerAgain_63 : decode cX8_answerAgain 63 = .ok (.goto 14, 3) := by decide +kernel
theorem dX8_answerAgain_66 : decode cX8_answerAgain 66 = .ok (.aload_n 0, 1) := by decide +kernel
theorem dX8_answerAgain_67 : decode cX8_answerAgain 67 = .ok (.aload_n 0, 1) := by decide +kernel
theorem dX8_answerAgain_68 : decode cX8_answerAgain 68 = .ok (.getfield 49, 3) := by decide +kernel
theorem dX8_answerAgain_71 : decode cX8_answerAgain 71 = .ok (.invokestatic 102, 3) := by decide +kernel
theorem dX8_answerAgain_74 : decode cX8_answerAgain 74 = .ok (.invokevirtual 105, 3) := by decide +kernel
theorem dX8_answerAgain_77 : decode cX8_answerAgain 77 = .ok (.return_, 1) := by decide +kernel
set_option maxHeartbeats 8000000 in
set_option maxRecDepth 100000 in
theorem t_X8_answerAgain (l : Launch) (E : EE) (z0 : Nat) (G : Nat → Nat) (hGz : ∀ q, G q ≠ 0 → z0 ≤ q) (h0 : Nat) (p0 : Nat) (hG : G h0 = 10) (hG0 : G p0 = 31) : Met l yX8_answerAgain [Cond.code yX8_answerAgain cX8_answerAgain 3 none] ({ frames := 4, cells := 0, slots := 0, locals := 88 } : Room) (va_Pc [.ref h0, .ref p0] (fun U => (TH E (T1 E) G [] U.heap) ∧ KS E z0 U)) (va_Qv (fun (_ : Unit) => True) (fun _ t => TH E (T1 E) G [] t.heap) (fun q : Nat => G q ∈ ([4, 31, 32] : List Nat))) 0 0 (fun q : Nat => G q ∈ ([4, 31, 32] : List Nat)) := by
  refine Met.ofW (cc := cX8_answerAgain) (maxL := 3) (ret := none) (by decide) rfl ?_
  intro p e s m args below meth c s₁ B hml hv
  obtain ⟨rfl, hT, hK⟩ := hv
  have hx := B.exec
  have hb := B.bytes
  have hr := B.returns
  have hts : ∀ w ∈ TS, w.before ([.ref h0, .ref p0] : List Value).toArray s = true := fun w hw => hK.2.1 w hw _
  have hown : s.vm.findClass RX8 = some m.cls := findClass_of_methodNamed B.named
  have hlocks := B.notSynchronized
  have hS : va_S (fun q : Nat => G q ∈ ([4, 31, 32] : List Nat)) s.heap s.heap [] := va_S.rf
  have hAz : ∀ q, (fun q : Nat => G q ∈ ([4, 31, 32] : List Nat)) q → z0 ≤ q := zL hGz (by decide)
  have hl := lv_entry ([.ref h0, .ref p0]) (n := 3) (Nat.le_of_ble_eq_true rfl)
  rw [lg_entry_eq]
  generalize (lg_sl ([.ref h0, .ref p0]) ++ List.replicate (3 - (lg_sl ([.ref h0, .ref p0])).length) Slot.unset).toArray = ls at hl ⊢
  have hl : lv_has ls 3 [(0, .ref h0), (1, .ref p0)] := hl
  refine lv_aload_n hx hb dX8_answerAgain_0 rfl (lv_at hl 1 rfl) ?_
  obtain ⟨v0_1, v1_1, v2_1, v3_1, v4_1, v5_1, v6_1, v7_1, ha_1, hb0_1, hb3_1, hg7_1⟩ := tr_31 hT hG0
  refine va_get (D := DG E) (ci := 2) (v := .int v1_1) (C := RX2) (T := TX2) (N := 8) hx hb hts iw_X2 hown hK.1 (va_one ha_1) 0 rfl rfl 1 (by decide) (hts _ fl_X8_75) (fun _ h9 => h9) rfl dX8_answerAgain_1 ?_
  refine lv_iconst (v := 2) hx hb dX8_answerAgain_4 (by decide) ?_
  refine lv_icmp_ne (tgt := 27) hx hb dX8_answerAgain_5 (by decide) (fun c_2 => ?_) (fun c_2 => ?_)
  · simp only [lt_I, le_I, eq_I, i_0, i_1, i_2, i_3, i_4, i_5, i_6, i_7, i_8, i_10, i_12, i_16, i_20, i_23, i_24, i_31, i_32, i_63, i_64, i_m1] at c_2
    refine lv_aload_n hx hb dX8_answerAgain_27 rfl (lv_at hl 1 rfl) ?_
    refine va_get (D := DG E) (ci := 2) (v := .int v1_1) (C := RX2) (T := TX2) (N := 8) hx hb hts iw_X2 hown hK.1 (va_one ha_1) 0 rfl rfl 1 (by decide) (hts _ fl_X8_75) (fun _ h9 => h9) rfl dX8_answerAgain_28 ?_
    refine lv_iconst (v := 3) hx hb dX8_answerAgain_31 (by decide) ?_
    refine lv_icmp_ne (tgt := 66) hx hb dX8_answerAgain_32 (by decide) (fun c_3 => ?_) (fun c_3 => ?_)
    · simp only [lt_I, le_I, eq_I, i_0, i_1, i_2, i_3, i_4, i_5, i_6, i_7, i_8, i_10, i_12, i_16, i_20, i_23, i_24, i_31, i_32, i_63, i_64, i_m1] at c_3
      refine lv_aload_n hx hb dX8_answerAgain_66 rfl (lv_at hl 0 rfl) ?_
      refine lv_aload_n hx hb dX8_answerAgain_67 rfl (lv_at hl 0 rfl) ?_
      obtain ⟨v0_4, v1_4, v2_4, v3_4, v4_4, v5_4, v6_4, v7_4, v8_4, ha_4, hb0_4, hg1_4, hg2_4, hg3_4, hg7_4, hg8_4⟩ := tr_10 hT hG
      refine va_get (D := DG E) (ci := 8) (v := .int v4_4) (C := RX8) (T := TX8) (N := 9) hx hb hts iw_X8 hown hK.1 (va_one ha_4) 0 rfl rfl 4 (by decide) (hts _ fl_X8_49) (fun _ h9 => h9) rfl dX8_answerAgain_68 ?_
      refine va_calli (rnSK (fun _ => True) (As := [.int v4_4]) (rest := [.ref h0]) ⟨hx, hb, hml, hown, hts⟩ (t_X9_before l E z0 v4_4) ⟨va_cnB (host := RX9) 1 hts (gd1 co_X9_before rfl) rfl rfl rfl (hK.2.1 _ mn_X8_102 #[]) (hts _ in_X9) (by decide +kernel) ⟨Nat.le_of_ble_eq_true rfl, Nat.le_of_ble_eq_true rfl⟩, hts _ st_X9_before, trivial⟩ trivial (fun U hU hW => hK.go hW hS hAz hU) rfl rfl hl.1 rfl (lv_room (Nat.le_of_ble_eq_true rfl)) dX8_answerAgain_71 ⟨Nat.le_of_ble_eq_true rfl, Nat.le_of_ble_eq_true rfl⟩) hS (fun q _ h => h.elim) (fun q h => h.elim) (fun r_5 _ t H locs ht hvm hw hB hz hk hS => ?_)
      have hT : TH E (T1 E) G [] H := hT.kept (fun q hq => hk q hq (fun h => h))
      have ha_1 := ha_1.kept (hk _ ha_1.lt (fun h => h))
      have ha_4 := ha_4.kept (hk _ ha_4.lt (fun h => h))
      refine va_callv (rnV (fun H => TH E (T1 E) G [] H) (As := [.int r_5]) (rest := []) ⟨hx, hb, hml, hown, hts⟩ (t_X8_acknowledge l E z0 G hGz h0 r_5 hG) (cwV 1 hts (gdV ml_X8_105 im_X8_acknowledge se_X8_X8_acknowledge in_X8 co_X8_acknowledge rfl) rfl rfl rfl (by decide +kernel) ⟨Nat.le_of_ble_eq_true rfl, Nat.le_of_ble_eq_true rfl⟩) hT (fun U hU hW => hK.go hW hS hAz hU) (va_recv hK.1 (va_one ha_4) (ci := 8) (q0 := 0) rfl rfl) rfl rfl hl.1 rfl (lv_room (Nat.le_of_ble_eq_true rfl)) dX8_answerAgain_74 ⟨Nat.le_of_ble_eq_true rfl, Nat.le_of_ble_eq_true rfl⟩) hS (fun q _ h => mL (L' := [4, 31]) (L := [4, 31, 32]) (by decide) h) (fun q h => mL (L' := [4, 31]) (L := [4, 31, 32]) (by decide) h) (fun _ t H locs ht hvm hwr_6 hB hz hk hS => ?_)
      have hT : TH E (T1 E) G [] H := by rw [ht] at hB; exact hB
      have ha_4 := ha_4.kept (hk _ ha_4.lt (nL hG (by decide)))
      exact W.vret hx hb hr (fun t ht hW => ⟨⟨(), rfl, trivial, (by show TH E (T1 E) G [] t.heap; rw [ht]; exact hT)⟩, hS.F ht⟩) hS.2.2 dX8_answerAgain_77
    · simp only [lt_I, le_I, eq_I, i_0, i_1, i_2, i_3, i_4, i_5, i_6, i_7, i_8, i_10, i_12, i_16, i_20, i_23, i_24, i_31, i_32, i_63, i_64, i_m1] at c_3
      refine lv_aload_n hx hb dX8_answerAgain_35 rfl (lv_at hl 0 rfl) ?_
      refine lv_aload_n hx hb dX8_answerAgain_36 rfl (lv_at hl 1 rfl) ?_
      refine va_get (D := DG E) (ci := 2) (v := .int v2_1) (C := RX2) (T := TX2) (N := 8) hx hb hts iw_X2 hown hK.1 (va_one ha_1) 0 rfl rfl 2 (by decide) (hts _ fl_X8_59) (fun _ h9 => h9) rfl dX8_answerAgain_37 ?_
      obtain ⟨v0_7, v1_7, v2_7, v3_7, v4_7, v5_7, v6_7, v7_7, v8_7, ha_7, hb0_7, hg1_7, hg2_7, hg3_7, hg7_7, hg8_7⟩ := tr_10 hT hG
      refine va_calli (rnV (fun H => TH E (T1 E) G [] H) (As := [.int v2_1]) (rest := []) ⟨hx, hb, hml, hown, hts⟩ (t_X8_keptAdd l E z0 G hGz h0 v2_1 hG) (cwV 1 hts (gdV ml_X8_96 im_X8_keptAdd se_X8_X8_keptAdd in_X8 co_X8_keptAdd rfl) rfl rfl rfl (by decide +kernel) ⟨Nat.le_of_ble_eq_true rfl, Nat.le_of_ble_eq_true rfl⟩) hT (fun U hU hW => hK.go hW hS hAz hU) (va_recv hK.1 (va_one ha_7) (ci := 8) (q0 := 0) rfl rfl) rfl rfl hl.1 rfl (lv_room (Nat.le_of_ble_eq_true rfl)) dX8_answerAgain_40 ⟨Nat.le_of_ble_eq_true rfl, Nat.le_of_ble_eq_true rfl⟩) hS (fun q _ h => h.elim) (fun q h => h.elim) (fun r_8 _ t H locs ht hvm hwr_8 hB hz hk hS => ?_)
      have hT : TH E (T1 E) G [] H := hT.kept (fun q hq => hk q hq (fun h => h))
      have ha_1 := ha_1.kept (hk _ ha_1.lt (fun h => h))
      have ha_7 := ha_7.kept (hk _ ha_7.lt (fun h => h))
      refine lv_istore_n (lv' := [(2, .int r_8), (0, .ref h0), (1, .ref p0)]) hx hb dX8_answerAgain_43 rfl hl (by decide) rfl (fun ls hl => ?_)
      refine lv_iload_n hx hb dX8_answerAgain_44 rfl (lv_at hl 0 rfl) ?_
      refine lv_iconst (v := (-1)) hx hb dX8_answerAgain_45 (by decide) ?_
      refine lv_icmp_eq (tgt := 63) hx hb dX8_answerAgain_46 (by decide) (fun c_9 => ?_) (fun c_9 => ?_)
      · simp only [lt_I, le_I, eq_I, i_0, i_1, i_2, i_3, i_4, i_5, i_6, i_7, i_8, i_10, i_12, i_16, i_20, i_23, i_24, i_31, i_32, i_63, i_64, i_m1] at c_9
        refine lv_goto (tgt := 77) hx hb dX8_answerAgain_63 (by decide) ?_
        exact W.vret hx hb hr (fun t ht hW => ⟨⟨(), rfl, trivial, (by show TH E (T1 E) G [] t.heap; rw [ht]; exact hT)⟩, hS.F ht⟩) hS.2.2 dX8_answerAgain_77
      · simp only [lt_I, le_I, eq_I, i_0, i_1, i_2, i_3, i_4, i_5, i_6, i_7, i_8, i_10, i_12, i_16, i_20, i_23, i_24, i_31, i_32, i_63, i_64, i_m1] at c_9
        refine lv_aload_n hx hb dX8_answerAgain_49 rfl (lv_at hl 1 rfl) ?_
        refine lv_aload_n hx hb dX8_answerAgain_50 rfl (lv_at hl 2 rfl) ?_
        refine va_get (D := DG E) (ci := 2) (v := .int v2_1) (C := RX2) (T := TX2) (N := 8) hx hb hts iw_X2 hown hK.1 (va_one ha_1) 0 rfl rfl 2 (by decide) (hts _ fl_X8_59) (fun _ h9 => h9) rfl dX8_answerAgain_51 ?_
        refine lv_aload_n hx hb dX8_answerAgain_54 rfl (lv_at hl 1 rfl) ?_
        refine va_get (D := DG E) (ci := 8) (v := .ref v8_7) (C := RX8) (T := TX8) (N := 9) hx hb hts iw_X8 hown hK.1 (va_one ha_7) 0 rfl rfl 8 (by decide) (hts _ fl_X8_15) (fun _ h9 => h9) rfl dX8_answerAgain_55 ?_
        refine lv_iload_n hx hb dX8_answerAgain_58 rfl (lv_at hl 0 rfl) ?_
        obtain ⟨f_10, ha_10⟩ := tr_17 hT hg8_7
        refine va_iald (D := DG E) hx hb hK.1 (va_one ha_10) 0 0 rfl rfl (show vp_in r_8 2 from vp_in_iff.mpr (by omega)) dX8_answerAgain_59 ?_
        refine W.eq (g2 := F0 m 60 ls [.int (f_10 (r_8 : Int32).toNatClampNeg), .int v2_1, .ref h0]) (by rfl) ?_
        refine lv_topi (fun x_11 ex_11 => ?_)
        refine va_callv (rnV (fun H => TH E (T1 E) G [] H) (As := [.int v2_1, .int x_11]) (rest := []) ⟨hx, hb, hml, hown, hts⟩ (t_X8_replyOne l E z0 G hGz h0 v2_1 x_11 hG) (cwV 2 hts (gdV ml_X8_99 im_X8_replyOne se_X8_X8_replyOne in_X8 co_X8_replyOne rfl) rfl rfl rfl (by decide +kernel) ⟨Nat.le_of_ble_eq_true rfl, Nat.le_of_ble_eq_true rfl⟩) hT (fun U hU hW => hK.go hW hS hAz hU) (va_recv hK.1 (va_one ha_7) (ci := 8) (q0 := 0) rfl rfl) rfl rfl hl.1 rfl (lv_room (Nat.le_of_ble_eq_true rfl)) dX8_answerAgain_60 ⟨Nat.le_of_ble_eq_true rfl, Nat.le_of_ble_eq_true rfl⟩) hS (fun q _ h => mL (L' := [4, 31, 32]) (L := [4, 31, 32]) (by decide) h) (fun q h => mL (L' := [4, 31, 32]) (L := [4, 31, 32]) (by decide) h) (fun _ t H locs ht hvm hwr_12 hB hz hk hS => ?_)
        have hT : TH E (T1 E) G [] H := by rw [ht] at hB; exact hB
        have ha_7 := ha_7.kept (hk _ ha_7.lt (nL hG (by decide)))
        have ha_10 := ha_10.kept (hk _ ha_10.lt (nL hg8_7 (by decide)))
        refine lv_goto (tgt := 77) hx hb dX8_answerAgain_63 (by decide) ?_
        exact W.vret hx hb hr (fun t ht hW => ⟨⟨(), rfl, trivial, (by show TH E (T1 E) G [] t.heap; rw [ht]; exact hT)⟩, hS.F ht⟩) hS.2.2 dX8_answerAgain_77
  · simp only [lt_I, le_I, eq_I, i_0, i_1, i_2, i_3, i_4, i_5, i_6, i_7, i_8, i_10, i_12, i_16, i_20, i_23, i_24, i_31, i_32, i_63, i_64, i_m1] at c_2
    refine lv_aload_n hx hb dX8_answerAgain_8 rfl (lv_at hl 1 rfl) ?_
    refine lv_aload_n hx hb dX8_answerAgain_9 rfl (lv_at hl 0 rfl) ?_
    obtain ⟨v0_13, v1_13, v2_13, v3_13, v4_13, v5_13, v6_13, v7_13, v8_13, ha_13, hb0_13, hg1_13, hg2_13, hg3_13, hg7_13, hg8_13⟩ := tr_10 hT hG
    refine va_get (D := DG E) (ci := 8) (v := .ref v1_13) (C := RX8) (T := TX8) (N := 9) hx hb hts iw_X8 hown hK.1 (va_one ha_13) 0 rfl rfl 1 (by decide) (hts _ fl_X8_26) (fun _ h9 => h9) rfl dX8_answerAgain_10 ?_
    refine va_calli (rnV (fun H => TH E (T1 E) G [] H) (As := [.ref v1_13]) (rest := []) ⟨hx, hb, hml, hown, hts⟩ (t_X2_isAllowed l E z0 G hGz p0 v1_13 hG0 hg1_13) (cwV 1 hts (gdV ml_X8_89 im_X2_isAllowed se_X2_X2_isAllowed in_X2 co_X2_isAllowed rfl) rfl rfl rfl (by decide +kernel) ⟨Nat.le_of_ble_eq_true rfl, Nat.le_of_ble_eq_true rfl⟩) hT (fun U hU hW => hK.go hW hS hAz hU) (va_recv hK.1 (va_one ha_1) (ci := 2) (q0 := 0) rfl rfl) rfl rfl hl.1 rfl (lv_room (Nat.le_of_ble_eq_true rfl)) dX8_answerAgain_13 ⟨Nat.le_of_ble_eq_true rfl, Nat.le_of_ble_eq_true rfl⟩) hS (fun q _ h => h.elim) (fun q h => h.elim) (fun r_14 _ t H locs ht hvm hwr_14 hB hz hk hS => ?_)
    have hT : TH E (T1 E) G [] H := hT.kept (fun q hq => hk q hq (fun h => h))
    have ha_1 := ha_1.kept (hk _ ha_1.lt (fun h => h))
    have ha_13 := ha_13.kept (hk _ ha_13.lt (fun h => h))
    have hzr_14 := s_rng hwr_14
    refine lv_if_eq (tgt := 77) hx hb dX8_answerAgain_16 (by decide) (fun c_15 => ?_) (fun c_15 => ?_)
    · simp only [lt_I, le_I, eq_I, i_0, i_1, i_2, i_3, i_4, i_5, i_6, i_7, i_8, i_10, i_12, i_16, i_20, i_23, i_24, i_31, i_32, i_63, i_64, i_m1] at c_15
      exact W.vret hx hb hr (fun t ht hW => ⟨⟨(), rfl, trivial, (by show TH E (T1 E) G [] t.heap; rw [ht]; exact hT)⟩, hS.F ht⟩) hS.2.2 dX8_answerAgain_77
    · simp only [lt_I, le_I, eq_I, i_0, i_1, i_2, i_3, i_4, i_5, i_6, i_7, i_8, i_10, i_12, i_16, i_20, i_23, i_24, i_31, i_32, i_63, i_64, i_m1] at c_15
      refine lv_aload_n hx hb dX8_answerAgain_19 rfl (lv_at hl 0 rfl) ?_
      refine lv_aload_n hx hb dX8_answerAgain_20 rfl (lv_at hl 1 rfl) ?_
      refine va_callv (rnV (fun H => TH E (T1 E) G [] H) (As := [.ref p0]) (rest := []) ⟨hx, hb, hml, hown, hts⟩ (t_X8_replyCells l E z0 G hGz h0 p0 hG hG0) (cwV 1 hts (gdV ml_X8_93 im_X8_replyCells se_X8_X8_replyCells in_X8 co_X8_replyCells rfl) rfl rfl rfl (by decide +kernel) ⟨Nat.le_of_ble_eq_true rfl, Nat.le_of_ble_eq_true rfl⟩) hT (fun U hU hW => hK.go hW hS hAz hU) (va_recv hK.1 (va_one ha_13) (ci := 8) (q0 := 0) rfl rfl) rfl rfl hl.1 rfl (lv_room (Nat.le_of_ble_eq_true rfl)) dX8_answerAgain_21 ⟨Nat.le_of_ble_eq_true rfl, Nat.le_of_ble_eq_true rfl⟩) hS (fun q _ h => mL (L' := [4, 31, 32]) (L := [4, 31, 32]) (by decide) h) (fun q h => mL (L' := [4, 31, 32]) (L := [4, 31, 32]) (by decide) h) (fun _ t H locs ht hvm hwr_16 hB hz hk hS => ?_)
      have hT : TH E (T1 E) G [] H := by rw [ht] at hB; exact hB
      have ha_13 := ha_13.kept (hk _ ha_13.lt (nL hG (by decide)))
      refine lv_goto (tgt := 77) hx hb dX8_answerAgain_24 (by decide) ?_
      exact W.vret hx hb hr (fun t ht hW => ⟨⟨(), rfl, trivial, (by show TH E (T1 E) G [] t.heap; rw [ht]; exact hT)⟩, hS.F ht⟩) hS.2.2 dX8_answerAgain_77
theorem dX8_takeSend_0 : decode cX8_takeSend 0 = .ok (.aload_n 1, 1) := by decide +kernel
theorem dX8_takeSend_1 : decode cX8_takeSend 1 = .ok (.invokevirtual 109, 3) := by decide +kernel
theorem dX8_takeSend_4 : decode cX8_takeSend 4 = .ok (.aload_n 0, 1) := by decide +kernel
theorem dX8_takeSend_5 : decode cX8_takeSend 5 = .ok (.getfield 52, 3) := by decide +kernel
theorem dX8_takeSend_8 : decode cX8_takeSend 8 = .ok (.if_icmp .ne 5, 3) := by decide +kernel
theorem dX8_takeSend_11 : decode cX8_takeSend 11 = .ok (.iconst 0, 1) := by decide +kernel
theorem dX8_takeSend_12 : decode cX8_takeSend 12 = .ok (.ireturn, 1) := by decide +kernel
theorem dX8_takeSend_13 : decode cX8_takeSend 13 = .ok (.aload_n 0, 1) := by decide +kernel
theorem dX8_takeSend_14 : decode cX8_takeSend 14 = .ok (.getfield 39, 3) := by decide +kernel
theorem dX8_takeSend_17 : decode cX8_takeSend 17 = .ok (.getfield 113, 3) := by decide +kernel
theorem dX8_takeSend_20 : decode cX8_takeSend 20 = .ok (.ifCond .ne 14, 3) := by decide +kernel
theorem dX8_takeSend_23 : decode cX8_takeSend 23 = .ok (.aload_n 0, 1) := by decide +kernel
theorem dX8_takeSend_24 : decode cX8_takeSend 24 = .ok (.aload_n 1, 1) := by decide +kernel
theorem dX8_takeSend_25 : decode cX8_takeSend 25 = .ok (.getfield 59, 3) := by decide +kernel
theorem dX8_takeSend_28 : decode cX8_takeSend 28 = .ok (.iconst 2, 1) := by decide +kernel
theorem dX8_takeSend_29 : decode cX8_takeSend 29 = .ok (.invokevirtual 85, 3) := by decide +kernel
theorem dX8_takeSend_32 : decode cX8_takeSend 32 = .ok (.iconst 0, 1) := by decide +kernel
theorem dX8_takeSend_33 : decode cX8_takeSend 33 = .ok (.ireturn, 1) := by decide +kernel
theorem dX8_takeSend_34 : decode cX8_takeSend 34 = .ok (.aload_n 0, 1) := by decide +kernel
theorem dX8_takeSend_35 : decode cX8_takeSend 35 = .ok (.iconst 1, 1) := by decide +kernel
theorem dX8_takeSend_36 : decode cX8_takeSend 36 = .ok (.putfield 52, 3) := by decide +kernel
theorem dX8_takeSend_39 : decode cX8_takeSend 39 = .ok (.aload_n 0, 1) := by decide +kernel
theorem dX8_takeSend_40 : decode cX8_takeSend 40 = .ok (.getfield 39, 3) := by decide +kernel
theorem dX8_takeSend_43 : decode cX8_takeSend 43 = .ok (.iconst 0, 1) := by decide +kernel
theorem dX8_takeSend_44 : decode cX8_takeSend 44 = .ok (.invokevirtual 116, 3) := by decide +kernel
theorem dX8_takeSend_47 : decode cX8_takeSend 47 = .ok (.astore_n 2, 1) := by decide +kernel
theorem dX8_takeSend_48 : decode cX8_takeSend 48 = .ok (.aload_n 2, 1) := by decide +kernel
theorem dX8_takeSend_49 : decode cX8_takeSend 49 = .ok (.getfield 120, 3) := by decide +kernel
theorem dX8_takeSend_52 : decode cX8_takeSend 52 = .ok (.aload_n 2, 1) := by decide +kernel
theorem dX8_takeSend_53 : decode cX8_takeSend 53 = .ok (.getfield 125, 3) := by decide +kernel
theorem dX8_takeSend_56 : decode cX8_takeSend 56 = .ok (.isub, 1) := by decide +kernel
theorem dX8_takeSend_57 : decode cX8_takeSend 57 = .ok (.istore_n 3, 1) := by decide +kernel
theorem dX8_takeSend_58 : decode cX8_takeSend 58 = .ok (.aload_n 1, 1) := by decide +kernel
theorem dX8_takeSend_59 : decode cX8_takeSend 59 = .ok (.getfield 128, 3) := by decide +kernel
theorem dX8_takeSend_62 : decode cX8_takeSend 62 = .ok (.iload_n 3, 1) := by decide +kernel
theorem dX8_takeSend_63 : decode cX8_takeSend 63 = .ok (.if_icmp .le 14, 3) := by decide +kernel
theorem dX8_takeSend_66 : decode cX8_takeSend 66 = .ok (.aload_n 0, 1) := by decide +kernel
theorem dX8_takeSend_67 : decode cX8_takeSend 67 = .ok (.aload_n 1, 1) := by decide +kernel
theorem dX8_takeSend_68 : decode cX8_takeSend 68 = .ok (.getfield 59, 3) := by decide +kernel
theorem dX8_takeSend_71 : decode cX8_takeSend 71 = .ok (.iconst 4, 1) := by decide +kernel
theorem dX8_takeSend_72 : decode cX8_takeSend 72 = .ok (.invokevirtual 85, 3) := by decide +kernel
theorem dX8_takeSend_75 : decode cX8_takeSend 75 = .ok (.iconst 4, 1) := by decide +kernel
theorem dX8_takeSend_76 : decode cX8_takeSend 76 = .ok (.ireturn, 1) := by decide +kernel
theorem dX8_takeSend_77 : decode cX8_takeSend 77 = .ok (.aload_n 1, 1) := by decide +kernel
theorem dX8_takeSend_78 : decode cX8_takeSend 78 = .ok (.aload_n 0, 1) := by decide +kernel
theorem dX8_takeSend_79 : decode cX8_takeSend 79 = .ok (.getfield 26, 3) := by decide +kernel
theorem dX8_takeSend_82 : decode cX8_takeSend 82 = .ok (.aload_n 2, 1) := by decide +kernel
theorem dX8_takeSend_83 : decode cX8_takeSend 83 = .ok (.getfield 129, 3) := by decide +kernel
theorem dX8_takeSend_86 : decode cX8_takeSend 86 = .ok (.aload_n 2, 1) := by decide +kernel
theorem dX8_takeSend_87 : decode cX8_takeSend 87 = .ok (.getfield 125, 3) := by decide +kernel
theorem dX8_takeSend_90 : decode cX8_takeSend 90 = .ok (.iadd, 1) := by decide +kernel
theorem dX8_takeSend_91 : decode cX8_takeSend 91 = .ok (.iload_n 3, 1) := by decide +kernel
theorem dX8_takeSend_92 : decode cX8_takeSend 92 = .ok (.invokevirtual 132, 3) := by decide +kernel
theorem dX8_takeSend_95 : decode cX8_takeSend 95 = .ok (.aload_n 2, 1) := by decide +kernel
theorem dX8_takeSend_96 : decode cX8_takeSend 96 = .ok (.dup, 1) := by decide +kernel
theorem dX8_takeSend_97 : decode cX8_takeSend 97 = .ok (.getfield 125, 3) := by decide +kernel
theorem dX8_takeSend_100 : decode cX8_takeSend 100 = .ok (.aload_n 1, 1) := by decide +kernel
theorem dX8_takeSend_101 : decode cX8_takeSend 101 = .ok (.getfield 128, 3) := by decide +kernel
theorem dX8_takeSend_104 : decode cX8_takeSend 104 = .ok (.iadd, 1) := by decide +kernel
theorem dX8_takeSend_105 : decode cX8_takeSend 105 = .ok (.putfield 125, 3) := by decide +kernel
theorem dX8_takeSend_108 : decode cX8_takeSend 108 = .ok (.aload_n 1, 1) := by decide +kernel
theorem dX8_takeSend_109 : decode cX8_takeSend 109 = .ok (.invokevirtual 136, 3) := by decide +kernel
theorem dX8_takeSend_112 : decode cX8_takeSend 112 = .ok (.ifCond .eq 16, 3) := by decide +kernel
theorem dX8_takeSend_115 : decode cX8_takeSend 115 = .ok (.aload_n 0, 1) := by decide +kernel
theorem dX8_takeSend_116 : decode cX8_takeSend 116 = .ok (.getfield 39, 3) := by decide +kernel
theorem dX8_takeSend_119 : decode cX8_takeSend 119 = .ok (.iconst 0, 1) := by decide +kernel
theorem dX8_takeSend_120 : decode cX8_takeSend 120 = .ok (.invokevirtual 139, 3) := by decide +kernel
theorem dX8_takeSend_123 : decode cX8_takeSend 123 = .ok (.aload_n 0, 1) := by decide +kernel
theorem dX8_takeSend_124 : decode cX8_takeSend 124 = .ok (.iconst 0, 1) := by decide +kernel
theorem dX8_takeSend_125 : decode cX8_takeSend 125 = .ok (.putfield 52, 3) := by decide +kernel
theorem dX8_takeSend_128 : decode cX8_takeSend 128 = .ok (.aload_n 0, 1) := by decide +kernel
theorem dX8_takeSend_129 : decode cX8_takeSend 129 = .ok (.iconst 1, 1) := by decide +kernel
theorem dX8_takeSend_130 : decode cX8_takeSend 130 = .ok (.invokevirtual 142, 3) := by decide +kernel
theorem dX8_takeSend_133 : decode cX8_takeSend 133 = .ok (.aload_n 0, 1) := by decide +kernel
theorem dX8_takeSend_134 : decode cX8_takeSend 134 = .ok (.aload_n 1, 1) := by decide +kernel
theorem dX8_takeSend_135 : decode cX8_takeSend 135 = .ok (.getfield 59, 3) := by decide +kernel
theorem dX8_takeSend_138 : decode cX8_takeSend 138 = .ok (.invokevirtual 105, 3) := by decide +kernel
theorem dX8_takeSend_141 : decode cX8_takeSend 141 = .ok (.iconst 0, 1) := by decide +kernel
theorem dX8_takeSend_142 : decode cX8_takeSend 142 = .ok (.ireturn, 1) := by decide +kernel
set_option maxHeartbeats 8000000 in
set_option maxRecDepth 100000 in
theorem t_X8_takeSend (l : Launch) (E : EE) (z0 : Nat) (G : Nat → Nat) (hGz : ∀ q, G q ≠ 0 → z0 ≤ q) (h0 : Nat) (p0 : Nat) (hG : G h0 = 10) (hG0 : G p0 = 31) : Met l yX8_takeSend [Cond.code yX8_takeSend cX8_takeSend 4 (some .int)] ({ frames := 3, cells := 0, slots := 0, locals := 69 } : Room) (va_Pc [.ref h0, .ref p0] (fun U => (TH E (T1 E) G [] U.heap) ∧ KS E z0 U)) (va_Qi (fun (r : Int32) (_ : Unit) => True) (fun _ t => TH E (T1 E) G [] t.heap) (fun q : Nat => G q ∈ ([10, 4, 31, 14, 13, 5, 15, 11] : List Nat))) 0 0 (fun q : Nat => G q ∈ ([10, 4, 31, 14, 13, 5, 15, 11] : List Nat)) := by
  refine Met.ofW (cc := cX8_takeSend) (maxL := 4) (ret := (some .int)) (by decide) rfl ?_
  intro p e s m args below meth c s₁ B hml hv
  obtain ⟨rfl, hT, hK⟩ := hv
  have hx := B.exec
  have hb := B.bytes
  have hr := B.returns
  have hts : ∀ w ∈ TS, w.before ([.ref h0, .ref p0] : List Value).toArray s = true := fun w hw => hK.2.1 w hw _
  have hown : s.vm.findClass RX8 = some m.cls := findClass_of_methodNamed B.named
  have hlocks := B.notSynchronized
  have hS : va_S (fun q : Nat => G q ∈ ([10, 4, 31, 14, 13, 5, 15, 11] : List Nat)) s.heap s.heap [] := va_S.rf
  have hAz : ∀ q, (fun q : Nat => G q ∈ ([10, 4, 31, 14, 13, 5, 15, 11] : List Nat)) q → z0 ≤ q := zL hGz (by decide)
  have hl := lv_entry ([.ref h0, .ref p0]) (n := 4) (Nat.le_of_ble_eq_true rfl)
  rw [lg_entry_eq]
  generalize (lg_sl ([.ref h0, .ref p0]) ++ List.replicate (4 - (lg_sl ([.ref h0, .ref p0])).length) Slot.unset).toArray = ls at hl ⊢
  have hl : lv_has ls 4 [(0, .ref h0), (1, .ref p0)] := hl
  refine lv_aload_n hx hb dX8_takeSend_0 rfl (lv_at hl 1 rfl) ?_
  obtain ⟨v0_1, v1_1, v2_1, v3_1, v4_1, v5_1, v6_1, v7_1, ha_1, hb0_1, hb3_1, hg7_1⟩ := tr_31 hT hG0
  refine va_calli (rnV (fun H => TH E (T1 E) G [] H) (As := []) (rest := []) ⟨hx, hb, hml, hown, hts⟩ (t_X2_isFirst l E z0 G hGz p0 hG0) (cwV 0 hts (gdV ml_X8_109 im_X2_isFirst se_X2_X2_isFirst in_X2 co_X2_isFirst rfl) rfl rfl rfl (by decide +kernel) ⟨Nat.le_of_ble_eq_true rfl, Nat.le_of_ble_eq_true rfl⟩) hT (fun U hU hW => hK.go hW hS hAz hU) (va_recv hK.1 (va_one ha_1) (ci := 2) (q0 := 0) rfl rfl) rfl rfl hl.1 rfl (lv_room (Nat.le_of_ble_eq_true rfl)) dX8_takeSend_1 ⟨Nat.le_of_ble_eq_true rfl, Nat.le_of_ble_eq_true rfl⟩) hS (fun q _ h => h.elim) (fun q h => h.elim) (fun r_2 _ t H locs ht hvm hwr_2 hB hz hk hS => ?_)
  have hT : TH E (T1 E) G [] H := hT.kept (fun q hq => hk q hq (fun h => h))
  have ha_1 := ha_1.kept (hk _ ha_1.lt (fun h => h))
  have hzr_2 := s_rng hwr_2
  refine lv_aload_n hx hb dX8_takeSend_4 rfl (lv_at hl 0 rfl) ?_
  obtain ⟨v0_3, v1_3, v2_3, v3_3, v4_3, v5_3, v6_3, v7_3, v8_3, ha_3, hb0_3, hg1_3, hg2_3, hg3_3, hg7_3, hg8_3⟩ := tr_10 hT hG
  refine va_get (D := DG E) (ci := 8) (v := .int v5_3) (C := RX8) (T := TX8) (N := 9) hx hb hts iw_X8 hown hK.1 (va_one ha_3) 0 rfl rfl 5 (by decide) (hts _ fl_X8_52) (fun _ h9 => h9) rfl dX8_takeSend_5 ?_
  refine lv_icmp_ne (tgt := 13) hx hb dX8_takeSend_8 (by decide) (fun c_4 => ?_) (fun c_4 => ?_)
  · simp only [lt_I, le_I, eq_I, i_0, i_1, i_2, i_3, i_4, i_5, i_6, i_7, i_8, i_10, i_12, i_16, i_20, i_23, i_24, i_31, i_32, i_63, i_64, i_m1] at c_4
    refine lv_aload_n hx hb dX8_takeSend_13 rfl (lv_at hl 0 rfl) ?_
    refine va_get (D := DG E) (ci := 8) (v := .ref v3_3) (C := RX8) (T := TX8) (N := 9) hx hb hts iw_X8 hown hK.1 (va_one ha_3) 0 rfl rfl 3 (by decide) (hts _ fl_X8_39) (fun _ h9 => h9) rfl dX8_takeSend_14 ?_
    obtain ⟨v0_5, v1_5, v2_5, v3_5, v4_5, v5_5, ha_5, hg1_5, hg2_5, hb3_5, hb4_5⟩ := tr_11 hT hg3_3
    refine va_get (D := DG E) (ci := 5) (v := .int v4_5) (C := RX5) (T := TX5) (N := 6) hx hb hts iw_X5 hown hK.1 (va_one ha_5) 0 rfl rfl 4 (by decide) (hts _ fl_X8_113) (fun _ h9 => h9) rfl dX8_takeSend_17 ?_
    refine lv_if_ne (tgt := 34) hx hb dX8_takeSend_20 (by decide) (fun c_6 => ?_) (fun c_6 => ?_)
    · simp only [lt_I, le_I, eq_I, i_0, i_1, i_2, i_3, i_4, i_5, i_6, i_7, i_8, i_10, i_12, i_16, i_20, i_23, i_24, i_31, i_32, i_63, i_64, i_m1] at c_6
      refine lv_aload_n hx hb dX8_takeSend_34 rfl (lv_at hl 0 rfl) ?_
      refine lv_iconst (v := 1) hx hb dX8_takeSend_35 (by decide) ?_
      refine rr_put (D := DG E) (ci := 8) (v := .int 1) (ty := .boolean) (C := RX8) (T := TX8) (N := 9) hx hb hts iw_X8 tyX8 tyX8_ok nmX8 hown hK.1 ha_3 hS (by show G h0 ∈ ([10, 4, 31, 14, 13, 5, 15, 11] : List Nat); rw [hG]; decide) rfl 5 (by decide) (hts _ fl_X8_52) (fun _ h9 => h9) rfl (by decide +kernel) rfl rfl (Nat.le_of_ble_eq_true rfl) dX8_takeSend_36 (fun H locs hn ho hz hS => ?_)
      have hr_7 : va_at (DG E) vwCl (h0, .inr (8, [.int v0_3, .ref v1_3, .ref v2_3, .ref v3_3, .int v4_3, .int 1, .int v6_3, .ref v7_3, .ref v8_3])) H := hn
      have hT : TH E (T1 E) G [] H := hT.set hG (show T1 E G 10 _ from ⟨v0_3, v1_3, v2_3, v3_3, v4_3, 1, v6_3, v7_3, v8_3, rfl, (by omega), hg1_3, hg2_3, hg3_3, hg7_3, hg8_3⟩) hr_7 ho
      have ha_1 := ha_1.kept (ho _ (ne_G hG0 hG (by decide)))
      have ha_5 := ha_5.kept (ho _ (ne_G hg3_3 hG (by decide)))
      refine lv_aload_n hx hb dX8_takeSend_39 rfl (lv_at hl 0 rfl) ?_
      refine va_get (D := DG E) (ci := 8) (v := .ref v3_3) (C := RX8) (T := TX8) (N := 9) hx hb hts iw_X8 hown hK.1 (va_one hr_7) 0 rfl rfl 3 (by decide) (hts _ fl_X8_39) (fun _ h9 => h9) rfl dX8_takeSend_40 ?_
      refine lv_iconst (v := 0) hx hb dX8_takeSend_43 (by decide) ?_
      refine va_callr (rnV (fun H => TH E (T1 E) G [] H) (As := [.int 0]) (rest := []) ⟨hx, hb, hml, hown, hts⟩ (t_X5_at l E z0 G hGz v3_3 0 hg3_3 (by have := i_0; first | omega | decide)) (cwV 1 hts (gdV ml_X8_116 im_X5_at se_X5_X5_at in_X5 co_X5_at rfl) rfl rfl rfl (by decide +kernel) ⟨Nat.le_of_ble_eq_true rfl, Nat.le_of_ble_eq_true rfl⟩) hT (fun U hU hW => hK.go hW hS hAz hU) (va_recv hK.1 (va_one ha_5) (ci := 5) (q0 := 0) rfl rfl) rfl rfl hl.1 rfl (lv_room (Nat.le_of_ble_eq_true rfl)) dX8_takeSend_44 ⟨Nat.le_of_ble_eq_true rfl, Nat.le_of_ble_eq_true rfl⟩) hS (fun q _ h => h.elim) (fun q h => h.elim) (fun _ r_8 t H locs ht hvm hwr_8 hB hz hk hS => ?_)
      have grr_8 : G r_8 = 13 := hB
      have hT : TH E (T1 E) G [] H := hT.kept (fun q hq => hk q hq (fun h => h))
      have ha_1 := ha_1.kept (hk _ ha_1.lt (fun h => h))
      have hr_7 := hr_7.kept (hk _ hr_7.lt (fun h => h))
      have ha_5 := ha_5.kept (hk _ ha_5.lt (fun h => h))
      refine lv_astore_n (lv' := [(2, .ref r_8), (0, .ref h0), (1, .ref p0)]) hx hb dX8_takeSend_47 rfl hl (by decide) rfl (fun ls hl => ?_)
      refine lv_aload_n hx hb dX8_takeSend_48 rfl (lv_at hl 0 rfl) ?_
      obtain ⟨v0_9, v1_9, v2_9, v3_9, v4_9, v5_9, v6_9, v7_9, v8_9, v9_9, ha_9, hb3_9⟩ := tr_13 hT grr_8
      refine va_get (D := DG E) (ci := 4) (v := .int v3_9) (C := RX4) (T := TX4) (N := 10) hx hb hts iw_X4 hown hK.1 (va_one ha_9) 0 rfl rfl 3 (by decide) (hts _ fl_X8_120) (fun _ h9 => h9) rfl dX8_takeSend_49 ?_
      refine lv_aload_n hx hb dX8_takeSend_52 rfl (lv_at hl 0 rfl) ?_
      refine va_get (D := DG E) (ci := 4) (v := .int v9_9) (C := RX4) (T := TX4) (N := 10) hx hb hts iw_X4 hown hK.1 (va_one ha_9) 0 rfl rfl 9 (by decide) (hts _ fl_X8_125) (fun _ h9 => h9) rfl dX8_takeSend_53 ?_
      refine lv_isub hx hb dX8_takeSend_56 ?_
      refine lv_topi (fun x_10 ex_10 => ?_)
      refine lv_istore_n (lv' := [(3, .int x_10), (2, .ref r_8), (0, .ref h0), (1, .ref p0)]) hx hb dX8_takeSend_57 rfl hl (by decide) rfl (fun ls hl => ?_)
      refine lv_aload_n hx hb dX8_takeSend_58 rfl (lv_at hl 3 rfl) ?_
      refine va_get (D := DG E) (ci := 2) (v := .int v3_1) (C := RX2) (T := TX2) (N := 8) hx hb hts iw_X2 hown hK.1 (va_one ha_1) 0 rfl rfl 3 (by decide) (hts _ fl_X8_128) (fun _ h9 => h9) rfl dX8_takeSend_59 ?_
      refine lv_iload_n hx hb dX8_takeSend_62 rfl (lv_at hl 0 rfl) ?_
      refine lv_icmp_le (tgt := 77) hx hb dX8_takeSend_63 (by decide) (fun c_11 => ?_) (fun c_11 => ?_)
      · simp only [lt_I, le_I, eq_I, i_0, i_1, i_2, i_3, i_4, i_5, i_6, i_7, i_8, i_10, i_12, i_16, i_20, i_23, i_24, i_31, i_32, i_63, i_64, i_m1] at c_11
        refine lv_aload_n hx hb dX8_takeSend_77 rfl (lv_at hl 3 rfl) ?_
        refine lv_aload_n hx hb dX8_takeSend_78 rfl (lv_at hl 2 rfl) ?_
        refine va_get (D := DG E) (ci := 8) (v := .ref v1_3) (C := RX8) (T := TX8) (N := 9) hx hb hts iw_X8 hown hK.1 (va_one hr_7) 0 rfl rfl 1 (by decide) (hts _ fl_X8_26) (fun _ h9 => h9) rfl dX8_takeSend_79 ?_
        refine lv_aload_n hx hb dX8_takeSend_82 rfl (lv_at hl 1 rfl) ?_
        refine va_get (D := DG E) (ci := 4) (v := .int v2_9) (C := RX4) (T := TX4) (N := 10) hx hb hts iw_X4 hown hK.1 (va_one ha_9) 0 rfl rfl 2 (by decide) (hts _ fl_X8_129) (fun _ h9 => h9) rfl dX8_takeSend_83 ?_
        refine lv_aload_n hx hb dX8_takeSend_86 rfl (lv_at hl 1 rfl) ?_
        refine va_get (D := DG E) (ci := 4) (v := .int v9_9) (C := RX4) (T := TX4) (N := 10) hx hb hts iw_X4 hown hK.1 (va_one ha_9) 0 rfl rfl 9 (by decide) (hts _ fl_X8_125) (fun _ h9 => h9) rfl dX8_takeSend_87 ?_
        refine lv_iadd hx hb dX8_takeSend_90 ?_
        refine lv_topi (fun x_12 ex_12 => ?_)
        refine lv_iload_n hx hb dX8_takeSend_91 rfl (lv_at hl 0 rfl) ?_
        refine va_callv (rnV (fun H => TH E (T1 E) G [] H) (As := [.ref v1_3, .int x_12, .int x_10]) (rest := []) ⟨hx, hb, hml, hown, hts⟩ (t_X2_unload l E z0 G hGz p0 v1_3 x_12 x_10 hG0 hg1_3) (cwV 3 hts (gdV ml_X8_132 im_X2_unload se_X2_X2_unload in_X2 co_X2_unload rfl) rfl rfl rfl (by decide +kernel) ⟨Nat.le_of_ble_eq_true rfl, Nat.le_of_ble_eq_true rfl⟩) hT (fun U hU hW => hK.go hW hS hAz hU) (va_recv hK.1 (va_one ha_1) (ci := 2) (q0 := 0) rfl rfl) rfl rfl hl.1 rfl (lv_room (Nat.le_of_ble_eq_true rfl)) dX8_takeSend_92 ⟨Nat.le_of_ble_eq_true rfl, Nat.le_of_ble_eq_true rfl⟩) hS (fun q _ h => mL (L' := [14]) (L := [10, 4, 31, 14, 13, 5, 15, 11]) (by decide) h) (fun q h => mL (L' := [14]) (L := [10, 4, 31, 14, 13, 5, 15, 11]) (by decide) h) (fun _ t H locs ht hvm hwr_13 hB hz hk hS => ?_)
        have hT : TH E (T1 E) G [] H := by rw [ht] at hB; exact hB
        have ha_1 := ha_1.kept (hk _ ha_1.lt (nL hG0 (by decide)))
        have hr_7 := hr_7.kept (hk _ hr_7.lt (nL hG (by decide)))
        have ha_5 := ha_5.kept (hk _ ha_5.lt (nL hg3_3 (by decide)))
        have ha_9 := ha_9.kept (hk _ ha_9.lt (nL grr_8 (by decide)))
        refine lv_aload_n hx hb dX8_takeSend_95 rfl (lv_at hl 1 rfl) ?_
        refine lv_dup hx hb dX8_takeSend_96 rfl ?_
        refine va_get (D := DG E) (ci := 4) (v := .int v9_9) (C := RX4) (T := TX4) (N := 10) hx hb hts iw_X4 hown hK.1 (va_one ha_9) 0 rfl rfl 9 (by decide) (hts _ fl_X8_125) (fun _ h9 => h9) rfl dX8_takeSend_97 ?_
        refine lv_aload_n hx hb dX8_takeSend_100 rfl (lv_at hl 3 rfl) ?_
        refine va_get (D := DG E) (ci := 2) (v := .int v3_1) (C := RX2) (T := TX2) (N := 8) hx hb hts iw_X2 hown hK.1 (va_one ha_1) 0 rfl rfl 3 (by decide) (hts _ fl_X8_128) (fun _ h9 => h9) rfl dX8_takeSend_101 ?_
        refine lv_iadd hx hb dX8_takeSend_104 ?_
        refine lv_topi (fun x_14 ex_14 => ?_)
        refine rr_put (D := DG E) (ci := 4) (v := .int x_14) (ty := .int) (C := RX4) (T := TX4) (N := 10) hx hb hts iw_X4 tyX4 tyX4_ok nmX4 hown hK.1 ha_9 hS (by show G r_8 ∈ ([10, 4, 31, 14, 13, 5, 15, 11] : List Nat); rw [grr_8]; decide) rfl 9 (by decide) (hts _ fl_X8_125) (fun _ h9 => h9) rfl (by decide +kernel) rfl rfl (Nat.le_of_ble_eq_true rfl) dX8_takeSend_105 (fun H locs hn ho hz hS => ?_)
        have hr_15 : va_at (DG E) vwCl (r_8, .inr (4, [.int v0_9, .int v1_9, .int v2_9, .int v3_9, .int v4_9, .int v5_9, .int v6_9, .int v7_9, .int v8_9, .int x_14])) H := hn
        have hT : TH E (T1 E) G [] H := hT.set grr_8 (show T1 E G 13 _ from ⟨v0_9, v1_9, v2_9, v3_9, v4_9, v5_9, v6_9, v7_9, v8_9, x_14, rfl, (by omega)⟩) hr_15 ho
        have ha_1 := ha_1.kept (ho _ (ne_G hG0 grr_8 (by decide)))
        have hr_7 := hr_7.kept (ho _ (ne_G hG grr_8 (by decide)))
        have ha_5 := ha_5.kept (ho _ (ne_G hg3_3 grr_8 (by decide)))
        refine lv_aload_n hx hb dX8_takeSend_108 rfl (lv_at hl 3 rfl) ?_
        refine va_calli (rnV (fun H => TH E (T1 E) G [] H) (As := []) (rest := []) ⟨hx, hb, hml, hown, hts⟩ (t_X2_isLast l E z0 G hGz p0 hG0) (cwV 0 hts (gdV ml_X8_136 im_X2_isLast se_X2_X2_isLast in_X2 co_X2_isLast rfl) rfl rfl rfl (by decide +kernel) ⟨Nat.le_of_ble_eq_true rfl, Nat.le_of_ble_eq_true rfl⟩) hT (fun U hU hW => hK.go hW hS hAz hU) (va_recv hK.1 (va_one ha_1) (ci := 2) (q0 := 0) rfl rfl) rfl rfl hl.1 rfl (lv_room (Nat.le_of_ble_eq_true rfl)) dX8_takeSend_109 ⟨Nat.le_of_ble_eq_true rfl, Nat.le_of_ble_eq_true rfl⟩) hS (fun q _ h => h.elim) (fun q h => h.elim) (fun r_16 _ t H locs ht hvm hwr_16 hB hz hk hS => ?_)
        have hT : TH E (T1 E) G [] H := hT.kept (fun q hq => hk q hq (fun h => h))
        have ha_1 := ha_1.kept (hk _ ha_1.lt (fun h => h))
        have hr_7 := hr_7.kept (hk _ hr_7.lt (fun h => h))
        have ha_5 := ha_5.kept (hk _ ha_5.lt (fun h => h))
        have hr_15 := hr_15.kept (hk _ hr_15.lt (fun h => h))
        have hzr_16 := s_rng hwr_16
        refine lv_if_eq (tgt := 128) hx hb dX8_takeSend_112 (by decide) (fun c_17 => ?_) (fun c_17 => ?_)
        · simp only [lt_I, le_I, eq_I, i_0, i_1, i_2, i_3, i_4, i_5, i_6, i_7, i_8, i_10, i_12, i_16, i_20, i_23, i_24, i_31, i_32, i_63, i_64, i_m1] at c_17
          refine lv_aload_n hx hb dX8_takeSend_128 rfl (lv_at hl 2 rfl) ?_
          refine lv_iconst (v := 1) hx hb dX8_takeSend_129 (by decide) ?_
          refine va_callv (rnV (fun H => TH E (T1 E) G [] H) (As := [.int 1]) (rest := []) ⟨hx, hb, hml, hown, hts⟩ (t_X8_advance l E z0 G hGz h0 1 hG) (cwV 1 hts (gdV ml_X8_142 im_X8_advance se_X8_X8_advance in_X8 co_X8_advance rfl) rfl rfl rfl (by decide +kernel) ⟨Nat.le_of_ble_eq_true rfl, Nat.le_of_ble_eq_true rfl⟩) hT (fun U hU hW => hK.go hW hS hAz hU) (va_recv hK.1 (va_one hr_7) (ci := 8) (q0 := 0) rfl rfl) rfl rfl hl.1 rfl (lv_room (Nat.le_of_ble_eq_true rfl)) dX8_takeSend_130 ⟨Nat.le_of_ble_eq_true rfl, Nat.le_of_ble_eq_true rfl⟩) hS (fun q _ h => mL (L' := [10]) (L := [10, 4, 31, 14, 13, 5, 15, 11]) (by decide) h) (fun q h => mL (L' := [10]) (L := [10, 4, 31, 14, 13, 5, 15, 11]) (by decide) h) (fun _ t H locs ht hvm hwr_18 hB hz hk hS => ?_)
          have hT : TH E (T1 E) G [] H := by rw [ht] at hB; exact hB
          have ha_1 := ha_1.kept (hk _ ha_1.lt (nL hG0 (by decide)))
          have ha_5 := ha_5.kept (hk _ ha_5.lt (nL hg3_3 (by decide)))
          have hr_15 := hr_15.kept (hk _ hr_15.lt (nL grr_8 (by decide)))
          refine lv_aload_n hx hb dX8_takeSend_133 rfl (lv_at hl 2 rfl) ?_
          refine lv_aload_n hx hb dX8_takeSend_134 rfl (lv_at hl 3 rfl) ?_
          refine va_get (D := DG E) (ci := 2) (v := .int v2_1) (C := RX2) (T := TX2) (N := 8) hx hb hts iw_X2 hown hK.1 (va_one ha_1) 0 rfl rfl 2 (by decide) (hts _ fl_X8_59) (fun _ h9 => h9) rfl dX8_takeSend_135 ?_
          obtain ⟨v0_19, v1_19, v2_19, v3_19, v4_19, v5_19, v6_19, v7_19, v8_19, ha_19, hb0_19, hg1_19, hg2_19, hg3_19, hg7_19, hg8_19⟩ := tr_10 hT hG
          refine va_callv (rnV (fun H => TH E (T1 E) G [] H) (As := [.int v2_1]) (rest := []) ⟨hx, hb, hml, hown, hts⟩ (t_X8_acknowledge l E z0 G hGz h0 v2_1 hG) (cwV 1 hts (gdV ml_X8_105 im_X8_acknowledge se_X8_X8_acknowledge in_X8 co_X8_acknowledge rfl) rfl rfl rfl (by decide +kernel) ⟨Nat.le_of_ble_eq_true rfl, Nat.le_of_ble_eq_true rfl⟩) hT (fun U hU hW => hK.go hW hS hAz hU) (va_recv hK.1 (va_one ha_19) (ci := 8) (q0 := 0) rfl rfl) rfl rfl hl.1 rfl (lv_room (Nat.le_of_ble_eq_true rfl)) dX8_takeSend_138 ⟨Nat.le_of_ble_eq_true rfl, Nat.le_of_ble_eq_true rfl⟩) hS (fun q _ h => mL (L' := [4, 31]) (L := [10, 4, 31, 14, 13, 5, 15, 11]) (by decide) h) (fun q h => mL (L' := [4, 31]) (L := [10, 4, 31, 14, 13, 5, 15, 11]) (by decide) h) (fun _ t H locs ht hvm hwr_20 hB hz hk hS => ?_)
          have hT : TH E (T1 E) G [] H := by rw [ht] at hB; exact hB
          have ha_5 := ha_5.kept (hk _ ha_5.lt (nL hg3_3 (by decide)))
          have hr_15 := hr_15.kept (hk _ hr_15.lt (nL grr_8 (by decide)))
          have ha_19 := ha_19.kept (hk _ ha_19.lt (nL hG (by decide)))
          refine lv_iconst (v := 0) hx hb dX8_takeSend_141 (by decide) ?_
          exact W.iret (v := 0) hx hb hr (fun t ht hW => ⟨⟨0, (), rfl, trivial, (by show TH E (T1 E) G [] t.heap; rw [ht]; exact hT)⟩, hS.F ht⟩) hS.2.2 dX8_takeSend_142
        · simp only [lt_I, le_I, eq_I, i_0, i_1, i_2, i_3, i_4, i_5, i_6, i_7, i_8, i_10, i_12, i_16, i_20, i_23, i_24, i_31, i_32, i_63, i_64, i_m1] at c_17
          refine lv_aload_n hx hb dX8_takeSend_115 rfl (lv_at hl 2 rfl) ?_
          refine va_get (D := DG E) (ci := 8) (v := .ref v3_3) (C := RX8) (T := TX8) (N := 9) hx hb hts iw_X8 hown hK.1 (va_one hr_7) 0 rfl rfl 3 (by decide) (hts _ fl_X8_39) (fun _ h9 => h9) rfl dX8_takeSend_116 ?_
          refine lv_iconst (v := 0) hx hb dX8_takeSend_119 (by decide) ?_
          refine va_callv (rnV (fun H => TH E (T1 E) G [] H ∧ va_at (DG E) vwCl (v3_3, .inr (5, [.int v0_5, .ref v1_5, .ref v2_5, .int v3_5, .int v4_5, .int v5_5])) H) (As := [.int 0]) (rest := []) ⟨hx, hb, hml, hown, hts⟩ (t_X5_completeFirst l E z0 G hGz v3_3 0 hg3_3 v0_5 v1_5 v2_5 v3_5 v4_5 v5_5 hg1_5 hg2_5 (by omega) (by omega) (by have := i_0; first | omega | decide)) (cwV 1 hts (gdV ml_X8_139 im_X5_completeFirst se_X5_X5_completeFirst in_X5 co_X5_completeFirst rfl) rfl rfl rfl (by decide +kernel) ⟨Nat.le_of_ble_eq_true rfl, Nat.le_of_ble_eq_true rfl⟩) ⟨hT, ha_5⟩ (fun U hU hW => hK.go hW hS hAz hU) (va_recv hK.1 (va_one ha_5) (ci := 5) (q0 := 0) rfl rfl) rfl rfl hl.1 rfl (lv_room (Nat.le_of_ble_eq_true rfl)) dX8_takeSend_120 ⟨Nat.le_of_ble_eq_true rfl, Nat.le_of_ble_eq_true rfl⟩) hS (fun q _ h => mL (L' := [5, 15, 11]) (L := [10, 4, 31, 14, 13, 5, 15, 11]) (by decide) h) (fun q h => mL (L' := [5, 15, 11]) (L := [10, 4, 31, 14, 13, 5, 15, 11]) (by decide) h) (fun _ t H locs ht hvm hwr_21 hB hz hk hS => ?_)
          have hT : TH E (T1 E) G [] H := by rw [ht] at hB; exact hB
          have ha_1 := ha_1.kept (hk _ ha_1.lt (nL hG0 (by decide)))
          have hr_7 := hr_7.kept (hk _ hr_7.lt (nL hG (by decide)))
          have hr_15 := hr_15.kept (hk _ hr_15.lt (nL grr_8 (by decide)))
          refine lv_aload_n hx hb dX8_takeSend_123 rfl (lv_at hl 2 rfl) ?_
          refine lv_iconst (v := 0) hx hb dX8_takeSend_124 (by decide) ?_
          refine rr_put (D := DG E) (ci := 8) (v := .int 0) (ty := .boolean) (C := RX8) (T := TX8) (N := 9) hx hb hts iw_X8 tyX8 tyX8_ok nmX8 hown hK.1 hr_7 hS (by show G h0 ∈ ([10, 4, 31, 14, 13, 5, 15, 11] : List Nat); rw [hG]; decide) rfl 5 (by decide) (hts _ fl_X8_52) (fun _ h9 => h9) rfl (by decide +kernel) rfl rfl (Nat.le_of_ble_eq_true rfl) dX8_takeSend_125 (fun H locs hn ho hz hS => ?_)
          have hr_22 : va_at (DG E) vwCl (h0, .inr (8, [.int v0_3, .ref v1_3, .ref v2_3, .ref v3_3, .int v4_3, .int 0, .int v6_3, .ref v7_3, .ref v8_3])) H := hn
          have hT : TH E (T1 E) G [] H := hT.set hG (show T1 E G 10 _ from ⟨v0_3, v1_3, v2_3, v3_3, v4_3, 0, v6_3, v7_3, v8_3, rfl, (by omega), hg1_3, hg2_3, hg3_3, hg7_3, hg8_3⟩) hr_22 ho
          have ha_1 := ha_1.kept (ho _ (ne_G hG0 hG (by decide)))
          have hr_15 := hr_15.kept (ho _ (ne_G grr_8 hG (by decide)))
          refine lv_aload_n hx hb dX8_takeSend_128 rfl (lv_at hl 2 rfl) ?_
          refine lv_iconst (v := 1) hx hb dX8_takeSend_129 (by decide) ?_
          refine va_callv (rnV (fun H => TH E (T1 E) G [] H) (As := [.int 1]) (rest := []) ⟨hx, hb, hml, hown, hts⟩ (t_X8_advance l E z0 G hGz h0 1 hG) (cwV 1 hts (gdV ml_X8_142 im_X8_advance se_X8_X8_advance in_X8 co_X8_advance rfl) rfl rfl rfl (by decide +kernel) ⟨Nat.le_of_ble_eq_true rfl, Nat.le_of_ble_eq_true rfl⟩) hT (fun U hU hW => hK.go hW hS hAz hU) (va_recv hK.1 (va_one hr_22) (ci := 8) (q0 := 0) rfl rfl) rfl rfl hl.1 rfl (lv_room (Nat.le_of_ble_eq_true rfl)) dX8_takeSend_130 ⟨Nat.le_of_ble_eq_true rfl, Nat.le_of_ble_eq_true rfl⟩) hS (fun q _ h => mL (L' := [10]) (L := [10, 4, 31, 14, 13, 5, 15, 11]) (by decide) h) (fun q h => mL (L' := [10]) (L := [10, 4, 31, 14, 13, 5, 15, 11]) (by decide) h) (fun _ t H locs ht hvm hwr_23 hB hz hk hS => ?_)
          have hT : TH E (T1 E) G [] H := by rw [ht] at hB; exact hB
          have ha_1 := ha_1.kept (hk _ ha_1.lt (nL hG0 (by decide)))
          have hr_15 := hr_15.kept (hk _ hr_15.lt (nL grr_8 (by decide)))
          refine lv_aload_n hx hb dX8_takeSend_133 rfl (lv_at hl 2 rfl) ?_
          refine lv_aload_n hx hb dX8_takeSend_134 rfl (lv_at hl 3 rfl) ?_
          refine va_get (D := DG E) (ci := 2) (v := .int v2_1) (C := RX2) (T := TX2) (N := 8) hx hb hts iw_X2 hown hK.1 (va_one ha_1) 0 rfl rfl 2 (by decide) (hts _ fl_X8_59) (fun _ h9 => h9) rfl dX8_takeSend_135 ?_
          obtain ⟨v0_24, v1_24, v2_24, v3_24, v4_24, v5_24, v6_24, v7_24, v8_24, ha_24, hb0_24, hg1_24, hg2_24, hg3_24, hg7_24, hg8_24⟩ := tr_10 hT hG
          refine va_callv (rnV (fun H => TH E (T1 E) G [] H) (As := [.int v2_1]) (rest := []) ⟨hx, hb, hml, hown, hts⟩ (t_X8_acknowledge l E z0 G hGz h0 v2_1 hG) (cwV 1 hts (gdV ml_X8_105 im_X8_acknowledge se_X8_X8_acknowledge in_X8 co_X8_acknowledge rfl) rfl rfl rfl (by decide +kernel) ⟨Nat.le_of_ble_eq_true rfl, Nat.le_of_ble_eq_true rfl⟩) hT (fun U hU hW => hK.go hW hS hAz hU) (va_recv hK.1 (va_one ha_24) (ci := 8) (q0 := 0) rfl rfl) rfl rfl hl.1 rfl (lv_room (Nat.le_of_ble_eq_true rfl)) dX8_takeSend_138 ⟨Nat.le_of_ble_eq_true rfl, Nat.le_of_ble_eq_true rfl⟩) hS (fun q _ h => mL (L' := [4, 31]) (L := [10, 4, 31, 14, 13, 5, 15, 11]) (by decide) h) (fun q h => mL (L' := [4, 31]) (L := [10, 4, 31, 14, 13, 5, 15, 11]) (by decide) h) (fun _ t H locs ht hvm hwr_25 hB hz hk hS => ?_)
          have hT : TH E (T1 E) G [] H := by rw [ht] at hB; exact hB
          have hr_15 := hr_15.kept (hk _ hr_15.lt (nL grr_8 (by decide)))
          have ha_24 := ha_24.kept (hk _ ha_24.lt (nL hG (by decide)))
          refine lv_iconst (v := 0) hx hb dX8_takeSend_141 (by decide) ?_
          exact W.iret (v := 0) hx hb hr (fun t ht hW => ⟨⟨0, (), rfl, trivial, (by show TH E (T1 E) G [] t.heap; rw [ht]; exact hT)⟩, hS.F ht⟩) hS.2.2 dX8_takeSend_142
      · simp only [lt_I, le_I, eq_I, i_0, i_1, i_2, i_3, i_4, i_5, i_6, i_7, i_8, i_10, i_12, i_16, i_20, i_23, i_24, i_31, i_32, i_63, i_64, i_m1] at c_11
        refine lv_aload_n hx hb dX8_takeSend_66 rfl (lv_at hl 2 rfl) ?_
        refine lv_aload_n hx hb dX8_takeSend_67 rfl (lv_at hl 3 rfl) ?_
        refine va_get (D := DG E) (ci := 2) (v := .int v2_1) (C := RX2) (T := TX2) (N := 8) hx hb hts iw_X2 hown hK.1 (va_one ha_1) 0 rfl rfl 2 (by decide) (hts _ fl_X8_59) (fun _ h9 => h9) rfl dX8_takeSend_68 ?_
        refine lv_iconst (v := 4) hx hb dX8_takeSend_71 (by decide) ?_
        refine va_callv (rnV (fun H => TH E (T1 E) G [] H) (As := [.int v2_1, .int 4]) (rest := []) ⟨hx, hb, hml, hown, hts⟩ (t_X8_refuse l E z0 G hGz h0 v2_1 4 hG) (cwV 2 hts (gdV ml_X8_85 im_X8_refuse se_X8_X8_refuse in_X8 co_X8_refuse rfl) rfl rfl rfl (by decide +kernel) ⟨Nat.le_of_ble_eq_true rfl, Nat.le_of_ble_eq_true rfl⟩) hT (fun U hU hW => hK.go hW hS hAz hU) (va_recv hK.1 (va_one hr_7) (ci := 8) (q0 := 0) rfl rfl) rfl rfl hl.1 rfl (lv_room (Nat.le_of_ble_eq_true rfl)) dX8_takeSend_72 ⟨Nat.le_of_ble_eq_true rfl, Nat.le_of_ble_eq_true rfl⟩) hS (fun q _ h => mL (L' := [4, 31]) (L := [10, 4, 31, 14, 13, 5, 15, 11]) (by decide) h) (fun q h => mL (L' := [4, 31]) (L := [10, 4, 31, 14, 13, 5, 15, 11]) (by decide) h) (fun _ t H locs ht hvm hwr_26 hB hz hk hS => ?_)
        have hT : TH E (T1 E) G [] H := by rw [ht] at hB; exact hB
        have hr_7 := hr_7.kept (hk _ hr_7.lt (nL hG (by decide)))
        have ha_5 := ha_5.kept (hk _ ha_5.lt (nL hg3_3 (by decide)))
        have ha_9 := ha_9.kept (hk _ ha_9.lt (nL grr_8 (by decide)))
        refine lv_iconst (v := 4) hx hb dX8_takeSend_75 (by decide) ?_
        exact W.iret (v := 4) hx hb hr (fun t ht hW => ⟨⟨4, (), rfl, trivial, (by show TH E (T1 E) G [] t.heap; rw [ht]; exact hT)⟩, hS.F ht⟩) hS.2.2 dX8_takeSend_76
    · simp only [lt_I, le_I, eq_I, i_0, i_1, i_2, i_3, i_4, i_5, i_6, i_7, i_8, i_10, i_12, i_16, i_20, i_23, i_24, i_31, i_32, i_63, i_64, i_m1] at c_6
      refine lv_aload_n hx hb dX8_takeSend_23 rfl (lv_at hl 0 rfl) ?_
      refine lv_aload_n hx hb dX8_takeSend_24 rfl (lv_at hl 1 rfl) ?_
      refine va_get (D := DG E) (ci := 2) (v := .int v2_1) (C := RX2) (T := TX2) (N := 8) hx hb hts iw_X2 hown hK.1 (va_one ha_1) 0 rfl rfl 2 (by decide) (hts _ fl_X8_59) (fun _ h9 => h9) rfl dX8_takeSend_25 ?_
      refine lv_iconst (v := 2) hx hb dX8_takeSend_28 (by decide) ?_
      refine va_callv (rnV (fun H => TH E (T1 E) G [] H) (As := [.int v2_1, .int 2]) (rest := []) ⟨hx, hb, hml, hown, hts⟩ (t_X8_refuse l E z0 G hGz h0 v2_1 2 hG) (cwV 2 hts (gdV ml_X8_85 im_X8_refuse se_X8_X8_refuse in_X8 co_X8_refuse rfl) rfl rfl rfl (by decide +kernel) ⟨Nat.le_of_ble_eq_true rfl, Nat.le_of_ble_eq_true rfl⟩) hT (fun U hU hW => hK.go hW hS hAz hU) (va_recv hK.1 (va_one ha_3) (ci := 8) (q0 := 0) rfl rfl) rfl rfl hl.1 rfl (lv_room (Nat.le_of_ble_eq_true rfl)) dX8_takeSend_29 ⟨Nat.le_of_ble_eq_true rfl, Nat.le_of_ble_eq_true rfl⟩) hS (fun q _ h => mL (L' := [4, 31]) (L := [10, 4, 31, 14, 13, 5, 15, 11]) (by decide) h) (fun q h => mL (L' := [4, 31]) (L := [10, 4, 31, 14, 13, 5, 15, 11]) (by decide) h) (fun _ t H locs ht hvm hwr_27 hB hz hk hS => ?_)
      have hT : TH E (T1 E) G [] H := by rw [ht] at hB; exact hB
      have ha_3 := ha_3.kept (hk _ ha_3.lt (nL hG (by decide)))
      have ha_5 := ha_5.kept (hk _ ha_5.lt (nL hg3_3 (by decide)))
      refine lv_iconst (v := 0) hx hb dX8_takeSend_32 (by decide) ?_
      exact W.iret (v := 0) hx hb hr (fun t ht hW => ⟨⟨0, (), rfl, trivial, (by show TH E (T1 E) G [] t.heap; rw [ht]; exact hT)⟩, hS.F ht⟩) hS.2.2 dX8_takeSend_33
  · simp only [lt_I, le_I, eq_I, i_0, i_1, i_2, i_3, i_4, i_5, i_6, i_7, i_8, i_10, i_12, i_16, i_20, i_23, i_24, i_31, i_32, i_63, i_64, i_m1] at c_4
    refine lv_iconst (v := 0) hx hb dX8_takeSend_11 (by decide) ?_
    exact W.iret (v := 0) hx hb hr (fun t ht hW => ⟨⟨0, (), rfl, trivial, (by show TH E (T1 E) G [] t.heap; rw [ht]; exact hT)⟩, hS.F ht⟩) hS.2.2 dX8_takeSend_12
theorem dX8_takeReach_0 : decode cX8_takeReach 0 = .ok (.aload_n 1, 1) := by decide +kernel
theorem dX8_takeReach_1 : decode cX8_takeReach 1 = .ok (.aload_n 0, 1) := by decide +kernel
theorem dX8_takeReach_2 : decode cX8_takeReach 2 = .ok (.getfield 26, 3) := by decide +kernel
theorem dX8_takeReach_5 : decode cX8_takeReach 5 = .ok (.invokevirtual 89, 3) := by decide +kernel
theorem dX8_takeReach_8 : decode cX8_takeReach 8 = .ok (.ifCond .ne 14, 3) := by decide +kernel
theorem dX8_takeReach_11 : decode cX8_takeReach 11 = .ok (.aload_n 0, 1) := by decide +kernel
theorem dX8_takeReach_12 : decode cX8_takeReach 12 = .ok (.aload_n 1, 1) := by decide +kernel
theorem dX8_takeReach_13 : decode cX8_takeReach 13 = .ok (.getfield 59, 3) := by decide +kernel
theorem dX8_takeReach_16 : decode cX8_takeReach 16 = .ok (.iconst 3, 1) := by decide +kernel
theorem dX8_takeReach_17 : decode cX8_takeReach 17 = .ok (.invokevirtual 85, 3) := by decide +kernel
theorem dX8_takeReach_20 : decode cX8_takeReach 20 = .ok (.iconst 5, 1) := by decide +kernel
theorem dX8_takeReach_21 : decode cX8_takeReach 21 = .ok (.ireturn, 1) := by decide +kernel
theorem dX8_takeReach_22 : decode cX8_takeReach 22 = .ok (.aload_n 1, 1) := by decide +kernel
theorem dX8_takeReach_23 : decode cX8_takeReach 23 = .ok (.getfield 75, 3) := by decide +kernel
theorem dX8_takeReach_26 : decode cX8_takeReach 26 = .ok (.iconst 2, 1) := by decide +kernel
theorem dX8_takeReach_27 : decode cX8_takeReach 27 = .ok (.if_icmp .ne 22, 3) := by decide +kernel
theorem dX8_takeReach_30 : decode cX8_takeReach 30 = .ok (.aload_n 0, 1) := by decide +kernel
theorem dX8_takeReach_31 : decode cX8_takeReach 31 = .ok (.aload_n 1, 1) := by decide +kernel
theorem dX8_takeReach_32 : decode cX8_takeReach 32 = .ok (.invokevirtual 93, 3) := by decide +kernel
theorem dX8_takeReach_35 : decode cX8_takeReach 35 = .ok (.aload_n 0, 1) := by decide +kernel
theorem dX8_takeReach_36 : decode cX8_takeReach 36 = .ok (.aload_n 1, 1) := by decide +kernel
theorem dX8_takeReach_37 : decode cX8_takeReach 37 = .ok (.getfield 128, 3) := by decide +kernel
theorem dX8_takeReach_40 : decode cX8_takeReach 40 = .ok (.invokestatic 145, 3) := by decide +kernel
theorem dX8_takeReach_43 : decode cX8_takeReach 43 = .ok (.invokevirtual 142, 3) := by decide +kernel
theorem dX8_takeReach_46 : decode cX8_takeReach 46 = .ok (.goto 61, 3) := by decide +kernel
theorem dX8_takeReach_49 : decode cX8_takeReach 49 = .ok (.aload_n 1, 1) := by decide +kernel
theorem dX8_takeReach_50 : decode cX8_takeReach 50 = .ok (.getfield 75, 3) := by decide +kernel
theorem dX8_takeReach_53 : decode cX8_takeReach 53 = .ok (.iconst 3, 1) := by decide +kernel
theorem dX8_takeReach_54 : decode cX8_takeReach 54 = .ok (.if_icmp .ne 24, 3) := by decide +kernel
theorem dX8_takeReach_57 : decode cX8_takeReach 57 = .ok (.aload_n 0, 1) := by decide +kernel
theorem dX8_takeReach_58 : decode cX8_takeReach 58 = .ok (.aload_n 1, 1) := by decide +kernel
theorem dX8_takeReach_59 : decode cX8_takeReach 59 = .ok (.getfield 59, 3) := by decide +kernel
theorem dX8_takeReach_62 : decode cX8_takeReach 62 = .ok (.aload_n 0, 1) := by decide +kernel
theorem dX8_takeReach_63 : decode cX8_takeReach 63 = .ok (.aload_n 1, 1) := by decide +kernel
theorem dX8_takeReach_64 : decode cX8_takeReach 64 = .ok (.invokevirtual 148, 3) := by decide +kernel
theorem dX8_takeReach_67 : decode cX8_takeReach 67 = .ok (.invokevirtual 99, 3) := by decide +kernel
theorem dX8_takeReach_70 : decode cX8_takeReach 70 = .ok (.aload_n 0, 1) := by decide +kernel
theorem dX8_takeReach_71 : decode cX8_takeReach 71 = .ok (.iconst 1, 1) := by decide +kernel
theorem dX8_takeReach_72 : decode cX8_takeReach 72 = .ok (.invokevirtual 142, 3) := by decide +kernel
theorem dX8_takeReach_75 : decode cX8_takeReach 75 = .ok (.goto 32, 3) := by decide +kernel
theorem dX8_takeReach_78 : decode cX8_takeReach 78 = .ok (.aload_n 1, 1) := by decide +kernel
theorem dX8_takeReach_79 : decode cX8_takeReach 79 = .ok (.aload_n 0, 1) := by decide +kernel
theorem dX8_takeReach_80 : decode cX8_takeReach 80 = .ok (.getfield 26, 3) := by decide +kernel
theorem dX8_takeReach_83 : decode cX8_takeReach 83 = .ok (.aload_n 1, 1) := by decide +kernel
theorem dX8_takeReach_84 : decode cX8_takeReach 84 = .ok (.getfield 151, 3) := by decide +kernel
theorem dX8_takeReach_87 : decode cX8_takeReach 87 = .ok (.aload_n 1, 1) := by decide +kernel
theorem dX8_takeReach_88 : decode cX8_takeReach 88 = .ok (.getfield 128, 3) := by decide +kernel
theorem dX8_takeReach_91 : decode cX8_takeReach 91 = .ok (.invokevirtual 132, 3) := by decide +kernel
theorem dX8_takeReach_94 : decode cX8_takeReach 94 = .ok (.aload_n 0, 1) := by decide +kernel
theorem dX8_takeReach_95 : decode cX8_takeReach 95 = .ok (.iconst 1, 1) := by decide +kernel
theorem dX8_takeReach_96 : decode cX8_takeReach 96 = .ok (.invokevirtual 142, 3) := by decide +kernel
theorem dX8_takeReach_99 : decode cX8_takeReach 99 = .ok (.aload_n 0, 1) := by decide +kernel
theorem dX8_takeReach_100 : decode cX8_takeReach 100 = .ok (.aload_n 1, 1) := by decide +kernel
theorem dX8_takeReach_101 : decode cX8_takeReach 101 = .ok (.getfield 59, 3) := by decide +kernel
theorem dX8_takeReach_104 : decode cX8_takeReach 104 = .ok (.invokevirtual 105, 3) := by decide +kernel
theorem dX8_takeReach_107 : decode cX8_takeReach 107 = .ok (.iconst 0, 1) := by decide +kernel
theorem dX8_takeReach_108 : decode cX8_takeReach 108 = .ok (.ireturn, 1) := by decide +kernel
set_option maxHeartbeats 8000000 in
set_option maxRecDepth 100000 in
theorem t_X8_takeReach (l : Launch) (E : EE) (z0 : Nat) (G : Nat → Nat) (hGz : ∀ q, G q ≠ 0 → z0 ≤ q) (h0 : Nat) (p0 : Nat) (hG : G h0 = 10) (hG0 : G p0 = 31) : Met l yX8_takeReach [Cond.code yX8_takeReach cX8_takeReach 2 (some .int)] ({ frames := 4, cells := 0, slots := 0, locals := 88 } : Room) (va_Pc [.ref h0, .ref p0] (fun U => (TH E (T1 E) G [] U.heap) ∧ KS E z0 U)) (va_Qi (fun (r : Int32) (_ : Unit) => True) (fun _ t => TH E (T1 E) G [] t.heap) (fun q : Nat => G q ∈ ([10, 4, 31, 32, 14, 16, 17] : List Nat))) 0 0 (fun q : Nat => G q ∈ ([10, 4, 31, 32, 14, 16, 17] : List Nat)) := by
  refine Met.ofW (cc := cX8_takeReach) (maxL := 2) (ret := (some .int)) (by decide) rfl ?_
  intro p e s m args below meth c s₁ B hml hv
  obtain ⟨rfl, hT, hK⟩ := hv
  have hx := B.exec
  have hb := B.bytes
  have hr := B.returns
  have hts : ∀ w ∈ TS, w.before ([.ref h0, .ref p0] : List Value).toArray s = true := fun w hw => hK.2.1 w hw _
  have hown : s.vm.findClass RX8 = some m.cls := findClass_of_methodNamed B.named
  have hlocks := B.notSynchronized
  have hS : va_S (fun q : Nat => G q ∈ ([10, 4, 31, 32, 14, 16, 17] : List Nat)) s.heap s.heap [] := va_S.rf
  have hAz : ∀ q, (fun q : Nat => G q ∈ ([10, 4, 31, 32, 14, 16, 17] : List Nat)) q → z0 ≤ q := zL hGz (by decide)
  have hl := lv_entry ([.ref h0, .ref p0]) (n := 2) (Nat.le_of_ble_eq_true rfl)
  rw [lg_entry_eq]
  generalize (lg_sl ([.ref h0, .ref p0]) ++ List.replicate (2 - (lg_sl ([.ref h0, .ref p0])).length) Slot.unset).toArray = ls at hl ⊢
  have hl : lv_has ls 2 [(0, .ref h0), (1, .ref p0)] := hl
  refine lv_aload_n hx hb dX8_takeReach_0 rfl (lv_at hl 1 rfl) ?_
  refine lv_aload_n hx hb dX8_takeReach_1 rfl (lv_at hl 0 rfl) ?_
  obtain ⟨v0_1, v1_1, v2_1, v3_1, v4_1, v5_1, v6_1, v7_1, v8_1, ha_1, hb0_1, hg1_1, hg2_1, hg3_1, hg7_1, hg8_1⟩ := tr_10 hT hG
  refine va_get (D := DG E) (ci := 8) (v := .ref v1_1) (C := RX8) (T := TX8) (N := 9) hx hb hts iw_X8 hown hK.1 (va_one ha_1) 0 rfl rfl 1 (by decide) (hts _ fl_X8_26) (fun _ h9 => h9) rfl dX8_takeReach_2 ?_
  obtain ⟨v0_2, v1_2, v2_2, v3_2, v4_2, v5_2, v6_2, v7_2, ha_2, hb0_2, hb3_2, hg7_2⟩ := tr_31 hT hG0
  refine va_calli (rnV (fun H => TH E (T1 E) G [] H) (As := [.ref v1_1]) (rest := []) ⟨hx, hb, hml, hown, hts⟩ (t_X2_isAllowed l E z0 G hGz p0 v1_1 hG0 hg1_1) (cwV 1 hts (gdV ml_X8_89 im_X2_isAllowed se_X2_X2_isAllowed in_X2 co_X2_isAllowed rfl) rfl rfl rfl (by decide +kernel) ⟨Nat.le_of_ble_eq_true rfl, Nat.le_of_ble_eq_true rfl⟩) hT (fun U hU hW => hK.go hW hS hAz hU) (va_recv hK.1 (va_one ha_2) (ci := 2) (q0 := 0) rfl rfl) rfl rfl hl.1 rfl (lv_room (Nat.le_of_ble_eq_true rfl)) dX8_takeReach_5 ⟨Nat.le_of_ble_eq_true rfl, Nat.le_of_ble_eq_true rfl⟩) hS (fun q _ h => h.elim) (fun q h => h.elim) (fun r_3 _ t H locs ht hvm hwr_3 hB hz hk hS => ?_)
  have hT : TH E (T1 E) G [] H := hT.kept (fun q hq => hk q hq (fun h => h))
  have ha_1 := ha_1.kept (hk _ ha_1.lt (fun h => h))
  have ha_2 := ha_2.kept (hk _ ha_2.lt (fun h => h))
  have hzr_3 := s_rng hwr_3
  refine lv_if_ne (tgt := 22) hx hb dX8_takeReach_8 (by decide) (fun c_4 => ?_) (fun c_4 => ?_)
  · simp only [lt_I, le_I, eq_I, i_0, i_1, i_2, i_3, i_4, i_5, i_6, i_7, i_8, i_10, i_12, i_16, i_20, i_23, i_24, i_31, i_32, i_63, i_64, i_m1] at c_4
    refine lv_aload_n hx hb dX8_takeReach_22 rfl (lv_at hl 1 rfl) ?_
    refine va_get (D := DG E) (ci := 2) (v := .int v1_2) (C := RX2) (T := TX2) (N := 8) hx hb hts iw_X2 hown hK.1 (va_one ha_2) 0 rfl rfl 1 (by decide) (hts _ fl_X8_75) (fun _ h9 => h9) rfl dX8_takeReach_23 ?_
    refine lv_iconst (v := 2) hx hb dX8_takeReach_26 (by decide) ?_
    refine lv_icmp_ne (tgt := 49) hx hb dX8_takeReach_27 (by decide) (fun c_5 => ?_) (fun c_5 => ?_)
    · simp only [lt_I, le_I, eq_I, i_0, i_1, i_2, i_3, i_4, i_5, i_6, i_7, i_8, i_10, i_12, i_16, i_20, i_23, i_24, i_31, i_32, i_63, i_64, i_m1] at c_5
      refine lv_aload_n hx hb dX8_takeReach_49 rfl (lv_at hl 1 rfl) ?_
      refine va_get (D := DG E) (ci := 2) (v := .int v1_2) (C := RX2) (T := TX2) (N := 8) hx hb hts iw_X2 hown hK.1 (va_one ha_2) 0 rfl rfl 1 (by decide) (hts _ fl_X8_75) (fun _ h9 => h9) rfl dX8_takeReach_50 ?_
      refine lv_iconst (v := 3) hx hb dX8_takeReach_53 (by decide) ?_
      refine lv_icmp_ne (tgt := 78) hx hb dX8_takeReach_54 (by decide) (fun c_6 => ?_) (fun c_6 => ?_)
      · simp only [lt_I, le_I, eq_I, i_0, i_1, i_2, i_3, i_4, i_5, i_6, i_7, i_8, i_10, i_12, i_16, i_20, i_23, i_24, i_31, i_32, i_63, i_64, i_m1] at c_6
        refine lv_aload_n hx hb dX8_takeReach_78 rfl (lv_at hl 1 rfl) ?_
        refine lv_aload_n hx hb dX8_takeReach_79 rfl (lv_at hl 0 rfl) ?_
        refine va_get (D := DG E) (ci := 8) (v := .ref v1_1) (C := RX8) (T := TX8) (N := 9) hx hb hts iw_X8 hown hK.1 (va_one ha_1) 0 rfl rfl 1 (by decide) (hts _ fl_X8_26) (fun _ h9 => h9) rfl dX8_takeReach_80 ?_
        refine lv_aload_n hx hb dX8_takeReach_83 rfl (lv_at hl 1 rfl) ?_
        refine va_get (D := DG E) (ci := 2) (v := .int v5_2) (C := RX2) (T := TX2) (N := 8) hx hb hts iw_X2 hown hK.1 (va_one ha_2) 0 rfl rfl 5 (by decide) (hts _ fl_X8_151) (fun _ h9 => h9) rfl dX8_takeReach_84 ?_
        refine lv_aload_n hx hb dX8_takeReach_87 rfl (lv_at hl 1 rfl) ?_
        refine va_get (D := DG E) (ci := 2) (v := .int v3_2) (C := RX2) (T := TX2) (N := 8) hx hb hts iw_X2 hown hK.1 (va_one ha_2) 0 rfl rfl 3 (by decide) (hts _ fl_X8_128) (fun _ h9 => h9) rfl dX8_takeReach_88 ?_
        refine va_callv (rnV (fun H => TH E (T1 E) G [] H) (As := [.ref v1_1, .int v5_2, .int v3_2]) (rest := []) ⟨hx, hb, hml, hown, hts⟩ (t_X2_unload l E z0 G hGz p0 v1_1 v5_2 v3_2 hG0 hg1_1) (cwV 3 hts (gdV ml_X8_132 im_X2_unload se_X2_X2_unload in_X2 co_X2_unload rfl) rfl rfl rfl (by decide +kernel) ⟨Nat.le_of_ble_eq_true rfl, Nat.le_of_ble_eq_true rfl⟩) hT (fun U hU hW => hK.go hW hS hAz hU) (va_recv hK.1 (va_one ha_2) (ci := 2) (q0 := 0) rfl rfl) rfl rfl hl.1 rfl (lv_room (Nat.le_of_ble_eq_true rfl)) dX8_takeReach_91 ⟨Nat.le_of_ble_eq_true rfl, Nat.le_of_ble_eq_true rfl⟩) hS (fun q _ h => mL (L' := [14]) (L := [10, 4, 31, 32, 14, 16, 17]) (by decide) h) (fun q h => mL (L' := [14]) (L := [10, 4, 31, 32, 14, 16, 17]) (by decide) h) (fun _ t H locs ht hvm hwr_7 hB hz hk hS => ?_)
        have hT : TH E (T1 E) G [] H := by rw [ht] at hB; exact hB
        have ha_1 := ha_1.kept (hk _ ha_1.lt (nL hG (by decide)))
        have ha_2 := ha_2.kept (hk _ ha_2.lt (nL hG0 (by decide)))
        refine lv_aload_n hx hb dX8_takeReach_94 rfl (lv_at hl 0 rfl) ?_
        refine lv_iconst (v := 1) hx hb dX8_takeReach_95 (by decide) ?_
        refine va_callv (rnV (fun H => TH E (T1 E) G [] H) (As := [.int 1]) (rest := []) ⟨hx, hb, hml, hown, hts⟩ (t_X8_advance l E z0 G hGz h0 1 hG) (cwV 1 hts (gdV ml_X8_142 im_X8_advance se_X8_X8_advance in_X8 co_X8_advance rfl) rfl rfl rfl (by decide +kernel) ⟨Nat.le_of_ble_eq_true rfl, Nat.le_of_ble_eq_true rfl⟩) hT (fun U hU hW => hK.go hW hS hAz hU) (va_recv hK.1 (va_one ha_1) (ci := 8) (q0 := 0) rfl rfl) rfl rfl hl.1 rfl (lv_room (Nat.le_of_ble_eq_true rfl)) dX8_takeReach_96 ⟨Nat.le_of_ble_eq_true rfl, Nat.le_of_ble_eq_true rfl⟩) hS (fun q _ h => mL (L' := [10]) (L := [10, 4, 31, 32, 14, 16, 17]) (by decide) h) (fun q h => mL (L' := [10]) (L := [10, 4, 31, 32, 14, 16, 17]) (by decide) h) (fun _ t H locs ht hvm hwr_8 hB hz hk hS => ?_)
        have hT : TH E (T1 E) G [] H := by rw [ht] at hB; exact hB
        have ha_2 := ha_2.kept (hk _ ha_2.lt (nL hG0 (by decide)))
        refine lv_aload_n hx hb dX8_takeReach_99 rfl (lv_at hl 0 rfl) ?_
        refine lv_aload_n hx hb dX8_takeReach_100 rfl (lv_at hl 1 rfl) ?_
        refine va_get (D := DG E) (ci := 2) (v := .int v2_2) (C := RX2) (T := TX2) (N := 8) hx hb hts iw_X2 hown hK.1 (va_one ha_2) 0 rfl rfl 2 (by decide) (hts _ fl_X8_59) (fun _ h9 => h9) rfl dX8_takeReach_101 ?_
        obtain ⟨v0_9, v1_9, v2_9, v3_9, v4_9, v5_9, v6_9, v7_9, v8_9, ha_9, hb0_9, hg1_9, hg2_9, hg3_9, hg7_9, hg8_9⟩ := tr_10 hT hG
        refine va_callv (rnV (fun H => TH E (T1 E) G [] H) (As := [.int v2_2]) (rest := []) ⟨hx, hb, hml, hown, hts⟩ (t_X8_acknowledge l E z0 G hGz h0 v2_2 hG) (cwV 1 hts (gdV ml_X8_105 im_X8_acknowledge se_X8_X8_acknowledge in_X8 co_X8_acknowledge rfl) rfl rfl rfl (by decide +kernel) ⟨Nat.le_of_ble_eq_true rfl, Nat.le_of_ble_eq_true rfl⟩) hT (fun U hU hW => hK.go hW hS hAz hU) (va_recv hK.1 (va_one ha_9) (ci := 8) (q0 := 0) rfl rfl) rfl rfl hl.1 rfl (lv_room (Nat.le_of_ble_eq_true rfl)) dX8_takeReach_104 ⟨Nat.le_of_ble_eq_true rfl, Nat.le_of_ble_eq_true rfl⟩) hS (fun q _ h => mL (L' := [4, 31]) (L := [10, 4, 31, 32, 14, 16, 17]) (by decide) h) (fun q h => mL (L' := [4, 31]) (L := [10, 4, 31, 32, 14, 16, 17]) (by decide) h) (fun _ t H locs ht hvm hwr_10 hB hz hk hS => ?_)
        have hT : TH E (T1 E) G [] H := by rw [ht] at hB; exact hB
        have ha_9 := ha_9.kept (hk _ ha_9.lt (nL hG (by decide)))
        refine lv_iconst (v := 0) hx hb dX8_takeReach_107 (by decide) ?_
        exact W.iret (v := 0) hx hb hr (fun t ht hW => ⟨⟨0, (), rfl, trivial, (by show TH E (T1 E) G [] t.heap; rw [ht]; exact hT)⟩, hS.F ht⟩) hS.2.2 dX8_takeReach_108
      · simp only [lt_I, le_I, eq_I, i_0, i_1, i_2, i_3, i_4, i_5, i_6, i_7, i_8, i_10, i_12, i_16, i_20, i_23, i_24, i_31, i_32, i_63, i_64, i_m1] at c_6
        refine lv_aload_n hx hb dX8_takeReach_57 rfl (lv_at hl 0 rfl) ?_
        refine lv_aload_n hx hb dX8_takeReach_58 rfl (lv_at hl 1 rfl) ?_
        refine va_get (D := DG E) (ci := 2) (v := .int v2_2) (C := RX2) (T := TX2) (N := 8) hx hb hts iw_X2 hown hK.1 (va_one ha_2) 0 rfl rfl 2 (by decide) (hts _ fl_X8_59) (fun _ h9 => h9) rfl dX8_takeReach_59 ?_
        refine lv_aload_n hx hb dX8_takeReach_62 rfl (lv_at hl 0 rfl) ?_
        refine lv_aload_n hx hb dX8_takeReach_63 rfl (lv_at hl 1 rfl) ?_
        refine va_calli (rnV (fun H => TH E (T1 E) G [] H) (As := [.ref p0]) (rest := [.int v2_2, .ref h0]) ⟨hx, hb, hml, hown, hts⟩ (t_X8_growCell l E z0 G hGz h0 p0 hG hG0) (cwV 1 hts (gdV ml_X8_148 im_X8_growCell se_X8_X8_growCell in_X8 co_X8_growCell rfl) rfl rfl rfl (by decide +kernel) ⟨Nat.le_of_ble_eq_true rfl, Nat.le_of_ble_eq_true rfl⟩) hT (fun U hU hW => hK.go hW hS hAz hU) (va_recv hK.1 (va_one ha_1) (ci := 8) (q0 := 0) rfl rfl) rfl rfl hl.1 rfl (lv_room (Nat.le_of_ble_eq_true rfl)) dX8_takeReach_64 ⟨Nat.le_of_ble_eq_true rfl, Nat.le_of_ble_eq_true rfl⟩) hS (fun q _ h => mL (L' := [14, 16, 17]) (L := [10, 4, 31, 32, 14, 16, 17]) (by decide) h) (fun q h => mL (L' := [14, 16, 17]) (L := [10, 4, 31, 32, 14, 16, 17]) (by decide) h) (fun r_11 _ t H locs ht hvm hwr_11 hB hz hk hS => ?_)
        have hT : TH E (T1 E) G [] H := by rw [ht] at hB; exact hB
        have ha_1 := ha_1.kept (hk _ ha_1.lt (nL hG (by decide)))
        have ha_2 := ha_2.kept (hk _ ha_2.lt (nL hG0 (by decide)))
        refine va_callv (rnV (fun H => TH E (T1 E) G [] H) (As := [.int v2_2, .int r_11]) (rest := []) ⟨hx, hb, hml, hown, hts⟩ (t_X8_replyOne l E z0 G hGz h0 v2_2 r_11 hG) (cwV 2 hts (gdV ml_X8_99 im_X8_replyOne se_X8_X8_replyOne in_X8 co_X8_replyOne rfl) rfl rfl rfl (by decide +kernel) ⟨Nat.le_of_ble_eq_true rfl, Nat.le_of_ble_eq_true rfl⟩) hT (fun U hU hW => hK.go hW hS hAz hU) (va_recv hK.1 (va_one ha_1) (ci := 8) (q0 := 0) rfl rfl) rfl rfl hl.1 rfl (lv_room (Nat.le_of_ble_eq_true rfl)) dX8_takeReach_67 ⟨Nat.le_of_ble_eq_true rfl, Nat.le_of_ble_eq_true rfl⟩) hS (fun q _ h => mL (L' := [4, 31, 32]) (L := [10, 4, 31, 32, 14, 16, 17]) (by decide) h) (fun q h => mL (L' := [4, 31, 32]) (L := [10, 4, 31, 32, 14, 16, 17]) (by decide) h) (fun _ t H locs ht hvm hwr_12 hB hz hk hS => ?_)
        have hT : TH E (T1 E) G [] H := by rw [ht] at hB; exact hB
        have ha_1 := ha_1.kept (hk _ ha_1.lt (nL hG (by decide)))
        refine lv_aload_n hx hb dX8_takeReach_70 rfl (lv_at hl 0 rfl) ?_
        refine lv_iconst (v := 1) hx hb dX8_takeReach_71 (by decide) ?_
        refine va_callv (rnV (fun H => TH E (T1 E) G [] H) (As := [.int 1]) (rest := []) ⟨hx, hb, hml, hown, hts⟩ (t_X8_advance l E z0 G hGz h0 1 hG) (cwV 1 hts (gdV ml_X8_142 im_X8_advance se_X8_X8_advance in_X8 co_X8_advance rfl) rfl rfl rfl (by decide +kernel) ⟨Nat.le_of_ble_eq_true rfl, Nat.le_of_ble_eq_true rfl⟩) hT (fun U hU hW => hK.go hW hS hAz hU) (va_recv hK.1 (va_one ha_1) (ci := 8) (q0 := 0) rfl rfl) rfl rfl hl.1 rfl (lv_room (Nat.le_of_ble_eq_true rfl)) dX8_takeReach_72 ⟨Nat.le_of_ble_eq_true rfl, Nat.le_of_ble_eq_true rfl⟩) hS (fun q _ h => mL (L' := [10]) (L := [10, 4, 31, 32, 14, 16, 17]) (by decide) h) (fun q h => mL (L' := [10]) (L := [10, 4, 31, 32, 14, 16, 17]) (by decide) h) (fun _ t H locs ht hvm hwr_13 hB hz hk hS => ?_)
        have hT : TH E (T1 E) G [] H := by rw [ht] at hB; exact hB
        refine lv_goto (tgt := 107) hx hb dX8_takeReach_75 (by decide) ?_
        refine lv_iconst (v := 0) hx hb dX8_takeReach_107 (by decide) ?_
        exact W.iret (v := 0) hx hb hr (fun t ht hW => ⟨⟨0, (), rfl, trivial, (by show TH E (T1 E) G [] t.heap; rw [ht]; exact hT)⟩, hS.F ht⟩) hS.2.2 dX8_takeReach_108
    · simp only [lt_I, le_I, eq_I, i_0, i_1, i_2, i_3, i_4, i_5, i_6, i_7, i_8, i_10, i_12, i_16, i_20, i_23, i_24, i_31, i_32, i_63, i_64, i_m1] at c_5
      refine lv_aload_n hx hb dX8_takeReach_30 rfl (lv_at hl 0 rfl) ?_
      refine lv_aload_n hx hb dX8_takeReach_31 rfl (lv_at hl 1 rfl) ?_
      refine va_callv (rnV (fun H => TH E (T1 E) G [] H) (As := [.ref p0]) (rest := []) ⟨hx, hb, hml, hown, hts⟩ (t_X8_replyCells l E z0 G hGz h0 p0 hG hG0) (cwV 1 hts (gdV ml_X8_93 im_X8_replyCells se_X8_X8_replyCells in_X8 co_X8_replyCells rfl) rfl rfl rfl (by decide +kernel) ⟨Nat.le_of_ble_eq_true rfl, Nat.le_of_ble_eq_true rfl⟩) hT (fun U hU hW => hK.go hW hS hAz hU) (va_recv hK.1 (va_one ha_1) (ci := 8) (q0 := 0) rfl rfl) rfl rfl hl.1 rfl (lv_room (Nat.le_of_ble_eq_true rfl)) dX8_takeReach_32 ⟨Nat.le_of_ble_eq_true rfl, Nat.le_of_ble_eq_true rfl⟩) hS (fun q _ h => mL (L' := [4, 31, 32]) (L := [10, 4, 31, 32, 14, 16, 17]) (by decide) h) (fun q h => mL (L' := [4, 31, 32]) (L := [10, 4, 31, 32, 14, 16, 17]) (by decide) h) (fun _ t H locs ht hvm hwr_14 hB hz hk hS => ?_)
      have hT : TH E (T1 E) G [] H := by rw [ht] at hB; exact hB
      have ha_1 := ha_1.kept (hk _ ha_1.lt (nL hG (by decide)))
      refine lv_aload_n hx hb dX8_takeReach_35 rfl (lv_at hl 0 rfl) ?_
      refine lv_aload_n hx hb dX8_takeReach_36 rfl (lv_at hl 1 rfl) ?_
      obtain ⟨v0_15, v1_15, v2_15, v3_15, v4_15, v5_15, v6_15, v7_15, ha_15, hb0_15, hb3_15, hg7_15⟩ := tr_31 hT hG0
      refine va_get (D := DG E) (ci := 2) (v := .int v3_15) (C := RX2) (T := TX2) (N := 8) hx hb hts iw_X2 hown hK.1 (va_one ha_15) 0 rfl rfl 3 (by decide) (hts _ fl_X8_128) (fun _ h9 => h9) rfl dX8_takeReach_37 ?_
      refine rnSN (As := [.int v3_15]) (rest := [.ref h0]) ⟨hx, hb, hml, hown, hts⟩ (c_X9_numbersFor l v3_15) ⟨va_cnB (host := RX9) 1 hts (gd1 co_X9_numbersFor rfl) rfl rfl rfl (hK.2.1 _ mn_X8_145 #[]) (hts _ in_X9) (by decide +kernel) ⟨Nat.le_of_ble_eq_true rfl, Nat.le_of_ble_eq_true rfl⟩, hts _ st_X9_numbersFor, trivial⟩ rfl rfl hl.1 rfl (lv_room (Nat.le_of_ble_eq_true rfl)) dX8_takeReach_40 ⟨Nat.le_of_ble_eq_true rfl, Nat.le_of_ble_eq_true rfl⟩ ?_
      refine W.eq (g2 := F0 m 43 ls [.int (((v3_15 + 4) - 1) / 4), .ref h0]) (by rfl) ?_
      refine lv_topi (fun x_16 ex_16 => ?_)
      refine va_callv (rnV (fun H => TH E (T1 E) G [] H) (As := [.int x_16]) (rest := []) ⟨hx, hb, hml, hown, hts⟩ (t_X8_advance l E z0 G hGz h0 x_16 hG) (cwV 1 hts (gdV ml_X8_142 im_X8_advance se_X8_X8_advance in_X8 co_X8_advance rfl) rfl rfl rfl (by decide +kernel) ⟨Nat.le_of_ble_eq_true rfl, Nat.le_of_ble_eq_true rfl⟩) hT (fun U hU hW => hK.go hW hS hAz hU) (va_recv hK.1 (va_one ha_1) (ci := 8) (q0 := 0) rfl rfl) rfl rfl hl.1 rfl (lv_room (Nat.le_of_ble_eq_true rfl)) dX8_takeReach_43 ⟨Nat.le_of_ble_eq_true rfl, Nat.le_of_ble_eq_true rfl⟩) hS (fun q _ h => mL (L' := [10]) (L := [10, 4, 31, 32, 14, 16, 17]) (by decide) h) (fun q h => mL (L' := [10]) (L := [10, 4, 31, 32, 14, 16, 17]) (by decide) h) (fun _ t H locs ht hvm hwr_17 hB hz hk hS => ?_)
      have hT : TH E (T1 E) G [] H := by rw [ht] at hB; exact hB
      have ha_15 := ha_15.kept (hk _ ha_15.lt (nL hG0 (by decide)))
      refine lv_goto (tgt := 107) hx hb dX8_takeReach_46 (by decide) ?_
      refine lv_iconst (v := 0) hx hb dX8_takeReach_107 (by decide) ?_
      exact W.iret (v := 0) hx hb hr (fun t ht hW => ⟨⟨0, (), rfl, trivial, (by show TH E (T1 E) G [] t.heap; rw [ht]; exact hT)⟩, hS.F ht⟩) hS.2.2 dX8_takeReach_108
  · simp only [lt_I, le_I, eq_I, i_0, i_1, i_2, i_3, i_4, i_5, i_6, i_7, i_8, i_10, i_12, i_16, i_20, i_23, i_24, i_31, i_32, i_63, i_64, i_m1] at c_4
    refine lv_aload_n hx hb dX8_takeReach_11 rfl (lv_at hl 0 rfl) ?_
    refine lv_aload_n hx hb dX8_takeReach_12 rfl (lv_at hl 1 rfl) ?_
    refine va_get (D := DG E) (ci := 2) (v := .int v2_2) (C := RX2) (T := TX2) (N := 8) hx hb hts iw_X2 hown hK.1 (va_one ha_2) 0 rfl rfl 2 (by decide) (hts _ fl_X8_59) (fun _ h9 => h9) rfl dX8_takeReach_13 ?_
    refine lv_iconst (v := 3) hx hb dX8_takeReach_16 (by decide) ?_
    refine va_callv (rnV (fun H => TH E (T1 E) G [] H) (As := [.int v2_2, .int 3]) (rest := []) ⟨hx, hb, hml, hown, hts⟩ (t_X8_refuse l E z0 G hGz h0 v2_2 3 hG) (cwV 2 hts (gdV ml_X8_85 im_X8_refuse se_X8_X8_refuse in_X8 co_X8_refuse rfl) rfl rfl rfl (by decide +kernel) ⟨Nat.le_of_ble_eq_true rfl, Nat.le_of_ble_eq_true rfl⟩) hT (fun U hU hW => hK.go hW hS hAz hU) (va_recv hK.1 (va_one ha_1) (ci := 8) (q0 := 0) rfl rfl) rfl rfl hl.1 rfl (lv_room (Nat.le_of_ble_eq_true rfl)) dX8_takeReach_17 ⟨Nat.le_of_ble_eq_true rfl, Nat.le_of_ble_eq_true rfl⟩) hS (fun q _ h => mL (L' := [4, 31]) (L := [10, 4, 31, 32, 14, 16, 17]) (by decide) h) (fun q h => mL (L' := [4, 31]) (L := [10, 4, 31, 32, 14, 16, 17]) (by decide) h) (fun _ t H locs ht hvm hwr_18 hB hz hk hS => ?_)
    have hT : TH E (T1 E) G [] H := by rw [ht] at hB; exact hB
    have ha_1 := ha_1.kept (hk _ ha_1.lt (nL hG (by decide)))
    refine lv_iconst (v := 5) hx hb dX8_takeReach_20 (by decide) ?_
    exact W.iret (v := 5) hx hb hr (fun t ht hW => ⟨⟨5, (), rfl, trivial, (by show TH E (T1 E) G [] t.heap; rw [ht]; exact hT)⟩, hS.F ht⟩) hS.2.2 dX8_takeReach_21
theorem dX8_takeIn_0 : decode cX8_takeIn 0 = .ok (.aload_n 0, 1) := by decide +kernel
theorem dX8_takeIn_1 : decode cX8_takeIn 1 = .ok (.getfield 49, 3) := by decide +kernel
theorem dX8_takeIn_4 : decode cX8_takeIn 4 = .ok (.aload_n 1, 1) := by decide +kernel
theorem dX8_takeIn_5 : decode cX8_takeIn 5 = .ok (.getfield 59, 3) := by decide +kernel
theorem dX8_takeIn_8 : decode cX8_takeIn 8 = .ok (.invokestatic 64, 3) := by decide +kernel
theorem dX8_takeIn_11 : decode cX8_takeIn 11 = .ok (.istore_n 2, 1) := by decide +kernel
theorem dX8_takeIn_12 : decode cX8_takeIn 12 = .ok (.iload_n 2, 1) := by decide +kernel
theorem dX8_takeIn_13 : decode cX8_takeIn 13 = .ok (.bipush 32, 2) := by decide +kernel
theorem dX8_takeIn_15 : decode cX8_takeIn 15 = .ok (.if_icmp .lt 10, 3) := by decide +kernel
theorem dX8_takeIn_18 : decode cX8_takeIn 18 = .ok (.aload_n 0, 1) := by decide +kernel
theorem dX8_takeIn_19 : decode cX8_takeIn 19 = .ok (.aload_n 1, 1) := by decide +kernel
theorem dX8_takeIn_20 : decode cX8_takeIn 20 = .ok (.invokevirtual 68, 3) := by decide +kernel
theorem dX8_takeIn_23 : decode cX8_takeIn 23 = .ok (.iconst 0, 1) := by decide +kernel
theorem dX8_takeIn_24 : decode cX8_takeIn 24 = .ok (.ireturn, 1) := by decide +kernel
theorem dX8_takeIn_25 : decode cX8_takeIn 25 = .ok (.iload_n 2, 1) := by decide +kernel
theorem dX8_takeIn_26 : decode cX8_takeIn 26 = .ok (.ifCond .le 9, 3) := by decide +kernel
theorem dX8_takeIn_29 : decode cX8_takeIn 29 = .ok (.aload_n 0, 1) := by decide +kernel
theorem dX8_takeIn_30 : decode cX8_takeIn 30 = .ok (.invokevirtual 72, 3) := by decide +kernel
theorem dX8_takeIn_33 : decode cX8_takeIn 33 = .ok (.iconst 0, 1) := by decide +kernel
theorem dX8_takeIn_34 : decode cX8_takeIn 34 = .ok (.ireturn, 1) := by decide +kernel
theorem dX8_takeIn_35 : decode cX8_takeIn 35 = .ok (.aload_n 1, 1) := by decide +kernel
theorem dX8_takeIn_36 : decode cX8_takeIn 36 = .ok (.getfield 75, 3) := by decide +kernel
theorem dX8_takeIn_39 : decode cX8_takeIn 39 = .ok (.ifCond .ne 11, 3) := by decide +kernel
theorem dX8_takeIn_42 : decode cX8_takeIn 42 = .ok (.aload_n 0, 1) := by decide +kernel
theorem dX8_takeIn_43 : decode cX8_takeIn 43 = .ok (.aload_n 1, 1) := by decide +kernel
theorem dX8_takeIn_44 : decode cX8_takeIn 44 = .ok (.invokevirtual 78, 3) := by decide +kernel
theorem dX8_takeIn_47 : decode cX8_takeIn 47 = .ok (.goto 8, 3) := by decide +kernel
theorem dX8_takeIn_50 : decode cX8_takeIn 50 = .ok (.aload_n 0, 1) := by decide +kernel
theorem dX8_takeIn_51 : decode cX8_takeIn 51 = .ok (.aload_n 1, 1) := by decide +kernel
theorem dX8_takeIn_52 : decode cX8_takeIn 52 = .ok (.invokevirtual 82, 3) := by decide +kernel
theorem dX8_takeIn_55 : decode cX8_takeIn 55 = .ok (.ireturn, 1) := by decide +kernel
set_option maxHeartbeats 8000000 in
set_option maxRecDepth 100000 in
theorem t_X8_takeIn (l : Launch) (E : EE) (z0 : Nat) (G : Nat → Nat) (hGz : ∀ q, G q ≠ 0 → z0 ≤ q) (h0 : Nat) (p0 : Nat) (hG : G h0 = 10) (hG0 : G p0 = 31) : Met l yX8_takeIn [Cond.code yX8_takeIn cX8_takeIn 3 (some .int)] ({ frames := 5, cells := 0, slots := 0, locals := 110 } : Room) (va_Pc [.ref h0, .ref p0] (fun U => (TH E (T1 E) G [] U.heap) ∧ KS E z0 U)) (va_Qi (fun (r : Int32) (_ : Unit) => True) (fun _ t => TH E (T1 E) G [] t.heap) (fun q : Nat => G q ∈ ([10, 4, 31, 32, 14, 13, 5, 15, 11, 16, 17] : List Nat))) 0 0 (fun q : Nat => G q ∈ ([10, 4, 31, 32, 14, 13, 5, 15, 11, 16, 17] : List Nat)) := by
  refine Met.ofW (cc := cX8_takeIn) (maxL := 3) (ret := (some .int)) (by decide) rfl ?_
  intro p e s m args below meth c s₁ B hml hv
  obtain ⟨rfl, hT, hK⟩ := hv
  have hx := B.exec
  have hb := B.bytes
  have hr := B.returns
  have hts : ∀ w ∈ TS, w.before ([.ref h0, .ref p0] : List Value).toArray s = true := fun w hw => hK.2.1 w hw _
  have hown : s.vm.findClass RX8 = some m.cls := findClass_of_methodNamed B.named
  have hlocks := B.notSynchronized
  have hS : va_S (fun q : Nat => G q ∈ ([10, 4, 31, 32, 14, 13, 5, 15, 11, 16, 17] : List Nat)) s.heap s.heap [] := va_S.rf
  have hAz : ∀ q, (fun q : Nat => G q ∈ ([10, 4, 31, 32, 14, 13, 5, 15, 11, 16, 17] : List Nat)) q → z0 ≤ q := zL hGz (by decide)
  have hl := lv_entry ([.ref h0, .ref p0]) (n := 3) (Nat.le_of_ble_eq_true rfl)
  rw [lg_entry_eq]
  generalize (lg_sl ([.ref h0, .ref p0]) ++ List.replicate (3 - (lg_sl ([.ref h0, .ref p0])).length) Slot.unset).toArray = ls at hl ⊢
  have hl : lv_has ls 3 [(0, .ref h0), (1, .ref p0)] := hl
  refine lv_aload_n hx hb dX8_takeIn_0 rfl (lv_at hl 0 rfl) ?_
  obtain ⟨v0_1, v1_1, v2_1, v3_1, v4_1, v5_1, v6_1, v7_1, v8_1, ha_1, hb0_1, hg1_1, hg2_1, hg3_1, hg7_1, hg8_1⟩ := tr_10 hT hG
  refine va_get (D := DG E) (ci := 8) (v := .int v4_1) (C := RX8) (T := TX8) (N := 9) hx hb hts iw_X8 hown hK.1 (va_one ha_1) 0 rfl rfl 4 (by decide) (hts _ fl_X8_49) (fun _ h9 => h9) rfl dX8_takeIn_1 ?_
  refine lv_aload_n hx hb dX8_takeIn_4 rfl (lv_at hl 1 rfl) ?_
  obtain ⟨v0_2, v1_2, v2_2, v3_2, v4_2, v5_2, v6_2, v7_2, ha_2, hb0_2, hb3_2, hg7_2⟩ := tr_31 hT hG0
  refine va_get (D := DG E) (ci := 2) (v := .int v2_2) (C := RX2) (T := TX2) (N := 8) hx hb hts iw_X2 hown hK.1 (va_one ha_2) 0 rfl rfl 2 (by decide) (hts _ fl_X8_59) (fun _ h9 => h9) rfl dX8_takeIn_5 ?_
  refine rnSN (As := [.int v4_1, .int v2_2]) (rest := []) ⟨hx, hb, hml, hown, hts⟩ (c_X9_distance l v4_1 v2_2) ⟨va_cnB (host := RX9) 2 hts (gd1 co_X9_distance rfl) rfl rfl rfl (hK.2.1 _ mn_X8_64 #[]) (hts _ in_X9) (by decide +kernel) ⟨Nat.le_of_ble_eq_true rfl, Nat.le_of_ble_eq_true rfl⟩, hts _ st_X9_distance, trivial⟩ rfl rfl hl.1 rfl (lv_room (Nat.le_of_ble_eq_true rfl)) dX8_takeIn_8 ⟨Nat.le_of_ble_eq_true rfl, Nat.le_of_ble_eq_true rfl⟩ ?_
  refine W.eq (g2 := F0 m 11 ls [.int ((v2_2 - v4_1) &&& 63)]) (by rfl) ?_
  refine lv_topi (fun x_3 ex_3 => ?_)
  have fx_3 := s_and63 (v2_2 - v4_1); rw [← ex_3] at fx_3
  refine lv_istore_n (lv' := [(2, .int x_3), (0, .ref h0), (1, .ref p0)]) hx hb dX8_takeIn_11 rfl hl (by decide) rfl (fun ls hl => ?_)
  refine lv_iload_n hx hb dX8_takeIn_12 rfl (lv_at hl 0 rfl) ?_
  refine lv_bipush (v := 32) hx hb dX8_takeIn_13 (by decide) ?_
  refine lv_icmp_lt (tgt := 25) hx hb dX8_takeIn_15 (by decide) (fun c_4 => ?_) (fun c_4 => ?_)
  · simp only [lt_I, le_I, eq_I, i_0, i_1, i_2, i_3, i_4, i_5, i_6, i_7, i_8, i_10, i_12, i_16, i_20, i_23, i_24, i_31, i_32, i_63, i_64, i_m1] at c_4
    refine lv_iload_n hx hb dX8_takeIn_25 rfl (lv_at hl 0 rfl) ?_
    refine lv_if_le (tgt := 35) hx hb dX8_takeIn_26 (by decide) (fun c_5 => ?_) (fun c_5 => ?_)
    · simp only [lt_I, le_I, eq_I, i_0, i_1, i_2, i_3, i_4, i_5, i_6, i_7, i_8, i_10, i_12, i_16, i_20, i_23, i_24, i_31, i_32, i_63, i_64, i_m1] at c_5
      refine lv_aload_n hx hb dX8_takeIn_35 rfl (lv_at hl 2 rfl) ?_
      refine va_get (D := DG E) (ci := 2) (v := .int v1_2) (C := RX2) (T := TX2) (N := 8) hx hb hts iw_X2 hown hK.1 (va_one ha_2) 0 rfl rfl 1 (by decide) (hts _ fl_X8_75) (fun _ h9 => h9) rfl dX8_takeIn_36 ?_
      refine lv_if_ne (tgt := 50) hx hb dX8_takeIn_39 (by decide) (fun c_6 => ?_) (fun c_6 => ?_)
      · simp only [lt_I, le_I, eq_I, i_0, i_1, i_2, i_3, i_4, i_5, i_6, i_7, i_8, i_10, i_12, i_16, i_20, i_23, i_24, i_31, i_32, i_63, i_64, i_m1] at c_6
        refine lv_aload_n hx hb dX8_takeIn_50 rfl (lv_at hl 1 rfl) ?_
        refine lv_aload_n hx hb dX8_takeIn_51 rfl (lv_at hl 2 rfl) ?_
        refine va_calli (rnV (fun H => TH E (T1 E) G [] H) (As := [.ref p0]) (rest := []) ⟨hx, hb, hml, hown, hts⟩ (t_X8_takeReach l E z0 G hGz h0 p0 hG hG0) (cwV 1 hts (gdV ml_X8_82 im_X8_takeReach se_X8_X8_takeReach in_X8 co_X8_takeReach rfl) rfl rfl rfl (by decide +kernel) ⟨Nat.le_of_ble_eq_true rfl, Nat.le_of_ble_eq_true rfl⟩) hT (fun U hU hW => hK.go hW hS hAz hU) (va_recv hK.1 (va_one ha_1) (ci := 8) (q0 := 0) rfl rfl) rfl rfl hl.1 rfl (lv_room (Nat.le_of_ble_eq_true rfl)) dX8_takeIn_52 ⟨Nat.le_of_ble_eq_true rfl, Nat.le_of_ble_eq_true rfl⟩) hS (fun q _ h => mL (L' := [10, 4, 31, 32, 14, 16, 17]) (L := [10, 4, 31, 32, 14, 13, 5, 15, 11, 16, 17]) (by decide) h) (fun q h => mL (L' := [10, 4, 31, 32, 14, 16, 17]) (L := [10, 4, 31, 32, 14, 13, 5, 15, 11, 16, 17]) (by decide) h) (fun r_7 _ t H locs ht hvm hwr_7 hB hz hk hS => ?_)
        have hT : TH E (T1 E) G [] H := by rw [ht] at hB; exact hB
        exact W.iret (v := r_7) hx hb hr (fun t ht hW => ⟨⟨r_7, (), rfl, trivial, (by show TH E (T1 E) G [] t.heap; rw [ht]; exact hT)⟩, hS.F ht⟩) hS.2.2 dX8_takeIn_55
      · simp only [lt_I, le_I, eq_I, i_0, i_1, i_2, i_3, i_4, i_5, i_6, i_7, i_8, i_10, i_12, i_16, i_20, i_23, i_24, i_31, i_32, i_63, i_64, i_m1] at c_6
        refine lv_aload_n hx hb dX8_takeIn_42 rfl (lv_at hl 1 rfl) ?_
        refine lv_aload_n hx hb dX8_takeIn_43 rfl (lv_at hl 2 rfl) ?_
        refine va_calli (rnV (fun H => TH E (T1 E) G [] H) (As := [.ref p0]) (rest := []) ⟨hx, hb, hml, hown, hts⟩ (t_X8_takeSend l E z0 G hGz h0 p0 hG hG0) (cwV 1 hts (gdV ml_X8_78 im_X8_takeSend se_X8_X8_takeSend in_X8 co_X8_takeSend rfl) rfl rfl rfl (by decide +kernel) ⟨Nat.le_of_ble_eq_true rfl, Nat.le_of_ble_eq_true rfl⟩) hT (fun U hU hW => hK.go hW hS hAz hU) (va_recv hK.1 (va_one ha_1) (ci := 8) (q0 := 0) rfl rfl) rfl rfl hl.1 rfl (lv_room (Nat.le_of_ble_eq_true rfl)) dX8_takeIn_44 ⟨Nat.le_of_ble_eq_true rfl, Nat.le_of_ble_eq_true rfl⟩) hS (fun q _ h => mL (L' := [10, 4, 31, 14, 13, 5, 15, 11]) (L := [10, 4, 31, 32, 14, 13, 5, 15, 11, 16, 17]) (by decide) h) (fun q h => mL (L' := [10, 4, 31, 14, 13, 5, 15, 11]) (L := [10, 4, 31, 32, 14, 13, 5, 15, 11, 16, 17]) (by decide) h) (fun r_8 _ t H locs ht hvm hwr_8 hB hz hk hS => ?_)
        have hT : TH E (T1 E) G [] H := by rw [ht] at hB; exact hB
        refine lv_goto (tgt := 55) hx hb dX8_takeIn_47 (by decide) ?_
        exact W.iret (v := r_8) hx hb hr (fun t ht hW => ⟨⟨r_8, (), rfl, trivial, (by show TH E (T1 E) G [] t.heap; rw [ht]; exact hT)⟩, hS.F ht⟩) hS.2.2 dX8_takeIn_55
    · simp only [lt_I, le_I, eq_I, i_0, i_1, i_2, i_3, i_4, i_5, i_6, i_7, i_8, i_10, i_12, i_16, i_20, i_23, i_24, i_31, i_32, i_63, i_64, i_m1] at c_5
      refine lv_aload_n hx hb dX8_takeIn_29 rfl (lv_at hl 1 rfl) ?_
      refine va_callv (rnV (fun H => TH E (T1 E) G [] H) (As := []) (rest := []) ⟨hx, hb, hml, hown, hts⟩ (t_X8_tellSequence l E z0 G hGz h0 hG) (cwV 0 hts (gdV ml_X8_72 im_X8_tellSequence se_X8_X8_tellSequence in_X8 co_X8_tellSequence rfl) rfl rfl rfl (by decide +kernel) ⟨Nat.le_of_ble_eq_true rfl, Nat.le_of_ble_eq_true rfl⟩) hT (fun U hU hW => hK.go hW hS hAz hU) (va_recv hK.1 (va_one ha_1) (ci := 8) (q0 := 0) rfl rfl) rfl rfl hl.1 rfl (lv_room (Nat.le_of_ble_eq_true rfl)) dX8_takeIn_30 ⟨Nat.le_of_ble_eq_true rfl, Nat.le_of_ble_eq_true rfl⟩) hS (fun q _ h => mL (L' := [10, 4, 31]) (L := [10, 4, 31, 32, 14, 13, 5, 15, 11, 16, 17]) (by decide) h) (fun q h => mL (L' := [10, 4, 31]) (L := [10, 4, 31, 32, 14, 13, 5, 15, 11, 16, 17]) (by decide) h) (fun _ t H locs ht hvm hwr_9 hB hz hk hS => ?_)
      have hT : TH E (T1 E) G [] H := by rw [ht] at hB; exact hB
      refine lv_iconst (v := 0) hx hb dX8_takeIn_33 (by decide) ?_
      exact W.iret (v := 0) hx hb hr (fun t ht hW => ⟨⟨0, (), rfl, trivial, (by show TH E (T1 E) G [] t.heap; rw [ht]; exact hT)⟩, hS.F ht⟩) hS.2.2 dX8_takeIn_34
  · simp only [lt_I, le_I, eq_I, i_0, i_1, i_2, i_3, i_4, i_5, i_6, i_7, i_8, i_10, i_12, i_16, i_20, i_23, i_24, i_31, i_32, i_63, i_64, i_m1] at c_4
    refine lv_aload_n hx hb dX8_takeIn_18 rfl (lv_at hl 1 rfl) ?_
    refine lv_aload_n hx hb dX8_takeIn_19 rfl (lv_at hl 2 rfl) ?_
    refine va_callv (rnV (fun H => TH E (T1 E) G [] H) (As := [.ref p0]) (rest := []) ⟨hx, hb, hml, hown, hts⟩ (t_X8_answerAgain l E z0 G hGz h0 p0 hG hG0) (cwV 1 hts (gdV ml_X8_68 im_X8_answerAgain se_X8_X8_answerAgain in_X8 co_X8_answerAgain rfl) rfl rfl rfl (by decide +kernel) ⟨Nat.le_of_ble_eq_true rfl, Nat.le_of_ble_eq_true rfl⟩) hT (fun U hU hW => hK.go hW hS hAz hU) (va_recv hK.1 (va_one ha_1) (ci := 8) (q0 := 0) rfl rfl) rfl rfl hl.1 rfl (lv_room (Nat.le_of_ble_eq_true rfl)) dX8_takeIn_20 ⟨Nat.le_of_ble_eq_true rfl, Nat.le_of_ble_eq_true rfl⟩) hS (fun q _ h => mL (L' := [4, 31, 32]) (L := [10, 4, 31, 32, 14, 13, 5, 15, 11, 16, 17]) (by decide) h) (fun q h => mL (L' := [4, 31, 32]) (L := [10, 4, 31, 32, 14, 13, 5, 15, 11, 16, 17]) (by decide) h) (fun _ t H locs ht hvm hwr_10 hB hz hk hS => ?_)
    have hT : TH E (T1 E) G [] H := by rw [ht] at hB; exact hB
    have ha_1 := ha_1.kept (hk _ ha_1.lt (nL hG (by decide)))
    refine lv_iconst (v := 0) hx hb dX8_takeIn_23 (by decide) ?_
    exact W.iret (v := 0) hx hb hr (fun t ht hW => ⟨⟨0, (), rfl, trivial, (by show TH E (T1 E) G [] t.heap; rw [ht]; exact hT)⟩, hS.F ht⟩) hS.2.2 dX8_takeIn_24
theorem dX8_completeAll_0 : decode cX8_completeAll 0 = .ok (.aload_n 0, 1) := by decide +kernel
theorem dX8_completeAll_1 : decode cX8_completeAll 1 = .ok (.getfield 39, 3) := by decide +kernel
theorem dX8_completeAll_4 : decode cX8_completeAll 4 = .ok (.aload_n 0, 1) := by decide +kernel
theorem dX8_completeAll_5 : decode cX8_completeAll 5 = .ok (.getfield 52, 3) := by decide +kernel
theorem dX8_completeAll_8 : decode cX8_completeAll 8 = .ok (.ifCond .eq 7, 3) := by decide +kernel
theorem dX8_completeAll_11 : decode cX8_completeAll 11 = .ok (.iload_n 1, 1) := by decide +kernel
theorem dX8_completeAll_12 : decode cX8_completeAll 12 = .ok (.goto 4, 3) := by decide +kernel
theorem dX8_completeAll_15 : decode cX8_completeAll 15 = .ok (.iconst 5, 1) := by decide +kernel
theorem dX8_completeAll_16 : decode cX8_completeAll 16 = .ok (.invokevirtual 182, 3) := by decide +kernel
theorem dX8_completeAll_19 : decode cX8_completeAll 19 = .ok (.aload_n 0, 1) := by decide +kernel
theorem dX8_completeAll_20 : decode cX8_completeAll 20 = .ok (.iconst 0, 1) := by decide +kernel
theorem dX8_completeAll_21 : decode cX8_completeAll 21 = .ok (.putfield 52, 3) := by decide +kernel
theorem dX8_completeAll_24 : decode cX8_completeAll 24 = .ok (.return_, 1) := by decide +kernel
set_option maxHeartbeats 8000000 in
set_option maxRecDepth 100000 in
theorem t_X8_completeAll (l : Launch) (E : EE) (z0 : Nat) (G : Nat → Nat) (hGz : ∀ q, G q ≠ 0 → z0 ≤ q) (h0 : Nat) (p0 : Int32) (hG : G h0 = 10) : Met l yX8_completeAll [Cond.code yX8_completeAll cX8_completeAll 2 none] ({ frames := 3, cells := 0, slots := 0, locals := 68 } : Room) (va_Pc [.ref h0, .int p0] (fun U => (TH E (T1 E) G [] U.heap) ∧ KS E z0 U)) (va_Qv (fun (_ : Unit) => True) (fun _ t => TH E (T1 E) G [] t.heap) (fun q : Nat => G q ∈ ([5, 15, 11, 10] : List Nat))) 0 0 (fun q : Nat => G q ∈ ([5, 15, 11, 10] : List Nat)) := by
  refine Met.ofW (cc := cX8_completeAll) (maxL := 2) (ret := none) (by decide) rfl ?_
  intro p e s m args below meth c s₁ B hml hv
  obtain ⟨rfl, hT, hK⟩ := hv
  have hx := B.exec
  have hb := B.bytes
  have hr := B.returns
  have hts : ∀ w ∈ TS, w.before ([.ref h0, .int p0] : List Value).toArray s = true := fun w hw => hK.2.1 w hw _
  have hown : s.vm.findClass RX8 = some m.cls := findClass_of_methodNamed B.named
  have hlocks := B.notSynchronized
  have hS : va_S (fun q : Nat => G q ∈ ([5, 15, 11, 10] : List Nat)) s.heap s.heap [] := va_S.rf
  have hAz : ∀ q, (fun q : Nat => G q ∈ ([5, 15, 11, 10] : List Nat)) q → z0 ≤ q := zL hGz (by decide)
  have hl := lv_entry ([.ref h0, .int p0]) (n := 2) (Nat.le_of_ble_eq_true rfl)
  rw [lg_entry_eq]
  generalize (lg_sl ([.ref h0, .int p0]) ++ List.replicate (2 - (lg_sl ([.ref h0, .int p0])).length) Slot.unset).toArray = ls at hl ⊢
  have hl : lv_has ls 2 [(0, .ref h0), (1, .int p0)] := hl
  refine lv_aload_n hx hb dX8_completeAll_0 rfl (lv_at hl 0 rfl) ?_
  obtain ⟨v0_1, v1_1, v2_1, v3_1, v4_1, v5_1, v6_1, v7_1, v8_1, ha_1, hb0_1, hg1_1, hg2_1, hg3_1, hg7_1, hg8_1⟩ := tr_10 hT hG
  refine va_get (D := DG E) (ci := 8) (v := .ref v3_1) (C := RX8) (T := TX8) (N := 9) hx hb hts iw_X8 hown hK.1 (va_one ha_1) 0 rfl rfl 3 (by decide) (hts _ fl_X8_39) (fun _ h9 => h9) rfl dX8_completeAll_1 ?_
  refine lv_aload_n hx hb dX8_completeAll_4 rfl (lv_at hl 0 rfl) ?_
  refine va_get (D := DG E) (ci := 8) (v := .int v5_1) (C := RX8) (T := TX8) (N := 9) hx hb hts iw_X8 hown hK.1 (va_one ha_1) 0 rfl rfl 5 (by decide) (hts _ fl_X8_52) (fun _ h9 => h9) rfl dX8_completeAll_5 ?_
  refine lv_if_eq (tgt := 15) hx hb dX8_completeAll_8 (by decide) (fun c_2 => ?_) (fun c_2 => ?_)
  · simp only [lt_I, le_I, eq_I, i_0, i_1, i_2, i_3, i_4, i_5, i_6, i_7, i_8, i_10, i_12, i_16, i_20, i_23, i_24, i_31, i_32, i_63, i_64, i_m1] at c_2
    refine lv_iconst (v := 5) hx hb dX8_completeAll_15 (by decide) ?_
    obtain ⟨v0_3, v1_3, v2_3, v3_3, v4_3, v5_3, ha_3, hg1_3, hg2_3, hb3_3, hb4_3⟩ := tr_11 hT hg3_1
    refine va_callv (rnV (fun H => TH E (T1 E) G [] H) (As := [.int 5]) (rest := []) ⟨hx, hb, hml, hown, hts⟩ (t_X5_completeAll l E z0 G hGz v3_1 5 hg3_1) (cwV 1 hts (gdV ml_X8_182 im_X5_completeAll se_X5_X5_completeAll in_X5 co_X5_completeAll rfl) rfl rfl rfl (by decide +kernel) ⟨Nat.le_of_ble_eq_true rfl, Nat.le_of_ble_eq_true rfl⟩) hT (fun U hU hW => hK.go hW hS hAz hU) (va_recv hK.1 (va_one ha_3) (ci := 5) (q0 := 0) rfl rfl) rfl rfl hl.1 rfl (lv_room (Nat.le_of_ble_eq_true rfl)) dX8_completeAll_16 ⟨Nat.le_of_ble_eq_true rfl, Nat.le_of_ble_eq_true rfl⟩) hS (fun q _ h => mL (L' := [5, 15, 11]) (L := [5, 15, 11, 10]) (by decide) h) (fun q h => mL (L' := [5, 15, 11]) (L := [5, 15, 11, 10]) (by decide) h) (fun _ t H locs ht hvm hwr_4 hB hz hk hS => ?_)
    have hT : TH E (T1 E) G [] H := by rw [ht] at hB; exact hB
    have ha_1 := ha_1.kept (hk _ ha_1.lt (nL hG (by decide)))
    refine lv_aload_n hx hb dX8_completeAll_19 rfl (lv_at hl 0 rfl) ?_
    refine lv_iconst (v := 0) hx hb dX8_completeAll_20 (by decide) ?_
    refine rr_put (D := DG E) (ci := 8) (v := .int 0) (ty := .boolean) (C := RX8) (T := TX8) (N := 9) hx hb hts iw_X8 tyX8 tyX8_ok nmX8 hown hK.1 ha_1 hS (by show G h0 ∈ ([5, 15, 11, 10] : List Nat); rw [hG]; decide) rfl 5 (by decide) (hts _ fl_X8_52) (fun _ h9 => h9) rfl (by decide +kernel) rfl rfl (Nat.le_of_ble_eq_true rfl) dX8_completeAll_21 (fun H locs hn ho hz hS => ?_)
    have hr_5 : va_at (DG E) vwCl (h0, .inr (8, [.int v0_1, .ref v1_1, .ref v2_1, .ref v3_1, .int v4_1, .int 0, .int v6_1, .ref v7_1, .ref v8_1])) H := hn
    have hT : TH E (T1 E) G [] H := hT.set hG (show T1 E G 10 _ from ⟨v0_1, v1_1, v2_1, v3_1, v4_1, 0, v6_1, v7_1, v8_1, rfl, (by omega), hg1_1, hg2_1, hg3_1, hg7_1, hg8_1⟩) hr_5 ho
    exact W.vret hx hb hr (fun t ht hW => ⟨⟨(), rfl, trivial, (by show TH E (T1 E) G [] t.heap; rw [ht]; exact hT)⟩, hS.F ht⟩) hS.2.2 dX8_completeAll_24
  · simp only [lt_I, le_I, eq_I, i_0, i_1, i_2, i_3, i_4, i_5, i_6, i_7, i_8, i_10, i_12, i_16, i_20, i_23, i_24, i_31, i_32, i_63, i_64, i_m1] at c_2
    refine lv_iload_n hx hb dX8_completeAll_11 rfl (lv_at hl 1 rfl) ?_
    refine lv_goto (tgt := 16) hx hb dX8_completeAll_12 (by decide) ?_
    obtain ⟨v0_6, v1_6, v2_6, v3_6, v4_6, v5_6, ha_6, hg1_6, hg2_6, hb3_6, hb4_6⟩ := tr_11 hT hg3_1
    refine va_callv (rnV (fun H => TH E (T1 E) G [] H) (As := [.int p0]) (rest := []) ⟨hx, hb, hml, hown, hts⟩ (t_X5_completeAll l E z0 G hGz v3_1 p0 hg3_1) (cwV 1 hts (gdV ml_X8_182 im_X5_completeAll se_X5_X5_completeAll in_X5 co_X5_completeAll rfl) rfl rfl rfl (by decide +kernel) ⟨Nat.le_of_ble_eq_true rfl, Nat.le_of_ble_eq_true rfl⟩) hT (fun U hU hW => hK.go hW hS hAz hU) (va_recv hK.1 (va_one ha_6) (ci := 5) (q0 := 0) rfl rfl) rfl rfl hl.1 rfl (lv_room (Nat.le_of_ble_eq_true rfl)) dX8_completeAll_16 ⟨Nat.le_of_ble_eq_true rfl, Nat.le_of_ble_eq_true rfl⟩) hS (fun q _ h => mL (L' := [5, 15, 11]) (L := [5, 15, 11, 10]) (by decide) h) (fun q h => mL (L' := [5, 15, 11]) (L := [5, 15, 11, 10]) (by decide) h) (fun _ t H locs ht hvm hwr_7 hB hz hk hS => ?_)
    have hT : TH E (T1 E) G [] H := by rw [ht] at hB; exact hB
    have ha_1 := ha_1.kept (hk _ ha_1.lt (nL hG (by decide)))
    refine lv_aload_n hx hb dX8_completeAll_19 rfl (lv_at hl 0 rfl) ?_
    refine lv_iconst (v := 0) hx hb dX8_completeAll_20 (by decide) ?_
    refine rr_put (D := DG E) (ci := 8) (v := .int 0) (ty := .boolean) (C := RX8) (T := TX8) (N := 9) hx hb hts iw_X8 tyX8 tyX8_ok nmX8 hown hK.1 ha_1 hS (by show G h0 ∈ ([5, 15, 11, 10] : List Nat); rw [hG]; decide) rfl 5 (by decide) (hts _ fl_X8_52) (fun _ h9 => h9) rfl (by decide +kernel) rfl rfl (Nat.le_of_ble_eq_true rfl) dX8_completeAll_21 (fun H locs hn ho hz hS => ?_)
    have hr_8 : va_at (DG E) vwCl (h0, .inr (8, [.int v0_1, .ref v1_1, .ref v2_1, .ref v3_1, .int v4_1, .int 0, .int v6_1, .ref v7_1, .ref v8_1])) H := hn
    have hT : TH E (T1 E) G [] H := hT.set hG (show T1 E G 10 _ from ⟨v0_1, v1_1, v2_1, v3_1, v4_1, 0, v6_1, v7_1, v8_1, rfl, (by omega), hg1_1, hg2_1, hg3_1, hg7_1, hg8_1⟩) hr_8 ho
    exact W.vret hx hb hr (fun t ht hW => ⟨⟨(), rfl, trivial, (by show TH E (T1 E) G [] t.heap; rw [ht]; exact hT)⟩, hS.F ht⟩) hS.2.2 dX8_completeAll_24
