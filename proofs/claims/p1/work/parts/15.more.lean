theorem SS_mono {A B : Nat → Prop} {H0 H : Heap} {locs : List Loc} (h : va_S A H0 H locs) (hA : ∀ q, A q → B q) : va_S B H0 H locs := ⟨h.1, fun q h1 h2 => h.2.1 q h1 (fun z => h2 (hA q z)), fun l hl => hA _ (h.2.2 l hl)⟩
theorem SS_F {A : Nat → Prop} {s t : State} {H : Heap} {locs : List Loc} (h : va_S A s.heap H locs) (hz : H.size ≤ t.heap.size) (hk : ∀ q : Nat, q < H.size → t.heap[q]? = H[q]?) : va_F A s t := ⟨Nat.le_trans h.1 hz, fun q hq hA => (hk q (Nat.lt_of_lt_of_le hq h.1)).trans (h.2.1 q hq hA)⟩
theorem dX5_at_0 : decode cX5_at 0 = .ok (.aload_n 0, 1) := by decide +kernel
theorem dX5_at_1 : decode cX5_at 1 = .ok (.getfield 11, 3) := by decide +kernel
theorem dX5_at_4 : decode cX5_at 4 = .ok (.aload_n 0, 1) := by decide +kernel
theorem dX5_at_5 : decode cX5_at 5 = .ok (.getfield 26, 3) := by decide +kernel
theorem dX5_at_8 : decode cX5_at 8 = .ok (.iload_n 1, 1) := by decide +kernel
theorem dX5_at_9 : decode cX5_at 9 = .ok (.iadd, 1) := by decide +kernel
theorem dX5_at_10 : decode cX5_at 10 = .ok (.iconst 4, 1) := by decide +kernel
theorem dX5_at_11 : decode cX5_at 11 = .ok (.irem, 1) := by decide +kernel
theorem dX5_at_12 : decode cX5_at 12 = .ok (.aaload, 1) := by decide +kernel
theorem dX5_at_13 : decode cX5_at 13 = .ok (.areturn, 1) := by decide +kernel
set_option maxHeartbeats 4000000 in
set_option maxRecDepth 100000 in
theorem c_X5_at0 (l : Launch) (E : EE) (z0 : Nat) (G : Nat → Nat) (hGz : ∀ q, G q ≠ 0 → z0 ≤ q) (h0 : Nat) (hG : G h0 = 11) : Met l yX5_at [Cond.code yX5_at cX5_at 2 (some (.object "RemoteReach$Posted"))] ({ frames := 0, cells := 0, slots := 0, locals := 0 } : Room) (va_Pc [.ref h0, .int 0] (fun U => TH E (T0 E) G [] U.heap ∧ KS E z0 U)) (va_Qr (fun (_ : Unit) => True) (fun _ ra _ => G ra = 13) (fun _ : Nat => False)) 0 0 (fun _ : Nat => False) := by
  refine Met.ofW (cc := cX5_at) (maxL := 2) (ret := (some (.object "RemoteReach$Posted"))) (by decide) rfl ?_
  intro p e s m args below meth c s₁ B hml hv
  obtain ⟨rfl, hT, hK⟩ := hv
  have hx := B.exec
  have hb := B.bytes
  have hr := B.returns
  have hts : ∀ w ∈ TS, w.before ([.ref h0, .int 0] : List Value).toArray s = true := fun w hw => hK.2.1 w hw _
  have hown : s.vm.findClass RX5 = some m.cls := findClass_of_methodNamed B.named
  have hlocks := B.notSynchronized
  have hS : va_S (fun _ : Nat => False) s.heap s.heap [] := va_S.rf
  have hAz : ∀ q, (fun _ : Nat => False) q → z0 ≤ q := fun _ h => h.elim
  have hl := lv_entry ([.ref h0, .int 0]) (n := 2) (Nat.le_of_ble_eq_true rfl)
  rw [lg_entry_eq]
  generalize (lg_sl ([.ref h0, .int 0]) ++ List.replicate (2 - (lg_sl ([.ref h0, .int 0])).length) Slot.unset).toArray = ls at hl ⊢
  have hl : lv_has ls 2 [(0, .ref h0), (1, .int 0)] := hl
  refine lv_aload_n hx hb dX5_at_0 rfl (lv_at hl 0 rfl) ?_
  obtain ⟨pr_1, nd_1, rw_1, ha_1, hg_1_0, hg_1_1⟩ := tg_11 hT hG nx_0
  refine va_get (D := DG E) (ci := 5) (v := .ref rw_1) (C := RX5) (T := TX5) (N := 6) hx hb hts iw_X5 hown hK.1 (va_one ha_1) 0 rfl rfl 2 (by decide) (hts _ fl_X5_11) (fun _ h9 => h9) rfl dX5_at_1 ?_
  refine lv_aload_n hx hb dX5_at_4 rfl (lv_at hl 0 rfl) ?_
  obtain ⟨pr_2, nd_2, rw_2, ha_2, hg_2_0, hg_2_1⟩ := tg_11 hT hG nx_0
  refine va_get (D := DG E) (ci := 5) (v := .int 0) (C := RX5) (T := TX5) (N := 6) hx hb hts iw_X5 hown hK.1 (va_one ha_2) 0 rfl rfl 3 (by decide) (hts _ fl_X5_26) (fun _ h9 => h9) rfl dX5_at_5 ?_
  refine lv_iload_n hx hb dX5_at_8 rfl (lv_at hl 1 rfl) ?_
  refine lv_iadd hx hb dX5_at_9 ?_
  refine W.eq (g2 := F0 m 10 ls [.int 0, .ref rw_1]) (by rfl) ?_
  refine lv_iconst (v := 4) hx hb dX5_at_10 (by decide) ?_
  refine lv_irem hx hb dX5_at_11 (by decide) ?_
  refine W.eq (g2 := F0 m 12 ls [.int 0, .ref rw_1]) (by rfl) ?_
  obtain ⟨f_3, ha_3, he_3⟩ := tg_12 hT hg_1_1 nx_0
  obtain ⟨j_ha_3, hj_ha_3, ej_ha_3⟩ := vp_in_of (show vp_in (0) 4 from vp_in_iff.mpr ⟨by decide, by decide⟩) (by decide)
  obtain ⟨b_ha_3, eb_ha_3, gb_ha_3⟩ := he_3 j_ha_3 hj_ha_3
  have cj_ha_3 : f_3 (0 : Int32).toNatClampNeg = some b_ha_3 := by rw [ej_ha_3, nI_clamp (by omega)]; exact eb_ha_3
  refine va_aldq (D := DG E) hx hb hK.1 (va_one ha_3) 0 6 rfl rfl (show vp_in (0) 4 from vp_in_iff.mpr ⟨by decide, by decide⟩) dX5_at_12 ?_
  rw [cj_ha_3]
  refine W.eq (g2 := F0 m 13 ls [.ref b_ha_3]) (by rfl) ?_
  exact W.aret (v := .ref b_ha_3) hx hb hr (Or.inl ⟨_, rfl⟩) (Or.inr ⟨_, rfl⟩) (fun t ht hW => ⟨⟨(), b_ha_3, rfl, trivial, gb_ha_3⟩, hS.F ht⟩) hS.2.2 dX5_at_13
theorem dX5_append_0 : decode cX5_append 0 = .ok (.aload_n 0, 1) := by decide +kernel
theorem dX5_append_1 : decode cX5_append 1 = .ok (.aload_n 0, 1) := by decide +kernel
theorem dX5_append_2 : decode cX5_append 2 = .ok (.getfield 29, 3) := by decide +kernel
theorem dX5_append_5 : decode cX5_append 5 = .ok (.invokevirtual 35, 3) := by decide +kernel
theorem dX5_append_8 : decode cX5_append 8 = .ok (.astore 4, 2) := by decide +kernel
theorem dX5_append_10 : decode cX5_append 10 = .ok (.aload 4, 2) := by decide +kernel
theorem dX5_append_12 : decode cX5_append 12 = .ok (.iload_n 1, 1) := by decide +kernel
theorem dX5_append_13 : decode cX5_append 13 = .ok (.putfield 39, 3) := by decide +kernel
theorem dX5_append_16 : decode cX5_append 16 = .ok (.aload 4, 2) := by decide +kernel
theorem dX5_append_18 : decode cX5_append 18 = .ok (.aload_n 0, 1) := by decide +kernel
theorem dX5_append_19 : decode cX5_append 19 = .ok (.getfield 32, 3) := by decide +kernel
theorem dX5_append_22 : decode cX5_append 22 = .ok (.putfield 42, 3) := by decide +kernel
theorem dX5_append_25 : decode cX5_append 25 = .ok (.aload 4, 2) := by decide +kernel
theorem dX5_append_27 : decode cX5_append 27 = .ok (.iload_n 2, 1) := by decide +kernel
theorem dX5_append_28 : decode cX5_append 28 = .ok (.putfield 45, 3) := by decide +kernel
theorem dX5_append_31 : decode cX5_append 31 = .ok (.aload 4, 2) := by decide +kernel
theorem dX5_append_33 : decode cX5_append 33 = .ok (.iload_n 3, 1) := by decide +kernel
theorem dX5_append_34 : decode cX5_append 34 = .ok (.putfield 48, 3) := by decide +kernel
theorem dX5_append_37 : decode cX5_append 37 = .ok (.aload 4, 2) := by decide +kernel
theorem dX5_append_39 : decode cX5_append 39 = .ok (.iconst 0, 1) := by decide +kernel
theorem dX5_append_40 : decode cX5_append 40 = .ok (.putfield 51, 3) := by decide +kernel
theorem dX5_append_43 : decode cX5_append 43 = .ok (.aload_n 0, 1) := by decide +kernel
theorem dX5_append_44 : decode cX5_append 44 = .ok (.dup, 1) := by decide +kernel
theorem dX5_append_45 : decode cX5_append 45 = .ok (.getfield 32, 3) := by decide +kernel
theorem dX5_append_48 : decode cX5_append 48 = .ok (.iconst 1, 1) := by decide +kernel
theorem dX5_append_49 : decode cX5_append 49 = .ok (.iadd, 1) := by decide +kernel
theorem dX5_append_50 : decode cX5_append 50 = .ok (.putfield 32, 3) := by decide +kernel
theorem dX5_append_53 : decode cX5_append 53 = .ok (.aload_n 0, 1) := by decide +kernel
theorem dX5_append_54 : decode cX5_append 54 = .ok (.dup, 1) := by decide +kernel
theorem dX5_append_55 : decode cX5_append 55 = .ok (.getfield 29, 3) := by decide +kernel
theorem dX5_append_58 : decode cX5_append 58 = .ok (.iconst 1, 1) := by decide +kernel
theorem dX5_append_59 : decode cX5_append 59 = .ok (.iadd, 1) := by decide +kernel
theorem dX5_append_60 : decode cX5_append 60 = .ok (.putfield 29, 3) := by decide +kernel
theorem dX5_append_63 : decode cX5_append 63 = .ok (.aload 4, 2) := by decide +kernel
theorem dX5_append_65 : decode cX5_append 65 = .ok (.areturn, 1) := by decide +kernel
set_option maxHeartbeats 4000000 in
set_option maxRecDepth 100000 in
theorem c_X5_append (l : Launch) (E : EE) (z0 : Nat) (G : Nat → Nat) (hGz : ∀ q, G q ≠ 0 → z0 ≤ q) (h0 : Nat) (p0 p1 p2 : Int32) (hG : G h0 = 11) : Met l yX5_append [Cond.code yX5_append cX5_append 5 (some (.object "RemoteReach$Posted"))] ({ frames := 1, cells := 0, slots := 0, locals := 21 } : Room) (va_Pc [.ref h0, .int p0, .int p1, .int p2] (fun U => TH E (T0 E) G [] U.heap ∧ KS E z0 U)) (va_Qr (fun (_ : Unit) => True) (fun _ ra t => ∃ fs : List Value, va_at (DG E) vwCl (ra, .inr (4, fs)) t.heap ∧ fs[1]? = some (.int 0)) (fun q : Nat => G q ≠ 0)) 0 0 (fun q : Nat => G q ≠ 0) := by
  refine Met.ofW (cc := cX5_append) (maxL := 5) (ret := (some (.object "RemoteReach$Posted"))) (by decide) rfl ?_
  intro p e s m args below meth c s₁ B hml hv
  obtain ⟨rfl, hT, hK⟩ := hv
  have hx := B.exec
  have hb := B.bytes
  have hr := B.returns
  have hts : ∀ w ∈ TS, w.before ([.ref h0, .int p0, .int p1, .int p2] : List Value).toArray s = true := fun w hw => hK.2.1 w hw _
  have hown : s.vm.findClass RX5 = some m.cls := findClass_of_methodNamed B.named
  have hlocks := B.notSynchronized
  have hS : va_S (fun q : Nat => G q ≠ 0) s.heap s.heap [] := va_S.rf
  have hAz : ∀ q, (fun q : Nat => G q ≠ 0) q → z0 ≤ q := hGz
  have hl := lv_entry ([.ref h0, .int p0, .int p1, .int p2]) (n := 5) (Nat.le_of_ble_eq_true rfl)
  rw [lg_entry_eq]
  generalize (lg_sl ([.ref h0, .int p0, .int p1, .int p2]) ++ List.replicate (5 - (lg_sl ([.ref h0, .int p0, .int p1, .int p2])).length) Slot.unset).toArray = ls at hl ⊢
  have hl : lv_has ls 5 [(0, .ref h0), (1, .int p0), (2, .int p1), (3, .int p2)] := hl
  refine lv_aload_n hx hb dX5_append_0 rfl (lv_at hl 0 rfl) ?_
  refine lv_aload_n hx hb dX5_append_1 rfl (lv_at hl 0 rfl) ?_
  obtain ⟨pr_1, nd_1, rw_1, ha_1, hg_1_0, hg_1_1⟩ := tg_11 hT hG nx_0
  refine va_get (D := DG E) (ci := 5) (v := .int 0) (C := RX5) (T := TX5) (N := 6) hx hb hts iw_X5 hown hK.1 (va_one ha_1) 0 rfl rfl 4 (by decide) (hts _ fl_X5_29) (fun _ h9 => h9) rfl dX5_append_2 ?_
  obtain ⟨pr_2, nd_2, rw_2, ha_2, hg_2_0, hg_2_1⟩ := tg_11 hT hG nx_0
  refine va_callr (rnV (fun H => TH E (T0 E) G [] H) (As := [.int 0]) (rest := []) ⟨hx, hb, hml, hown, hts⟩ (c_X5_at0 l E z0 G hGz h0  hG) (cwV 1 hts (gdV ml_X5_35 im_X5_at se_X5_X5_at in_X5 co_X5_at rfl) rfl rfl rfl (by decide +kernel) ⟨Nat.le_of_ble_eq_true rfl, Nat.le_of_ble_eq_true rfl⟩) hT (fun U hU hW => hK.go hW hS hAz hU) (va_recv hK.1 (va_one ha_2) (ci := 5) (q0 := 0) rfl rfl) rfl rfl hl.1 rfl (lv_room (Nat.le_of_ble_eq_true rfl)) dX5_append_5 ⟨Nat.le_of_ble_eq_true rfl, Nat.le_of_ble_eq_true rfl⟩) hS (fun q _ h => h.elim) (fun q h => h.elim) (fun _ r_3 t H locs ht hvm hw hB hz hk hS => ?_)
  have hT : TH E (T0 E) G [] H := hT.kept (fun q hq => hk q hq (fun h => h))
  have gr_4 : G r_3 = 13 := hB
  refine lv_astore (lv' := [(4, .ref r_3), (0, .ref h0), (1, .int p0), (2, .int p1), (3, .int p2)]) hx hb dX5_append_8 hl (by decide) rfl (fun ls hl => ?_)
  refine lv_aload hx hb dX5_append_10 (lv_at hl 0 rfl) ?_
  refine lv_iload_n hx hb dX5_append_12 rfl (lv_at hl 2 rfl) ?_
  have ha_5 := tg_13 hT gr_4 nx_0
  refine rr_put (D := DG E) (ci := 4) (v := .int p0) (ty := .int) (C := RX4) (T := TX4) (N := 10) hx hb hts iw_X4 tyX4 tyX4_ok nmX4 hown hK.1 ha_5 hS (by show G r_3 ≠ 0; rw [gr_4]; decide) rfl 0 (by decide) (hts _ fl_X5_39) (fun _ h9 => h9) rfl (by decide +kernel) rfl rfl (Nat.le_of_ble_eq_true rfl) dX5_append_13 (fun H locs hn ho hz hS => ?_)
  have hr_6 : va_at (DG E) vwCl (r_3, .inr (4, [.int p0, .int 0, .int 0, .int 0, .int 0, .int 0, .int 0, .int 0, .int 0, .int 0])) H := hn
  have hT : TH E (T0 E) G [r_3] H := hT.keptx (fun q hq => List.mem_append_left [r_3] hq) (fun q _ hq => ho q (fun e => hq (by rw [e]; simp)))
  refine lv_aload hx hb dX5_append_16 (lv_at hl 0 rfl) ?_
  refine lv_aload_n hx hb dX5_append_18 rfl (lv_at hl 1 rfl) ?_
  obtain ⟨pr_7, nd_7, rw_7, ha_7, hg_7_0, hg_7_1⟩ := tg_11 hT hG (nx_1 (ne_G hG gr_4 (by decide)) nx_0)
  refine va_get (D := DG E) (ci := 5) (v := .int 0) (C := RX5) (T := TX5) (N := 6) hx hb hts iw_X5 hown hK.1 (va_one ha_7) 0 rfl rfl 5 (by decide) (hts _ fl_X5_32) (fun _ h9 => h9) rfl dX5_append_19 ?_
  refine rr_put (D := DG E) (ci := 4) (v := .int 0) (ty := .int) (C := RX4) (T := TX4) (N := 10) hx hb hts iw_X4 tyX4 tyX4_ok nmX4 hown hK.1 hr_6 hS (by show G r_3 ≠ 0; rw [gr_4]; decide) rfl 1 (by decide) (hts _ fl_X5_42) (fun _ h9 => h9) rfl (by decide +kernel) rfl rfl (Nat.le_of_ble_eq_true rfl) dX5_append_22 (fun H locs hn ho hz hS => ?_)
  have hr_8 : va_at (DG E) vwCl (r_3, .inr (4, [.int p0, .int 0, .int 0, .int 0, .int 0, .int 0, .int 0, .int 0, .int 0, .int 0])) H := hn
  have hT : TH E (T0 E) G [r_3] H := hT.keptx (fun q hq => hq) (fun q _ hq => ho q (fun e => hq (by rw [e]; simp)))
  refine lv_aload hx hb dX5_append_25 (lv_at hl 0 rfl) ?_
  refine lv_iload_n hx hb dX5_append_27 rfl (lv_at hl 3 rfl) ?_
  refine rr_put (D := DG E) (ci := 4) (v := .int p1) (ty := .int) (C := RX4) (T := TX4) (N := 10) hx hb hts iw_X4 tyX4 tyX4_ok nmX4 hown hK.1 hr_8 hS (by show G r_3 ≠ 0; rw [gr_4]; decide) rfl 2 (by decide) (hts _ fl_X5_45) (fun _ h9 => h9) rfl (by decide +kernel) rfl rfl (Nat.le_of_ble_eq_true rfl) dX5_append_28 (fun H locs hn ho hz hS => ?_)
  have hr_9 : va_at (DG E) vwCl (r_3, .inr (4, [.int p0, .int 0, .int p1, .int 0, .int 0, .int 0, .int 0, .int 0, .int 0, .int 0])) H := hn
  have hT : TH E (T0 E) G [r_3] H := hT.keptx (fun q hq => hq) (fun q _ hq => ho q (fun e => hq (by rw [e]; simp)))
  refine lv_aload hx hb dX5_append_31 (lv_at hl 0 rfl) ?_
  refine lv_iload_n hx hb dX5_append_33 rfl (lv_at hl 4 rfl) ?_
  refine rr_put (D := DG E) (ci := 4) (v := .int p2) (ty := .int) (C := RX4) (T := TX4) (N := 10) hx hb hts iw_X4 tyX4 tyX4_ok nmX4 hown hK.1 hr_9 hS (by show G r_3 ≠ 0; rw [gr_4]; decide) rfl 3 (by decide) (hts _ fl_X5_48) (fun _ h9 => h9) rfl (by decide +kernel) rfl rfl (Nat.le_of_ble_eq_true rfl) dX5_append_34 (fun H locs hn ho hz hS => ?_)
  have hr_10 : va_at (DG E) vwCl (r_3, .inr (4, [.int p0, .int 0, .int p1, .int p2, .int 0, .int 0, .int 0, .int 0, .int 0, .int 0])) H := hn
  have hT : TH E (T0 E) G [r_3] H := hT.keptx (fun q hq => hq) (fun q _ hq => ho q (fun e => hq (by rw [e]; simp)))
  refine lv_aload hx hb dX5_append_37 (lv_at hl 0 rfl) ?_
  refine lv_iconst (v := 0) hx hb dX5_append_39 (by decide) ?_
  refine rr_put (D := DG E) (ci := 4) (v := .int 0) (ty := .int) (C := RX4) (T := TX4) (N := 10) hx hb hts iw_X4 tyX4 tyX4_ok nmX4 hown hK.1 hr_10 hS (by show G r_3 ≠ 0; rw [gr_4]; decide) rfl 9 (by decide) (hts _ fl_X5_51) (fun _ h9 => h9) rfl (by decide +kernel) rfl rfl (Nat.le_of_ble_eq_true rfl) dX5_append_40 (fun H locs hn ho hz hS => ?_)
  have hr_11 : va_at (DG E) vwCl (r_3, .inr (4, [.int p0, .int 0, .int p1, .int p2, .int 0, .int 0, .int 0, .int 0, .int 0, .int 0])) H := hn
  have hT : TH E (T0 E) G [r_3] H := hT.keptx (fun q hq => hq) (fun q _ hq => ho q (fun e => hq (by rw [e]; simp)))
  refine lv_aload_n hx hb dX5_append_43 rfl (lv_at hl 1 rfl) ?_
  refine lv_dup hx hb dX5_append_44 rfl ?_
  obtain ⟨pr_12, nd_12, rw_12, ha_12, hg_12_0, hg_12_1⟩ := tg_11 hT hG (nx_1 (ne_G hG gr_4 (by decide)) nx_0)
  refine va_get (D := DG E) (ci := 5) (v := .int 0) (C := RX5) (T := TX5) (N := 6) hx hb hts iw_X5 hown hK.1 (va_one ha_12) 0 rfl rfl 5 (by decide) (hts _ fl_X5_32) (fun _ h9 => h9) rfl dX5_append_45 ?_
  refine lv_iconst (v := 1) hx hb dX5_append_48 (by decide) ?_
  refine lv_iadd hx hb dX5_append_49 ?_
  refine W.eq (g2 := F0 m 50 ls [.int 1, .ref h0]) (by rfl) ?_
  obtain ⟨pr_13, nd_13, rw_13, ha_13, hg_13_0, hg_13_1⟩ := tg_11 hT hG (nx_1 (ne_G hG gr_4 (by decide)) nx_0)
  refine rr_put (D := DG E) (ci := 5) (v := .int 1) (ty := .int) (C := RX5) (T := TX5) (N := 6) hx hb hts iw_X5 tyX5 tyX5_ok nmX5 hown hK.1 ha_13 hS (by show G h0 ≠ 0; rw [hG]; decide) rfl 5 (by decide) (hts _ fl_X5_32) (fun _ h9 => h9) rfl (by decide +kernel) rfl rfl (Nat.le_of_ble_eq_true rfl) dX5_append_50 (fun H locs hn ho hz hS => ?_)
  have hr_14 : va_at (DG E) vwCl (h0, .inr (5, [.int pr_13, .ref nd_13, .ref rw_13, .int 0, .int 0, .int 1])) H := hn
  have hr_11 := hr_11.kept (ho _ (ne_G gr_4 hG (by decide)))
  have hT : TH E (T0 E) G [r_3, h0] H := hT.keptx (fun q hq => List.mem_append_left [h0] hq) (fun q _ hq => ho q (fun e => hq (by rw [e]; simp)))
  refine lv_aload_n hx hb dX5_append_53 rfl (lv_at hl 1 rfl) ?_
  refine lv_dup hx hb dX5_append_54 rfl ?_
  refine va_get (D := DG E) (ci := 5) (v := .int 0) (C := RX5) (T := TX5) (N := 6) hx hb hts iw_X5 hown hK.1 (va_one hr_14) 0 rfl rfl 4 (by decide) (hts _ fl_X5_29) (fun _ h9 => h9) rfl dX5_append_55 ?_
  refine lv_iconst (v := 1) hx hb dX5_append_58 (by decide) ?_
  refine lv_iadd hx hb dX5_append_59 ?_
  refine W.eq (g2 := F0 m 60 ls [.int 1, .ref h0]) (by rfl) ?_
  refine rr_put (D := DG E) (ci := 5) (v := .int 1) (ty := .int) (C := RX5) (T := TX5) (N := 6) hx hb hts iw_X5 tyX5 tyX5_ok nmX5 hown hK.1 hr_14 hS (by show G h0 ≠ 0; rw [hG]; decide) rfl 4 (by decide) (hts _ fl_X5_29) (fun _ h9 => h9) rfl (by decide +kernel) rfl rfl (Nat.le_of_ble_eq_true rfl) dX5_append_60 (fun H locs hn ho hz hS => ?_)
  have hr_15 : va_at (DG E) vwCl (h0, .inr (5, [.int pr_13, .ref nd_13, .ref rw_13, .int 0, .int 1, .int 1])) H := hn
  have hr_11 := hr_11.kept (ho _ (ne_G gr_4 hG (by decide)))
  have hT : TH E (T0 E) G [r_3, h0] H := hT.keptx (fun q hq => hq) (fun q _ hq => ho q (fun e => hq (by rw [e]; simp)))
  refine lv_aload hx hb dX5_append_63 (lv_at hl 0 rfl) ?_
  exact W.aret (v := .ref r_3) hx hb hr (Or.inl ⟨_, rfl⟩) (Or.inr ⟨_, rfl⟩) (fun t ht hW => ⟨⟨(), r_3, rfl, trivial, ⟨_, (by rw [ht]; exact hr_11), rfl⟩⟩, hS.F ht⟩) hS.2.2 dX5_append_65
theorem dX9_receive_0 : decode cX9_receive 0 = .ok (.iload_n 1, 1) := by decide +kernel
theorem dX9_receive_1 : decode cX9_receive 1 = .ok (.invokestatic 78, 3) := by decide +kernel
theorem dX9_receive_4 : decode cX9_receive 4 = .ok (.ifCond .eq 15, 3) := by decide +kernel
theorem dX9_receive_7 : decode cX9_receive 7 = .ok (.iload_n 2, 1) := by decide +kernel
theorem dX9_receive_8 : decode cX9_receive 8 = .ok (.iload_n 3, 1) := by decide +kernel
theorem dX9_receive_9 : decode cX9_receive 9 = .ok (.invokestatic 97, 3) := by decide +kernel
theorem dX9_receive_12 : decode cX9_receive 12 = .ok (.ifCond .eq 7, 3) := by decide +kernel
theorem dX9_receive_15 : decode cX9_receive 15 = .ok (.iconst 1, 1) := by decide +kernel
theorem dX9_receive_16 : decode cX9_receive 16 = .ok (.goto 4, 3) := by decide +kernel
theorem dX9_receive_19 : decode cX9_receive 19 = .ok (.iconst 0, 1) := by decide +kernel
theorem dX9_receive_20 : decode cX9_receive 20 = .ok (.invokestatic 53, 3) := by decide +kernel
theorem dX9_receive_23 : decode cX9_receive 23 = .ok (.aload_n 0, 1) := by decide +kernel
theorem dX9_receive_24 : decode cX9_receive 24 = .ok (.getfield 29, 3) := by decide +kernel
theorem dX9_receive_27 : decode cX9_receive 27 = .ok (.iload_n 1, 1) := by decide +kernel
theorem dX9_receive_28 : decode cX9_receive 28 = .ok (.aaload, 1) := by decide +kernel
theorem dX9_receive_29 : decode cX9_receive 29 = .ok (.invokevirtual 113, 3) := by decide +kernel
theorem dX9_receive_32 : decode cX9_receive 32 = .ok (.invokestatic 88, 3) := by decide +kernel
theorem dX9_receive_35 : decode cX9_receive 35 = .ok (.aload_n 0, 1) := by decide +kernel
theorem dX9_receive_36 : decode cX9_receive 36 = .ok (.getfield 29, 3) := by decide +kernel
theorem dX9_receive_39 : decode cX9_receive 39 = .ok (.iload_n 1, 1) := by decide +kernel
theorem dX9_receive_40 : decode cX9_receive 40 = .ok (.aaload, 1) := by decide +kernel
theorem dX9_receive_41 : decode cX9_receive 41 = .ok (.getfield 116, 3) := by decide +kernel
theorem dX9_receive_44 : decode cX9_receive 44 = .ok (.getfield 120, 3) := by decide +kernel
theorem dX9_receive_47 : decode cX9_receive 47 = .ok (.iconst 4, 1) := by decide +kernel
theorem dX9_receive_48 : decode cX9_receive 48 = .ok (.iload_n 2, 1) := by decide +kernel
theorem dX9_receive_49 : decode cX9_receive 49 = .ok (.iload_n 3, 1) := by decide +kernel
theorem dX9_receive_50 : decode cX9_receive 50 = .ok (.invokevirtual 124, 3) := by decide +kernel
theorem dX9_receive_53 : decode cX9_receive 53 = .ok (.getfield 130, 3) := by decide +kernel
theorem dX9_receive_56 : decode cX9_receive 56 = .ok (.ireturn, 1) := by decide +kernel
set_option maxHeartbeats 4000000 in
set_option maxRecDepth 100000 in
theorem c_X9_receive (l : Launch) (hst : l.stackTraces = false) (E : EE) (z0 : Nat) (G : Nat → Nat) (hGz : ∀ q, G q ≠ 0 → z0 ≤ q) (h0 : Nat) (p0 p1 p2 : Int32) (hG : G h0 = 1) : vx_Met l yX9_receive [Cond.code yX9_receive cX9_receive 4 (some .int)] ({ frames := 7, cells := 2, slots := 12, locals := 101 } : Room) (va_Pc [.ref h0, .int p0, .int p1, .int p2] (fun U => TH E (T0 E) G [] U.heap ∧ KS E z0 U)) (va_Qi (fun (r : Int32) (_ : Unit) => r = 0 ∧ (0 ≤ p0.toInt ∧ p0.toInt < 4 ∧ 1 ≤ p2.toInt ∧ p2.toInt ≤ 12 ∧ 0 ≤ p1.toInt ∧ p1.toInt ≤ 32 - p2.toInt)) (fun _ _ => True) (fun q : Nat => G q ≠ 0)) (vx_X (fun (_ : Unit) => True) (fun En _ _ => En = IAE ∧ ¬ (0 ≤ p0.toInt ∧ p0.toInt < 4 ∧ 1 ≤ p2.toInt ∧ p2.toInt ≤ 12 ∧ 0 ≤ p1.toInt ∧ p1.toInt ≤ 32 - p2.toInt)) (fun q : Nat => G q ≠ 0)) 2 12 (fun q : Nat => G q ≠ 0) := by
  refine vx_ofW (cc := cX9_receive) (maxL := 4) (ret := (some .int)) (by decide) rfl ?_
  intro p e s m args below meth c s₁ B hml hne hv
  obtain ⟨rfl, hT, hK⟩ := hv
  have hx := B.exec
  have hb := B.bytes
  have hr := B.returns
  have hts : ∀ w ∈ TS, w.before ([.ref h0, .int p0, .int p1, .int p2] : List Value).toArray s = true := fun w hw => hK.2.1 w hw _
  have hown : s.vm.findClass RX9 = some m.cls := findClass_of_methodNamed B.named
  have hlocks := B.notSynchronized
  have hS : va_S (fun q : Nat => G q ≠ 0) s.heap s.heap [] := va_S.rf
  have hAz : ∀ q, (fun q : Nat => G q ≠ 0) q → z0 ≤ q := hGz
  have hl := lv_entry ([.ref h0, .int p0, .int p1, .int p2]) (n := 4) (Nat.le_of_ble_eq_true rfl)
  rw [lg_entry_eq]
  generalize (lg_sl ([.ref h0, .int p0, .int p1, .int p2]) ++ List.replicate (4 - (lg_sl ([.ref h0, .int p0, .int p1, .int p2])).length) Slot.unset).toArray = ls at hl ⊢
  have hl : lv_has ls 4 [(0, .ref h0), (1, .int p0), (2, .int p1), (3, .int p2)] := hl
  refine lv_iload_n hx hb dX9_receive_0 rfl (lv_at hl 1 rfl) ?_
  refine W.callR (W.runS (As := [.int p0]) (rest := []) ⟨hx, hb, hml, hown, hts⟩ (c_X9_isPair l p0) (cwS 1 hts (gdS ml_X9_78 st_X9_isPair in_X9 co_X9_isPair rfl) rfl rfl rfl (by decide +kernel) ⟨Nat.le_of_ble_eq_true rfl, Nat.le_of_ble_eq_true rfl⟩) preEq rfl rfl hl.1 rfl (lv_room (Nat.le_of_ble_eq_true rfl)) dX9_receive_1 ⟨Nat.le_of_ble_eq_true rfl, Nat.le_of_ble_eq_true rfl⟩) ?_
  refine W.eq (g2 := F0 m 4 ls [.int (bI (0 ≤ p0.toInt ∧ p0.toInt < 4))]) (by rfl) ?_
  refine lv_if_eq (tgt := 19) hx hb dX9_receive_4 (by decide) (fun c_1 => ?_) (fun c_1 => ?_)
  · have c_1 := bI_0 c_1
    refine lv_iconst (v := 0) hx hb dX9_receive_19 (by decide) ?_
    refine vx_callv (rxS (fun _ => True) (As := [.int 0]) (rest := []) ⟨hx, hb, hml, hown, hts⟩ (c_X9_require l hst E z0 0) (cwS 1 hts (gdS ml_X9_53 st_X9_require in_X9 co_X9_require rfl) rfl rfl rfl (by decide +kernel) ⟨Nat.le_of_ble_eq_true rfl, Nat.le_of_ble_eq_true rfl⟩) trivial (fun U hU hW => hK.go hW hS hAz hU) rfl rfl hl.1 rfl (lv_room (Nat.le_of_ble_eq_true rfl)) dX9_receive_20 ⟨Nat.le_of_ble_eq_true rfl, Nat.le_of_ble_eq_true rfl⟩) hS (fun q _ h => h.elim) (fun q h => h.elim) (fun q _ h => h.elim) (fun En ce q9 _ t H locs ht hvm hw hB hz hk hS hc1 hc2 hc3 => ?_) (fun _ t H locs ht hvm hw hB hz hk hS => absurd rfl hw)
    subst hB
    exact vx_out (fun x hx => (hne x hx).elim) hlocks hc1 hc2 hc3 (fun t ht hA => ⟨(), trivial, ⟨rfl, by omega⟩, hS.F ht⟩) hS.2.2 (Nat.le_of_ble_eq_true rfl) (Nat.le_of_ble_eq_true rfl)
  · have c_1 := bI_n c_1
    refine lv_iload_n hx hb dX9_receive_7 rfl (lv_at hl 2 rfl) ?_
    refine lv_iload_n hx hb dX9_receive_8 rfl (lv_at hl 3 rfl) ?_
    refine W.callR (W.runS (As := [.int p1, .int p2]) (rest := []) ⟨hx, hb, hml, hown, hts⟩ (c_X9_areCells l p1 p2) (cwS 2 hts (gdS ml_X9_97 st_X9_areCells in_X9 co_X9_areCells rfl) rfl rfl rfl (by decide +kernel) ⟨Nat.le_of_ble_eq_true rfl, Nat.le_of_ble_eq_true rfl⟩) preEq rfl rfl hl.1 rfl (lv_room (Nat.le_of_ble_eq_true rfl)) dX9_receive_9 ⟨Nat.le_of_ble_eq_true rfl, Nat.le_of_ble_eq_true rfl⟩) ?_
    refine W.eq (g2 := F0 m 12 ls [.int (bI (1 ≤ p2.toInt ∧ p2.toInt ≤ 12 ∧ 0 ≤ p1.toInt ∧ p1.toInt ≤ 32 - p2.toInt))]) (by rfl) ?_
    refine lv_if_eq (tgt := 19) hx hb dX9_receive_12 (by decide) (fun c_2 => ?_) (fun c_2 => ?_)
    · have c_2 := bI_0 c_2
      refine lv_iconst (v := 0) hx hb dX9_receive_19 (by decide) ?_
      refine vx_callv (rxS (fun _ => True) (As := [.int 0]) (rest := []) ⟨hx, hb, hml, hown, hts⟩ (c_X9_require l hst E z0 0) (cwS 1 hts (gdS ml_X9_53 st_X9_require in_X9 co_X9_require rfl) rfl rfl rfl (by decide +kernel) ⟨Nat.le_of_ble_eq_true rfl, Nat.le_of_ble_eq_true rfl⟩) trivial (fun U hU hW => hK.go hW hS hAz hU) rfl rfl hl.1 rfl (lv_room (Nat.le_of_ble_eq_true rfl)) dX9_receive_20 ⟨Nat.le_of_ble_eq_true rfl, Nat.le_of_ble_eq_true rfl⟩) hS (fun q _ h => h.elim) (fun q h => h.elim) (fun q _ h => h.elim) (fun En ce q9 _ t H locs ht hvm hw hB hz hk hS hc1 hc2 hc3 => ?_) (fun _ t H locs ht hvm hw hB hz hk hS => absurd rfl hw)
      subst hB
      exact vx_out (fun x hx => (hne x hx).elim) hlocks hc1 hc2 hc3 (fun t ht hA => ⟨(), trivial, ⟨rfl, by omega⟩, hS.F ht⟩) hS.2.2 (Nat.le_of_ble_eq_true rfl) (Nat.le_of_ble_eq_true rfl)
    · have c_2 := bI_n c_2
      refine lv_iconst (v := 1) hx hb dX9_receive_15 (by decide) ?_
      refine lv_goto (tgt := 20) hx hb dX9_receive_16 (by decide) ?_
      refine vx_callv (rxS (fun _ => True) (As := [.int 1]) (rest := []) ⟨hx, hb, hml, hown, hts⟩ (c_X9_require l hst E z0 1) (cwS 1 hts (gdS ml_X9_53 st_X9_require in_X9 co_X9_require rfl) rfl rfl rfl (by decide +kernel) ⟨Nat.le_of_ble_eq_true rfl, Nat.le_of_ble_eq_true rfl⟩) trivial (fun U hU hW => hK.go hW hS hAz hU) rfl rfl hl.1 rfl (lv_room (Nat.le_of_ble_eq_true rfl)) dX9_receive_20 ⟨Nat.le_of_ble_eq_true rfl, Nat.le_of_ble_eq_true rfl⟩) hS (fun q _ h => h.elim) (fun q h => h.elim) (fun q _ h => h.elim) (fun En ce q9 _ t H locs ht hvm hw hB hz hk hS hc1 hc2 hc3 => absurd hw (by decide)) (fun _ t H locs ht hvm hw hB hz hk hS => ?_)
      have hT : TH E (T0 E) G [] H := hT.kept (fun q hq => hk q hq (fun h => h))
      refine lv_aload_n hx hb dX9_receive_23 rfl (lv_at hl 0 rfl) ?_
      obtain ⟨n_3, p_3, f_3, ha_3, hg_3_0, hg_3_1, hg_3_2⟩ := tg_1 hT hG nx_0
      refine va_get (D := DG E) (ci := 9) (v := .ref p_3) (C := RX9) (T := TX9) (N := 3) hx hb hts iw_X9 hown hK.1 (va_one ha_3) 0 rfl rfl 1 (by decide) (hts _ fl_X9_29) (fun _ h9 => h9) rfl dX9_receive_24 ?_
      refine lv_iload_n hx hb dX9_receive_27 rfl (lv_at hl 1 rfl) ?_
      obtain ⟨f_4, ha_4, he_4⟩ := tg_3 hT hg_3_1 nx_0
      obtain ⟨j_ha_4, hj_ha_4, ej_ha_4⟩ := vp_in_of (show vp_in p0 4 from vp_in_iff.mpr (by omega)) (by decide)
      obtain ⟨b_ha_4, eb_ha_4, gb_ha_4⟩ := he_4 j_ha_4 hj_ha_4
      have cj_ha_4 : f_4 (p0 : Int32).toNatClampNeg = some b_ha_4 := by rw [ej_ha_4, nI_clamp (by omega)]; exact eb_ha_4
      refine va_aldq (D := DG E) hx hb hK.1 (va_one ha_4) 0 5 rfl rfl (show vp_in p0 4 from vp_in_iff.mpr (by omega)) dX9_receive_28 ?_
      rw [cj_ha_4]
      refine W.eq (g2 := F0 m 29 ls [.ref b_ha_4]) (by rfl) ?_
      obtain ⟨rq_5, rs_5, ha_5, hg_5_0, hg_5_1⟩ := tg_8 hT gb_ha_4 nx_0
      refine va_calli (rnV (fun H => TH E (T0 E) G [] H) (As := []) (rest := []) ⟨hx, hb, hml, hown, hts⟩ (c_X3_takesReceives l E z0 G hGz b_ha_4  gb_ha_4) (cwV 0 hts (gdV ml_X9_113 im_X3_takesReceives se_X3_X3_takesReceives in_X3 co_X3_takesReceives rfl) rfl rfl rfl (by decide +kernel) ⟨Nat.le_of_ble_eq_true rfl, Nat.le_of_ble_eq_true rfl⟩) hT (fun U hU hW => hK.go hW hS hAz hU) (va_recv hK.1 (va_one ha_5) (ci := 3) (q0 := 0) rfl rfl) rfl rfl hl.1 rfl (lv_room (Nat.le_of_ble_eq_true rfl)) dX9_receive_29 ⟨Nat.le_of_ble_eq_true rfl, Nat.le_of_ble_eq_true rfl⟩) hS (fun q _ h => h.elim) (fun q h => h.elim) (fun r_6 _ t H locs ht hvm hw hB hz hk hS => ?_)
      have hT : TH E (T0 E) G [] H := hT.kept (fun q hq => hk q hq (fun h => h))
      obtain rfl : r_6 = 1 := hw
      refine vx_callv (rxS (fun _ => True) (As := [.int 1]) (rest := []) ⟨hx, hb, hml, hown, hts⟩ (c_X9_requireState l hst E z0 1) (cwS 1 hts (gdS ml_X9_88 st_X9_requireState in_X9 co_X9_requireState rfl) rfl rfl rfl (by decide +kernel) ⟨Nat.le_of_ble_eq_true rfl, Nat.le_of_ble_eq_true rfl⟩) trivial (fun U hU hW => hK.go hW hS hAz hU) rfl rfl hl.1 rfl (lv_room (Nat.le_of_ble_eq_true rfl)) dX9_receive_32 ⟨Nat.le_of_ble_eq_true rfl, Nat.le_of_ble_eq_true rfl⟩) hS (fun q _ h => h.elim) (fun q h => h.elim) (fun q _ h => h.elim) (fun En ce q9 _ t H locs ht hvm hw hB hz hk hS hc1 hc2 hc3 => absurd hw (by decide)) (fun _ t H locs ht hvm hw hB hz hk hS => ?_)
      have hT : TH E (T0 E) G [] H := hT.kept (fun q hq => hk q hq (fun h => h))
      refine lv_aload_n hx hb dX9_receive_35 rfl (lv_at hl 0 rfl) ?_
      obtain ⟨n_7, p_7, f_7, ha_7, hg_7_0, hg_7_1, hg_7_2⟩ := tg_1 hT hG nx_0
      refine va_get (D := DG E) (ci := 9) (v := .ref p_7) (C := RX9) (T := TX9) (N := 3) hx hb hts iw_X9 hown hK.1 (va_one ha_7) 0 rfl rfl 1 (by decide) (hts _ fl_X9_29) (fun _ h9 => h9) rfl dX9_receive_36 ?_
      refine lv_iload_n hx hb dX9_receive_39 rfl (lv_at hl 1 rfl) ?_
      obtain ⟨f_8, ha_8, he_8⟩ := tg_3 hT hg_7_1 nx_0
      obtain ⟨j_ha_8, hj_ha_8, ej_ha_8⟩ := vp_in_of (show vp_in p0 4 from vp_in_iff.mpr (by omega)) (by decide)
      obtain ⟨b_ha_8, eb_ha_8, gb_ha_8⟩ := he_8 j_ha_8 hj_ha_8
      have cj_ha_8 : f_8 (p0 : Int32).toNatClampNeg = some b_ha_8 := by rw [ej_ha_8, nI_clamp (by omega)]; exact eb_ha_8
      refine va_aldq (D := DG E) hx hb hK.1 (va_one ha_8) 0 5 rfl rfl (show vp_in p0 4 from vp_in_iff.mpr (by omega)) dX9_receive_40 ?_
      rw [cj_ha_8]
      refine W.eq (g2 := F0 m 41 ls [.ref b_ha_8]) (by rfl) ?_
      obtain ⟨rq_9, rs_9, ha_9, hg_9_0, hg_9_1⟩ := tg_8 hT gb_ha_8 nx_0
      refine va_get (D := DG E) (ci := 3) (v := .ref rs_9) (C := RX3) (T := TX3) (N := 3) hx hb hts iw_X3 hown hK.1 (va_one ha_9) 0 rfl rfl 1 (by decide) (hts _ fl_X9_116) (fun _ h9 => h9) rfl dX9_receive_41 ?_
      obtain ⟨pe_10, nd_10, fa_10, rc_10, an_10, ar_10, ha_10, hg_10_0, hg_10_1, hg_10_2, hg_10_3, hg_10_4⟩ := tg_10 hT hg_9_1 nx_0
      refine va_get (D := DG E) (ci := 8) (v := .ref rc_10) (C := RX8) (T := TX8) (N := 9) hx hb hts iw_X8 hown hK.1 (va_one ha_10) 0 rfl rfl 3 (by decide) (hts _ fl_X9_120) (fun _ h9 => h9) rfl dX9_receive_44 ?_
      refine lv_iconst (v := 4) hx hb dX9_receive_47 (by decide) ?_
      refine lv_iload_n hx hb dX9_receive_48 rfl (lv_at hl 2 rfl) ?_
      refine lv_iload_n hx hb dX9_receive_49 rfl (lv_at hl 3 rfl) ?_
      obtain ⟨pr_11, nd_11, rw_11, ha_11, hg_11_0, hg_11_1⟩ := tg_11 hT hg_10_2 nx_0
      refine va_callr (rnV (fun H => TH E (T0 E) G [] H) (As := [.int 4, .int p1, .int p2]) (rest := []) ⟨hx, hb, hml, hown, hts⟩ (c_X5_append l E z0 G hGz rc_10 4 p1 p2 hg_10_2) (cwV 3 hts (gdV ml_X9_124 im_X5_append se_X5_X5_append in_X5 co_X5_append rfl) rfl rfl rfl (by decide +kernel) ⟨Nat.le_of_ble_eq_true rfl, Nat.le_of_ble_eq_true rfl⟩) hT (fun U hU hW => hK.go hW hS hAz hU) (va_recv hK.1 (va_one ha_11) (ci := 5) (q0 := 0) rfl rfl) rfl rfl hl.1 rfl (lv_room (Nat.le_of_ble_eq_true rfl)) dX9_receive_50 ⟨Nat.le_of_ble_eq_true rfl, Nat.le_of_ble_eq_true rfl⟩) hS (fun q _ h => h) (fun q h => h) (fun _ r_12 t H locs ht hvm hw hB hz hk hS => ?_)
      obtain ⟨fsx, hatx, hfx⟩ := hB
      rw [ht] at hatx
      refine va_get (D := DG E) (ci := 4) (v := .int 0) (C := RX4) (T := TX4) (N := 10) hx hb hts iw_X4 hown hK.1 (va_one hatx) 0 rfl rfl 1 (by decide) (hts _ fl_X9_130) (fun _ h9 => h9) hfx dX9_receive_53 ?_
      refine vx_ret ?_
      refine W.widen (k := 2) (n := 12) (Nat.le_of_ble_eq_true rfl) (Nat.le_of_ble_eq_true rfl) ?_
      exact W.iret (v := 0) hx hb hr (fun t ht hW => ⟨⟨0, (), rfl, ⟨rfl, by omega⟩, trivial⟩, hS.F ht⟩) hS.2.2 dX9_receive_56
theorem dX5_clear_0 : decode cX5_clear 0 = .ok (.aload_n 0, 1) := by decide +kernel
theorem dX5_clear_1 : decode cX5_clear 1 = .ok (.iconst 0, 1) := by decide +kernel
theorem dX5_clear_2 : decode cX5_clear 2 = .ok (.putfield 26, 3) := by decide +kernel
theorem dX5_clear_5 : decode cX5_clear 5 = .ok (.aload_n 0, 1) := by decide +kernel
theorem dX5_clear_6 : decode cX5_clear 6 = .ok (.iconst 0, 1) := by decide +kernel
theorem dX5_clear_7 : decode cX5_clear 7 = .ok (.putfield 29, 3) := by decide +kernel
theorem dX5_clear_10 : decode cX5_clear 10 = .ok (.aload_n 0, 1) := by decide +kernel
theorem dX5_clear_11 : decode cX5_clear 11 = .ok (.iconst 0, 1) := by decide +kernel
theorem dX5_clear_12 : decode cX5_clear 12 = .ok (.putfield 32, 3) := by decide +kernel
theorem dX5_clear_15 : decode cX5_clear 15 = .ok (.return_, 1) := by decide +kernel
set_option maxHeartbeats 4000000 in
set_option maxRecDepth 100000 in
theorem c_X5_clear (l : Launch) (E : EE) (z0 : Nat) (G : Nat → Nat) (hGz : ∀ q, G q ≠ 0 → z0 ≤ q) (h0 : Nat) (hG : G h0 = 11) : Met l yX5_clear [Cond.code yX5_clear cX5_clear 1 none] ({ frames := 0, cells := 0, slots := 0, locals := 0 } : Room) (va_Pc [.ref h0] (fun U => TH E (T0 E) G [] U.heap ∧ KS E z0 U)) (va_Qv (fun (_ : Unit) => True) (fun _ t => TH E (T0 E) G [] t.heap) (fun q : Nat => G q ≠ 0)) 0 0 (fun q : Nat => G q ≠ 0) := by
  refine Met.ofW (cc := cX5_clear) (maxL := 1) (ret := none) (by decide) rfl ?_
  intro p e s m args below meth c s₁ B hml hv
  obtain ⟨rfl, hT, hK⟩ := hv
  have hx := B.exec
  have hb := B.bytes
  have hr := B.returns
  have hts : ∀ w ∈ TS, w.before ([.ref h0] : List Value).toArray s = true := fun w hw => hK.2.1 w hw _
  have hown : s.vm.findClass RX5 = some m.cls := findClass_of_methodNamed B.named
  have hlocks := B.notSynchronized
  have hS : va_S (fun q : Nat => G q ≠ 0) s.heap s.heap [] := va_S.rf
  have hAz : ∀ q, (fun q : Nat => G q ≠ 0) q → z0 ≤ q := hGz
  have hl := lv_entry ([.ref h0]) (n := 1) (Nat.le_of_ble_eq_true rfl)
  rw [lg_entry_eq]
  generalize (lg_sl ([.ref h0]) ++ List.replicate (1 - (lg_sl ([.ref h0])).length) Slot.unset).toArray = ls at hl ⊢
  have hl : lv_has ls 1 [(0, .ref h0)] := hl
  refine lv_aload_n hx hb dX5_clear_0 rfl (lv_at hl 0 rfl) ?_
  refine lv_iconst (v := 0) hx hb dX5_clear_1 (by decide) ?_
  obtain ⟨pr_1, nd_1, rw_1, ha_1, hg_1_0, hg_1_1⟩ := tg_11 hT hG nx_0
  refine rr_put (D := DG E) (ci := 5) (v := .int 0) (ty := .int) (C := RX5) (T := TX5) (N := 6) hx hb hts iw_X5 tyX5 tyX5_ok nmX5 hown hK.1 ha_1 hS (by show G h0 ≠ 0; rw [hG]; decide) rfl 3 (by decide) (hts _ fl_X5_26) (fun _ h9 => h9) rfl (by decide +kernel) rfl rfl (Nat.le_of_ble_eq_true rfl) dX5_clear_2 (fun H locs hn ho hz hS => ?_)
  have hr_2 : va_at (DG E) vwCl (h0, .inr (5, [.int pr_1, .ref nd_1, .ref rw_1, .int 0, .int 0, .int 0])) H := hn
  have hT : TH E (T0 E) G [] H := hT.set hG (show T0 E G 11 _ from ⟨pr_1, nd_1, rw_1, rfl, hg_1_0, hg_1_1⟩) hr_2 ho
  refine lv_aload_n hx hb dX5_clear_5 rfl (lv_at hl 0 rfl) ?_
  refine lv_iconst (v := 0) hx hb dX5_clear_6 (by decide) ?_
  obtain ⟨pr_3, nd_3, rw_3, ha_3, hg_3_0, hg_3_1⟩ := tg_11 hT hG nx_0
  refine rr_put (D := DG E) (ci := 5) (v := .int 0) (ty := .int) (C := RX5) (T := TX5) (N := 6) hx hb hts iw_X5 tyX5 tyX5_ok nmX5 hown hK.1 ha_3 hS (by show G h0 ≠ 0; rw [hG]; decide) rfl 4 (by decide) (hts _ fl_X5_29) (fun _ h9 => h9) rfl (by decide +kernel) rfl rfl (Nat.le_of_ble_eq_true rfl) dX5_clear_7 (fun H locs hn ho hz hS => ?_)
  have hr_4 : va_at (DG E) vwCl (h0, .inr (5, [.int pr_3, .ref nd_3, .ref rw_3, .int 0, .int 0, .int 0])) H := hn
  have hT : TH E (T0 E) G [] H := hT.set hG (show T0 E G 11 _ from ⟨pr_3, nd_3, rw_3, rfl, hg_3_0, hg_3_1⟩) hr_4 ho
  refine lv_aload_n hx hb dX5_clear_10 rfl (lv_at hl 0 rfl) ?_
  refine lv_iconst (v := 0) hx hb dX5_clear_11 (by decide) ?_
  obtain ⟨pr_5, nd_5, rw_5, ha_5, hg_5_0, hg_5_1⟩ := tg_11 hT hG nx_0
  refine rr_put (D := DG E) (ci := 5) (v := .int 0) (ty := .int) (C := RX5) (T := TX5) (N := 6) hx hb hts iw_X5 tyX5 tyX5_ok nmX5 hown hK.1 ha_5 hS (by show G h0 ≠ 0; rw [hG]; decide) rfl 5 (by decide) (hts _ fl_X5_32) (fun _ h9 => h9) rfl (by decide +kernel) rfl rfl (Nat.le_of_ble_eq_true rfl) dX5_clear_12 (fun H locs hn ho hz hS => ?_)
  have hr_6 : va_at (DG E) vwCl (h0, .inr (5, [.int pr_5, .ref nd_5, .ref rw_5, .int 0, .int 0, .int 0])) H := hn
  have hT : TH E (T0 E) G [] H := hT.set hG (show T0 E G 11 _ from ⟨pr_5, nd_5, rw_5, rfl, hg_5_0, hg_5_1⟩) hr_6 ho
  exact W.vret hx hb hr (fun t ht hW => ⟨⟨(), rfl, trivial, (by show TH E (T0 E) G [] t.heap; rw [ht]; exact hT)⟩, hS.F ht⟩) hS.2.2 dX5_clear_15
set_option maxHeartbeats 4000000 in
set_option maxRecDepth 100000 in
theorem c_X7_start0 (l : Launch) (E : EE) (z0 : Nat) (G : Nat → Nat) (hGz : ∀ q, G q ≠ 0 → z0 ≤ q) (h0 : Nat) (hG : G h0 = 9) : Met l yX7_start [Cond.code yX7_start cX7_start 2 none] ({ frames := 0, cells := 0, slots := 0, locals := 0 } : Room) (va_Pc [.ref h0, .int 0] (fun U => TH E (T0 E) G [] U.heap ∧ KS E z0 U)) (va_Qv (fun (_ : Unit) => True) (fun _ t => TH E (T0 E) G [] t.heap) (fun q : Nat => G q ≠ 0)) 0 0 (fun q : Nat => G q ≠ 0) := by
  refine Met.ofW (cc := cX7_start) (maxL := 2) (ret := none) (by decide) rfl ?_
  intro p e s m args below meth c s₁ B hml hv
  obtain ⟨rfl, hT, hK⟩ := hv
  have hx := B.exec
  have hb := B.bytes
  have hr := B.returns
  have hts : ∀ w ∈ TS, w.before ([.ref h0, .int 0] : List Value).toArray s = true := fun w hw => hK.2.1 w hw _
  have hown : s.vm.findClass RX7 = some m.cls := findClass_of_methodNamed B.named
  have hlocks := B.notSynchronized
  have hS : va_S (fun q : Nat => G q ≠ 0) s.heap s.heap [] := va_S.rf
  have hAz : ∀ q, (fun q : Nat => G q ≠ 0) q → z0 ≤ q := hGz
  have hl := lv_entry ([.ref h0, .int 0]) (n := 2) (Nat.le_of_ble_eq_true rfl)
  rw [lg_entry_eq]
  generalize (lg_sl ([.ref h0, .int 0]) ++ List.replicate (2 - (lg_sl ([.ref h0, .int 0])).length) Slot.unset).toArray = ls at hl ⊢
  have hl : lv_has ls 2 [(0, .ref h0), (1, .int 0)] := hl
  refine lv_aload_n hx hb dX7_start_0 rfl (lv_at hl 0 rfl) ?_
  refine lv_iload_n hx hb dX7_start_1 rfl (lv_at hl 1 rfl) ?_
  obtain ⟨pe_1, nd_1, fa_1, to_1, mt_1, mr_1, rq_1, ha_1, hg_1_0, hg_1_1, hg_1_2⟩ := tg_9 hT hG nx_0
  refine rr_put (D := DG E) (ci := 7) (v := .int 0) (ty := .int) (C := RX7) (T := TX7) (N := 14) hx hb hts iw_X7 tyX7 tyX7_ok nmX7 hown hK.1 ha_1 hS (by show G h0 ≠ 0; rw [hG]; decide) rfl 7 (by decide) (hts _ fl_X7_65) (fun _ h9 => h9) rfl (by decide +kernel) rfl rfl (Nat.le_of_ble_eq_true rfl) dX7_start_2 (fun H locs hn ho hz hS => ?_)
  have hr_2 : va_at (DG E) vwCl (h0, .inr (7, [.int pe_1, .ref nd_1, .ref fa_1, .int to_1, .int mt_1, .int mr_1, .ref rq_1, .int 0, .int 0, .int 0, .int 0, .int 0, .int 0, .int 0])) H := hn
  have hT : TH E (T0 E) G [] H := hT.set hG (show T0 E G 9 _ from ⟨pe_1, nd_1, fa_1, to_1, mt_1, mr_1, rq_1, rfl, hg_1_0, hg_1_1, hg_1_2⟩) hr_2 ho
  refine lv_aload_n hx hb dX7_start_5 rfl (lv_at hl 0 rfl) ?_
  refine lv_iload_n hx hb dX7_start_6 rfl (lv_at hl 1 rfl) ?_
  obtain ⟨pe_3, nd_3, fa_3, to_3, mt_3, mr_3, rq_3, ha_3, hg_3_0, hg_3_1, hg_3_2⟩ := tg_9 hT hG nx_0
  refine rr_put (D := DG E) (ci := 7) (v := .int 0) (ty := .int) (C := RX7) (T := TX7) (N := 14) hx hb hts iw_X7 tyX7 tyX7_ok nmX7 hown hK.1 ha_3 hS (by show G h0 ≠ 0; rw [hG]; decide) rfl 8 (by decide) (hts _ fl_X7_68) (fun _ h9 => h9) rfl (by decide +kernel) rfl rfl (Nat.le_of_ble_eq_true rfl) dX7_start_7 (fun H locs hn ho hz hS => ?_)
  have hr_4 : va_at (DG E) vwCl (h0, .inr (7, [.int pe_3, .ref nd_3, .ref fa_3, .int to_3, .int mt_3, .int mr_3, .ref rq_3, .int 0, .int 0, .int 0, .int 0, .int 0, .int 0, .int 0])) H := hn
  have hT : TH E (T0 E) G [] H := hT.set hG (show T0 E G 9 _ from ⟨pe_3, nd_3, fa_3, to_3, mt_3, mr_3, rq_3, rfl, hg_3_0, hg_3_1, hg_3_2⟩) hr_4 ho
  refine lv_aload_n hx hb dX7_start_10 rfl (lv_at hl 0 rfl) ?_
  refine lv_iload_n hx hb dX7_start_11 rfl (lv_at hl 1 rfl) ?_
  obtain ⟨pe_5, nd_5, fa_5, to_5, mt_5, mr_5, rq_5, ha_5, hg_5_0, hg_5_1, hg_5_2⟩ := tg_9 hT hG nx_0
  refine rr_put (D := DG E) (ci := 7) (v := .int 0) (ty := .int) (C := RX7) (T := TX7) (N := 14) hx hb hts iw_X7 tyX7 tyX7_ok nmX7 hown hK.1 ha_5 hS (by show G h0 ≠ 0; rw [hG]; decide) rfl 9 (by decide) (hts _ fl_X7_71) (fun _ h9 => h9) rfl (by decide +kernel) rfl rfl (Nat.le_of_ble_eq_true rfl) dX7_start_12 (fun H locs hn ho hz hS => ?_)
  have hr_6 : va_at (DG E) vwCl (h0, .inr (7, [.int pe_5, .ref nd_5, .ref fa_5, .int to_5, .int mt_5, .int mr_5, .ref rq_5, .int 0, .int 0, .int 0, .int 0, .int 0, .int 0, .int 0])) H := hn
  have hT : TH E (T0 E) G [] H := hT.set hG (show T0 E G 9 _ from ⟨pe_5, nd_5, fa_5, to_5, mt_5, mr_5, rq_5, rfl, hg_5_0, hg_5_1, hg_5_2⟩) hr_6 ho
  exact W.vret hx hb hr (fun t ht hW => ⟨⟨(), rfl, trivial, (by show TH E (T0 E) G [] t.heap; rw [ht]; exact hT)⟩, hS.F ht⟩) hS.2.2 dX7_start_15
theorem dX7_clear_0 : decode cX7_clear 0 = .ok (.aload_n 0, 1) := by decide +kernel
theorem dX7_clear_1 : decode cX7_clear 1 = .ok (.getfield 41, 3) := by decide +kernel
theorem dX7_clear_4 : decode cX7_clear 4 = .ok (.invokevirtual 45, 3) := by decide +kernel
theorem dX7_clear_7 : decode cX7_clear 7 = .ok (.aload_n 0, 1) := by decide +kernel
theorem dX7_clear_8 : decode cX7_clear 8 = .ok (.iconst 0, 1) := by decide +kernel
theorem dX7_clear_9 : decode cX7_clear 9 = .ok (.invokevirtual 48, 3) := by decide +kernel
theorem dX7_clear_12 : decode cX7_clear 12 = .ok (.aload_n 0, 1) := by decide +kernel
theorem dX7_clear_13 : decode cX7_clear 13 = .ok (.iconst 0, 1) := by decide +kernel
theorem dX7_clear_14 : decode cX7_clear 14 = .ok (.putfield 52, 3) := by decide +kernel
theorem dX7_clear_17 : decode cX7_clear 17 = .ok (.aload_n 0, 1) := by decide +kernel
theorem dX7_clear_18 : decode cX7_clear 18 = .ok (.iconst 0, 1) := by decide +kernel
theorem dX7_clear_19 : decode cX7_clear 19 = .ok (.putfield 55, 3) := by decide +kernel
theorem dX7_clear_22 : decode cX7_clear 22 = .ok (.aload_n 0, 1) := by decide +kernel
theorem dX7_clear_23 : decode cX7_clear 23 = .ok (.iconst 0, 1) := by decide +kernel
theorem dX7_clear_24 : decode cX7_clear 24 = .ok (.putfield 58, 3) := by decide +kernel
theorem dX7_clear_27 : decode cX7_clear 27 = .ok (.aload_n 0, 1) := by decide +kernel
theorem dX7_clear_28 : decode cX7_clear 28 = .ok (.iconst 0, 1) := by decide +kernel
theorem dX7_clear_29 : decode cX7_clear 29 = .ok (.putfield 61, 3) := by decide +kernel
theorem dX7_clear_32 : decode cX7_clear 32 = .ok (.return_, 1) := by decide +kernel
set_option maxHeartbeats 4000000 in
set_option maxRecDepth 100000 in
theorem c_X7_clear (l : Launch) (E : EE) (z0 : Nat) (G : Nat → Nat) (hGz : ∀ q, G q ≠ 0 → z0 ≤ q) (h0 : Nat) (hG : G h0 = 9) : Met l yX7_clear [Cond.code yX7_clear cX7_clear 1 none] ({ frames := 1, cells := 0, slots := 0, locals := 21 } : Room) (va_Pc [.ref h0] (fun U => TH E (T0 E) G [] U.heap ∧ KS E z0 U)) (va_Qv (fun (_ : Unit) => True) (fun _ t => TH E (T0 E) G [] t.heap) (fun q : Nat => G q ≠ 0)) 0 0 (fun q : Nat => G q ≠ 0) := by
  refine Met.ofW (cc := cX7_clear) (maxL := 1) (ret := none) (by decide) rfl ?_
  intro p e s m args below meth c s₁ B hml hv
  obtain ⟨rfl, hT, hK⟩ := hv
  have hx := B.exec
  have hb := B.bytes
  have hr := B.returns
  have hts : ∀ w ∈ TS, w.before ([.ref h0] : List Value).toArray s = true := fun w hw => hK.2.1 w hw _
  have hown : s.vm.findClass RX7 = some m.cls := findClass_of_methodNamed B.named
  have hlocks := B.notSynchronized
  have hS : va_S (fun q : Nat => G q ≠ 0) s.heap s.heap [] := va_S.rf
  have hAz : ∀ q, (fun q : Nat => G q ≠ 0) q → z0 ≤ q := hGz
  have hl := lv_entry ([.ref h0]) (n := 1) (Nat.le_of_ble_eq_true rfl)
  rw [lg_entry_eq]
  generalize (lg_sl ([.ref h0]) ++ List.replicate (1 - (lg_sl ([.ref h0])).length) Slot.unset).toArray = ls at hl ⊢
  have hl : lv_has ls 1 [(0, .ref h0)] := hl
  refine lv_aload_n hx hb dX7_clear_0 rfl (lv_at hl 0 rfl) ?_
  obtain ⟨pe_1, nd_1, fa_1, to_1, mt_1, mr_1, rq_1, ha_1, hg_1_0, hg_1_1, hg_1_2⟩ := tg_9 hT hG nx_0
  refine va_get (D := DG E) (ci := 7) (v := .ref rq_1) (C := RX7) (T := TX7) (N := 14) hx hb hts iw_X7 hown hK.1 (va_one ha_1) 0 rfl rfl 6 (by decide) (hts _ fl_X7_41) (fun _ h9 => h9) rfl dX7_clear_1 ?_
  obtain ⟨pr_2, nd_2, rw_2, ha_2, hg_2_0, hg_2_1⟩ := tg_11 hT hg_1_2 nx_0
  refine va_callv (rnV (fun H => TH E (T0 E) G [] H) (As := []) (rest := []) ⟨hx, hb, hml, hown, hts⟩ (c_X5_clear l E z0 G hGz rq_1  hg_1_2) (cwV 0 hts (gdV ml_X7_45 im_X5_clear se_X5_X5_clear in_X5 co_X5_clear rfl) rfl rfl rfl (by decide +kernel) ⟨Nat.le_of_ble_eq_true rfl, Nat.le_of_ble_eq_true rfl⟩) hT (fun U hU hW => hK.go hW hS hAz hU) (va_recv hK.1 (va_one ha_2) (ci := 5) (q0 := 0) rfl rfl) rfl rfl hl.1 rfl (lv_room (Nat.le_of_ble_eq_true rfl)) dX7_clear_4 ⟨Nat.le_of_ble_eq_true rfl, Nat.le_of_ble_eq_true rfl⟩) hS (fun q _ h => h) (fun q h => h) (fun _ t H locs ht hvm hw hB hz hk hS => ?_)
  have hT : TH E (T0 E) G [] H := by rw [ht] at hB; exact hB
  refine lv_aload_n hx hb dX7_clear_7 rfl (lv_at hl 0 rfl) ?_
  refine lv_iconst (v := 0) hx hb dX7_clear_8 (by decide) ?_
  obtain ⟨pe_4, nd_4, fa_4, to_4, mt_4, mr_4, rq_4, ha_4, hg_4_0, hg_4_1, hg_4_2⟩ := tg_9 hT hG nx_0
  refine va_callv (rnV (fun H => TH E (T0 E) G [] H) (As := [.int 0]) (rest := []) ⟨hx, hb, hml, hown, hts⟩ (c_X7_start0 l E z0 G hGz h0  hG) (cwV 1 hts (gdV ml_X7_48 im_X7_start se_X7_X7_start in_X7 co_X7_start rfl) rfl rfl rfl (by decide +kernel) ⟨Nat.le_of_ble_eq_true rfl, Nat.le_of_ble_eq_true rfl⟩) hT (fun U hU hW => hK.go hW hS hAz hU) (va_recv hK.1 (va_one ha_4) (ci := 7) (q0 := 0) rfl rfl) rfl rfl hl.1 rfl (lv_room (Nat.le_of_ble_eq_true rfl)) dX7_clear_9 ⟨Nat.le_of_ble_eq_true rfl, Nat.le_of_ble_eq_true rfl⟩) hS (fun q _ h => h) (fun q h => h) (fun _ t H locs ht hvm hw hB hz hk hS => ?_)
  have hT : TH E (T0 E) G [] H := by rw [ht] at hB; exact hB
  refine lv_aload_n hx hb dX7_clear_12 rfl (lv_at hl 0 rfl) ?_
  refine lv_iconst (v := 0) hx hb dX7_clear_13 (by decide) ?_
  obtain ⟨pe_6, nd_6, fa_6, to_6, mt_6, mr_6, rq_6, ha_6, hg_6_0, hg_6_1, hg_6_2⟩ := tg_9 hT hG nx_0
  refine rr_put (D := DG E) (ci := 7) (v := .int 0) (ty := .int) (C := RX7) (T := TX7) (N := 14) hx hb hts iw_X7 tyX7 tyX7_ok nmX7 hown hK.1 ha_6 hS (by show G h0 ≠ 0; rw [hG]; decide) rfl 10 (by decide) (hts _ fl_X7_52) (fun _ h9 => h9) rfl (by decide +kernel) rfl rfl (Nat.le_of_ble_eq_true rfl) dX7_clear_14 (fun H locs hn ho hz hS => ?_)
  have hr_7 : va_at (DG E) vwCl (h0, .inr (7, [.int pe_6, .ref nd_6, .ref fa_6, .int to_6, .int mt_6, .int mr_6, .ref rq_6, .int 0, .int 0, .int 0, .int 0, .int 0, .int 0, .int 0])) H := hn
  have hT : TH E (T0 E) G [] H := hT.set hG (show T0 E G 9 _ from ⟨pe_6, nd_6, fa_6, to_6, mt_6, mr_6, rq_6, rfl, hg_6_0, hg_6_1, hg_6_2⟩) hr_7 ho
  refine lv_aload_n hx hb dX7_clear_17 rfl (lv_at hl 0 rfl) ?_
  refine lv_iconst (v := 0) hx hb dX7_clear_18 (by decide) ?_
  obtain ⟨pe_8, nd_8, fa_8, to_8, mt_8, mr_8, rq_8, ha_8, hg_8_0, hg_8_1, hg_8_2⟩ := tg_9 hT hG nx_0
  refine rr_put (D := DG E) (ci := 7) (v := .int 0) (ty := .int) (C := RX7) (T := TX7) (N := 14) hx hb hts iw_X7 tyX7 tyX7_ok nmX7 hown hK.1 ha_8 hS (by show G h0 ≠ 0; rw [hG]; decide) rfl 11 (by decide) (hts _ fl_X7_55) (fun _ h9 => h9) rfl (by decide +kernel) rfl rfl (Nat.le_of_ble_eq_true rfl) dX7_clear_19 (fun H locs hn ho hz hS => ?_)
  have hr_9 : va_at (DG E) vwCl (h0, .inr (7, [.int pe_8, .ref nd_8, .ref fa_8, .int to_8, .int mt_8, .int mr_8, .ref rq_8, .int 0, .int 0, .int 0, .int 0, .int 0, .int 0, .int 0])) H := hn
  have hT : TH E (T0 E) G [] H := hT.set hG (show T0 E G 9 _ from ⟨pe_8, nd_8, fa_8, to_8, mt_8, mr_8, rq_8, rfl, hg_8_0, hg_8_1, hg_8_2⟩) hr_9 ho
  refine lv_aload_n hx hb dX7_clear_22 rfl (lv_at hl 0 rfl) ?_
  refine lv_iconst (v := 0) hx hb dX7_clear_23 (by decide) ?_
  obtain ⟨pe_10, nd_10, fa_10, to_10, mt_10, mr_10, rq_10, ha_10, hg_10_0, hg_10_1, hg_10_2⟩ := tg_9 hT hG nx_0
  refine rr_put (D := DG E) (ci := 7) (v := .int 0) (ty := .int) (C := RX7) (T := TX7) (N := 14) hx hb hts iw_X7 tyX7 tyX7_ok nmX7 hown hK.1 ha_10 hS (by show G h0 ≠ 0; rw [hG]; decide) rfl 12 (by decide) (hts _ fl_X7_58) (fun _ h9 => h9) rfl (by decide +kernel) rfl rfl (Nat.le_of_ble_eq_true rfl) dX7_clear_24 (fun H locs hn ho hz hS => ?_)
  have hr_11 : va_at (DG E) vwCl (h0, .inr (7, [.int pe_10, .ref nd_10, .ref fa_10, .int to_10, .int mt_10, .int mr_10, .ref rq_10, .int 0, .int 0, .int 0, .int 0, .int 0, .int 0, .int 0])) H := hn
  have hT : TH E (T0 E) G [] H := hT.set hG (show T0 E G 9 _ from ⟨pe_10, nd_10, fa_10, to_10, mt_10, mr_10, rq_10, rfl, hg_10_0, hg_10_1, hg_10_2⟩) hr_11 ho
  refine lv_aload_n hx hb dX7_clear_27 rfl (lv_at hl 0 rfl) ?_
  refine lv_iconst (v := 0) hx hb dX7_clear_28 (by decide) ?_
  obtain ⟨pe_12, nd_12, fa_12, to_12, mt_12, mr_12, rq_12, ha_12, hg_12_0, hg_12_1, hg_12_2⟩ := tg_9 hT hG nx_0
  refine rr_put (D := DG E) (ci := 7) (v := .int 0) (ty := .boolean) (C := RX7) (T := TX7) (N := 14) hx hb hts iw_X7 tyX7 tyX7_ok nmX7 hown hK.1 ha_12 hS (by show G h0 ≠ 0; rw [hG]; decide) rfl 13 (by decide) (hts _ fl_X7_61) (fun _ h9 => h9) rfl (by decide +kernel) rfl rfl (Nat.le_of_ble_eq_true rfl) dX7_clear_29 (fun H locs hn ho hz hS => ?_)
  have hr_13 : va_at (DG E) vwCl (h0, .inr (7, [.int pe_12, .ref nd_12, .ref fa_12, .int to_12, .int mt_12, .int mr_12, .ref rq_12, .int 0, .int 0, .int 0, .int 0, .int 0, .int 0, .int 0])) H := hn
  have hT : TH E (T0 E) G [] H := hT.set hG (show T0 E G 9 _ from ⟨pe_12, nd_12, fa_12, to_12, mt_12, mr_12, rq_12, rfl, hg_12_0, hg_12_1, hg_12_2⟩) hr_13 ho
  exact W.vret hx hb hr (fun t ht hW => ⟨⟨(), rfl, trivial, (by show TH E (T0 E) G [] t.heap; rw [ht]; exact hT)⟩, hS.F ht⟩) hS.2.2 dX7_clear_32
theorem dX8_forgetAdds_0 : decode cX8_forgetAdds 0 = .ok (.iconst 0, 1) := by decide +kernel
theorem dX8_forgetAdds_1 : decode cX8_forgetAdds 1 = .ok (.istore_n 1, 1) := by decide +kernel
theorem dX8_forgetAdds_2 : decode cX8_forgetAdds 2 = .ok (.iload_n 1, 1) := by decide +kernel
theorem dX8_forgetAdds_3 : decode cX8_forgetAdds 3 = .ok (.iconst 2, 1) := by decide +kernel
theorem dX8_forgetAdds_4 : decode cX8_forgetAdds 4 = .ok (.if_icmp .ge 23, 3) := by decide +kernel
theorem dX8_forgetAdds_7 : decode cX8_forgetAdds 7 = .ok (.aload_n 0, 1) := by decide +kernel
theorem dX8_forgetAdds_8 : decode cX8_forgetAdds 8 = .ok (.getfield 9, 3) := by decide +kernel
theorem dX8_forgetAdds_11 : decode cX8_forgetAdds 11 = .ok (.iload_n 1, 1) := by decide +kernel
theorem dX8_forgetAdds_12 : decode cX8_forgetAdds 12 = .ok (.iconst (-1), 1) := by decide +kernel
theorem dX8_forgetAdds_13 : decode cX8_forgetAdds 13 = .ok (.iastore, 1) := by decide +kernel
theorem dX8_forgetAdds_14 : decode cX8_forgetAdds 14 = .ok (.aload_n 0, 1) := by decide +kernel
theorem dX8_forgetAdds_15 : decode cX8_forgetAdds 15 = .ok (.getfield 15, 3) := by decide +kernel
theorem dX8_forgetAdds_18 : decode cX8_forgetAdds 18 = .ok (.iload_n 1, 1) := by decide +kernel
theorem dX8_forgetAdds_19 : decode cX8_forgetAdds 19 = .ok (.iconst 0, 1) := by decide +kernel
theorem dX8_forgetAdds_20 : decode cX8_forgetAdds 20 = .ok (.iastore, 1) := by decide +kernel
theorem dX8_forgetAdds_21 : decode cX8_forgetAdds 21 = .ok (.iinc 1 1, 3) := by decide +kernel
theorem dX8_forgetAdds_24 : decode cX8_forgetAdds 24 = .ok (.goto (-22), 3) := by decide +kernel
theorem dX8_forgetAdds_27 : decode cX8_forgetAdds 27 = .ok (.return_, 1) := by decide +kernel
set_option maxHeartbeats 4000000 in
set_option maxRecDepth 100000 in
theorem c_X8_forgetAdds (l : Launch) (E : EE) (z0 : Nat) (G : Nat → Nat) (hGz : ∀ q, G q ≠ 0 → z0 ≤ q) (h0 : Nat) (hG : G h0 = 10) : Met l yX8_forgetAdds [Cond.code yX8_forgetAdds cX8_forgetAdds 2 none] ({ frames := 0, cells := 0, slots := 0, locals := 0 } : Room) (va_Pc [.ref h0] (fun U => TH E (T0 E) G [] U.heap ∧ KS E z0 U)) (va_Qv (fun (_ : Unit) => True) (fun _ t => TH E (T0 E) G [] t.heap) (fun q : Nat => G q ≠ 0)) 0 0 (fun q : Nat => G q ≠ 0) := by
  refine Met.ofW (cc := cX8_forgetAdds) (maxL := 2) (ret := none) (by decide) rfl ?_
  intro p e s m args below meth c s₁ B hml hv
  obtain ⟨rfl, hT, hK⟩ := hv
  have hx := B.exec
  have hb := B.bytes
  have hr := B.returns
  have hts : ∀ w ∈ TS, w.before ([.ref h0] : List Value).toArray s = true := fun w hw => hK.2.1 w hw _
  have hown : s.vm.findClass RX8 = some m.cls := findClass_of_methodNamed B.named
  have hlocks := B.notSynchronized
  have hS : va_S (fun q : Nat => G q ≠ 0) s.heap s.heap [] := va_S.rf
  have hAz : ∀ q, (fun q : Nat => G q ≠ 0) q → z0 ≤ q := hGz
  have hl := lv_entry ([.ref h0]) (n := 2) (Nat.le_of_ble_eq_true rfl)
  rw [lg_entry_eq]
  generalize (lg_sl ([.ref h0]) ++ List.replicate (2 - (lg_sl ([.ref h0])).length) Slot.unset).toArray = ls at hl ⊢
  have hl : lv_has ls 2 [(0, .ref h0)] := hl
  refine lv_iconst (v := 0) hx hb dX8_forgetAdds_0 (by decide) ?_
  refine lv_istore_n (lv' := [(1, .int 0), (0, .ref h0)]) hx hb dX8_forgetAdds_1 rfl hl (by decide) rfl (fun ls hl => ?_)
  refine lv_iload_n hx hb dX8_forgetAdds_2 rfl (lv_at hl 0 rfl) ?_
  refine lv_iconst (v := 2) hx hb dX8_forgetAdds_3 (by decide) ?_
  refine lv_icmp_ge (tgt := 27) hx hb dX8_forgetAdds_4 (by decide) (fun c_1 => absurd c_1 (by decide)) (fun c_1 => ?_)
  refine lv_aload_n hx hb dX8_forgetAdds_7 rfl (lv_at hl 1 rfl) ?_
  obtain ⟨pe_2, nd_2, fa_2, rc_2, an_2, ar_2, ha_2, hg_2_0, hg_2_1, hg_2_2, hg_2_3, hg_2_4⟩ := tg_10 hT hG nx_0
  refine va_get (D := DG E) (ci := 8) (v := .ref an_2) (C := RX8) (T := TX8) (N := 9) hx hb hts iw_X8 hown hK.1 (va_one ha_2) 0 rfl rfl 7 (by decide) (hts _ fl_X8_9) (fun _ h9 => h9) rfl dX8_forgetAdds_8 ?_
  refine lv_iload_n hx hb dX8_forgetAdds_11 rfl (lv_at hl 0 rfl) ?_
  refine lv_iconst (v := (-1)) hx hb dX8_forgetAdds_12 (by decide) ?_
  obtain ⟨f_3, ha_3⟩ := tg_16 hT hg_2_3 nx_0
  refine rr_iast (D := DG E) hx hb hK.1 0 ha_3 hS (by show G an_2 ≠ 0; rw [hg_2_3]; decide) rfl (show vp_in (0) 2 from vp_in_iff.mpr ⟨by decide, by decide⟩) dX8_forgetAdds_13 (fun H locs hn ho hz hS => ?_)
  have hr_4 : va_at (DG E) vwCl (an_2, .inl (E.2.2 0, 2, .inl (upd f_3 (0 : Int32).toNatClampNeg (-1)))) H := hn
  have hT : TH E (T0 E) G [] H := hT.set hg_2_3 (show T0 E G 16 _ from ⟨_, rfl⟩) hr_4 ho
  refine lv_aload_n hx hb dX8_forgetAdds_14 rfl (lv_at hl 1 rfl) ?_
  obtain ⟨pe_5, nd_5, fa_5, rc_5, an_5, ar_5, ha_5, hg_5_0, hg_5_1, hg_5_2, hg_5_3, hg_5_4⟩ := tg_10 hT hG nx_0
  refine va_get (D := DG E) (ci := 8) (v := .ref ar_5) (C := RX8) (T := TX8) (N := 9) hx hb hts iw_X8 hown hK.1 (va_one ha_5) 0 rfl rfl 8 (by decide) (hts _ fl_X8_15) (fun _ h9 => h9) rfl dX8_forgetAdds_15 ?_
  refine lv_iload_n hx hb dX8_forgetAdds_18 rfl (lv_at hl 0 rfl) ?_
  refine lv_iconst (v := 0) hx hb dX8_forgetAdds_19 (by decide) ?_
  obtain ⟨f_6, ha_6⟩ := tg_17 hT hg_5_4 nx_0
  refine rr_iast (D := DG E) hx hb hK.1 0 ha_6 hS (by show G ar_5 ≠ 0; rw [hg_5_4]; decide) rfl (show vp_in (0) 2 from vp_in_iff.mpr ⟨by decide, by decide⟩) dX8_forgetAdds_20 (fun H locs hn ho hz hS => ?_)
  have hr_7 : va_at (DG E) vwCl (ar_5, .inl (E.2.2 0, 2, .inl (upd f_6 (0 : Int32).toNatClampNeg 0))) H := hn
  have hT : TH E (T0 E) G [] H := hT.set hg_5_4 (show T0 E G 17 _ from ⟨_, rfl⟩) hr_7 ho
  refine lv_iinc (v := 1) (lv' := [(1, .int 1), (0, .ref h0)]) hx hb dX8_forgetAdds_21 hl (k := 0) rfl (by decide) (by decide) rfl (fun ls hl => ?_)
  refine lv_goto (tgt := 2) hx hb dX8_forgetAdds_24 (by decide) ?_
  refine lv_iload_n hx hb dX8_forgetAdds_2 rfl (lv_at hl 0 rfl) ?_
  refine lv_iconst (v := 2) hx hb dX8_forgetAdds_3 (by decide) ?_
  refine lv_icmp_ge (tgt := 27) hx hb dX8_forgetAdds_4 (by decide) (fun c_8 => absurd c_8 (by decide)) (fun c_8 => ?_)
  refine lv_aload_n hx hb dX8_forgetAdds_7 rfl (lv_at hl 1 rfl) ?_
  obtain ⟨pe_9, nd_9, fa_9, rc_9, an_9, ar_9, ha_9, hg_9_0, hg_9_1, hg_9_2, hg_9_3, hg_9_4⟩ := tg_10 hT hG nx_0
  refine va_get (D := DG E) (ci := 8) (v := .ref an_9) (C := RX8) (T := TX8) (N := 9) hx hb hts iw_X8 hown hK.1 (va_one ha_9) 0 rfl rfl 7 (by decide) (hts _ fl_X8_9) (fun _ h9 => h9) rfl dX8_forgetAdds_8 ?_
  refine lv_iload_n hx hb dX8_forgetAdds_11 rfl (lv_at hl 0 rfl) ?_
  refine lv_iconst (v := (-1)) hx hb dX8_forgetAdds_12 (by decide) ?_
  obtain ⟨f_10, ha_10⟩ := tg_16 hT hg_9_3 nx_0
  refine rr_iast (D := DG E) hx hb hK.1 0 ha_10 hS (by show G an_9 ≠ 0; rw [hg_9_3]; decide) rfl (show vp_in (1) 2 from vp_in_iff.mpr ⟨by decide, by decide⟩) dX8_forgetAdds_13 (fun H locs hn ho hz hS => ?_)
  have hr_11 : va_at (DG E) vwCl (an_9, .inl (E.2.2 0, 2, .inl (upd f_10 (1 : Int32).toNatClampNeg (-1)))) H := hn
  have hT : TH E (T0 E) G [] H := hT.set hg_9_3 (show T0 E G 16 _ from ⟨_, rfl⟩) hr_11 ho
  refine lv_aload_n hx hb dX8_forgetAdds_14 rfl (lv_at hl 1 rfl) ?_
  obtain ⟨pe_12, nd_12, fa_12, rc_12, an_12, ar_12, ha_12, hg_12_0, hg_12_1, hg_12_2, hg_12_3, hg_12_4⟩ := tg_10 hT hG nx_0
  refine va_get (D := DG E) (ci := 8) (v := .ref ar_12) (C := RX8) (T := TX8) (N := 9) hx hb hts iw_X8 hown hK.1 (va_one ha_12) 0 rfl rfl 8 (by decide) (hts _ fl_X8_15) (fun _ h9 => h9) rfl dX8_forgetAdds_15 ?_
  refine lv_iload_n hx hb dX8_forgetAdds_18 rfl (lv_at hl 0 rfl) ?_
  refine lv_iconst (v := 0) hx hb dX8_forgetAdds_19 (by decide) ?_
  obtain ⟨f_13, ha_13⟩ := tg_17 hT hg_12_4 nx_0
  refine rr_iast (D := DG E) hx hb hK.1 0 ha_13 hS (by show G ar_12 ≠ 0; rw [hg_12_4]; decide) rfl (show vp_in (1) 2 from vp_in_iff.mpr ⟨by decide, by decide⟩) dX8_forgetAdds_20 (fun H locs hn ho hz hS => ?_)
  have hr_14 : va_at (DG E) vwCl (ar_12, .inl (E.2.2 0, 2, .inl (upd f_13 (1 : Int32).toNatClampNeg 0))) H := hn
  have hT : TH E (T0 E) G [] H := hT.set hg_12_4 (show T0 E G 17 _ from ⟨_, rfl⟩) hr_14 ho
  refine lv_iinc (v := 2) (lv' := [(1, .int 2), (0, .ref h0)]) hx hb dX8_forgetAdds_21 hl (k := 0) rfl (by decide) (by decide) rfl (fun ls hl => ?_)
  refine lv_goto (tgt := 2) hx hb dX8_forgetAdds_24 (by decide) ?_
  refine lv_iload_n hx hb dX8_forgetAdds_2 rfl (lv_at hl 0 rfl) ?_
  refine lv_iconst (v := 2) hx hb dX8_forgetAdds_3 (by decide) ?_
  refine lv_icmp_ge (tgt := 27) hx hb dX8_forgetAdds_4 (by decide) (fun c_15 => ?_) (fun c_15 => absurd c_15 (by decide))
  exact W.vret hx hb hr (fun t ht hW => ⟨⟨(), rfl, trivial, (by show TH E (T0 E) G [] t.heap; rw [ht]; exact hT)⟩, hS.F ht⟩) hS.2.2 dX8_forgetAdds_27
theorem dX8_clear_0 : decode cX8_clear 0 = .ok (.aload_n 0, 1) := by decide +kernel
theorem dX8_clear_1 : decode cX8_clear 1 = .ok (.getfield 39, 3) := by decide +kernel
theorem dX8_clear_4 : decode cX8_clear 4 = .ok (.invokevirtual 46, 3) := by decide +kernel
theorem dX8_clear_7 : decode cX8_clear 7 = .ok (.aload_n 0, 1) := by decide +kernel
theorem dX8_clear_8 : decode cX8_clear 8 = .ok (.iconst 0, 1) := by decide +kernel
theorem dX8_clear_9 : decode cX8_clear 9 = .ok (.putfield 49, 3) := by decide +kernel
theorem dX8_clear_12 : decode cX8_clear 12 = .ok (.aload_n 0, 1) := by decide +kernel
theorem dX8_clear_13 : decode cX8_clear 13 = .ok (.iconst 0, 1) := by decide +kernel
theorem dX8_clear_14 : decode cX8_clear 14 = .ok (.putfield 52, 3) := by decide +kernel
theorem dX8_clear_17 : decode cX8_clear 17 = .ok (.aload_n 0, 1) := by decide +kernel
theorem dX8_clear_18 : decode cX8_clear 18 = .ok (.iconst 0, 1) := by decide +kernel
theorem dX8_clear_19 : decode cX8_clear 19 = .ok (.putfield 56, 3) := by decide +kernel
theorem dX8_clear_22 : decode cX8_clear 22 = .ok (.aload_n 0, 1) := by decide +kernel
theorem dX8_clear_23 : decode cX8_clear 23 = .ok (.invokevirtual 43, 3) := by decide +kernel
theorem dX8_clear_26 : decode cX8_clear 26 = .ok (.return_, 1) := by decide +kernel
set_option maxHeartbeats 4000000 in
set_option maxRecDepth 100000 in
theorem c_X8_clear (l : Launch) (E : EE) (z0 : Nat) (G : Nat → Nat) (hGz : ∀ q, G q ≠ 0 → z0 ≤ q) (h0 : Nat) (hG : G h0 = 10) : Met l yX8_clear [Cond.code yX8_clear cX8_clear 1 none] ({ frames := 1, cells := 0, slots := 0, locals := 21 } : Room) (va_Pc [.ref h0] (fun U => TH E (T0 E) G [] U.heap ∧ KS E z0 U)) (va_Qv (fun (_ : Unit) => True) (fun _ t => TH E (T0 E) G [] t.heap) (fun q : Nat => G q ≠ 0)) 0 0 (fun q : Nat => G q ≠ 0) := by
  refine Met.ofW (cc := cX8_clear) (maxL := 1) (ret := none) (by decide) rfl ?_
  intro p e s m args below meth c s₁ B hml hv
  obtain ⟨rfl, hT, hK⟩ := hv
  have hx := B.exec
  have hb := B.bytes
  have hr := B.returns
  have hts : ∀ w ∈ TS, w.before ([.ref h0] : List Value).toArray s = true := fun w hw => hK.2.1 w hw _
  have hown : s.vm.findClass RX8 = some m.cls := findClass_of_methodNamed B.named
  have hlocks := B.notSynchronized
  have hS : va_S (fun q : Nat => G q ≠ 0) s.heap s.heap [] := va_S.rf
  have hAz : ∀ q, (fun q : Nat => G q ≠ 0) q → z0 ≤ q := hGz
  have hl := lv_entry ([.ref h0]) (n := 1) (Nat.le_of_ble_eq_true rfl)
  rw [lg_entry_eq]
  generalize (lg_sl ([.ref h0]) ++ List.replicate (1 - (lg_sl ([.ref h0])).length) Slot.unset).toArray = ls at hl ⊢
  have hl : lv_has ls 1 [(0, .ref h0)] := hl
  refine lv_aload_n hx hb dX8_clear_0 rfl (lv_at hl 0 rfl) ?_
  obtain ⟨pe_1, nd_1, fa_1, rc_1, an_1, ar_1, ha_1, hg_1_0, hg_1_1, hg_1_2, hg_1_3, hg_1_4⟩ := tg_10 hT hG nx_0
  refine va_get (D := DG E) (ci := 8) (v := .ref rc_1) (C := RX8) (T := TX8) (N := 9) hx hb hts iw_X8 hown hK.1 (va_one ha_1) 0 rfl rfl 3 (by decide) (hts _ fl_X8_39) (fun _ h9 => h9) rfl dX8_clear_1 ?_
  obtain ⟨pr_2, nd_2, rw_2, ha_2, hg_2_0, hg_2_1⟩ := tg_11 hT hg_1_2 nx_0
  refine va_callv (rnV (fun H => TH E (T0 E) G [] H) (As := []) (rest := []) ⟨hx, hb, hml, hown, hts⟩ (c_X5_clear l E z0 G hGz rc_1  hg_1_2) (cwV 0 hts (gdV ml_X8_46 im_X5_clear se_X5_X5_clear in_X5 co_X5_clear rfl) rfl rfl rfl (by decide +kernel) ⟨Nat.le_of_ble_eq_true rfl, Nat.le_of_ble_eq_true rfl⟩) hT (fun U hU hW => hK.go hW hS hAz hU) (va_recv hK.1 (va_one ha_2) (ci := 5) (q0 := 0) rfl rfl) rfl rfl hl.1 rfl (lv_room (Nat.le_of_ble_eq_true rfl)) dX8_clear_4 ⟨Nat.le_of_ble_eq_true rfl, Nat.le_of_ble_eq_true rfl⟩) hS (fun q _ h => h) (fun q h => h) (fun _ t H locs ht hvm hw hB hz hk hS => ?_)
  have hT : TH E (T0 E) G [] H := by rw [ht] at hB; exact hB
  refine lv_aload_n hx hb dX8_clear_7 rfl (lv_at hl 0 rfl) ?_
  refine lv_iconst (v := 0) hx hb dX8_clear_8 (by decide) ?_
  obtain ⟨pe_4, nd_4, fa_4, rc_4, an_4, ar_4, ha_4, hg_4_0, hg_4_1, hg_4_2, hg_4_3, hg_4_4⟩ := tg_10 hT hG nx_0
  refine rr_put (D := DG E) (ci := 8) (v := .int 0) (ty := .int) (C := RX8) (T := TX8) (N := 9) hx hb hts iw_X8 tyX8 tyX8_ok nmX8 hown hK.1 ha_4 hS (by show G h0 ≠ 0; rw [hG]; decide) rfl 4 (by decide) (hts _ fl_X8_49) (fun _ h9 => h9) rfl (by decide +kernel) rfl rfl (Nat.le_of_ble_eq_true rfl) dX8_clear_9 (fun H locs hn ho hz hS => ?_)
  have hr_5 : va_at (DG E) vwCl (h0, .inr (8, [.int pe_4, .ref nd_4, .ref fa_4, .ref rc_4, .int 0, .int 0, .int 0, .ref an_4, .ref ar_4])) H := hn
  have hT : TH E (T0 E) G [] H := hT.set hG (show T0 E G 10 _ from ⟨pe_4, nd_4, fa_4, rc_4, an_4, ar_4, rfl, hg_4_0, hg_4_1, hg_4_2, hg_4_3, hg_4_4⟩) hr_5 ho
  refine lv_aload_n hx hb dX8_clear_12 rfl (lv_at hl 0 rfl) ?_
  refine lv_iconst (v := 0) hx hb dX8_clear_13 (by decide) ?_
  obtain ⟨pe_6, nd_6, fa_6, rc_6, an_6, ar_6, ha_6, hg_6_0, hg_6_1, hg_6_2, hg_6_3, hg_6_4⟩ := tg_10 hT hG nx_0
  refine rr_put (D := DG E) (ci := 8) (v := .int 0) (ty := .boolean) (C := RX8) (T := TX8) (N := 9) hx hb hts iw_X8 tyX8 tyX8_ok nmX8 hown hK.1 ha_6 hS (by show G h0 ≠ 0; rw [hG]; decide) rfl 5 (by decide) (hts _ fl_X8_52) (fun _ h9 => h9) rfl (by decide +kernel) rfl rfl (Nat.le_of_ble_eq_true rfl) dX8_clear_14 (fun H locs hn ho hz hS => ?_)
  have hr_7 : va_at (DG E) vwCl (h0, .inr (8, [.int pe_6, .ref nd_6, .ref fa_6, .ref rc_6, .int 0, .int 0, .int 0, .ref an_6, .ref ar_6])) H := hn
  have hT : TH E (T0 E) G [] H := hT.set hG (show T0 E G 10 _ from ⟨pe_6, nd_6, fa_6, rc_6, an_6, ar_6, rfl, hg_6_0, hg_6_1, hg_6_2, hg_6_3, hg_6_4⟩) hr_7 ho
  refine lv_aload_n hx hb dX8_clear_17 rfl (lv_at hl 0 rfl) ?_
  refine lv_iconst (v := 0) hx hb dX8_clear_18 (by decide) ?_
  obtain ⟨pe_8, nd_8, fa_8, rc_8, an_8, ar_8, ha_8, hg_8_0, hg_8_1, hg_8_2, hg_8_3, hg_8_4⟩ := tg_10 hT hG nx_0
  refine rr_put (D := DG E) (ci := 8) (v := .int 0) (ty := .boolean) (C := RX8) (T := TX8) (N := 9) hx hb hts iw_X8 tyX8 tyX8_ok nmX8 hown hK.1 ha_8 hS (by show G h0 ≠ 0; rw [hG]; decide) rfl 6 (by decide) (hts _ fl_X8_56) (fun _ h9 => h9) rfl (by decide +kernel) rfl rfl (Nat.le_of_ble_eq_true rfl) dX8_clear_19 (fun H locs hn ho hz hS => ?_)
  have hr_9 : va_at (DG E) vwCl (h0, .inr (8, [.int pe_8, .ref nd_8, .ref fa_8, .ref rc_8, .int 0, .int 0, .int 0, .ref an_8, .ref ar_8])) H := hn
  have hT : TH E (T0 E) G [] H := hT.set hG (show T0 E G 10 _ from ⟨pe_8, nd_8, fa_8, rc_8, an_8, ar_8, rfl, hg_8_0, hg_8_1, hg_8_2, hg_8_3, hg_8_4⟩) hr_9 ho
  refine lv_aload_n hx hb dX8_clear_22 rfl (lv_at hl 0 rfl) ?_
  obtain ⟨pe_10, nd_10, fa_10, rc_10, an_10, ar_10, ha_10, hg_10_0, hg_10_1, hg_10_2, hg_10_3, hg_10_4⟩ := tg_10 hT hG nx_0
  refine va_callv (rnV (fun H => TH E (T0 E) G [] H) (As := []) (rest := []) ⟨hx, hb, hml, hown, hts⟩ (c_X8_forgetAdds l E z0 G hGz h0  hG) (cwV 0 hts (gdV ml_X8_43 im_X8_forgetAdds se_X8_X8_forgetAdds in_X8 co_X8_forgetAdds rfl) rfl rfl rfl (by decide +kernel) ⟨Nat.le_of_ble_eq_true rfl, Nat.le_of_ble_eq_true rfl⟩) hT (fun U hU hW => hK.go hW hS hAz hU) (va_recv hK.1 (va_one ha_10) (ci := 8) (q0 := 0) rfl rfl) rfl rfl hl.1 rfl (lv_room (Nat.le_of_ble_eq_true rfl)) dX8_clear_23 ⟨Nat.le_of_ble_eq_true rfl, Nat.le_of_ble_eq_true rfl⟩) hS (fun q _ h => h) (fun q h => h) (fun _ t H locs ht hvm hw hB hz hk hS => ?_)
  have hT : TH E (T0 E) G [] H := by rw [ht] at hB; exact hB
  exact W.vret hx hb hr (fun t ht hW => ⟨⟨(), rfl, trivial, (by show TH E (T0 E) G [] t.heap; rw [ht]; exact hT)⟩, hS.F ht⟩) hS.2.2 dX8_clear_26
theorem dX3_clear_0 : decode cX3_clear 0 = .ok (.aload_n 0, 1) := by decide +kernel
theorem dX3_clear_1 : decode cX3_clear 1 = .ok (.iconst 0, 1) := by decide +kernel
theorem dX3_clear_2 : decode cX3_clear 2 = .ok (.putfield 19, 3) := by decide +kernel
theorem dX3_clear_5 : decode cX3_clear 5 = .ok (.aload_n 0, 1) := by decide +kernel
theorem dX3_clear_6 : decode cX3_clear 6 = .ok (.getfield 9, 3) := by decide +kernel
theorem dX3_clear_9 : decode cX3_clear 9 = .ok (.invokevirtual 23, 3) := by decide +kernel
theorem dX3_clear_12 : decode cX3_clear 12 = .ok (.aload_n 0, 1) := by decide +kernel
theorem dX3_clear_13 : decode cX3_clear 13 = .ok (.getfield 15, 3) := by decide +kernel
theorem dX3_clear_16 : decode cX3_clear 16 = .ok (.invokevirtual 28, 3) := by decide +kernel
theorem dX3_clear_19 : decode cX3_clear 19 = .ok (.return_, 1) := by decide +kernel
set_option maxHeartbeats 4000000 in
set_option maxRecDepth 100000 in
theorem c_X3_clear (l : Launch) (E : EE) (z0 : Nat) (G : Nat → Nat) (hGz : ∀ q, G q ≠ 0 → z0 ≤ q) (h0 : Nat) (hG : G h0 = 8) : Met l yX3_clear [Cond.code yX3_clear cX3_clear 1 none] ({ frames := 2, cells := 0, slots := 0, locals := 41 } : Room) (va_Pc [.ref h0] (fun U => TH E (T0 E) G [] U.heap ∧ KS E z0 U)) (va_Qv (fun (_ : Unit) => True) (fun _ t => TH E (T0 E) G [] t.heap) (fun q : Nat => G q ≠ 0)) 0 0 (fun q : Nat => G q ≠ 0) := by
  refine Met.ofW (cc := cX3_clear) (maxL := 1) (ret := none) (by decide) rfl ?_
  intro p e s m args below meth c s₁ B hml hv
  obtain ⟨rfl, hT, hK⟩ := hv
  have hx := B.exec
  have hb := B.bytes
  have hr := B.returns
  have hts : ∀ w ∈ TS, w.before ([.ref h0] : List Value).toArray s = true := fun w hw => hK.2.1 w hw _
  have hown : s.vm.findClass RX3 = some m.cls := findClass_of_methodNamed B.named
  have hlocks := B.notSynchronized
  have hS : va_S (fun q : Nat => G q ≠ 0) s.heap s.heap [] := va_S.rf
  have hAz : ∀ q, (fun q : Nat => G q ≠ 0) q → z0 ≤ q := hGz
  have hl := lv_entry ([.ref h0]) (n := 1) (Nat.le_of_ble_eq_true rfl)
  rw [lg_entry_eq]
  generalize (lg_sl ([.ref h0]) ++ List.replicate (1 - (lg_sl ([.ref h0])).length) Slot.unset).toArray = ls at hl ⊢
  have hl : lv_has ls 1 [(0, .ref h0)] := hl
  refine lv_aload_n hx hb dX3_clear_0 rfl (lv_at hl 0 rfl) ?_
  refine lv_iconst (v := 0) hx hb dX3_clear_1 (by decide) ?_
  obtain ⟨rq_1, rs_1, ha_1, hg_1_0, hg_1_1⟩ := tg_8 hT hG nx_0
  refine rr_put (D := DG E) (ci := 3) (v := .int 0) (ty := .int) (C := RX3) (T := TX3) (N := 3) hx hb hts iw_X3 tyX3 tyX3_ok nmX3 hown hK.1 ha_1 hS (by show G h0 ≠ 0; rw [hG]; decide) rfl 2 (by decide) (hts _ fl_X3_19) (fun _ h9 => h9) rfl (by decide +kernel) rfl rfl (Nat.le_of_ble_eq_true rfl) dX3_clear_2 (fun H locs hn ho hz hS => ?_)
  have hr_2 : va_at (DG E) vwCl (h0, .inr (3, [.ref rq_1, .ref rs_1, .int 0])) H := hn
  have hT : TH E (T0 E) G [] H := hT.set hG (show T0 E G 8 _ from ⟨rq_1, rs_1, rfl, hg_1_0, hg_1_1⟩) hr_2 ho
  refine lv_aload_n hx hb dX3_clear_5 rfl (lv_at hl 0 rfl) ?_
  obtain ⟨rq_3, rs_3, ha_3, hg_3_0, hg_3_1⟩ := tg_8 hT hG nx_0
  refine va_get (D := DG E) (ci := 3) (v := .ref rq_3) (C := RX3) (T := TX3) (N := 3) hx hb hts iw_X3 hown hK.1 (va_one ha_3) 0 rfl rfl 0 (by decide) (hts _ fl_X3_9) (fun _ h9 => h9) rfl dX3_clear_6 ?_
  obtain ⟨pe_4, nd_4, fa_4, to_4, mt_4, mr_4, rq_4, ha_4, hg_4_0, hg_4_1, hg_4_2⟩ := tg_9 hT hg_3_0 nx_0
  refine va_callv (rnV (fun H => TH E (T0 E) G [] H) (As := []) (rest := []) ⟨hx, hb, hml, hown, hts⟩ (c_X7_clear l E z0 G hGz rq_3  hg_3_0) (cwV 0 hts (gdV ml_X3_23 im_X7_clear se_X7_X7_clear in_X7 co_X7_clear rfl) rfl rfl rfl (by decide +kernel) ⟨Nat.le_of_ble_eq_true rfl, Nat.le_of_ble_eq_true rfl⟩) hT (fun U hU hW => hK.go hW hS hAz hU) (va_recv hK.1 (va_one ha_4) (ci := 7) (q0 := 0) rfl rfl) rfl rfl hl.1 rfl (lv_room (Nat.le_of_ble_eq_true rfl)) dX3_clear_9 ⟨Nat.le_of_ble_eq_true rfl, Nat.le_of_ble_eq_true rfl⟩) hS (fun q _ h => h) (fun q h => h) (fun _ t H locs ht hvm hw hB hz hk hS => ?_)
  have hT : TH E (T0 E) G [] H := by rw [ht] at hB; exact hB
  refine lv_aload_n hx hb dX3_clear_12 rfl (lv_at hl 0 rfl) ?_
  obtain ⟨rq_6, rs_6, ha_6, hg_6_0, hg_6_1⟩ := tg_8 hT hG nx_0
  refine va_get (D := DG E) (ci := 3) (v := .ref rs_6) (C := RX3) (T := TX3) (N := 3) hx hb hts iw_X3 hown hK.1 (va_one ha_6) 0 rfl rfl 1 (by decide) (hts _ fl_X3_15) (fun _ h9 => h9) rfl dX3_clear_13 ?_
  obtain ⟨pe_7, nd_7, fa_7, rc_7, an_7, ar_7, ha_7, hg_7_0, hg_7_1, hg_7_2, hg_7_3, hg_7_4⟩ := tg_10 hT hg_6_1 nx_0
  refine va_callv (rnV (fun H => TH E (T0 E) G [] H) (As := []) (rest := []) ⟨hx, hb, hml, hown, hts⟩ (c_X8_clear l E z0 G hGz rs_6  hg_6_1) (cwV 0 hts (gdV ml_X3_28 im_X8_clear se_X8_X8_clear in_X8 co_X8_clear rfl) rfl rfl rfl (by decide +kernel) ⟨Nat.le_of_ble_eq_true rfl, Nat.le_of_ble_eq_true rfl⟩) hT (fun U hU hW => hK.go hW hS hAz hU) (va_recv hK.1 (va_one ha_7) (ci := 8) (q0 := 0) rfl rfl) rfl rfl hl.1 rfl (lv_room (Nat.le_of_ble_eq_true rfl)) dX3_clear_16 ⟨Nat.le_of_ble_eq_true rfl, Nat.le_of_ble_eq_true rfl⟩) hS (fun q _ h => h) (fun q h => h) (fun _ t H locs ht hvm hw hB hz hk hS => ?_)
  have hT : TH E (T0 E) G [] H := by rw [ht] at hB; exact hB
  exact W.vret hx hb hr (fun t ht hW => ⟨⟨(), rfl, trivial, (by show TH E (T0 E) G [] t.heap; rw [ht]; exact hT)⟩, hS.F ht⟩) hS.2.2 dX3_clear_19
theorem dX9_reset_0 : decode cX9_reset 0 = .ok (.iload_n 1, 1) := by decide +kernel
theorem dX9_reset_1 : decode cX9_reset 1 = .ok (.invokestatic 78, 3) := by decide +kernel
theorem dX9_reset_4 : decode cX9_reset 4 = .ok (.ifCond .ne 5, 3) := by decide +kernel
theorem dX9_reset_7 : decode cX9_reset 7 = .ok (.iconst 0, 1) := by decide +kernel
theorem dX9_reset_8 : decode cX9_reset 8 = .ok (.ireturn, 1) := by decide +kernel
theorem dX9_reset_9 : decode cX9_reset 9 = .ok (.aload_n 0, 1) := by decide +kernel
theorem dX9_reset_10 : decode cX9_reset 10 = .ok (.getfield 29, 3) := by decide +kernel
theorem dX9_reset_13 : decode cX9_reset 13 = .ok (.iload_n 1, 1) := by decide +kernel
theorem dX9_reset_14 : decode cX9_reset 14 = .ok (.aaload, 1) := by decide +kernel
theorem dX9_reset_15 : decode cX9_reset 15 = .ok (.invokevirtual 94, 3) := by decide +kernel
theorem dX9_reset_18 : decode cX9_reset 18 = .ok (.iconst 1, 1) := by decide +kernel
theorem dX9_reset_19 : decode cX9_reset 19 = .ok (.ireturn, 1) := by decide +kernel
set_option maxHeartbeats 4000000 in
set_option maxRecDepth 100000 in
theorem c_X9_reset (l : Launch) (E : EE) (z0 : Nat) (G : Nat → Nat) (hGz : ∀ q, G q ≠ 0 → z0 ≤ q) (h0 : Nat) (p0 : Int32) (hG : G h0 = 1) : Met l yX9_reset [Cond.code yX9_reset cX9_reset 2 (some .boolean)] ({ frames := 3, cells := 0, slots := 0, locals := 61 } : Room) (va_Pc [.ref h0, .int p0] (fun U => TH E (T0 E) G [] U.heap ∧ KS E z0 U)) (va_Qi (fun (r : Int32) (_ : Unit) => r = bI (0 ≤ p0.toInt ∧ p0.toInt < 4)) (fun _ _ => True) (fun q : Nat => G q ≠ 0)) 0 0 (fun q : Nat => G q ≠ 0) := by
  refine Met.ofW (cc := cX9_reset) (maxL := 2) (ret := (some .boolean)) (by decide) rfl ?_
  intro p e s m args below meth c s₁ B hml hv
  obtain ⟨rfl, hT, hK⟩ := hv
  have hx := B.exec
  have hb := B.bytes
  have hr := B.returns
  have hts : ∀ w ∈ TS, w.before ([.ref h0, .int p0] : List Value).toArray s = true := fun w hw => hK.2.1 w hw _
  have hown : s.vm.findClass RX9 = some m.cls := findClass_of_methodNamed B.named
  have hlocks := B.notSynchronized
  have hS : va_S (fun q : Nat => G q ≠ 0) s.heap s.heap [] := va_S.rf
  have hAz : ∀ q, (fun q : Nat => G q ≠ 0) q → z0 ≤ q := hGz
  have hl := lv_entry ([.ref h0, .int p0]) (n := 2) (Nat.le_of_ble_eq_true rfl)
  rw [lg_entry_eq]
  generalize (lg_sl ([.ref h0, .int p0]) ++ List.replicate (2 - (lg_sl ([.ref h0, .int p0])).length) Slot.unset).toArray = ls at hl ⊢
  have hl : lv_has ls 2 [(0, .ref h0), (1, .int p0)] := hl
  refine lv_iload_n hx hb dX9_reset_0 rfl (lv_at hl 1 rfl) ?_
  refine W.callR (W.runS (As := [.int p0]) (rest := []) ⟨hx, hb, hml, hown, hts⟩ (c_X9_isPair l p0) (cwS 1 hts (gdS ml_X9_78 st_X9_isPair in_X9 co_X9_isPair rfl) rfl rfl rfl (by decide +kernel) ⟨Nat.le_of_ble_eq_true rfl, Nat.le_of_ble_eq_true rfl⟩) preEq rfl rfl hl.1 rfl (lv_room (Nat.le_of_ble_eq_true rfl)) dX9_reset_1 ⟨Nat.le_of_ble_eq_true rfl, Nat.le_of_ble_eq_true rfl⟩) ?_
  refine W.eq (g2 := F0 m 4 ls [.int (bI (0 ≤ p0.toInt ∧ p0.toInt < 4))]) (by rfl) ?_
  refine lv_if_ne (tgt := 9) hx hb dX9_reset_4 (by decide) (fun c_1 => ?_) (fun c_1 => ?_)
  · have c_1 := bI_n c_1
    refine lv_aload_n hx hb dX9_reset_9 rfl (lv_at hl 0 rfl) ?_
    obtain ⟨n_2, p_2, f_2, ha_2, hg_2_0, hg_2_1, hg_2_2⟩ := tg_1 hT hG nx_0
    refine va_get (D := DG E) (ci := 9) (v := .ref p_2) (C := RX9) (T := TX9) (N := 3) hx hb hts iw_X9 hown hK.1 (va_one ha_2) 0 rfl rfl 1 (by decide) (hts _ fl_X9_29) (fun _ h9 => h9) rfl dX9_reset_10 ?_
    refine lv_iload_n hx hb dX9_reset_13 rfl (lv_at hl 1 rfl) ?_
    obtain ⟨f_3, ha_3, he_3⟩ := tg_3 hT hg_2_1 nx_0
    obtain ⟨j_ha_3, hj_ha_3, ej_ha_3⟩ := vp_in_of (show vp_in p0 4 from vp_in_iff.mpr (by omega)) (by decide)
    obtain ⟨b_ha_3, eb_ha_3, gb_ha_3⟩ := he_3 j_ha_3 hj_ha_3
    have cj_ha_3 : f_3 (p0 : Int32).toNatClampNeg = some b_ha_3 := by rw [ej_ha_3, nI_clamp (by omega)]; exact eb_ha_3
    refine va_aldq (D := DG E) hx hb hK.1 (va_one ha_3) 0 5 rfl rfl (show vp_in p0 4 from vp_in_iff.mpr (by omega)) dX9_reset_14 ?_
    rw [cj_ha_3]
    refine W.eq (g2 := F0 m 15 ls [.ref b_ha_3]) (by rfl) ?_
    obtain ⟨rq_4, rs_4, ha_4, hg_4_0, hg_4_1⟩ := tg_8 hT gb_ha_3 nx_0
    refine va_callv (rnV (fun H => TH E (T0 E) G [] H) (As := []) (rest := []) ⟨hx, hb, hml, hown, hts⟩ (c_X3_clear l E z0 G hGz b_ha_3  gb_ha_3) (cwV 0 hts (gdV ml_X9_94 im_X3_clear se_X3_X3_clear in_X3 co_X3_clear rfl) rfl rfl rfl (by decide +kernel) ⟨Nat.le_of_ble_eq_true rfl, Nat.le_of_ble_eq_true rfl⟩) hT (fun U hU hW => hK.go hW hS hAz hU) (va_recv hK.1 (va_one ha_4) (ci := 3) (q0 := 0) rfl rfl) rfl rfl hl.1 rfl (lv_room (Nat.le_of_ble_eq_true rfl)) dX9_reset_15 ⟨Nat.le_of_ble_eq_true rfl, Nat.le_of_ble_eq_true rfl⟩) hS (fun q _ h => h) (fun q h => h) (fun _ t H locs ht hvm hw hB hz hk hS => ?_)
    have hT : TH E (T0 E) G [] H := by rw [ht] at hB; exact hB
    refine lv_iconst (v := 1) hx hb dX9_reset_18 (by decide) ?_
    exact W.zret (v := 1) (ty := .boolean) hx hb hr rfl (fun t ht hW => ⟨⟨1, (), rfl, (by rw [bI_t (by omega)]), trivial⟩, hS.F ht⟩) hS.2.2 dX9_reset_19
  · have c_1 := bI_0 c_1
    refine lv_iconst (v := 0) hx hb dX9_reset_7 (by decide) ?_
    exact W.zret (v := 0) (ty := .boolean) hx hb hr rfl (fun t ht hW => ⟨⟨0, (), rfl, (by rw [bI_f (by omega)]), trivial⟩, hS.F ht⟩) hS.2.2 dX9_reset_8
theorem dX9_poll_0 : decode cX9_poll 0 = .ok (.iload_n 1, 1) := by decide +kernel
theorem dX9_poll_1 : decode cX9_poll 1 = .ok (.invokestatic 46, 3) := by decide +kernel
theorem dX9_poll_4 : decode cX9_poll 4 = .ok (.ifCond .eq 17, 3) := by decide +kernel
theorem dX9_poll_7 : decode cX9_poll 7 = .ok (.iload_n 2, 1) := by decide +kernel
theorem dX9_poll_8 : decode cX9_poll 8 = .ok (.iconst (-1), 1) := by decide +kernel
theorem dX9_poll_9 : decode cX9_poll 9 = .ok (.if_icmp .lt 12, 3) := by decide +kernel
theorem dX9_poll_12 : decode cX9_poll 12 = .ok (.iload_n 2, 1) := by decide +kernel
theorem dX9_poll_13 : decode cX9_poll 13 = .ok (.iconst 5, 1) := by decide +kernel
theorem dX9_poll_14 : decode cX9_poll 14 = .ok (.if_icmp .ge 7, 3) := by decide +kernel
theorem dX9_poll_17 : decode cX9_poll 17 = .ok (.iconst 1, 1) := by decide +kernel
theorem dX9_poll_18 : decode cX9_poll 18 = .ok (.goto 4, 3) := by decide +kernel
theorem dX9_poll_21 : decode cX9_poll 21 = .ok (.iconst 0, 1) := by decide +kernel
theorem dX9_poll_22 : decode cX9_poll 22 = .ok (.invokestatic 53, 3) := by decide +kernel
theorem dX9_poll_25 : decode cX9_poll 25 = .ok (.aload_n 0, 1) := by decide +kernel
theorem dX9_poll_26 : decode cX9_poll 26 = .ok (.getfield 22, 3) := by decide +kernel
theorem dX9_poll_29 : decode cX9_poll 29 = .ok (.iload_n 1, 1) := by decide +kernel
theorem dX9_poll_30 : decode cX9_poll 30 = .ok (.aaload, 1) := by decide +kernel
theorem dX9_poll_31 : decode cX9_poll 31 = .ok (.getfield 176, 3) := by decide +kernel
theorem dX9_poll_34 : decode cX9_poll 34 = .ok (.ifCond .ne 11, 3) := by decide +kernel
theorem dX9_poll_37 : decode cX9_poll 37 = .ok (.new 179, 3) := by decide +kernel
theorem dX9_poll_40 : decode cX9_poll 40 = .ok (.dup, 1) := by decide +kernel
theorem dX9_poll_41 : decode cX9_poll 41 = .ok (.invokespecial 181, 3) := by decide +kernel
theorem dX9_poll_44 : decode cX9_poll 44 = .ok (.athrow, 1) := by decide +kernel
theorem dX9_poll_45 : decode cX9_poll 45 = .ok (.iload_n 2, 1) := by decide +kernel
theorem dX9_poll_46 : decode cX9_poll 46 = .ok (.ifCond .lt 14, 3) := by decide +kernel
theorem dX9_poll_49 : decode cX9_poll 49 = .ok (.aload_n 0, 1) := by decide +kernel
theorem dX9_poll_50 : decode cX9_poll 50 = .ok (.getfield 22, 3) := by decide +kernel
theorem dX9_poll_53 : decode cX9_poll 53 = .ok (.iload_n 1, 1) := by decide +kernel
theorem dX9_poll_54 : decode cX9_poll 54 = .ok (.aaload, 1) := by decide +kernel
theorem dX9_poll_55 : decode cX9_poll 55 = .ok (.iload_n 2, 1) := by decide +kernel
theorem dX9_poll_56 : decode cX9_poll 56 = .ok (.invokevirtual 182, 3) := by decide +kernel
theorem dX9_poll_59 : decode cX9_poll 59 = .ok (.ireturn, 1) := by decide +kernel
theorem dX9_poll_60 : decode cX9_poll 60 = .ok (.aload_n 0, 1) := by decide +kernel
theorem dX9_poll_61 : decode cX9_poll 61 = .ok (.getfield 22, 3) := by decide +kernel
theorem dX9_poll_64 : decode cX9_poll 64 = .ok (.iload_n 1, 1) := by decide +kernel
theorem dX9_poll_65 : decode cX9_poll 65 = .ok (.aaload, 1) := by decide +kernel
theorem dX9_poll_66 : decode cX9_poll 66 = .ok (.invokevirtual 185, 3) := by decide +kernel
theorem dX9_poll_69 : decode cX9_poll 69 = .ok (.iconst 0, 1) := by decide +kernel
theorem dX9_poll_70 : decode cX9_poll 70 = .ok (.ireturn, 1) := by decide +kernel
set_option maxHeartbeats 4000000 in
set_option maxRecDepth 100000 in
theorem c_X9_poll (l : Launch) (hst : l.stackTraces = false) (E : EE) (z0 : Nat) (G : Nat → Nat) (hGz : ∀ q, G q ≠ 0 → z0 ≤ q) (h0 : Nat) (p0 p1 : Int32) (hG : G h0 = 1) : vx_Met l yX9_poll [Cond.code yX9_poll cX9_poll 3 (some .int)] ({ frames := 7, cells := 2, slots := 12, locals := 101 } : Room) (va_Pc [.ref h0, .int p0, .int p1] (fun U => TH E (T0 E) G [] U.heap ∧ KS E z0 U)) (va_Qi (fun (r : Int32) (_ : Unit) => False) (fun _ _ => True) (fun q : Nat => G q ≠ 0)) (vx_X (fun (_ : Unit) => True) (fun En _ _ => (En = IAE ∧ ¬ (0 ≤ p0.toInt ∧ p0.toInt < 2 ∧ -1 ≤ p1.toInt ∧ p1.toInt < 5)) ∨ (En = NSE ∧ (0 ≤ p0.toInt ∧ p0.toInt < 2 ∧ -1 ≤ p1.toInt ∧ p1.toInt < 5))) (fun q : Nat => G q ≠ 0)) 2 12 (fun q : Nat => G q ≠ 0) := by
  refine vx_ofW (cc := cX9_poll) (maxL := 3) (ret := (some .int)) (by decide) rfl ?_
  intro p e s m args below meth c s₁ B hml hne hv
  obtain ⟨rfl, hT, hK⟩ := hv
  have hx := B.exec
  have hb := B.bytes
  have hr := B.returns
  have hts : ∀ w ∈ TS, w.before ([.ref h0, .int p0, .int p1] : List Value).toArray s = true := fun w hw => hK.2.1 w hw _
  have hown : s.vm.findClass RX9 = some m.cls := findClass_of_methodNamed B.named
  have hlocks := B.notSynchronized
  have hS : va_S (fun q : Nat => G q ≠ 0) s.heap s.heap [] := va_S.rf
  have hAz : ∀ q, (fun q : Nat => G q ≠ 0) q → z0 ≤ q := hGz
  have hl := lv_entry ([.ref h0, .int p0, .int p1]) (n := 3) (Nat.le_of_ble_eq_true rfl)
  rw [lg_entry_eq]
  generalize (lg_sl ([.ref h0, .int p0, .int p1]) ++ List.replicate (3 - (lg_sl ([.ref h0, .int p0, .int p1])).length) Slot.unset).toArray = ls at hl ⊢
  have hl : lv_has ls 3 [(0, .ref h0), (1, .int p0), (2, .int p1)] := hl
  refine lv_iload_n hx hb dX9_poll_0 rfl (lv_at hl 1 rfl) ?_
  refine W.callR (W.runS (As := [.int p0]) (rest := []) ⟨hx, hb, hml, hown, hts⟩ (c_X9_isNode l p0) (cwS 1 hts (gdS ml_X9_46 st_X9_isNode in_X9 co_X9_isNode rfl) rfl rfl rfl (by decide +kernel) ⟨Nat.le_of_ble_eq_true rfl, Nat.le_of_ble_eq_true rfl⟩) preEq rfl rfl hl.1 rfl (lv_room (Nat.le_of_ble_eq_true rfl)) dX9_poll_1 ⟨Nat.le_of_ble_eq_true rfl, Nat.le_of_ble_eq_true rfl⟩) ?_
  refine W.eq (g2 := F0 m 4 ls [.int (bI (0 ≤ p0.toInt ∧ p0.toInt < 2))]) (by rfl) ?_
  refine lv_if_eq (tgt := 21) hx hb dX9_poll_4 (by decide) (fun c_1 => ?_) (fun c_1 => ?_)
  · have c_1 := bI_0 c_1
    refine lv_iconst (v := 0) hx hb dX9_poll_21 (by decide) ?_
    refine vx_callv (rxS (fun _ => True) (As := [.int 0]) (rest := []) ⟨hx, hb, hml, hown, hts⟩ (c_X9_require l hst E z0 0) (cwS 1 hts (gdS ml_X9_53 st_X9_require in_X9 co_X9_require rfl) rfl rfl rfl (by decide +kernel) ⟨Nat.le_of_ble_eq_true rfl, Nat.le_of_ble_eq_true rfl⟩) trivial (fun U hU hW => hK.go hW hS hAz hU) rfl rfl hl.1 rfl (lv_room (Nat.le_of_ble_eq_true rfl)) dX9_poll_22 ⟨Nat.le_of_ble_eq_true rfl, Nat.le_of_ble_eq_true rfl⟩) hS (fun q _ h => h.elim) (fun q h => h.elim) (fun q _ h => h.elim) (fun En ce q9 _ t H locs ht hvm hw hB hz hk hS hc1 hc2 hc3 => ?_) (fun _ t H locs ht hvm hw hB hz hk hS => absurd rfl hw)
    subst hB
    exact vx_out (fun x hx => (hne x hx).elim) hlocks hc1 hc2 hc3 (fun t ht hA => ⟨(), trivial, Or.inl ⟨rfl, by omega⟩, hS.F ht⟩) hS.2.2 (Nat.le_of_ble_eq_true rfl) (Nat.le_of_ble_eq_true rfl)
  · have c_1 := bI_n c_1
    refine lv_iload_n hx hb dX9_poll_7 rfl (lv_at hl 2 rfl) ?_
    refine lv_iconst (v := (-1)) hx hb dX9_poll_8 (by decide) ?_
    refine lv_icmp_lt (tgt := 21) hx hb dX9_poll_9 (by decide) (fun c_2 => ?_) (fun c_2 => ?_)
    · simp only [lt_I, le_I, eq_I, i_0, i_1, i_2, i_3, i_4, i_5, i_6, i_7, i_8, i_10, i_12, i_16, i_20, i_23, i_24, i_31, i_32, i_63, i_64, i_m1] at c_2
      refine lv_iconst (v := 0) hx hb dX9_poll_21 (by decide) ?_
      refine vx_callv (rxS (fun _ => True) (As := [.int 0]) (rest := []) ⟨hx, hb, hml, hown, hts⟩ (c_X9_require l hst E z0 0) (cwS 1 hts (gdS ml_X9_53 st_X9_require in_X9 co_X9_require rfl) rfl rfl rfl (by decide +kernel) ⟨Nat.le_of_ble_eq_true rfl, Nat.le_of_ble_eq_true rfl⟩) trivial (fun U hU hW => hK.go hW hS hAz hU) rfl rfl hl.1 rfl (lv_room (Nat.le_of_ble_eq_true rfl)) dX9_poll_22 ⟨Nat.le_of_ble_eq_true rfl, Nat.le_of_ble_eq_true rfl⟩) hS (fun q _ h => h.elim) (fun q h => h.elim) (fun q _ h => h.elim) (fun En ce q9 _ t H locs ht hvm hw hB hz hk hS hc1 hc2 hc3 => ?_) (fun _ t H locs ht hvm hw hB hz hk hS => absurd rfl hw)
      subst hB
      exact vx_out (fun x hx => (hne x hx).elim) hlocks hc1 hc2 hc3 (fun t ht hA => ⟨(), trivial, Or.inl ⟨rfl, by omega⟩, hS.F ht⟩) hS.2.2 (Nat.le_of_ble_eq_true rfl) (Nat.le_of_ble_eq_true rfl)
    · simp only [lt_I, le_I, eq_I, i_0, i_1, i_2, i_3, i_4, i_5, i_6, i_7, i_8, i_10, i_12, i_16, i_20, i_23, i_24, i_31, i_32, i_63, i_64, i_m1] at c_2
      refine lv_iload_n hx hb dX9_poll_12 rfl (lv_at hl 2 rfl) ?_
      refine lv_iconst (v := 5) hx hb dX9_poll_13 (by decide) ?_
      refine lv_icmp_ge (tgt := 21) hx hb dX9_poll_14 (by decide) (fun c_3 => ?_) (fun c_3 => ?_)
      · simp only [lt_I, le_I, eq_I, i_0, i_1, i_2, i_3, i_4, i_5, i_6, i_7, i_8, i_10, i_12, i_16, i_20, i_23, i_24, i_31, i_32, i_63, i_64, i_m1] at c_3
        refine lv_iconst (v := 0) hx hb dX9_poll_21 (by decide) ?_
        refine vx_callv (rxS (fun _ => True) (As := [.int 0]) (rest := []) ⟨hx, hb, hml, hown, hts⟩ (c_X9_require l hst E z0 0) (cwS 1 hts (gdS ml_X9_53 st_X9_require in_X9 co_X9_require rfl) rfl rfl rfl (by decide +kernel) ⟨Nat.le_of_ble_eq_true rfl, Nat.le_of_ble_eq_true rfl⟩) trivial (fun U hU hW => hK.go hW hS hAz hU) rfl rfl hl.1 rfl (lv_room (Nat.le_of_ble_eq_true rfl)) dX9_poll_22 ⟨Nat.le_of_ble_eq_true rfl, Nat.le_of_ble_eq_true rfl⟩) hS (fun q _ h => h.elim) (fun q h => h.elim) (fun q _ h => h.elim) (fun En ce q9 _ t H locs ht hvm hw hB hz hk hS hc1 hc2 hc3 => ?_) (fun _ t H locs ht hvm hw hB hz hk hS => absurd rfl hw)
        subst hB
        exact vx_out (fun x hx => (hne x hx).elim) hlocks hc1 hc2 hc3 (fun t ht hA => ⟨(), trivial, Or.inl ⟨rfl, by omega⟩, hS.F ht⟩) hS.2.2 (Nat.le_of_ble_eq_true rfl) (Nat.le_of_ble_eq_true rfl)
      · simp only [lt_I, le_I, eq_I, i_0, i_1, i_2, i_3, i_4, i_5, i_6, i_7, i_8, i_10, i_12, i_16, i_20, i_23, i_24, i_31, i_32, i_63, i_64, i_m1] at c_3
        refine lv_iconst (v := 1) hx hb dX9_poll_17 (by decide) ?_
        refine lv_goto (tgt := 22) hx hb dX9_poll_18 (by decide) ?_
        refine vx_callv (rxS (fun _ => True) (As := [.int 1]) (rest := []) ⟨hx, hb, hml, hown, hts⟩ (c_X9_require l hst E z0 1) (cwS 1 hts (gdS ml_X9_53 st_X9_require in_X9 co_X9_require rfl) rfl rfl rfl (by decide +kernel) ⟨Nat.le_of_ble_eq_true rfl, Nat.le_of_ble_eq_true rfl⟩) trivial (fun U hU hW => hK.go hW hS hAz hU) rfl rfl hl.1 rfl (lv_room (Nat.le_of_ble_eq_true rfl)) dX9_poll_22 ⟨Nat.le_of_ble_eq_true rfl, Nat.le_of_ble_eq_true rfl⟩) hS (fun q _ h => h.elim) (fun q h => h.elim) (fun q _ h => h.elim) (fun En ce q9 _ t H locs ht hvm hw hB hz hk hS hc1 hc2 hc3 => absurd hw (by decide)) (fun _ t H locs ht hvm hw hB hz hk hS => ?_)
        have hT : TH E (T0 E) G [] H := hT.kept (fun q hq => hk q hq (fun h => h))
        refine lv_aload_n hx hb dX9_poll_25 rfl (lv_at hl 0 rfl) ?_
        obtain ⟨n_4, p_4, f_4, ha_4, hg_4_0, hg_4_1, hg_4_2⟩ := tg_1 hT hG nx_0
        refine va_get (D := DG E) (ci := 9) (v := .ref n_4) (C := RX9) (T := TX9) (N := 3) hx hb hts iw_X9 hown hK.1 (va_one ha_4) 0 rfl rfl 0 (by decide) (hts _ fl_X9_22) (fun _ h9 => h9) rfl dX9_poll_26 ?_
        refine lv_iload_n hx hb dX9_poll_29 rfl (lv_at hl 1 rfl) ?_
        obtain ⟨f_5, ha_5, he_5⟩ := tg_2 hT hg_4_0 nx_0
        obtain ⟨j_ha_5, hj_ha_5, ej_ha_5⟩ := vp_in_of (show vp_in p0 2 from vp_in_iff.mpr (by omega)) (by decide)
        obtain ⟨b_ha_5, eb_ha_5, gb_ha_5⟩ := he_5 j_ha_5 hj_ha_5
        have cj_ha_5 : f_5 (p0 : Int32).toNatClampNeg = some b_ha_5 := by rw [ej_ha_5, nI_clamp (by omega)]; exact eb_ha_5
        refine va_aldq (D := DG E) hx hb hK.1 (va_one ha_5) 0 3 rfl rfl (show vp_in p0 2 from vp_in_iff.mpr (by omega)) dX9_poll_30 ?_
        rw [cj_ha_5]
        refine W.eq (g2 := F0 m 31 ls [.ref b_ha_5]) (by rfl) ?_
        obtain ⟨cs_6, rg_6, rn_6, ha_6, hg_6_0, hg_6_1, hg_6_2⟩ := tg_5 hT gb_ha_5 nx_0
        refine va_get (D := DG E) (ci := 1) (v := .int 0) (C := RX1) (T := TX1) (N := 5) hx hb hts iw_X1 hown hK.1 (va_one ha_6) 0 rfl rfl 4 (by decide) (hts _ fl_X9_176) (fun _ h9 => h9) rfl dX9_poll_31 ?_
        refine lv_if_ne (tgt := 45) hx hb dX9_poll_34 (by decide) (fun c_7 => absurd c_7 (by decide)) (fun c_7 => ?_)
        exact vx_throw0 (A := AZ z0) hx hb hst (own := RX9) (cls := NSE) (names := upn) (ik := 179) (ic := 181) hown (by decide +kernel) (by decide +kernel) (hts _ cl_X9_179) (hts _ in_NoSuchElementException) (fun w hw => hts w (tw_NSE w hw)) tg_NSE hK.2.2.1 hK.2.2.2 (SS_mono hS hAz) (by rw [hml]; exact hl.1) dX9_poll_37 dX9_poll_40 dX9_poll_41 dX9_poll_44 (fun x hx => (hne x hx).elim) (by decide) (by decide) (by decide) (by decide) hlocks (fun t hA hz hk => ⟨(), trivial, Or.inr ⟨rfl, by omega⟩, SS_F hS hz hk⟩) hS.2.2 (by decide) (by decide)
