set_option maxHeartbeats 40000000 in
set_option maxRecDepth 100000 in
theorem c_X10_init (l : Launch) (E : EE) (z0 : Nat) (G : Nat → Nat) (h0 sz : Nat) (p0 p1 p2 : Int32) (hG0 : G h0 = 0) (hz0 : z0 ≤ h0) (hz1 : z0 ≤ sz) : Met l yX10_init [Cond.code yX10_init cX10_init 4 none] ({ frames := 1, cells := 44, slots := 809, locals := 20 } : Room) (va_Pc [.ref h0, .int p0, .int p1, .int p2] (fun U => (U.heap.size = sz ∧ va_at (DG E) vwCl (h0, .inr (10, [.int 0, .int 0, .int 0, .int 0, .null, .null, .null, .null, .null, .null, .null, .null, .null, .null, .null, .null, .null, .null, .null, .null, .null, .null, .null, .null, .null, .null, .null, .null, .null, .null, .null, .null, .null, .null, .null, .null, .null, .null, .null, .null, .int 0, .null, .null, .null, .null, .null, .null, .null, .null])) U.heap ∧ TH E (T0 E) G [] U.heap) ∧ KS E z0 U)) (va_Qv (fun (G1 : Nat → Nat) => GX G G1 h0 20 sz) (fun G1 t => TH E (T0 E) G1 [] t.heap ∧ ∃ rf : Nat → Nat, va_at (DG E) vwCl (h0, .inr (10, mfs (wi p0 2 20) (wi p1 0 7) (wi p2 0 7) 0 rf 0)) t.heap ∧ ∀ j, 4 ≤ j → j < 49 → j ≠ 40 → G1 (rf j) = 100 + j) (AC h0 sz)) 44 809 (AC h0 sz) := by
  refine Met.ofW (cc := cX10_init) (maxL := 4) (ret := none) (by decide) rfl ?_
  intro p e s m args below meth c s₁ B hml hv
  obtain ⟨rfl, ⟨hsz, hr0, hT⟩, hK⟩ := hv
  have hx := B.exec
  have hb := B.bytes
  have hr := B.returns
  have hts : ∀ w ∈ TS, w.before ([.ref h0, .int p0, .int p1, .int p2] : List Value).toArray s = true := fun w hw => hK.2.1 w hw _
  have hown : s.vm.findClass RX10 = some m.cls := findClass_of_methodNamed B.named
  have hlocks := B.notSynchronized
  have hin : meth.name = "<init>" := (name_of_methodNamed B.named B.method).1
  have hS : va_S (AC h0 sz) s.heap s.heap [] := va_S.rf
  have hAz : ∀ q, AC h0 sz q → z0 ≤ q := fun q h => h.elim (fun e => by omega) (fun e => by omega)
  have hE : GE G G h0 sz := GE.rf
  have hlt0 : h0 < sz := by have h9 := hr0.lt; have h8 : h0 < _ := h9; omega
  obtain ⟨H, eH⟩ : ∃ H, H = s.heap := ⟨_, rfl⟩
  rw [← eH] at hr0 hT
  have hS : va_S (AC h0 sz) s.heap H [] := by rw [eH]; exact hS
  rw [← eH]
  have hsz : s.heap.size = sz := hsz
  have hl := lv_entry ([.ref h0, .int p0, .int p1, .int p2]) (n := 4) (Nat.le_of_ble_eq_true rfl)
  rw [lg_entry_eq]
  generalize (lg_sl ([.ref h0, .int p0, .int p1, .int p2]) ++ List.replicate (4 - (lg_sl ([.ref h0, .int p0, .int p1, .int p2])).length) Slot.unset).toArray = ls at hl ⊢
  have hl : lv_has ls 4 [(0, .ref h0), (1, .int p0), (2, .int p1), (3, .int p2)] := hl
  refine lv_aload_n hx hb dX10_init_0 rfl (lv_at hl 0 rfl) ?_
  refine W.objInit hx hb hown (hts _ ml_X10_1) (hts _ im_Object__init_) (hts _ co_Object__init_) rfl (by rw [hml]; exact hl.1) rfl dX10_init_1 (Nat.le_of_ble_eq_true rfl) (Nat.le_of_ble_eq_true rfl) ?_
  refine W.eq (g2 := F0 m 4 ls []) rfl ?_
  refine lv_aload_n hx hb dX10_init_4 rfl (lv_at hl 0 rfl) ?_
  refine lv_bipush (v := 64) hx hb dX10_init_5 (by decide) ?_
  have hSo : s.heap.size ≤ _ := hS.1
  refine rr_newa (D := DG E) (atype := .int) (N' := 64) (a0 := (64, .inl (fun _ => 0))) hx hb (hts _ ac_int) hK.1 0 rfl hS rfl (by decide) (by decide) (by decide) (Nat.le_of_ble_eq_true rfl) (Nat.le_of_ble_eq_true rfl) dX10_init_7 (fun q_1 H hq hat hz ho hS => ?_)
  have hr_2 := hat
  have zq_1 := hT.fresh hq
  have neq_1_h0 : h0 ≠ q_1 := ne_q hr0.lt hq
  have hr0 := hr0.kept (ho _ hr0.lt)
  have szq_1 : sz ≤ q_1 := le_q hsz hSo hq
  have hT := hT.kept ho
  refine rr_putF (D := DG E) (ci := 10) (v := .ref q_1) (ty := .array .int) (C := RX10) (T := TX10) (N := 49) hx hb hts iw_X10 tyX10 tyX10_ok nmX10 hown hK.1 hr0 hS (Or.inl rfl) rfl 4 (by decide) (hts _ fl_X10_7) (fun _ h9 => h9) rfl hin rfl (by decide +kernel) rfl rfl (Nat.le_of_ble_eq_true rfl) dX10_init_9 (fun H locs hn ho hz hS => ?_)
  have hr_3 : va_at (DG E) vwCl (h0, .inr (10, [.int 0, .int 0, .int 0, .int 0, .ref q_1, .null, .null, .null, .null, .null, .null, .null, .null, .null, .null, .null, .null, .null, .null, .null, .null, .null, .null, .null, .null, .null, .null, .null, .null, .null, .null, .null, .null, .null, .null, .null, .null, .null, .null, .null, .int 0, .null, .null, .null, .null, .null, .null, .null, .null])) H := hn
  have hr_2 := hr_2.kept (ho _ (Ne.symm neq_1_h0))
  have hT := hT.off hG0 ho
  have hT := hT.add (g := 104) zq_1 (show T0 E (va_up G q_1 104) 104 _ from ⟨by decide, rfl⟩) hr_2
  have hE := hE.add (g := 104) zq_1 szq_1
  have hG0 := (va_up_ne G 104 neq_1_h0).trans hG0
  have gq_4 := va_up_self G q_1 104
  have st_4 : ∀ a x, x ≠ 0 → G a = x → va_up G q_1 104 a = x := fun a x h1 h2 => up_k h2 zq_1 h1
  obtain ⟨G_4, eG_4⟩ : ∃ z, z = va_up G q_1 104 := ⟨_, rfl⟩
  rw [← eG_4] at hT hE hG0 gq_4 st_4
  refine lv_aload_n hx hb dX10_init_12 rfl (lv_at hl 0 rfl) ?_
  refine lv_bipush (v := 12) hx hb dX10_init_13 (by decide) ?_
  have hSo : s.heap.size ≤ _ := hS.1
  refine rr_newa (D := DG E) (atype := .int) (N' := 12) (a0 := (12, .inl (fun _ => 0))) hx hb (hts _ ac_int) hK.1 0 rfl hS rfl (by decide) (by decide) (by decide) (Nat.le_of_ble_eq_true rfl) (Nat.le_of_ble_eq_true rfl) dX10_init_15 (fun q_5 H hq hat hz ho hS => ?_)
  have hr_6 := hat
  have zq_5 := hT.fresh hq
  have neq_5_h0 : h0 ≠ q_5 := ne_q hr_3.lt hq
  have hr_3 := hr_3.kept (ho _ hr_3.lt)
  have szq_5 : sz ≤ q_5 := le_q hsz hSo hq
  have hT := hT.kept ho
  refine rr_putF (D := DG E) (ci := 10) (v := .ref q_5) (ty := .array .int) (C := RX10) (T := TX10) (N := 49) hx hb hts iw_X10 tyX10 tyX10_ok nmX10 hown hK.1 hr_3 hS (Or.inl rfl) rfl 5 (by decide) (hts _ fl_X10_13) (fun _ h9 => h9) rfl hin rfl (by decide +kernel) rfl rfl (Nat.le_of_ble_eq_true rfl) dX10_init_17 (fun H locs hn ho hz hS => ?_)
  have hr_7 : va_at (DG E) vwCl (h0, .inr (10, [.int 0, .int 0, .int 0, .int 0, .ref q_1, .ref q_5, .null, .null, .null, .null, .null, .null, .null, .null, .null, .null, .null, .null, .null, .null, .null, .null, .null, .null, .null, .null, .null, .null, .null, .null, .null, .null, .null, .null, .null, .null, .null, .null, .null, .null, .int 0, .null, .null, .null, .null, .null, .null, .null, .null])) H := hn
  have hr_6 := hr_6.kept (ho _ (Ne.symm neq_5_h0))
  have hT := hT.off hG0 ho
  have hT := hT.add (g := 105) zq_5 (show T0 E (va_up G_4 q_5 105) 105 _ from ⟨by decide, rfl⟩) hr_6
  have hE := hE.add (g := 105) zq_5 szq_5
  have hG0 := (va_up_ne G_4 105 neq_5_h0).trans hG0
  have gq_5 := va_up_self G_4 q_5 105
  have st_5 : ∀ a x, x ≠ 0 → G_4 a = x → va_up G_4 q_5 105 a = x := fun a x h1 h2 => up_k h2 zq_5 h1
  obtain ⟨G_8, eG_8⟩ : ∃ z, z = va_up G_4 q_5 105 := ⟨_, rfl⟩
  rw [← eG_8] at hT hE hG0 gq_5 st_5
  refine lv_aload_n hx hb dX10_init_20 rfl (lv_at hl 0 rfl) ?_
  refine lv_bipush (v := 12) hx hb dX10_init_21 (by decide) ?_
  have hSo : s.heap.size ≤ _ := hS.1
  refine rr_newa (D := DG E) (atype := .int) (N' := 12) (a0 := (12, .inl (fun _ => 0))) hx hb (hts _ ac_int) hK.1 0 rfl hS rfl (by decide) (by decide) (by decide) (Nat.le_of_ble_eq_true rfl) (Nat.le_of_ble_eq_true rfl) dX10_init_23 (fun q_9 H hq hat hz ho hS => ?_)
  have hr_10 := hat
  have zq_9 := hT.fresh hq
  have neq_9_h0 : h0 ≠ q_9 := ne_q hr_7.lt hq
  have hr_7 := hr_7.kept (ho _ hr_7.lt)
  have szq_9 : sz ≤ q_9 := le_q hsz hSo hq
  have hT := hT.kept ho
  refine rr_putF (D := DG E) (ci := 10) (v := .ref q_9) (ty := .array .int) (C := RX10) (T := TX10) (N := 49) hx hb hts iw_X10 tyX10 tyX10_ok nmX10 hown hK.1 hr_7 hS (Or.inl rfl) rfl 6 (by decide) (hts _ fl_X10_16) (fun _ h9 => h9) rfl hin rfl (by decide +kernel) rfl rfl (Nat.le_of_ble_eq_true rfl) dX10_init_25 (fun H locs hn ho hz hS => ?_)
  have hr_11 : va_at (DG E) vwCl (h0, .inr (10, [.int 0, .int 0, .int 0, .int 0, .ref q_1, .ref q_5, .ref q_9, .null, .null, .null, .null, .null, .null, .null, .null, .null, .null, .null, .null, .null, .null, .null, .null, .null, .null, .null, .null, .null, .null, .null, .null, .null, .null, .null, .null, .null, .null, .null, .null, .null, .int 0, .null, .null, .null, .null, .null, .null, .null, .null])) H := hn
  have hr_10 := hr_10.kept (ho _ (Ne.symm neq_9_h0))
  have hT := hT.off hG0 ho
  have hT := hT.add (g := 106) zq_9 (show T0 E (va_up G_8 q_9 106) 106 _ from ⟨by decide, rfl⟩) hr_10
  have hE := hE.add (g := 106) zq_9 szq_9
  have hG0 := (va_up_ne G_8 106 neq_9_h0).trans hG0
  have gq_6 := va_up_self G_8 q_9 106
  have st_6 : ∀ a x, x ≠ 0 → G_8 a = x → va_up G_8 q_9 106 a = x := fun a x h1 h2 => up_k h2 zq_9 h1
  obtain ⟨G_12, eG_12⟩ : ∃ z, z = va_up G_8 q_9 106 := ⟨_, rfl⟩
  rw [← eG_12] at hT hE hG0 gq_6 st_6
  refine lv_aload_n hx hb dX10_init_28 rfl (lv_at hl 0 rfl) ?_
  refine lv_bipush (v := 12) hx hb dX10_init_29 (by decide) ?_
  have hSo : s.heap.size ≤ _ := hS.1
  refine rr_newa (D := DG E) (atype := .int) (N' := 12) (a0 := (12, .inl (fun _ => 0))) hx hb (hts _ ac_int) hK.1 0 rfl hS rfl (by decide) (by decide) (by decide) (Nat.le_of_ble_eq_true rfl) (Nat.le_of_ble_eq_true rfl) dX10_init_31 (fun q_13 H hq hat hz ho hS => ?_)
  have hr_14 := hat
  have zq_13 := hT.fresh hq
  have neq_13_h0 : h0 ≠ q_13 := ne_q hr_11.lt hq
  have hr_11 := hr_11.kept (ho _ hr_11.lt)
  have szq_13 : sz ≤ q_13 := le_q hsz hSo hq
  have hT := hT.kept ho
  refine rr_putF (D := DG E) (ci := 10) (v := .ref q_13) (ty := .array .int) (C := RX10) (T := TX10) (N := 49) hx hb hts iw_X10 tyX10 tyX10_ok nmX10 hown hK.1 hr_11 hS (Or.inl rfl) rfl 7 (by decide) (hts _ fl_X10_19) (fun _ h9 => h9) rfl hin rfl (by decide +kernel) rfl rfl (Nat.le_of_ble_eq_true rfl) dX10_init_33 (fun H locs hn ho hz hS => ?_)
  have hr_15 : va_at (DG E) vwCl (h0, .inr (10, [.int 0, .int 0, .int 0, .int 0, .ref q_1, .ref q_5, .ref q_9, .ref q_13, .null, .null, .null, .null, .null, .null, .null, .null, .null, .null, .null, .null, .null, .null, .null, .null, .null, .null, .null, .null, .null, .null, .null, .null, .null, .null, .null, .null, .null, .null, .null, .null, .int 0, .null, .null, .null, .null, .null, .null, .null, .null])) H := hn
  have hr_14 := hr_14.kept (ho _ (Ne.symm neq_13_h0))
  have hT := hT.off hG0 ho
  have hT := hT.add (g := 107) zq_13 (show T0 E (va_up G_12 q_13 107) 107 _ from ⟨by decide, rfl⟩) hr_14
  have hE := hE.add (g := 107) zq_13 szq_13
  have hG0 := (va_up_ne G_12 107 neq_13_h0).trans hG0
  have gq_7 := va_up_self G_12 q_13 107
  have st_7 : ∀ a x, x ≠ 0 → G_12 a = x → va_up G_12 q_13 107 a = x := fun a x h1 h2 => up_k h2 zq_13 h1
  obtain ⟨G_16, eG_16⟩ : ∃ z, z = va_up G_12 q_13 107 := ⟨_, rfl⟩
  rw [← eG_16] at hT hE hG0 gq_7 st_7
  refine lv_aload_n hx hb dX10_init_36 rfl (lv_at hl 0 rfl) ?_
  refine lv_iconst (v := 2) hx hb dX10_init_37 (by decide) ?_
  have hSo : s.heap.size ≤ _ := hS.1
  refine rr_newa (D := DG E) (atype := .int) (N' := 2) (a0 := (2, .inl (fun _ => 0))) hx hb (hts _ ac_int) hK.1 0 rfl hS rfl (by decide) (by decide) (by decide) (Nat.le_of_ble_eq_true rfl) (Nat.le_of_ble_eq_true rfl) dX10_init_38 (fun q_17 H hq hat hz ho hS => ?_)
  have hr_18 := hat
  have zq_17 := hT.fresh hq
  have neq_17_h0 : h0 ≠ q_17 := ne_q hr_15.lt hq
  have hr_15 := hr_15.kept (ho _ hr_15.lt)
  have szq_17 : sz ≤ q_17 := le_q hsz hSo hq
  have hT := hT.kept ho
  refine rr_putF (D := DG E) (ci := 10) (v := .ref q_17) (ty := .array .int) (C := RX10) (T := TX10) (N := 49) hx hb hts iw_X10 tyX10 tyX10_ok nmX10 hown hK.1 hr_15 hS (Or.inl rfl) rfl 8 (by decide) (hts _ fl_X10_22) (fun _ h9 => h9) rfl hin rfl (by decide +kernel) rfl rfl (Nat.le_of_ble_eq_true rfl) dX10_init_40 (fun H locs hn ho hz hS => ?_)
  have hr_19 : va_at (DG E) vwCl (h0, .inr (10, [.int 0, .int 0, .int 0, .int 0, .ref q_1, .ref q_5, .ref q_9, .ref q_13, .ref q_17, .null, .null, .null, .null, .null, .null, .null, .null, .null, .null, .null, .null, .null, .null, .null, .null, .null, .null, .null, .null, .null, .null, .null, .null, .null, .null, .null, .null, .null, .null, .null, .int 0, .null, .null, .null, .null, .null, .null, .null, .null])) H := hn
  have hr_18 := hr_18.kept (ho _ (Ne.symm neq_17_h0))
  have hT := hT.off hG0 ho
  have hT := hT.add (g := 108) zq_17 (show T0 E (va_up G_16 q_17 108) 108 _ from ⟨by decide, rfl⟩) hr_18
  have hE := hE.add (g := 108) zq_17 szq_17
  have hG0 := (va_up_ne G_16 108 neq_17_h0).trans hG0
  have gq_8 := va_up_self G_16 q_17 108
  have st_8 : ∀ a x, x ≠ 0 → G_16 a = x → va_up G_16 q_17 108 a = x := fun a x h1 h2 => up_k h2 zq_17 h1
  obtain ⟨G_20, eG_20⟩ : ∃ z, z = va_up G_16 q_17 108 := ⟨_, rfl⟩
  rw [← eG_20] at hT hE hG0 gq_8 st_8
  refine lv_aload_n hx hb dX10_init_43 rfl (lv_at hl 0 rfl) ?_
  refine lv_sipush (v := 160) hx hb dX10_init_44 (by decide) ?_
  have hSo : s.heap.size ≤ _ := hS.1
  refine rr_newa (D := DG E) (atype := .int) (N' := 160) (a0 := (160, .inl (fun _ => 0))) hx hb (hts _ ac_int) hK.1 0 rfl hS rfl (by decide) (by decide) (by decide) (Nat.le_of_ble_eq_true rfl) (Nat.le_of_ble_eq_true rfl) dX10_init_47 (fun q_21 H hq hat hz ho hS => ?_)
  have hr_22 := hat
  have zq_21 := hT.fresh hq
  have neq_21_h0 : h0 ≠ q_21 := ne_q hr_19.lt hq
  have hr_19 := hr_19.kept (ho _ hr_19.lt)
  have szq_21 : sz ≤ q_21 := le_q hsz hSo hq
  have hT := hT.kept ho
  refine rr_putF (D := DG E) (ci := 10) (v := .ref q_21) (ty := .array .int) (C := RX10) (T := TX10) (N := 49) hx hb hts iw_X10 tyX10 tyX10_ok nmX10 hown hK.1 hr_19 hS (Or.inl rfl) rfl 9 (by decide) (hts _ fl_X10_25) (fun _ h9 => h9) rfl hin rfl (by decide +kernel) rfl rfl (Nat.le_of_ble_eq_true rfl) dX10_init_49 (fun H locs hn ho hz hS => ?_)
  have hr_23 : va_at (DG E) vwCl (h0, .inr (10, [.int 0, .int 0, .int 0, .int 0, .ref q_1, .ref q_5, .ref q_9, .ref q_13, .ref q_17, .ref q_21, .null, .null, .null, .null, .null, .null, .null, .null, .null, .null, .null, .null, .null, .null, .null, .null, .null, .null, .null, .null, .null, .null, .null, .null, .null, .null, .null, .null, .null, .null, .int 0, .null, .null, .null, .null, .null, .null, .null, .null])) H := hn
  have hr_22 := hr_22.kept (ho _ (Ne.symm neq_21_h0))
  have hT := hT.off hG0 ho
  have hT := hT.add (g := 109) zq_21 (show T0 E (va_up G_20 q_21 109) 109 _ from ⟨by decide, rfl⟩) hr_22
  have hE := hE.add (g := 109) zq_21 szq_21
  have hG0 := (va_up_ne G_20 109 neq_21_h0).trans hG0
  have gq_9 := va_up_self G_20 q_21 109
  have st_9 : ∀ a x, x ≠ 0 → G_20 a = x → va_up G_20 q_21 109 a = x := fun a x h1 h2 => up_k h2 zq_21 h1
  obtain ⟨G_24, eG_24⟩ : ∃ z, z = va_up G_20 q_21 109 := ⟨_, rfl⟩
  rw [← eG_24] at hT hE hG0 gq_9 st_9
  refine lv_aload_n hx hb dX10_init_52 rfl (lv_at hl 0 rfl) ?_
  refine lv_iconst (v := 4) hx hb dX10_init_53 (by decide) ?_
  have hSo : s.heap.size ≤ _ := hS.1
  refine rr_newa (D := DG E) (atype := .int) (N' := 4) (a0 := (4, .inl (fun _ => 0))) hx hb (hts _ ac_int) hK.1 0 rfl hS rfl (by decide) (by decide) (by decide) (Nat.le_of_ble_eq_true rfl) (Nat.le_of_ble_eq_true rfl) dX10_init_54 (fun q_25 H hq hat hz ho hS => ?_)
  have hr_26 := hat
  have zq_25 := hT.fresh hq
  have neq_25_h0 : h0 ≠ q_25 := ne_q hr_23.lt hq
  have hr_23 := hr_23.kept (ho _ hr_23.lt)
  have szq_25 : sz ≤ q_25 := le_q hsz hSo hq
  have hT := hT.kept ho
  refine rr_putF (D := DG E) (ci := 10) (v := .ref q_25) (ty := .array .int) (C := RX10) (T := TX10) (N := 49) hx hb hts iw_X10 tyX10 tyX10_ok nmX10 hown hK.1 hr_23 hS (Or.inl rfl) rfl 10 (by decide) (hts _ fl_X10_28) (fun _ h9 => h9) rfl hin rfl (by decide +kernel) rfl rfl (Nat.le_of_ble_eq_true rfl) dX10_init_56 (fun H locs hn ho hz hS => ?_)
  have hr_27 : va_at (DG E) vwCl (h0, .inr (10, [.int 0, .int 0, .int 0, .int 0, .ref q_1, .ref q_5, .ref q_9, .ref q_13, .ref q_17, .ref q_21, .ref q_25, .null, .null, .null, .null, .null, .null, .null, .null, .null, .null, .null, .null, .null, .null, .null, .null, .null, .null, .null, .null, .null, .null, .null, .null, .null, .null, .null, .null, .null, .int 0, .null, .null, .null, .null, .null, .null, .null, .null])) H := hn
  have hr_26 := hr_26.kept (ho _ (Ne.symm neq_25_h0))
  have hT := hT.off hG0 ho
  have hT := hT.add (g := 110) zq_25 (show T0 E (va_up G_24 q_25 110) 110 _ from ⟨by decide, rfl⟩) hr_26
  have hE := hE.add (g := 110) zq_25 szq_25
  have hG0 := (va_up_ne G_24 110 neq_25_h0).trans hG0
  have gq_10 := va_up_self G_24 q_25 110
  have st_10 : ∀ a x, x ≠ 0 → G_24 a = x → va_up G_24 q_25 110 a = x := fun a x h1 h2 => up_k h2 zq_25 h1
  obtain ⟨G_28, eG_28⟩ : ∃ z, z = va_up G_24 q_25 110 := ⟨_, rfl⟩
  rw [← eG_28] at hT hE hG0 gq_10 st_10
  refine lv_aload_n hx hb dX10_init_59 rfl (lv_at hl 0 rfl) ?_
  refine lv_iconst (v := 4) hx hb dX10_init_60 (by decide) ?_
  have hSo : s.heap.size ≤ _ := hS.1
  refine rr_newa (D := DG E) (atype := .int) (N' := 4) (a0 := (4, .inl (fun _ => 0))) hx hb (hts _ ac_int) hK.1 0 rfl hS rfl (by decide) (by decide) (by decide) (Nat.le_of_ble_eq_true rfl) (Nat.le_of_ble_eq_true rfl) dX10_init_61 (fun q_29 H hq hat hz ho hS => ?_)
  have hr_30 := hat
  have zq_29 := hT.fresh hq
  have neq_29_h0 : h0 ≠ q_29 := ne_q hr_27.lt hq
  have hr_27 := hr_27.kept (ho _ hr_27.lt)
  have szq_29 : sz ≤ q_29 := le_q hsz hSo hq
  have hT := hT.kept ho
  refine rr_putF (D := DG E) (ci := 10) (v := .ref q_29) (ty := .array .int) (C := RX10) (T := TX10) (N := 49) hx hb hts iw_X10 tyX10 tyX10_ok nmX10 hown hK.1 hr_27 hS (Or.inl rfl) rfl 11 (by decide) (hts _ fl_X10_31) (fun _ h9 => h9) rfl hin rfl (by decide +kernel) rfl rfl (Nat.le_of_ble_eq_true rfl) dX10_init_63 (fun H locs hn ho hz hS => ?_)
  have hr_31 : va_at (DG E) vwCl (h0, .inr (10, [.int 0, .int 0, .int 0, .int 0, .ref q_1, .ref q_5, .ref q_9, .ref q_13, .ref q_17, .ref q_21, .ref q_25, .ref q_29, .null, .null, .null, .null, .null, .null, .null, .null, .null, .null, .null, .null, .null, .null, .null, .null, .null, .null, .null, .null, .null, .null, .null, .null, .null, .null, .null, .null, .int 0, .null, .null, .null, .null, .null, .null, .null, .null])) H := hn
  have hr_30 := hr_30.kept (ho _ (Ne.symm neq_29_h0))
  have hT := hT.off hG0 ho
  have hT := hT.add (g := 111) zq_29 (show T0 E (va_up G_28 q_29 111) 111 _ from ⟨by decide, rfl⟩) hr_30
  have hE := hE.add (g := 111) zq_29 szq_29
  have hG0 := (va_up_ne G_28 111 neq_29_h0).trans hG0
  have gq_11 := va_up_self G_28 q_29 111
  have st_11 : ∀ a x, x ≠ 0 → G_28 a = x → va_up G_28 q_29 111 a = x := fun a x h1 h2 => up_k h2 zq_29 h1
  obtain ⟨G_32, eG_32⟩ : ∃ z, z = va_up G_28 q_29 111 := ⟨_, rfl⟩
  rw [← eG_32] at hT hE hG0 gq_11 st_11
  refine lv_aload_n hx hb dX10_init_66 rfl (lv_at hl 0 rfl) ?_
  refine lv_iconst (v := 4) hx hb dX10_init_67 (by decide) ?_
  have hSo : s.heap.size ≤ _ := hS.1
  refine rr_newa (D := DG E) (atype := .int) (N' := 4) (a0 := (4, .inl (fun _ => 0))) hx hb (hts _ ac_int) hK.1 0 rfl hS rfl (by decide) (by decide) (by decide) (Nat.le_of_ble_eq_true rfl) (Nat.le_of_ble_eq_true rfl) dX10_init_68 (fun q_33 H hq hat hz ho hS => ?_)
  have hr_34 := hat
  have zq_33 := hT.fresh hq
  have neq_33_h0 : h0 ≠ q_33 := ne_q hr_31.lt hq
  have hr_31 := hr_31.kept (ho _ hr_31.lt)
  have szq_33 : sz ≤ q_33 := le_q hsz hSo hq
  have hT := hT.kept ho
  refine rr_putF (D := DG E) (ci := 10) (v := .ref q_33) (ty := .array .int) (C := RX10) (T := TX10) (N := 49) hx hb hts iw_X10 tyX10 tyX10_ok nmX10 hown hK.1 hr_31 hS (Or.inl rfl) rfl 12 (by decide) (hts _ fl_X10_34) (fun _ h9 => h9) rfl hin rfl (by decide +kernel) rfl rfl (Nat.le_of_ble_eq_true rfl) dX10_init_70 (fun H locs hn ho hz hS => ?_)
  have hr_35 : va_at (DG E) vwCl (h0, .inr (10, [.int 0, .int 0, .int 0, .int 0, .ref q_1, .ref q_5, .ref q_9, .ref q_13, .ref q_17, .ref q_21, .ref q_25, .ref q_29, .ref q_33, .null, .null, .null, .null, .null, .null, .null, .null, .null, .null, .null, .null, .null, .null, .null, .null, .null, .null, .null, .null, .null, .null, .null, .null, .null, .null, .null, .int 0, .null, .null, .null, .null, .null, .null, .null, .null])) H := hn
  have hr_34 := hr_34.kept (ho _ (Ne.symm neq_33_h0))
  have hT := hT.off hG0 ho
  have hT := hT.add (g := 112) zq_33 (show T0 E (va_up G_32 q_33 112) 112 _ from ⟨by decide, rfl⟩) hr_34
  have hE := hE.add (g := 112) zq_33 szq_33
  have hG0 := (va_up_ne G_32 112 neq_33_h0).trans hG0
  have gq_12 := va_up_self G_32 q_33 112
  have st_12 : ∀ a x, x ≠ 0 → G_32 a = x → va_up G_32 q_33 112 a = x := fun a x h1 h2 => up_k h2 zq_33 h1
  obtain ⟨G_36, eG_36⟩ : ∃ z, z = va_up G_32 q_33 112 := ⟨_, rfl⟩
  rw [← eG_36] at hT hE hG0 gq_12 st_12
  refine lv_aload_n hx hb dX10_init_73 rfl (lv_at hl 0 rfl) ?_
  refine lv_iconst (v := 4) hx hb dX10_init_74 (by decide) ?_
  have hSo : s.heap.size ≤ _ := hS.1
  refine rr_newa (D := DG E) (atype := .int) (N' := 4) (a0 := (4, .inl (fun _ => 0))) hx hb (hts _ ac_int) hK.1 0 rfl hS rfl (by decide) (by decide) (by decide) (Nat.le_of_ble_eq_true rfl) (Nat.le_of_ble_eq_true rfl) dX10_init_75 (fun q_37 H hq hat hz ho hS => ?_)
  have hr_38 := hat
  have zq_37 := hT.fresh hq
  have neq_37_h0 : h0 ≠ q_37 := ne_q hr_35.lt hq
  have hr_35 := hr_35.kept (ho _ hr_35.lt)
  have szq_37 : sz ≤ q_37 := le_q hsz hSo hq
  have hT := hT.kept ho
  refine rr_putF (D := DG E) (ci := 10) (v := .ref q_37) (ty := .array .int) (C := RX10) (T := TX10) (N := 49) hx hb hts iw_X10 tyX10 tyX10_ok nmX10 hown hK.1 hr_35 hS (Or.inl rfl) rfl 13 (by decide) (hts _ fl_X10_37) (fun _ h9 => h9) rfl hin rfl (by decide +kernel) rfl rfl (Nat.le_of_ble_eq_true rfl) dX10_init_77 (fun H locs hn ho hz hS => ?_)
  have hr_39 : va_at (DG E) vwCl (h0, .inr (10, [.int 0, .int 0, .int 0, .int 0, .ref q_1, .ref q_5, .ref q_9, .ref q_13, .ref q_17, .ref q_21, .ref q_25, .ref q_29, .ref q_33, .ref q_37, .null, .null, .null, .null, .null, .null, .null, .null, .null, .null, .null, .null, .null, .null, .null, .null, .null, .null, .null, .null, .null, .null, .null, .null, .null, .null, .int 0, .null, .null, .null, .null, .null, .null, .null, .null])) H := hn
  have hr_38 := hr_38.kept (ho _ (Ne.symm neq_37_h0))
  have hT := hT.off hG0 ho
  have hT := hT.add (g := 113) zq_37 (show T0 E (va_up G_36 q_37 113) 113 _ from ⟨by decide, rfl⟩) hr_38
  have hE := hE.add (g := 113) zq_37 szq_37
  have hG0 := (va_up_ne G_36 113 neq_37_h0).trans hG0
  have gq_13 := va_up_self G_36 q_37 113
  have st_13 : ∀ a x, x ≠ 0 → G_36 a = x → va_up G_36 q_37 113 a = x := fun a x h1 h2 => up_k h2 zq_37 h1
  obtain ⟨G_40, eG_40⟩ : ∃ z, z = va_up G_36 q_37 113 := ⟨_, rfl⟩
  rw [← eG_40] at hT hE hG0 gq_13 st_13
  refine lv_aload_n hx hb dX10_init_80 rfl (lv_at hl 0 rfl) ?_
  refine lv_iconst (v := 4) hx hb dX10_init_81 (by decide) ?_
  have hSo : s.heap.size ≤ _ := hS.1
  refine rr_newa (D := DG E) (atype := .int) (N' := 4) (a0 := (4, .inl (fun _ => 0))) hx hb (hts _ ac_int) hK.1 0 rfl hS rfl (by decide) (by decide) (by decide) (Nat.le_of_ble_eq_true rfl) (Nat.le_of_ble_eq_true rfl) dX10_init_82 (fun q_41 H hq hat hz ho hS => ?_)
  have hr_42 := hat
  have zq_41 := hT.fresh hq
  have neq_41_h0 : h0 ≠ q_41 := ne_q hr_39.lt hq
  have hr_39 := hr_39.kept (ho _ hr_39.lt)
  have szq_41 : sz ≤ q_41 := le_q hsz hSo hq
  have hT := hT.kept ho
  refine rr_putF (D := DG E) (ci := 10) (v := .ref q_41) (ty := .array .int) (C := RX10) (T := TX10) (N := 49) hx hb hts iw_X10 tyX10 tyX10_ok nmX10 hown hK.1 hr_39 hS (Or.inl rfl) rfl 14 (by decide) (hts _ fl_X10_40) (fun _ h9 => h9) rfl hin rfl (by decide +kernel) rfl rfl (Nat.le_of_ble_eq_true rfl) dX10_init_84 (fun H locs hn ho hz hS => ?_)
  have hr_43 : va_at (DG E) vwCl (h0, .inr (10, [.int 0, .int 0, .int 0, .int 0, .ref q_1, .ref q_5, .ref q_9, .ref q_13, .ref q_17, .ref q_21, .ref q_25, .ref q_29, .ref q_33, .ref q_37, .ref q_41, .null, .null, .null, .null, .null, .null, .null, .null, .null, .null, .null, .null, .null, .null, .null, .null, .null, .null, .null, .null, .null, .null, .null, .null, .null, .int 0, .null, .null, .null, .null, .null, .null, .null, .null])) H := hn
  have hr_42 := hr_42.kept (ho _ (Ne.symm neq_41_h0))
  have hT := hT.off hG0 ho
  have hT := hT.add (g := 114) zq_41 (show T0 E (va_up G_40 q_41 114) 114 _ from ⟨by decide, rfl⟩) hr_42
  have hE := hE.add (g := 114) zq_41 szq_41
  have hG0 := (va_up_ne G_40 114 neq_41_h0).trans hG0
  have gq_14 := va_up_self G_40 q_41 114
  have st_14 : ∀ a x, x ≠ 0 → G_40 a = x → va_up G_40 q_41 114 a = x := fun a x h1 h2 => up_k h2 zq_41 h1
  obtain ⟨G_44, eG_44⟩ : ∃ z, z = va_up G_40 q_41 114 := ⟨_, rfl⟩
  rw [← eG_44] at hT hE hG0 gq_14 st_14
  refine lv_aload_n hx hb dX10_init_87 rfl (lv_at hl 0 rfl) ?_
  refine lv_iconst (v := 4) hx hb dX10_init_88 (by decide) ?_
  have hSo : s.heap.size ≤ _ := hS.1
  refine rr_newa (D := DG E) (atype := .int) (N' := 4) (a0 := (4, .inl (fun _ => 0))) hx hb (hts _ ac_int) hK.1 0 rfl hS rfl (by decide) (by decide) (by decide) (Nat.le_of_ble_eq_true rfl) (Nat.le_of_ble_eq_true rfl) dX10_init_89 (fun q_45 H hq hat hz ho hS => ?_)
  have hr_46 := hat
  have zq_45 := hT.fresh hq
  have neq_45_h0 : h0 ≠ q_45 := ne_q hr_43.lt hq
  have hr_43 := hr_43.kept (ho _ hr_43.lt)
  have szq_45 : sz ≤ q_45 := le_q hsz hSo hq
  have hT := hT.kept ho
  refine rr_putF (D := DG E) (ci := 10) (v := .ref q_45) (ty := .array .int) (C := RX10) (T := TX10) (N := 49) hx hb hts iw_X10 tyX10 tyX10_ok nmX10 hown hK.1 hr_43 hS (Or.inl rfl) rfl 15 (by decide) (hts _ fl_X10_43) (fun _ h9 => h9) rfl hin rfl (by decide +kernel) rfl rfl (Nat.le_of_ble_eq_true rfl) dX10_init_91 (fun H locs hn ho hz hS => ?_)
  have hr_47 : va_at (DG E) vwCl (h0, .inr (10, [.int 0, .int 0, .int 0, .int 0, .ref q_1, .ref q_5, .ref q_9, .ref q_13, .ref q_17, .ref q_21, .ref q_25, .ref q_29, .ref q_33, .ref q_37, .ref q_41, .ref q_45, .null, .null, .null, .null, .null, .null, .null, .null, .null, .null, .null, .null, .null, .null, .null, .null, .null, .null, .null, .null, .null, .null, .null, .null, .int 0, .null, .null, .null, .null, .null, .null, .null, .null])) H := hn
  have hr_46 := hr_46.kept (ho _ (Ne.symm neq_45_h0))
  have hT := hT.off hG0 ho
  have hT := hT.add (g := 115) zq_45 (show T0 E (va_up G_44 q_45 115) 115 _ from ⟨by decide, rfl⟩) hr_46
  have hE := hE.add (g := 115) zq_45 szq_45
  have hG0 := (va_up_ne G_44 115 neq_45_h0).trans hG0
  have gq_15 := va_up_self G_44 q_45 115
  have st_15 : ∀ a x, x ≠ 0 → G_44 a = x → va_up G_44 q_45 115 a = x := fun a x h1 h2 => up_k h2 zq_45 h1
  obtain ⟨G_48, eG_48⟩ : ∃ z, z = va_up G_44 q_45 115 := ⟨_, rfl⟩
  rw [← eG_48] at hT hE hG0 gq_15 st_15
  refine lv_aload_n hx hb dX10_init_94 rfl (lv_at hl 0 rfl) ?_
  refine lv_iconst (v := 4) hx hb dX10_init_95 (by decide) ?_
  have hSo : s.heap.size ≤ _ := hS.1
  refine rr_newa (D := DG E) (atype := .int) (N' := 4) (a0 := (4, .inl (fun _ => 0))) hx hb (hts _ ac_int) hK.1 0 rfl hS rfl (by decide) (by decide) (by decide) (Nat.le_of_ble_eq_true rfl) (Nat.le_of_ble_eq_true rfl) dX10_init_96 (fun q_49 H hq hat hz ho hS => ?_)
  have hr_50 := hat
  have zq_49 := hT.fresh hq
  have neq_49_h0 : h0 ≠ q_49 := ne_q hr_47.lt hq
  have hr_47 := hr_47.kept (ho _ hr_47.lt)
  have szq_49 : sz ≤ q_49 := le_q hsz hSo hq
  have hT := hT.kept ho
  refine rr_putF (D := DG E) (ci := 10) (v := .ref q_49) (ty := .array .int) (C := RX10) (T := TX10) (N := 49) hx hb hts iw_X10 tyX10 tyX10_ok nmX10 hown hK.1 hr_47 hS (Or.inl rfl) rfl 16 (by decide) (hts _ fl_X10_46) (fun _ h9 => h9) rfl hin rfl (by decide +kernel) rfl rfl (Nat.le_of_ble_eq_true rfl) dX10_init_98 (fun H locs hn ho hz hS => ?_)
  have hr_51 : va_at (DG E) vwCl (h0, .inr (10, [.int 0, .int 0, .int 0, .int 0, .ref q_1, .ref q_5, .ref q_9, .ref q_13, .ref q_17, .ref q_21, .ref q_25, .ref q_29, .ref q_33, .ref q_37, .ref q_41, .ref q_45, .ref q_49, .null, .null, .null, .null, .null, .null, .null, .null, .null, .null, .null, .null, .null, .null, .null, .null, .null, .null, .null, .null, .null, .null, .null, .int 0, .null, .null, .null, .null, .null, .null, .null, .null])) H := hn
  have hr_50 := hr_50.kept (ho _ (Ne.symm neq_49_h0))
  have hT := hT.off hG0 ho
  have hT := hT.add (g := 116) zq_49 (show T0 E (va_up G_48 q_49 116) 116 _ from ⟨by decide, rfl⟩) hr_50
  have hE := hE.add (g := 116) zq_49 szq_49
  have hG0 := (va_up_ne G_48 116 neq_49_h0).trans hG0
  have gq_16 := va_up_self G_48 q_49 116
  have st_16 : ∀ a x, x ≠ 0 → G_48 a = x → va_up G_48 q_49 116 a = x := fun a x h1 h2 => up_k h2 zq_49 h1
  obtain ⟨G_52, eG_52⟩ : ∃ z, z = va_up G_48 q_49 116 := ⟨_, rfl⟩
  rw [← eG_52] at hT hE hG0 gq_16 st_16
  refine lv_aload_n hx hb dX10_init_101 rfl (lv_at hl 0 rfl) ?_
  refine lv_iconst (v := 4) hx hb dX10_init_102 (by decide) ?_
  have hSo : s.heap.size ≤ _ := hS.1
  refine rr_newa (D := DG E) (atype := .int) (N' := 4) (a0 := (4, .inl (fun _ => 0))) hx hb (hts _ ac_int) hK.1 0 rfl hS rfl (by decide) (by decide) (by decide) (Nat.le_of_ble_eq_true rfl) (Nat.le_of_ble_eq_true rfl) dX10_init_103 (fun q_53 H hq hat hz ho hS => ?_)
  have hr_54 := hat
  have zq_53 := hT.fresh hq
  have neq_53_h0 : h0 ≠ q_53 := ne_q hr_51.lt hq
  have hr_51 := hr_51.kept (ho _ hr_51.lt)
  have szq_53 : sz ≤ q_53 := le_q hsz hSo hq
  have hT := hT.kept ho
  refine rr_putF (D := DG E) (ci := 10) (v := .ref q_53) (ty := .array .int) (C := RX10) (T := TX10) (N := 49) hx hb hts iw_X10 tyX10 tyX10_ok nmX10 hown hK.1 hr_51 hS (Or.inl rfl) rfl 17 (by decide) (hts _ fl_X10_49) (fun _ h9 => h9) rfl hin rfl (by decide +kernel) rfl rfl (Nat.le_of_ble_eq_true rfl) dX10_init_105 (fun H locs hn ho hz hS => ?_)
  have hr_55 : va_at (DG E) vwCl (h0, .inr (10, [.int 0, .int 0, .int 0, .int 0, .ref q_1, .ref q_5, .ref q_9, .ref q_13, .ref q_17, .ref q_21, .ref q_25, .ref q_29, .ref q_33, .ref q_37, .ref q_41, .ref q_45, .ref q_49, .ref q_53, .null, .null, .null, .null, .null, .null, .null, .null, .null, .null, .null, .null, .null, .null, .null, .null, .null, .null, .null, .null, .null, .null, .int 0, .null, .null, .null, .null, .null, .null, .null, .null])) H := hn
  have hr_54 := hr_54.kept (ho _ (Ne.symm neq_53_h0))
  have hT := hT.off hG0 ho
  have hT := hT.add (g := 117) zq_53 (show T0 E (va_up G_52 q_53 117) 117 _ from ⟨by decide, rfl⟩) hr_54
  have hE := hE.add (g := 117) zq_53 szq_53
  have hG0 := (va_up_ne G_52 117 neq_53_h0).trans hG0
  have gq_17 := va_up_self G_52 q_53 117
  have st_17 : ∀ a x, x ≠ 0 → G_52 a = x → va_up G_52 q_53 117 a = x := fun a x h1 h2 => up_k h2 zq_53 h1
  obtain ⟨G_56, eG_56⟩ : ∃ z, z = va_up G_52 q_53 117 := ⟨_, rfl⟩
  rw [← eG_56] at hT hE hG0 gq_17 st_17
  refine lv_aload_n hx hb dX10_init_108 rfl (lv_at hl 0 rfl) ?_
  refine lv_iconst (v := 4) hx hb dX10_init_109 (by decide) ?_
  have hSo : s.heap.size ≤ _ := hS.1
  refine rr_newa (D := DG E) (atype := .boolean) (N' := 4) (a0 := (4, .inl (fun _ => 0))) hx hb (hts _ ac_boolean) hK.1 1 rfl hS rfl (by decide) (by decide) (by decide) (Nat.le_of_ble_eq_true rfl) (Nat.le_of_ble_eq_true rfl) dX10_init_110 (fun q_57 H hq hat hz ho hS => ?_)
  have hr_58 := hat
  have zq_57 := hT.fresh hq
  have neq_57_h0 : h0 ≠ q_57 := ne_q hr_55.lt hq
  have hr_55 := hr_55.kept (ho _ hr_55.lt)
  have szq_57 : sz ≤ q_57 := le_q hsz hSo hq
  have hT := hT.kept ho
  refine rr_putF (D := DG E) (ci := 10) (v := .ref q_57) (ty := .array .boolean) (C := RX10) (T := TX10) (N := 49) hx hb hts iw_X10 tyX10 tyX10_ok nmX10 hown hK.1 hr_55 hS (Or.inl rfl) rfl 18 (by decide) (hts _ fl_X10_52) (fun _ h9 => h9) rfl hin rfl (by decide +kernel) rfl rfl (Nat.le_of_ble_eq_true rfl) dX10_init_112 (fun H locs hn ho hz hS => ?_)
  have hr_59 : va_at (DG E) vwCl (h0, .inr (10, [.int 0, .int 0, .int 0, .int 0, .ref q_1, .ref q_5, .ref q_9, .ref q_13, .ref q_17, .ref q_21, .ref q_25, .ref q_29, .ref q_33, .ref q_37, .ref q_41, .ref q_45, .ref q_49, .ref q_53, .ref q_57, .null, .null, .null, .null, .null, .null, .null, .null, .null, .null, .null, .null, .null, .null, .null, .null, .null, .null, .null, .null, .null, .int 0, .null, .null, .null, .null, .null, .null, .null, .null])) H := hn
  have hr_58 := hr_58.kept (ho _ (Ne.symm neq_57_h0))
  have hT := hT.off hG0 ho
  have hT := hT.add (g := 118) zq_57 (show T0 E (va_up G_56 q_57 118) 118 _ from ⟨by decide, rfl⟩) hr_58
  have hE := hE.add (g := 118) zq_57 szq_57
  have hG0 := (va_up_ne G_56 118 neq_57_h0).trans hG0
  have gq_18 := va_up_self G_56 q_57 118
  have st_18 : ∀ a x, x ≠ 0 → G_56 a = x → va_up G_56 q_57 118 a = x := fun a x h1 h2 => up_k h2 zq_57 h1
  obtain ⟨G_60, eG_60⟩ : ∃ z, z = va_up G_56 q_57 118 := ⟨_, rfl⟩
  rw [← eG_60] at hT hE hG0 gq_18 st_18
  refine lv_aload_n hx hb dX10_init_115 rfl (lv_at hl 0 rfl) ?_
  refine lv_iconst (v := 4) hx hb dX10_init_116 (by decide) ?_
  have hSo : s.heap.size ≤ _ := hS.1
  refine rr_newa (D := DG E) (atype := .boolean) (N' := 4) (a0 := (4, .inl (fun _ => 0))) hx hb (hts _ ac_boolean) hK.1 1 rfl hS rfl (by decide) (by decide) (by decide) (Nat.le_of_ble_eq_true rfl) (Nat.le_of_ble_eq_true rfl) dX10_init_117 (fun q_61 H hq hat hz ho hS => ?_)
  have hr_62 := hat
  have zq_61 := hT.fresh hq
  have neq_61_h0 : h0 ≠ q_61 := ne_q hr_59.lt hq
  have hr_59 := hr_59.kept (ho _ hr_59.lt)
  have szq_61 : sz ≤ q_61 := le_q hsz hSo hq
  have hT := hT.kept ho
  refine rr_putF (D := DG E) (ci := 10) (v := .ref q_61) (ty := .array .boolean) (C := RX10) (T := TX10) (N := 49) hx hb hts iw_X10 tyX10 tyX10_ok nmX10 hown hK.1 hr_59 hS (Or.inl rfl) rfl 19 (by decide) (hts _ fl_X10_56) (fun _ h9 => h9) rfl hin rfl (by decide +kernel) rfl rfl (Nat.le_of_ble_eq_true rfl) dX10_init_119 (fun H locs hn ho hz hS => ?_)
  have hr_63 : va_at (DG E) vwCl (h0, .inr (10, [.int 0, .int 0, .int 0, .int 0, .ref q_1, .ref q_5, .ref q_9, .ref q_13, .ref q_17, .ref q_21, .ref q_25, .ref q_29, .ref q_33, .ref q_37, .ref q_41, .ref q_45, .ref q_49, .ref q_53, .ref q_57, .ref q_61, .null, .null, .null, .null, .null, .null, .null, .null, .null, .null, .null, .null, .null, .null, .null, .null, .null, .null, .null, .null, .int 0, .null, .null, .null, .null, .null, .null, .null, .null])) H := hn
  have hr_62 := hr_62.kept (ho _ (Ne.symm neq_61_h0))
  have hT := hT.off hG0 ho
  have hT := hT.add (g := 119) zq_61 (show T0 E (va_up G_60 q_61 119) 119 _ from ⟨by decide, rfl⟩) hr_62
  have hE := hE.add (g := 119) zq_61 szq_61
  have hG0 := (va_up_ne G_60 119 neq_61_h0).trans hG0
  have gq_19 := va_up_self G_60 q_61 119
  have st_19 : ∀ a x, x ≠ 0 → G_60 a = x → va_up G_60 q_61 119 a = x := fun a x h1 h2 => up_k h2 zq_61 h1
  obtain ⟨G_64, eG_64⟩ : ∃ z, z = va_up G_60 q_61 119 := ⟨_, rfl⟩
  rw [← eG_64] at hT hE hG0 gq_19 st_19
  refine lv_aload_n hx hb dX10_init_122 rfl (lv_at hl 0 rfl) ?_
  refine lv_iconst (v := 4) hx hb dX10_init_123 (by decide) ?_
  have hSo : s.heap.size ≤ _ := hS.1
  refine rr_newa (D := DG E) (atype := .int) (N' := 4) (a0 := (4, .inl (fun _ => 0))) hx hb (hts _ ac_int) hK.1 0 rfl hS rfl (by decide) (by decide) (by decide) (Nat.le_of_ble_eq_true rfl) (Nat.le_of_ble_eq_true rfl) dX10_init_124 (fun q_65 H hq hat hz ho hS => ?_)
  have hr_66 := hat
  have zq_65 := hT.fresh hq
  have neq_65_h0 : h0 ≠ q_65 := ne_q hr_63.lt hq
  have hr_63 := hr_63.kept (ho _ hr_63.lt)
  have szq_65 : sz ≤ q_65 := le_q hsz hSo hq
  have hT := hT.kept ho
  refine rr_putF (D := DG E) (ci := 10) (v := .ref q_65) (ty := .array .int) (C := RX10) (T := TX10) (N := 49) hx hb hts iw_X10 tyX10 tyX10_ok nmX10 hown hK.1 hr_63 hS (Or.inl rfl) rfl 20 (by decide) (hts _ fl_X10_59) (fun _ h9 => h9) rfl hin rfl (by decide +kernel) rfl rfl (Nat.le_of_ble_eq_true rfl) dX10_init_126 (fun H locs hn ho hz hS => ?_)
  have hr_67 : va_at (DG E) vwCl (h0, .inr (10, [.int 0, .int 0, .int 0, .int 0, .ref q_1, .ref q_5, .ref q_9, .ref q_13, .ref q_17, .ref q_21, .ref q_25, .ref q_29, .ref q_33, .ref q_37, .ref q_41, .ref q_45, .ref q_49, .ref q_53, .ref q_57, .ref q_61, .ref q_65, .null, .null, .null, .null, .null, .null, .null, .null, .null, .null, .null, .null, .null, .null, .null, .null, .null, .null, .null, .int 0, .null, .null, .null, .null, .null, .null, .null, .null])) H := hn
  have hr_66 := hr_66.kept (ho _ (Ne.symm neq_65_h0))
  have hT := hT.off hG0 ho
  have hT := hT.add (g := 120) zq_65 (show T0 E (va_up G_64 q_65 120) 120 _ from ⟨by decide, rfl⟩) hr_66
  have hE := hE.add (g := 120) zq_65 szq_65
  have hG0 := (va_up_ne G_64 120 neq_65_h0).trans hG0
  have gq_20 := va_up_self G_64 q_65 120
  have st_20 : ∀ a x, x ≠ 0 → G_64 a = x → va_up G_64 q_65 120 a = x := fun a x h1 h2 => up_k h2 zq_65 h1
  obtain ⟨G_68, eG_68⟩ : ∃ z, z = va_up G_64 q_65 120 := ⟨_, rfl⟩
  rw [← eG_68] at hT hE hG0 gq_20 st_20
  refine lv_aload_n hx hb dX10_init_129 rfl (lv_at hl 0 rfl) ?_
  refine lv_iconst (v := 4) hx hb dX10_init_130 (by decide) ?_
  have hSo : s.heap.size ≤ _ := hS.1
  refine rr_newa (D := DG E) (atype := .int) (N' := 4) (a0 := (4, .inl (fun _ => 0))) hx hb (hts _ ac_int) hK.1 0 rfl hS rfl (by decide) (by decide) (by decide) (Nat.le_of_ble_eq_true rfl) (Nat.le_of_ble_eq_true rfl) dX10_init_131 (fun q_69 H hq hat hz ho hS => ?_)
  have hr_70 := hat
  have zq_69 := hT.fresh hq
  have neq_69_h0 : h0 ≠ q_69 := ne_q hr_67.lt hq
  have hr_67 := hr_67.kept (ho _ hr_67.lt)
  have szq_69 : sz ≤ q_69 := le_q hsz hSo hq
  have hT := hT.kept ho
  refine rr_putF (D := DG E) (ci := 10) (v := .ref q_69) (ty := .array .int) (C := RX10) (T := TX10) (N := 49) hx hb hts iw_X10 tyX10 tyX10_ok nmX10 hown hK.1 hr_67 hS (Or.inl rfl) rfl 21 (by decide) (hts _ fl_X10_62) (fun _ h9 => h9) rfl hin rfl (by decide +kernel) rfl rfl (Nat.le_of_ble_eq_true rfl) dX10_init_133 (fun H locs hn ho hz hS => ?_)
  have hr_71 : va_at (DG E) vwCl (h0, .inr (10, [.int 0, .int 0, .int 0, .int 0, .ref q_1, .ref q_5, .ref q_9, .ref q_13, .ref q_17, .ref q_21, .ref q_25, .ref q_29, .ref q_33, .ref q_37, .ref q_41, .ref q_45, .ref q_49, .ref q_53, .ref q_57, .ref q_61, .ref q_65, .ref q_69, .null, .null, .null, .null, .null, .null, .null, .null, .null, .null, .null, .null, .null, .null, .null, .null, .null, .null, .int 0, .null, .null, .null, .null, .null, .null, .null, .null])) H := hn
  have hr_70 := hr_70.kept (ho _ (Ne.symm neq_69_h0))
  have hT := hT.off hG0 ho
  have hT := hT.add (g := 121) zq_69 (show T0 E (va_up G_68 q_69 121) 121 _ from ⟨by decide, rfl⟩) hr_70
  have hE := hE.add (g := 121) zq_69 szq_69
  have hG0 := (va_up_ne G_68 121 neq_69_h0).trans hG0
  have gq_21 := va_up_self G_68 q_69 121
  have st_21 : ∀ a x, x ≠ 0 → G_68 a = x → va_up G_68 q_69 121 a = x := fun a x h1 h2 => up_k h2 zq_69 h1
  obtain ⟨G_72, eG_72⟩ : ∃ z, z = va_up G_68 q_69 121 := ⟨_, rfl⟩
  rw [← eG_72] at hT hE hG0 gq_21 st_21
  refine lv_aload_n hx hb dX10_init_136 rfl (lv_at hl 0 rfl) ?_
  refine lv_bipush (v := 16) hx hb dX10_init_137 (by decide) ?_
  have hSo : s.heap.size ≤ _ := hS.1
  refine rr_newa (D := DG E) (atype := .int) (N' := 16) (a0 := (16, .inl (fun _ => 0))) hx hb (hts _ ac_int) hK.1 0 rfl hS rfl (by decide) (by decide) (by decide) (Nat.le_of_ble_eq_true rfl) (Nat.le_of_ble_eq_true rfl) dX10_init_139 (fun q_73 H hq hat hz ho hS => ?_)
  have hr_74 := hat
  have zq_73 := hT.fresh hq
  have neq_73_h0 : h0 ≠ q_73 := ne_q hr_71.lt hq
  have hr_71 := hr_71.kept (ho _ hr_71.lt)
  have szq_73 : sz ≤ q_73 := le_q hsz hSo hq
  have hT := hT.kept ho
  refine rr_putF (D := DG E) (ci := 10) (v := .ref q_73) (ty := .array .int) (C := RX10) (T := TX10) (N := 49) hx hb hts iw_X10 tyX10 tyX10_ok nmX10 hown hK.1 hr_71 hS (Or.inl rfl) rfl 22 (by decide) (hts _ fl_X10_65) (fun _ h9 => h9) rfl hin rfl (by decide +kernel) rfl rfl (Nat.le_of_ble_eq_true rfl) dX10_init_141 (fun H locs hn ho hz hS => ?_)
  have hr_75 : va_at (DG E) vwCl (h0, .inr (10, [.int 0, .int 0, .int 0, .int 0, .ref q_1, .ref q_5, .ref q_9, .ref q_13, .ref q_17, .ref q_21, .ref q_25, .ref q_29, .ref q_33, .ref q_37, .ref q_41, .ref q_45, .ref q_49, .ref q_53, .ref q_57, .ref q_61, .ref q_65, .ref q_69, .ref q_73, .null, .null, .null, .null, .null, .null, .null, .null, .null, .null, .null, .null, .null, .null, .null, .null, .null, .int 0, .null, .null, .null, .null, .null, .null, .null, .null])) H := hn
  have hr_74 := hr_74.kept (ho _ (Ne.symm neq_73_h0))
  have hT := hT.off hG0 ho
  have hT := hT.add (g := 122) zq_73 (show T0 E (va_up G_72 q_73 122) 122 _ from ⟨by decide, rfl⟩) hr_74
  have hE := hE.add (g := 122) zq_73 szq_73
  have hG0 := (va_up_ne G_72 122 neq_73_h0).trans hG0
  have gq_22 := va_up_self G_72 q_73 122
  have st_22 : ∀ a x, x ≠ 0 → G_72 a = x → va_up G_72 q_73 122 a = x := fun a x h1 h2 => up_k h2 zq_73 h1
  obtain ⟨G_76, eG_76⟩ : ∃ z, z = va_up G_72 q_73 122 := ⟨_, rfl⟩
  rw [← eG_76] at hT hE hG0 gq_22 st_22
  refine lv_aload_n hx hb dX10_init_144 rfl (lv_at hl 0 rfl) ?_
  refine lv_bipush (v := 16) hx hb dX10_init_145 (by decide) ?_
  have hSo : s.heap.size ≤ _ := hS.1
  refine rr_newa (D := DG E) (atype := .int) (N' := 16) (a0 := (16, .inl (fun _ => 0))) hx hb (hts _ ac_int) hK.1 0 rfl hS rfl (by decide) (by decide) (by decide) (Nat.le_of_ble_eq_true rfl) (Nat.le_of_ble_eq_true rfl) dX10_init_147 (fun q_77 H hq hat hz ho hS => ?_)
  have hr_78 := hat
  have zq_77 := hT.fresh hq
  have neq_77_h0 : h0 ≠ q_77 := ne_q hr_75.lt hq
  have hr_75 := hr_75.kept (ho _ hr_75.lt)
  have szq_77 : sz ≤ q_77 := le_q hsz hSo hq
  have hT := hT.kept ho
  refine rr_putF (D := DG E) (ci := 10) (v := .ref q_77) (ty := .array .int) (C := RX10) (T := TX10) (N := 49) hx hb hts iw_X10 tyX10 tyX10_ok nmX10 hown hK.1 hr_75 hS (Or.inl rfl) rfl 23 (by decide) (hts _ fl_X10_68) (fun _ h9 => h9) rfl hin rfl (by decide +kernel) rfl rfl (Nat.le_of_ble_eq_true rfl) dX10_init_149 (fun H locs hn ho hz hS => ?_)
  have hr_79 : va_at (DG E) vwCl (h0, .inr (10, [.int 0, .int 0, .int 0, .int 0, .ref q_1, .ref q_5, .ref q_9, .ref q_13, .ref q_17, .ref q_21, .ref q_25, .ref q_29, .ref q_33, .ref q_37, .ref q_41, .ref q_45, .ref q_49, .ref q_53, .ref q_57, .ref q_61, .ref q_65, .ref q_69, .ref q_73, .ref q_77, .null, .null, .null, .null, .null, .null, .null, .null, .null, .null, .null, .null, .null, .null, .null, .null, .int 0, .null, .null, .null, .null, .null, .null, .null, .null])) H := hn
  have hr_78 := hr_78.kept (ho _ (Ne.symm neq_77_h0))
  have hT := hT.off hG0 ho
  have hT := hT.add (g := 123) zq_77 (show T0 E (va_up G_76 q_77 123) 123 _ from ⟨by decide, rfl⟩) hr_78
  have hE := hE.add (g := 123) zq_77 szq_77
  have hG0 := (va_up_ne G_76 123 neq_77_h0).trans hG0
  have gq_23 := va_up_self G_76 q_77 123
  have st_23 : ∀ a x, x ≠ 0 → G_76 a = x → va_up G_76 q_77 123 a = x := fun a x h1 h2 => up_k h2 zq_77 h1
  obtain ⟨G_80, eG_80⟩ : ∃ z, z = va_up G_76 q_77 123 := ⟨_, rfl⟩
  rw [← eG_80] at hT hE hG0 gq_23 st_23
  refine lv_aload_n hx hb dX10_init_152 rfl (lv_at hl 0 rfl) ?_
  refine lv_bipush (v := 16) hx hb dX10_init_153 (by decide) ?_
  have hSo : s.heap.size ≤ _ := hS.1
  refine rr_newa (D := DG E) (atype := .int) (N' := 16) (a0 := (16, .inl (fun _ => 0))) hx hb (hts _ ac_int) hK.1 0 rfl hS rfl (by decide) (by decide) (by decide) (Nat.le_of_ble_eq_true rfl) (Nat.le_of_ble_eq_true rfl) dX10_init_155 (fun q_81 H hq hat hz ho hS => ?_)
  have hr_82 := hat
  have zq_81 := hT.fresh hq
  have neq_81_h0 : h0 ≠ q_81 := ne_q hr_79.lt hq
  have hr_79 := hr_79.kept (ho _ hr_79.lt)
  have szq_81 : sz ≤ q_81 := le_q hsz hSo hq
  have hT := hT.kept ho
  refine rr_putF (D := DG E) (ci := 10) (v := .ref q_81) (ty := .array .int) (C := RX10) (T := TX10) (N := 49) hx hb hts iw_X10 tyX10 tyX10_ok nmX10 hown hK.1 hr_79 hS (Or.inl rfl) rfl 24 (by decide) (hts _ fl_X10_71) (fun _ h9 => h9) rfl hin rfl (by decide +kernel) rfl rfl (Nat.le_of_ble_eq_true rfl) dX10_init_157 (fun H locs hn ho hz hS => ?_)
  have hr_83 : va_at (DG E) vwCl (h0, .inr (10, [.int 0, .int 0, .int 0, .int 0, .ref q_1, .ref q_5, .ref q_9, .ref q_13, .ref q_17, .ref q_21, .ref q_25, .ref q_29, .ref q_33, .ref q_37, .ref q_41, .ref q_45, .ref q_49, .ref q_53, .ref q_57, .ref q_61, .ref q_65, .ref q_69, .ref q_73, .ref q_77, .ref q_81, .null, .null, .null, .null, .null, .null, .null, .null, .null, .null, .null, .null, .null, .null, .null, .int 0, .null, .null, .null, .null, .null, .null, .null, .null])) H := hn
  have hr_82 := hr_82.kept (ho _ (Ne.symm neq_81_h0))
  have hT := hT.off hG0 ho
  have hT := hT.add (g := 124) zq_81 (show T0 E (va_up G_80 q_81 124) 124 _ from ⟨by decide, rfl⟩) hr_82
  have hE := hE.add (g := 124) zq_81 szq_81
  have hG0 := (va_up_ne G_80 124 neq_81_h0).trans hG0
  have gq_24 := va_up_self G_80 q_81 124
  have st_24 : ∀ a x, x ≠ 0 → G_80 a = x → va_up G_80 q_81 124 a = x := fun a x h1 h2 => up_k h2 zq_81 h1
  obtain ⟨G_84, eG_84⟩ : ∃ z, z = va_up G_80 q_81 124 := ⟨_, rfl⟩
  rw [← eG_84] at hT hE hG0 gq_24 st_24
  refine lv_aload_n hx hb dX10_init_160 rfl (lv_at hl 0 rfl) ?_
  refine lv_bipush (v := 16) hx hb dX10_init_161 (by decide) ?_
  have hSo : s.heap.size ≤ _ := hS.1
  refine rr_newa (D := DG E) (atype := .int) (N' := 16) (a0 := (16, .inl (fun _ => 0))) hx hb (hts _ ac_int) hK.1 0 rfl hS rfl (by decide) (by decide) (by decide) (Nat.le_of_ble_eq_true rfl) (Nat.le_of_ble_eq_true rfl) dX10_init_163 (fun q_85 H hq hat hz ho hS => ?_)
  have hr_86 := hat
  have zq_85 := hT.fresh hq
  have neq_85_h0 : h0 ≠ q_85 := ne_q hr_83.lt hq
  have hr_83 := hr_83.kept (ho _ hr_83.lt)
  have szq_85 : sz ≤ q_85 := le_q hsz hSo hq
  have hT := hT.kept ho
  refine rr_putF (D := DG E) (ci := 10) (v := .ref q_85) (ty := .array .int) (C := RX10) (T := TX10) (N := 49) hx hb hts iw_X10 tyX10 tyX10_ok nmX10 hown hK.1 hr_83 hS (Or.inl rfl) rfl 25 (by decide) (hts _ fl_X10_74) (fun _ h9 => h9) rfl hin rfl (by decide +kernel) rfl rfl (Nat.le_of_ble_eq_true rfl) dX10_init_165 (fun H locs hn ho hz hS => ?_)
  have hr_87 : va_at (DG E) vwCl (h0, .inr (10, [.int 0, .int 0, .int 0, .int 0, .ref q_1, .ref q_5, .ref q_9, .ref q_13, .ref q_17, .ref q_21, .ref q_25, .ref q_29, .ref q_33, .ref q_37, .ref q_41, .ref q_45, .ref q_49, .ref q_53, .ref q_57, .ref q_61, .ref q_65, .ref q_69, .ref q_73, .ref q_77, .ref q_81, .ref q_85, .null, .null, .null, .null, .null, .null, .null, .null, .null, .null, .null, .null, .null, .null, .int 0, .null, .null, .null, .null, .null, .null, .null, .null])) H := hn
  have hr_86 := hr_86.kept (ho _ (Ne.symm neq_85_h0))
  have hT := hT.off hG0 ho
  have hT := hT.add (g := 125) zq_85 (show T0 E (va_up G_84 q_85 125) 125 _ from ⟨by decide, rfl⟩) hr_86
  have hE := hE.add (g := 125) zq_85 szq_85
  have hG0 := (va_up_ne G_84 125 neq_85_h0).trans hG0
  have gq_25 := va_up_self G_84 q_85 125
  have st_25 : ∀ a x, x ≠ 0 → G_84 a = x → va_up G_84 q_85 125 a = x := fun a x h1 h2 => up_k h2 zq_85 h1
  obtain ⟨G_88, eG_88⟩ : ∃ z, z = va_up G_84 q_85 125 := ⟨_, rfl⟩
  rw [← eG_88] at hT hE hG0 gq_25 st_25
  refine lv_aload_n hx hb dX10_init_168 rfl (lv_at hl 0 rfl) ?_
  refine lv_bipush (v := 16) hx hb dX10_init_169 (by decide) ?_
  have hSo : s.heap.size ≤ _ := hS.1
  refine rr_newa (D := DG E) (atype := .int) (N' := 16) (a0 := (16, .inl (fun _ => 0))) hx hb (hts _ ac_int) hK.1 0 rfl hS rfl (by decide) (by decide) (by decide) (Nat.le_of_ble_eq_true rfl) (Nat.le_of_ble_eq_true rfl) dX10_init_171 (fun q_89 H hq hat hz ho hS => ?_)
  have hr_90 := hat
  have zq_89 := hT.fresh hq
  have neq_89_h0 : h0 ≠ q_89 := ne_q hr_87.lt hq
  have hr_87 := hr_87.kept (ho _ hr_87.lt)
  have szq_89 : sz ≤ q_89 := le_q hsz hSo hq
  have hT := hT.kept ho
  refine rr_putF (D := DG E) (ci := 10) (v := .ref q_89) (ty := .array .int) (C := RX10) (T := TX10) (N := 49) hx hb hts iw_X10 tyX10 tyX10_ok nmX10 hown hK.1 hr_87 hS (Or.inl rfl) rfl 26 (by decide) (hts _ fl_X10_77) (fun _ h9 => h9) rfl hin rfl (by decide +kernel) rfl rfl (Nat.le_of_ble_eq_true rfl) dX10_init_173 (fun H locs hn ho hz hS => ?_)
  have hr_91 : va_at (DG E) vwCl (h0, .inr (10, [.int 0, .int 0, .int 0, .int 0, .ref q_1, .ref q_5, .ref q_9, .ref q_13, .ref q_17, .ref q_21, .ref q_25, .ref q_29, .ref q_33, .ref q_37, .ref q_41, .ref q_45, .ref q_49, .ref q_53, .ref q_57, .ref q_61, .ref q_65, .ref q_69, .ref q_73, .ref q_77, .ref q_81, .ref q_85, .ref q_89, .null, .null, .null, .null, .null, .null, .null, .null, .null, .null, .null, .null, .null, .int 0, .null, .null, .null, .null, .null, .null, .null, .null])) H := hn
  have hr_90 := hr_90.kept (ho _ (Ne.symm neq_89_h0))
  have hT := hT.off hG0 ho
  have hT := hT.add (g := 126) zq_89 (show T0 E (va_up G_88 q_89 126) 126 _ from ⟨by decide, rfl⟩) hr_90
  have hE := hE.add (g := 126) zq_89 szq_89
  have hG0 := (va_up_ne G_88 126 neq_89_h0).trans hG0
  have gq_26 := va_up_self G_88 q_89 126
  have st_26 : ∀ a x, x ≠ 0 → G_88 a = x → va_up G_88 q_89 126 a = x := fun a x h1 h2 => up_k h2 zq_89 h1
  obtain ⟨G_92, eG_92⟩ : ∃ z, z = va_up G_88 q_89 126 := ⟨_, rfl⟩
  rw [← eG_92] at hT hE hG0 gq_26 st_26
  refine lv_aload_n hx hb dX10_init_176 rfl (lv_at hl 0 rfl) ?_
  refine lv_bipush (v := 16) hx hb dX10_init_177 (by decide) ?_
  have hSo : s.heap.size ≤ _ := hS.1
  refine rr_newa (D := DG E) (atype := .int) (N' := 16) (a0 := (16, .inl (fun _ => 0))) hx hb (hts _ ac_int) hK.1 0 rfl hS rfl (by decide) (by decide) (by decide) (Nat.le_of_ble_eq_true rfl) (Nat.le_of_ble_eq_true rfl) dX10_init_179 (fun q_93 H hq hat hz ho hS => ?_)
  have hr_94 := hat
  have zq_93 := hT.fresh hq
  have neq_93_h0 : h0 ≠ q_93 := ne_q hr_91.lt hq
  have hr_91 := hr_91.kept (ho _ hr_91.lt)
  have szq_93 : sz ≤ q_93 := le_q hsz hSo hq
  have hT := hT.kept ho
  refine rr_putF (D := DG E) (ci := 10) (v := .ref q_93) (ty := .array .int) (C := RX10) (T := TX10) (N := 49) hx hb hts iw_X10 tyX10 tyX10_ok nmX10 hown hK.1 hr_91 hS (Or.inl rfl) rfl 27 (by decide) (hts _ fl_X10_80) (fun _ h9 => h9) rfl hin rfl (by decide +kernel) rfl rfl (Nat.le_of_ble_eq_true rfl) dX10_init_181 (fun H locs hn ho hz hS => ?_)
  have hr_95 : va_at (DG E) vwCl (h0, .inr (10, [.int 0, .int 0, .int 0, .int 0, .ref q_1, .ref q_5, .ref q_9, .ref q_13, .ref q_17, .ref q_21, .ref q_25, .ref q_29, .ref q_33, .ref q_37, .ref q_41, .ref q_45, .ref q_49, .ref q_53, .ref q_57, .ref q_61, .ref q_65, .ref q_69, .ref q_73, .ref q_77, .ref q_81, .ref q_85, .ref q_89, .ref q_93, .null, .null, .null, .null, .null, .null, .null, .null, .null, .null, .null, .null, .int 0, .null, .null, .null, .null, .null, .null, .null, .null])) H := hn
  have hr_94 := hr_94.kept (ho _ (Ne.symm neq_93_h0))
  have hT := hT.off hG0 ho
  have hT := hT.add (g := 127) zq_93 (show T0 E (va_up G_92 q_93 127) 127 _ from ⟨by decide, rfl⟩) hr_94
  have hE := hE.add (g := 127) zq_93 szq_93
  have hG0 := (va_up_ne G_92 127 neq_93_h0).trans hG0
  have gq_27 := va_up_self G_92 q_93 127
  have st_27 : ∀ a x, x ≠ 0 → G_92 a = x → va_up G_92 q_93 127 a = x := fun a x h1 h2 => up_k h2 zq_93 h1
  obtain ⟨G_96, eG_96⟩ : ∃ z, z = va_up G_92 q_93 127 := ⟨_, rfl⟩
  rw [← eG_96] at hT hE hG0 gq_27 st_27
  refine lv_aload_n hx hb dX10_init_184 rfl (lv_at hl 0 rfl) ?_
  refine lv_bipush (v := 16) hx hb dX10_init_185 (by decide) ?_
  have hSo : s.heap.size ≤ _ := hS.1
  refine rr_newa (D := DG E) (atype := .int) (N' := 16) (a0 := (16, .inl (fun _ => 0))) hx hb (hts _ ac_int) hK.1 0 rfl hS rfl (by decide) (by decide) (by decide) (Nat.le_of_ble_eq_true rfl) (Nat.le_of_ble_eq_true rfl) dX10_init_187 (fun q_97 H hq hat hz ho hS => ?_)
  have hr_98 := hat
  have zq_97 := hT.fresh hq
  have neq_97_h0 : h0 ≠ q_97 := ne_q hr_95.lt hq
  have hr_95 := hr_95.kept (ho _ hr_95.lt)
  have szq_97 : sz ≤ q_97 := le_q hsz hSo hq
  have hT := hT.kept ho
  refine rr_putF (D := DG E) (ci := 10) (v := .ref q_97) (ty := .array .int) (C := RX10) (T := TX10) (N := 49) hx hb hts iw_X10 tyX10 tyX10_ok nmX10 hown hK.1 hr_95 hS (Or.inl rfl) rfl 28 (by decide) (hts _ fl_X10_83) (fun _ h9 => h9) rfl hin rfl (by decide +kernel) rfl rfl (Nat.le_of_ble_eq_true rfl) dX10_init_189 (fun H locs hn ho hz hS => ?_)
  have hr_99 : va_at (DG E) vwCl (h0, .inr (10, [.int 0, .int 0, .int 0, .int 0, .ref q_1, .ref q_5, .ref q_9, .ref q_13, .ref q_17, .ref q_21, .ref q_25, .ref q_29, .ref q_33, .ref q_37, .ref q_41, .ref q_45, .ref q_49, .ref q_53, .ref q_57, .ref q_61, .ref q_65, .ref q_69, .ref q_73, .ref q_77, .ref q_81, .ref q_85, .ref q_89, .ref q_93, .ref q_97, .null, .null, .null, .null, .null, .null, .null, .null, .null, .null, .null, .int 0, .null, .null, .null, .null, .null, .null, .null, .null])) H := hn
  have hr_98 := hr_98.kept (ho _ (Ne.symm neq_97_h0))
  have hT := hT.off hG0 ho
  have hT := hT.add (g := 128) zq_97 (show T0 E (va_up G_96 q_97 128) 128 _ from ⟨by decide, rfl⟩) hr_98
  have hE := hE.add (g := 128) zq_97 szq_97
  have hG0 := (va_up_ne G_96 128 neq_97_h0).trans hG0
  have gq_28 := va_up_self G_96 q_97 128
  have st_28 : ∀ a x, x ≠ 0 → G_96 a = x → va_up G_96 q_97 128 a = x := fun a x h1 h2 => up_k h2 zq_97 h1
  obtain ⟨G_100, eG_100⟩ : ∃ z, z = va_up G_96 q_97 128 := ⟨_, rfl⟩
  rw [← eG_100] at hT hE hG0 gq_28 st_28
  refine lv_aload_n hx hb dX10_init_192 rfl (lv_at hl 0 rfl) ?_
  refine lv_bipush (v := 16) hx hb dX10_init_193 (by decide) ?_
  have hSo : s.heap.size ≤ _ := hS.1
  refine rr_newa (D := DG E) (atype := .int) (N' := 16) (a0 := (16, .inl (fun _ => 0))) hx hb (hts _ ac_int) hK.1 0 rfl hS rfl (by decide) (by decide) (by decide) (Nat.le_of_ble_eq_true rfl) (Nat.le_of_ble_eq_true rfl) dX10_init_195 (fun q_101 H hq hat hz ho hS => ?_)
  have hr_102 := hat
  have zq_101 := hT.fresh hq
  have neq_101_h0 : h0 ≠ q_101 := ne_q hr_99.lt hq
  have hr_99 := hr_99.kept (ho _ hr_99.lt)
  have szq_101 : sz ≤ q_101 := le_q hsz hSo hq
  have hT := hT.kept ho
  refine rr_putF (D := DG E) (ci := 10) (v := .ref q_101) (ty := .array .int) (C := RX10) (T := TX10) (N := 49) hx hb hts iw_X10 tyX10 tyX10_ok nmX10 hown hK.1 hr_99 hS (Or.inl rfl) rfl 29 (by decide) (hts _ fl_X10_86) (fun _ h9 => h9) rfl hin rfl (by decide +kernel) rfl rfl (Nat.le_of_ble_eq_true rfl) dX10_init_197 (fun H locs hn ho hz hS => ?_)
  have hr_103 : va_at (DG E) vwCl (h0, .inr (10, [.int 0, .int 0, .int 0, .int 0, .ref q_1, .ref q_5, .ref q_9, .ref q_13, .ref q_17, .ref q_21, .ref q_25, .ref q_29, .ref q_33, .ref q_37, .ref q_41, .ref q_45, .ref q_49, .ref q_53, .ref q_57, .ref q_61, .ref q_65, .ref q_69, .ref q_73, .ref q_77, .ref q_81, .ref q_85, .ref q_89, .ref q_93, .ref q_97, .ref q_101, .null, .null, .null, .null, .null, .null, .null, .null, .null, .null, .int 0, .null, .null, .null, .null, .null, .null, .null, .null])) H := hn
  have hr_102 := hr_102.kept (ho _ (Ne.symm neq_101_h0))
  have hT := hT.off hG0 ho
  have hT := hT.add (g := 129) zq_101 (show T0 E (va_up G_100 q_101 129) 129 _ from ⟨by decide, rfl⟩) hr_102
  have hE := hE.add (g := 129) zq_101 szq_101
  have hG0 := (va_up_ne G_100 129 neq_101_h0).trans hG0
  have gq_29 := va_up_self G_100 q_101 129
  have st_29 : ∀ a x, x ≠ 0 → G_100 a = x → va_up G_100 q_101 129 a = x := fun a x h1 h2 => up_k h2 zq_101 h1
  obtain ⟨G_104, eG_104⟩ : ∃ z, z = va_up G_100 q_101 129 := ⟨_, rfl⟩
  rw [← eG_104] at hT hE hG0 gq_29 st_29
  refine lv_aload_n hx hb dX10_init_200 rfl (lv_at hl 0 rfl) ?_
  refine lv_iconst (v := 4) hx hb dX10_init_201 (by decide) ?_
  have hSo : s.heap.size ≤ _ := hS.1
  refine rr_newa (D := DG E) (atype := .int) (N' := 4) (a0 := (4, .inl (fun _ => 0))) hx hb (hts _ ac_int) hK.1 0 rfl hS rfl (by decide) (by decide) (by decide) (Nat.le_of_ble_eq_true rfl) (Nat.le_of_ble_eq_true rfl) dX10_init_202 (fun q_105 H hq hat hz ho hS => ?_)
  have hr_106 := hat
  have zq_105 := hT.fresh hq
  have neq_105_h0 : h0 ≠ q_105 := ne_q hr_103.lt hq
  have hr_103 := hr_103.kept (ho _ hr_103.lt)
  have szq_105 : sz ≤ q_105 := le_q hsz hSo hq
  have hT := hT.kept ho
  refine rr_putF (D := DG E) (ci := 10) (v := .ref q_105) (ty := .array .int) (C := RX10) (T := TX10) (N := 49) hx hb hts iw_X10 tyX10 tyX10_ok nmX10 hown hK.1 hr_103 hS (Or.inl rfl) rfl 30 (by decide) (hts _ fl_X10_89) (fun _ h9 => h9) rfl hin rfl (by decide +kernel) rfl rfl (Nat.le_of_ble_eq_true rfl) dX10_init_204 (fun H locs hn ho hz hS => ?_)
  have hr_107 : va_at (DG E) vwCl (h0, .inr (10, [.int 0, .int 0, .int 0, .int 0, .ref q_1, .ref q_5, .ref q_9, .ref q_13, .ref q_17, .ref q_21, .ref q_25, .ref q_29, .ref q_33, .ref q_37, .ref q_41, .ref q_45, .ref q_49, .ref q_53, .ref q_57, .ref q_61, .ref q_65, .ref q_69, .ref q_73, .ref q_77, .ref q_81, .ref q_85, .ref q_89, .ref q_93, .ref q_97, .ref q_101, .ref q_105, .null, .null, .null, .null, .null, .null, .null, .null, .null, .int 0, .null, .null, .null, .null, .null, .null, .null, .null])) H := hn
  have hr_106 := hr_106.kept (ho _ (Ne.symm neq_105_h0))
  have hT := hT.off hG0 ho
  have hT := hT.add (g := 130) zq_105 (show T0 E (va_up G_104 q_105 130) 130 _ from ⟨by decide, rfl⟩) hr_106
  have hE := hE.add (g := 130) zq_105 szq_105
  have hG0 := (va_up_ne G_104 130 neq_105_h0).trans hG0
  have gq_30 := va_up_self G_104 q_105 130
  have st_30 : ∀ a x, x ≠ 0 → G_104 a = x → va_up G_104 q_105 130 a = x := fun a x h1 h2 => up_k h2 zq_105 h1
  obtain ⟨G_108, eG_108⟩ : ∃ z, z = va_up G_104 q_105 130 := ⟨_, rfl⟩
  rw [← eG_108] at hT hE hG0 gq_30 st_30
  refine lv_aload_n hx hb dX10_init_207 rfl (lv_at hl 0 rfl) ?_
  refine lv_iconst (v := 4) hx hb dX10_init_208 (by decide) ?_
  have hSo : s.heap.size ≤ _ := hS.1
  refine rr_newa (D := DG E) (atype := .int) (N' := 4) (a0 := (4, .inl (fun _ => 0))) hx hb (hts _ ac_int) hK.1 0 rfl hS rfl (by decide) (by decide) (by decide) (Nat.le_of_ble_eq_true rfl) (Nat.le_of_ble_eq_true rfl) dX10_init_209 (fun q_109 H hq hat hz ho hS => ?_)
  have hr_110 := hat
  have zq_109 := hT.fresh hq
  have neq_109_h0 : h0 ≠ q_109 := ne_q hr_107.lt hq
  have hr_107 := hr_107.kept (ho _ hr_107.lt)
  have szq_109 : sz ≤ q_109 := le_q hsz hSo hq
  have hT := hT.kept ho
  refine rr_putF (D := DG E) (ci := 10) (v := .ref q_109) (ty := .array .int) (C := RX10) (T := TX10) (N := 49) hx hb hts iw_X10 tyX10 tyX10_ok nmX10 hown hK.1 hr_107 hS (Or.inl rfl) rfl 31 (by decide) (hts _ fl_X10_92) (fun _ h9 => h9) rfl hin rfl (by decide +kernel) rfl rfl (Nat.le_of_ble_eq_true rfl) dX10_init_211 (fun H locs hn ho hz hS => ?_)
  have hr_111 : va_at (DG E) vwCl (h0, .inr (10, [.int 0, .int 0, .int 0, .int 0, .ref q_1, .ref q_5, .ref q_9, .ref q_13, .ref q_17, .ref q_21, .ref q_25, .ref q_29, .ref q_33, .ref q_37, .ref q_41, .ref q_45, .ref q_49, .ref q_53, .ref q_57, .ref q_61, .ref q_65, .ref q_69, .ref q_73, .ref q_77, .ref q_81, .ref q_85, .ref q_89, .ref q_93, .ref q_97, .ref q_101, .ref q_105, .ref q_109, .null, .null, .null, .null, .null, .null, .null, .null, .int 0, .null, .null, .null, .null, .null, .null, .null, .null])) H := hn
  have hr_110 := hr_110.kept (ho _ (Ne.symm neq_109_h0))
  have hT := hT.off hG0 ho
  have hT := hT.add (g := 131) zq_109 (show T0 E (va_up G_108 q_109 131) 131 _ from ⟨by decide, rfl⟩) hr_110
  have hE := hE.add (g := 131) zq_109 szq_109
  have hG0 := (va_up_ne G_108 131 neq_109_h0).trans hG0
  have gq_31 := va_up_self G_108 q_109 131
  have st_31 : ∀ a x, x ≠ 0 → G_108 a = x → va_up G_108 q_109 131 a = x := fun a x h1 h2 => up_k h2 zq_109 h1
  obtain ⟨G_112, eG_112⟩ : ∃ z, z = va_up G_108 q_109 131 := ⟨_, rfl⟩
  rw [← eG_112] at hT hE hG0 gq_31 st_31
  refine lv_aload_n hx hb dX10_init_214 rfl (lv_at hl 0 rfl) ?_
  refine lv_bipush (v := 16) hx hb dX10_init_215 (by decide) ?_
  have hSo : s.heap.size ≤ _ := hS.1
  refine rr_newa (D := DG E) (atype := .int) (N' := 16) (a0 := (16, .inl (fun _ => 0))) hx hb (hts _ ac_int) hK.1 0 rfl hS rfl (by decide) (by decide) (by decide) (Nat.le_of_ble_eq_true rfl) (Nat.le_of_ble_eq_true rfl) dX10_init_217 (fun q_113 H hq hat hz ho hS => ?_)
  have hr_114 := hat
  have zq_113 := hT.fresh hq
  have neq_113_h0 : h0 ≠ q_113 := ne_q hr_111.lt hq
  have hr_111 := hr_111.kept (ho _ hr_111.lt)
  have szq_113 : sz ≤ q_113 := le_q hsz hSo hq
  have hT := hT.kept ho
  refine rr_putF (D := DG E) (ci := 10) (v := .ref q_113) (ty := .array .int) (C := RX10) (T := TX10) (N := 49) hx hb hts iw_X10 tyX10 tyX10_ok nmX10 hown hK.1 hr_111 hS (Or.inl rfl) rfl 32 (by decide) (hts _ fl_X10_95) (fun _ h9 => h9) rfl hin rfl (by decide +kernel) rfl rfl (Nat.le_of_ble_eq_true rfl) dX10_init_219 (fun H locs hn ho hz hS => ?_)
  have hr_115 : va_at (DG E) vwCl (h0, .inr (10, [.int 0, .int 0, .int 0, .int 0, .ref q_1, .ref q_5, .ref q_9, .ref q_13, .ref q_17, .ref q_21, .ref q_25, .ref q_29, .ref q_33, .ref q_37, .ref q_41, .ref q_45, .ref q_49, .ref q_53, .ref q_57, .ref q_61, .ref q_65, .ref q_69, .ref q_73, .ref q_77, .ref q_81, .ref q_85, .ref q_89, .ref q_93, .ref q_97, .ref q_101, .ref q_105, .ref q_109, .ref q_113, .null, .null, .null, .null, .null, .null, .null, .int 0, .null, .null, .null, .null, .null, .null, .null, .null])) H := hn
  have hr_114 := hr_114.kept (ho _ (Ne.symm neq_113_h0))
  have hT := hT.off hG0 ho
  have hT := hT.add (g := 132) zq_113 (show T0 E (va_up G_112 q_113 132) 132 _ from ⟨by decide, rfl⟩) hr_114
  have hE := hE.add (g := 132) zq_113 szq_113
  have hG0 := (va_up_ne G_112 132 neq_113_h0).trans hG0
  have gq_32 := va_up_self G_112 q_113 132
  have st_32 : ∀ a x, x ≠ 0 → G_112 a = x → va_up G_112 q_113 132 a = x := fun a x h1 h2 => up_k h2 zq_113 h1
  obtain ⟨G_116, eG_116⟩ : ∃ z, z = va_up G_112 q_113 132 := ⟨_, rfl⟩
  rw [← eG_116] at hT hE hG0 gq_32 st_32
  refine lv_aload_n hx hb dX10_init_222 rfl (lv_at hl 0 rfl) ?_
  refine lv_bipush (v := 16) hx hb dX10_init_223 (by decide) ?_
  have hSo : s.heap.size ≤ _ := hS.1
  refine rr_newa (D := DG E) (atype := .int) (N' := 16) (a0 := (16, .inl (fun _ => 0))) hx hb (hts _ ac_int) hK.1 0 rfl hS rfl (by decide) (by decide) (by decide) (Nat.le_of_ble_eq_true rfl) (Nat.le_of_ble_eq_true rfl) dX10_init_225 (fun q_117 H hq hat hz ho hS => ?_)
  have hr_118 := hat
  have zq_117 := hT.fresh hq
  have neq_117_h0 : h0 ≠ q_117 := ne_q hr_115.lt hq
  have hr_115 := hr_115.kept (ho _ hr_115.lt)
  have szq_117 : sz ≤ q_117 := le_q hsz hSo hq
  have hT := hT.kept ho
  refine rr_putF (D := DG E) (ci := 10) (v := .ref q_117) (ty := .array .int) (C := RX10) (T := TX10) (N := 49) hx hb hts iw_X10 tyX10 tyX10_ok nmX10 hown hK.1 hr_115 hS (Or.inl rfl) rfl 33 (by decide) (hts _ fl_X10_98) (fun _ h9 => h9) rfl hin rfl (by decide +kernel) rfl rfl (Nat.le_of_ble_eq_true rfl) dX10_init_227 (fun H locs hn ho hz hS => ?_)
  have hr_119 : va_at (DG E) vwCl (h0, .inr (10, [.int 0, .int 0, .int 0, .int 0, .ref q_1, .ref q_5, .ref q_9, .ref q_13, .ref q_17, .ref q_21, .ref q_25, .ref q_29, .ref q_33, .ref q_37, .ref q_41, .ref q_45, .ref q_49, .ref q_53, .ref q_57, .ref q_61, .ref q_65, .ref q_69, .ref q_73, .ref q_77, .ref q_81, .ref q_85, .ref q_89, .ref q_93, .ref q_97, .ref q_101, .ref q_105, .ref q_109, .ref q_113, .ref q_117, .null, .null, .null, .null, .null, .null, .int 0, .null, .null, .null, .null, .null, .null, .null, .null])) H := hn
  have hr_118 := hr_118.kept (ho _ (Ne.symm neq_117_h0))
  have hT := hT.off hG0 ho
  have hT := hT.add (g := 133) zq_117 (show T0 E (va_up G_116 q_117 133) 133 _ from ⟨by decide, rfl⟩) hr_118
  have hE := hE.add (g := 133) zq_117 szq_117
  have hG0 := (va_up_ne G_116 133 neq_117_h0).trans hG0
  have gq_33 := va_up_self G_116 q_117 133
  have st_33 : ∀ a x, x ≠ 0 → G_116 a = x → va_up G_116 q_117 133 a = x := fun a x h1 h2 => up_k h2 zq_117 h1
  obtain ⟨G_120, eG_120⟩ : ∃ z, z = va_up G_116 q_117 133 := ⟨_, rfl⟩
  rw [← eG_120] at hT hE hG0 gq_33 st_33
  refine lv_aload_n hx hb dX10_init_230 rfl (lv_at hl 0 rfl) ?_
  refine lv_bipush (v := 16) hx hb dX10_init_231 (by decide) ?_
  have hSo : s.heap.size ≤ _ := hS.1
  refine rr_newa (D := DG E) (atype := .int) (N' := 16) (a0 := (16, .inl (fun _ => 0))) hx hb (hts _ ac_int) hK.1 0 rfl hS rfl (by decide) (by decide) (by decide) (Nat.le_of_ble_eq_true rfl) (Nat.le_of_ble_eq_true rfl) dX10_init_233 (fun q_121 H hq hat hz ho hS => ?_)
  have hr_122 := hat
  have zq_121 := hT.fresh hq
  have neq_121_h0 : h0 ≠ q_121 := ne_q hr_119.lt hq
  have hr_119 := hr_119.kept (ho _ hr_119.lt)
  have szq_121 : sz ≤ q_121 := le_q hsz hSo hq
  have hT := hT.kept ho
  refine rr_putF (D := DG E) (ci := 10) (v := .ref q_121) (ty := .array .int) (C := RX10) (T := TX10) (N := 49) hx hb hts iw_X10 tyX10 tyX10_ok nmX10 hown hK.1 hr_119 hS (Or.inl rfl) rfl 34 (by decide) (hts _ fl_X10_101) (fun _ h9 => h9) rfl hin rfl (by decide +kernel) rfl rfl (Nat.le_of_ble_eq_true rfl) dX10_init_235 (fun H locs hn ho hz hS => ?_)
  have hr_123 : va_at (DG E) vwCl (h0, .inr (10, [.int 0, .int 0, .int 0, .int 0, .ref q_1, .ref q_5, .ref q_9, .ref q_13, .ref q_17, .ref q_21, .ref q_25, .ref q_29, .ref q_33, .ref q_37, .ref q_41, .ref q_45, .ref q_49, .ref q_53, .ref q_57, .ref q_61, .ref q_65, .ref q_69, .ref q_73, .ref q_77, .ref q_81, .ref q_85, .ref q_89, .ref q_93, .ref q_97, .ref q_101, .ref q_105, .ref q_109, .ref q_113, .ref q_117, .ref q_121, .null, .null, .null, .null, .null, .int 0, .null, .null, .null, .null, .null, .null, .null, .null])) H := hn
  have hr_122 := hr_122.kept (ho _ (Ne.symm neq_121_h0))
  have hT := hT.off hG0 ho
  have hT := hT.add (g := 134) zq_121 (show T0 E (va_up G_120 q_121 134) 134 _ from ⟨by decide, rfl⟩) hr_122
  have hE := hE.add (g := 134) zq_121 szq_121
  have hG0 := (va_up_ne G_120 134 neq_121_h0).trans hG0
  have gq_34 := va_up_self G_120 q_121 134
  have st_34 : ∀ a x, x ≠ 0 → G_120 a = x → va_up G_120 q_121 134 a = x := fun a x h1 h2 => up_k h2 zq_121 h1
  obtain ⟨G_124, eG_124⟩ : ∃ z, z = va_up G_120 q_121 134 := ⟨_, rfl⟩
  rw [← eG_124] at hT hE hG0 gq_34 st_34
  refine lv_aload_n hx hb dX10_init_238 rfl (lv_at hl 0 rfl) ?_
  refine lv_bipush (v := 16) hx hb dX10_init_239 (by decide) ?_
  have hSo : s.heap.size ≤ _ := hS.1
  refine rr_newa (D := DG E) (atype := .int) (N' := 16) (a0 := (16, .inl (fun _ => 0))) hx hb (hts _ ac_int) hK.1 0 rfl hS rfl (by decide) (by decide) (by decide) (Nat.le_of_ble_eq_true rfl) (Nat.le_of_ble_eq_true rfl) dX10_init_241 (fun q_125 H hq hat hz ho hS => ?_)
  have hr_126 := hat
  have zq_125 := hT.fresh hq
  have neq_125_h0 : h0 ≠ q_125 := ne_q hr_123.lt hq
  have hr_123 := hr_123.kept (ho _ hr_123.lt)
  have szq_125 : sz ≤ q_125 := le_q hsz hSo hq
  have hT := hT.kept ho
  refine rr_putF (D := DG E) (ci := 10) (v := .ref q_125) (ty := .array .int) (C := RX10) (T := TX10) (N := 49) hx hb hts iw_X10 tyX10 tyX10_ok nmX10 hown hK.1 hr_123 hS (Or.inl rfl) rfl 35 (by decide) (hts _ fl_X10_104) (fun _ h9 => h9) rfl hin rfl (by decide +kernel) rfl rfl (Nat.le_of_ble_eq_true rfl) dX10_init_243 (fun H locs hn ho hz hS => ?_)
  have hr_127 : va_at (DG E) vwCl (h0, .inr (10, [.int 0, .int 0, .int 0, .int 0, .ref q_1, .ref q_5, .ref q_9, .ref q_13, .ref q_17, .ref q_21, .ref q_25, .ref q_29, .ref q_33, .ref q_37, .ref q_41, .ref q_45, .ref q_49, .ref q_53, .ref q_57, .ref q_61, .ref q_65, .ref q_69, .ref q_73, .ref q_77, .ref q_81, .ref q_85, .ref q_89, .ref q_93, .ref q_97, .ref q_101, .ref q_105, .ref q_109, .ref q_113, .ref q_117, .ref q_121, .ref q_125, .null, .null, .null, .null, .int 0, .null, .null, .null, .null, .null, .null, .null, .null])) H := hn
  have hr_126 := hr_126.kept (ho _ (Ne.symm neq_125_h0))
  have hT := hT.off hG0 ho
  have hT := hT.add (g := 135) zq_125 (show T0 E (va_up G_124 q_125 135) 135 _ from ⟨by decide, rfl⟩) hr_126
  have hE := hE.add (g := 135) zq_125 szq_125
  have hG0 := (va_up_ne G_124 135 neq_125_h0).trans hG0
  have gq_35 := va_up_self G_124 q_125 135
  have st_35 : ∀ a x, x ≠ 0 → G_124 a = x → va_up G_124 q_125 135 a = x := fun a x h1 h2 => up_k h2 zq_125 h1
  obtain ⟨G_128, eG_128⟩ : ∃ z, z = va_up G_124 q_125 135 := ⟨_, rfl⟩
  rw [← eG_128] at hT hE hG0 gq_35 st_35
  refine lv_aload_n hx hb dX10_init_246 rfl (lv_at hl 0 rfl) ?_
  refine lv_iconst (v := 4) hx hb dX10_init_247 (by decide) ?_
  have hSo : s.heap.size ≤ _ := hS.1
  refine rr_newa (D := DG E) (atype := .boolean) (N' := 4) (a0 := (4, .inl (fun _ => 0))) hx hb (hts _ ac_boolean) hK.1 1 rfl hS rfl (by decide) (by decide) (by decide) (Nat.le_of_ble_eq_true rfl) (Nat.le_of_ble_eq_true rfl) dX10_init_248 (fun q_129 H hq hat hz ho hS => ?_)
  have hr_130 := hat
  have zq_129 := hT.fresh hq
  have neq_129_h0 : h0 ≠ q_129 := ne_q hr_127.lt hq
  have hr_127 := hr_127.kept (ho _ hr_127.lt)
  have szq_129 : sz ≤ q_129 := le_q hsz hSo hq
  have hT := hT.kept ho
  refine rr_putF (D := DG E) (ci := 10) (v := .ref q_129) (ty := .array .boolean) (C := RX10) (T := TX10) (N := 49) hx hb hts iw_X10 tyX10 tyX10_ok nmX10 hown hK.1 hr_127 hS (Or.inl rfl) rfl 36 (by decide) (hts _ fl_X10_107) (fun _ h9 => h9) rfl hin rfl (by decide +kernel) rfl rfl (Nat.le_of_ble_eq_true rfl) dX10_init_250 (fun H locs hn ho hz hS => ?_)
  have hr_131 : va_at (DG E) vwCl (h0, .inr (10, [.int 0, .int 0, .int 0, .int 0, .ref q_1, .ref q_5, .ref q_9, .ref q_13, .ref q_17, .ref q_21, .ref q_25, .ref q_29, .ref q_33, .ref q_37, .ref q_41, .ref q_45, .ref q_49, .ref q_53, .ref q_57, .ref q_61, .ref q_65, .ref q_69, .ref q_73, .ref q_77, .ref q_81, .ref q_85, .ref q_89, .ref q_93, .ref q_97, .ref q_101, .ref q_105, .ref q_109, .ref q_113, .ref q_117, .ref q_121, .ref q_125, .ref q_129, .null, .null, .null, .int 0, .null, .null, .null, .null, .null, .null, .null, .null])) H := hn
  have hr_130 := hr_130.kept (ho _ (Ne.symm neq_129_h0))
  have hT := hT.off hG0 ho
  have hT := hT.add (g := 136) zq_129 (show T0 E (va_up G_128 q_129 136) 136 _ from ⟨by decide, rfl⟩) hr_130
  have hE := hE.add (g := 136) zq_129 szq_129
  have hG0 := (va_up_ne G_128 136 neq_129_h0).trans hG0
  have gq_36 := va_up_self G_128 q_129 136
  have st_36 : ∀ a x, x ≠ 0 → G_128 a = x → va_up G_128 q_129 136 a = x := fun a x h1 h2 => up_k h2 zq_129 h1
  obtain ⟨G_132, eG_132⟩ : ∃ z, z = va_up G_128 q_129 136 := ⟨_, rfl⟩
  rw [← eG_132] at hT hE hG0 gq_36 st_36
  refine lv_aload_n hx hb dX10_init_253 rfl (lv_at hl 0 rfl) ?_
  refine lv_iconst (v := 4) hx hb dX10_init_254 (by decide) ?_
  have hSo : s.heap.size ≤ _ := hS.1
  refine rr_newa (D := DG E) (atype := .int) (N' := 4) (a0 := (4, .inl (fun _ => 0))) hx hb (hts _ ac_int) hK.1 0 rfl hS rfl (by decide) (by decide) (by decide) (Nat.le_of_ble_eq_true rfl) (Nat.le_of_ble_eq_true rfl) dX10_init_255 (fun q_133 H hq hat hz ho hS => ?_)
  have hr_134 := hat
  have zq_133 := hT.fresh hq
  have neq_133_h0 : h0 ≠ q_133 := ne_q hr_131.lt hq
  have hr_131 := hr_131.kept (ho _ hr_131.lt)
  have szq_133 : sz ≤ q_133 := le_q hsz hSo hq
  have hT := hT.kept ho
  refine rr_putF (D := DG E) (ci := 10) (v := .ref q_133) (ty := .array .int) (C := RX10) (T := TX10) (N := 49) hx hb hts iw_X10 tyX10 tyX10_ok nmX10 hown hK.1 hr_131 hS (Or.inl rfl) rfl 37 (by decide) (hts _ fl_X10_110) (fun _ h9 => h9) rfl hin rfl (by decide +kernel) rfl rfl (Nat.le_of_ble_eq_true rfl) dX10_init_257 (fun H locs hn ho hz hS => ?_)
  have hr_135 : va_at (DG E) vwCl (h0, .inr (10, [.int 0, .int 0, .int 0, .int 0, .ref q_1, .ref q_5, .ref q_9, .ref q_13, .ref q_17, .ref q_21, .ref q_25, .ref q_29, .ref q_33, .ref q_37, .ref q_41, .ref q_45, .ref q_49, .ref q_53, .ref q_57, .ref q_61, .ref q_65, .ref q_69, .ref q_73, .ref q_77, .ref q_81, .ref q_85, .ref q_89, .ref q_93, .ref q_97, .ref q_101, .ref q_105, .ref q_109, .ref q_113, .ref q_117, .ref q_121, .ref q_125, .ref q_129, .ref q_133, .null, .null, .int 0, .null, .null, .null, .null, .null, .null, .null, .null])) H := hn
  have hr_134 := hr_134.kept (ho _ (Ne.symm neq_133_h0))
  have hT := hT.off hG0 ho
  have hT := hT.add (g := 137) zq_133 (show T0 E (va_up G_132 q_133 137) 137 _ from ⟨by decide, rfl⟩) hr_134
  have hE := hE.add (g := 137) zq_133 szq_133
  have hG0 := (va_up_ne G_132 137 neq_133_h0).trans hG0
  have gq_37 := va_up_self G_132 q_133 137
  have st_37 : ∀ a x, x ≠ 0 → G_132 a = x → va_up G_132 q_133 137 a = x := fun a x h1 h2 => up_k h2 zq_133 h1
  obtain ⟨G_136, eG_136⟩ : ∃ z, z = va_up G_132 q_133 137 := ⟨_, rfl⟩
  rw [← eG_136] at hT hE hG0 gq_37 st_37
  refine lv_aload_n hx hb dX10_init_260 rfl (lv_at hl 0 rfl) ?_
  refine lv_bipush (v := 8) hx hb dX10_init_261 (by decide) ?_
  have hSo : s.heap.size ≤ _ := hS.1
  refine rr_newa (D := DG E) (atype := .int) (N' := 8) (a0 := (8, .inl (fun _ => 0))) hx hb (hts _ ac_int) hK.1 0 rfl hS rfl (by decide) (by decide) (by decide) (Nat.le_of_ble_eq_true rfl) (Nat.le_of_ble_eq_true rfl) dX10_init_263 (fun q_137 H hq hat hz ho hS => ?_)
  have hr_138 := hat
  have zq_137 := hT.fresh hq
  have neq_137_h0 : h0 ≠ q_137 := ne_q hr_135.lt hq
  have hr_135 := hr_135.kept (ho _ hr_135.lt)
  have szq_137 : sz ≤ q_137 := le_q hsz hSo hq
  have hT := hT.kept ho
  refine rr_putF (D := DG E) (ci := 10) (v := .ref q_137) (ty := .array .int) (C := RX10) (T := TX10) (N := 49) hx hb hts iw_X10 tyX10 tyX10_ok nmX10 hown hK.1 hr_135 hS (Or.inl rfl) rfl 38 (by decide) (hts _ fl_X10_113) (fun _ h9 => h9) rfl hin rfl (by decide +kernel) rfl rfl (Nat.le_of_ble_eq_true rfl) dX10_init_265 (fun H locs hn ho hz hS => ?_)
  have hr_139 : va_at (DG E) vwCl (h0, .inr (10, [.int 0, .int 0, .int 0, .int 0, .ref q_1, .ref q_5, .ref q_9, .ref q_13, .ref q_17, .ref q_21, .ref q_25, .ref q_29, .ref q_33, .ref q_37, .ref q_41, .ref q_45, .ref q_49, .ref q_53, .ref q_57, .ref q_61, .ref q_65, .ref q_69, .ref q_73, .ref q_77, .ref q_81, .ref q_85, .ref q_89, .ref q_93, .ref q_97, .ref q_101, .ref q_105, .ref q_109, .ref q_113, .ref q_117, .ref q_121, .ref q_125, .ref q_129, .ref q_133, .ref q_137, .null, .int 0, .null, .null, .null, .null, .null, .null, .null, .null])) H := hn
  have hr_138 := hr_138.kept (ho _ (Ne.symm neq_137_h0))
  have hT := hT.off hG0 ho
  have hT := hT.add (g := 138) zq_137 (show T0 E (va_up G_136 q_137 138) 138 _ from ⟨by decide, rfl⟩) hr_138
  have hE := hE.add (g := 138) zq_137 szq_137
  have hG0 := (va_up_ne G_136 138 neq_137_h0).trans hG0
  have gq_38 := va_up_self G_136 q_137 138
  have st_38 : ∀ a x, x ≠ 0 → G_136 a = x → va_up G_136 q_137 138 a = x := fun a x h1 h2 => up_k h2 zq_137 h1
  obtain ⟨G_140, eG_140⟩ : ∃ z, z = va_up G_136 q_137 138 := ⟨_, rfl⟩
  rw [← eG_140] at hT hE hG0 gq_38 st_38
  refine lv_aload_n hx hb dX10_init_268 rfl (lv_at hl 0 rfl) ?_
  refine lv_bipush (v := 8) hx hb dX10_init_269 (by decide) ?_
  have hSo : s.heap.size ≤ _ := hS.1
  refine rr_newa (D := DG E) (atype := .int) (N' := 8) (a0 := (8, .inl (fun _ => 0))) hx hb (hts _ ac_int) hK.1 0 rfl hS rfl (by decide) (by decide) (by decide) (Nat.le_of_ble_eq_true rfl) (Nat.le_of_ble_eq_true rfl) dX10_init_271 (fun q_141 H hq hat hz ho hS => ?_)
  have hr_142 := hat
  have zq_141 := hT.fresh hq
  have neq_141_h0 : h0 ≠ q_141 := ne_q hr_139.lt hq
  have hr_139 := hr_139.kept (ho _ hr_139.lt)
  have szq_141 : sz ≤ q_141 := le_q hsz hSo hq
  have hT := hT.kept ho
  refine rr_putF (D := DG E) (ci := 10) (v := .ref q_141) (ty := .array .int) (C := RX10) (T := TX10) (N := 49) hx hb hts iw_X10 tyX10 tyX10_ok nmX10 hown hK.1 hr_139 hS (Or.inl rfl) rfl 39 (by decide) (hts _ fl_X10_116) (fun _ h9 => h9) rfl hin rfl (by decide +kernel) rfl rfl (Nat.le_of_ble_eq_true rfl) dX10_init_273 (fun H locs hn ho hz hS => ?_)
  have hr_143 : va_at (DG E) vwCl (h0, .inr (10, [.int 0, .int 0, .int 0, .int 0, .ref q_1, .ref q_5, .ref q_9, .ref q_13, .ref q_17, .ref q_21, .ref q_25, .ref q_29, .ref q_33, .ref q_37, .ref q_41, .ref q_45, .ref q_49, .ref q_53, .ref q_57, .ref q_61, .ref q_65, .ref q_69, .ref q_73, .ref q_77, .ref q_81, .ref q_85, .ref q_89, .ref q_93, .ref q_97, .ref q_101, .ref q_105, .ref q_109, .ref q_113, .ref q_117, .ref q_121, .ref q_125, .ref q_129, .ref q_133, .ref q_137, .ref q_141, .int 0, .null, .null, .null, .null, .null, .null, .null, .null])) H := hn
  have hr_142 := hr_142.kept (ho _ (Ne.symm neq_141_h0))
  have hT := hT.off hG0 ho
  have hT := hT.add (g := 139) zq_141 (show T0 E (va_up G_140 q_141 139) 139 _ from ⟨by decide, rfl⟩) hr_142
  have hE := hE.add (g := 139) zq_141 szq_141
  have hG0 := (va_up_ne G_140 139 neq_141_h0).trans hG0
  have gq_39 := va_up_self G_140 q_141 139
  have st_39 : ∀ a x, x ≠ 0 → G_140 a = x → va_up G_140 q_141 139 a = x := fun a x h1 h2 => up_k h2 zq_141 h1
  obtain ⟨G_144, eG_144⟩ : ∃ z, z = va_up G_140 q_141 139 := ⟨_, rfl⟩
  rw [← eG_144] at hT hE hG0 gq_39 st_39
  refine lv_aload_n hx hb dX10_init_276 rfl (lv_at hl 0 rfl) ?_
  refine lv_bipush (v := 25) hx hb dX10_init_277 (by decide) ?_
  have hSo : s.heap.size ≤ _ := hS.1
  refine rr_newa (D := DG E) (atype := .int) (N' := 25) (a0 := (25, .inl (fun _ => 0))) hx hb (hts _ ac_int) hK.1 0 rfl hS rfl (by decide) (by decide) (by decide) (Nat.le_of_ble_eq_true rfl) (Nat.le_of_ble_eq_true rfl) dX10_init_279 (fun q_145 H hq hat hz ho hS => ?_)
  have hr_146 := hat
  have zq_145 := hT.fresh hq
  have neq_145_h0 : h0 ≠ q_145 := ne_q hr_143.lt hq
  have hr_143 := hr_143.kept (ho _ hr_143.lt)
  have szq_145 : sz ≤ q_145 := le_q hsz hSo hq
  have hT := hT.kept ho
  refine rr_putF (D := DG E) (ci := 10) (v := .ref q_145) (ty := .array .int) (C := RX10) (T := TX10) (N := 49) hx hb hts iw_X10 tyX10 tyX10_ok nmX10 hown hK.1 hr_143 hS (Or.inl rfl) rfl 41 (by decide) (hts _ fl_X10_119) (fun _ h9 => h9) rfl hin rfl (by decide +kernel) rfl rfl (Nat.le_of_ble_eq_true rfl) dX10_init_281 (fun H locs hn ho hz hS => ?_)
  have hr_147 : va_at (DG E) vwCl (h0, .inr (10, [.int 0, .int 0, .int 0, .int 0, .ref q_1, .ref q_5, .ref q_9, .ref q_13, .ref q_17, .ref q_21, .ref q_25, .ref q_29, .ref q_33, .ref q_37, .ref q_41, .ref q_45, .ref q_49, .ref q_53, .ref q_57, .ref q_61, .ref q_65, .ref q_69, .ref q_73, .ref q_77, .ref q_81, .ref q_85, .ref q_89, .ref q_93, .ref q_97, .ref q_101, .ref q_105, .ref q_109, .ref q_113, .ref q_117, .ref q_121, .ref q_125, .ref q_129, .ref q_133, .ref q_137, .ref q_141, .int 0, .ref q_145, .null, .null, .null, .null, .null, .null, .null])) H := hn
  have hr_146 := hr_146.kept (ho _ (Ne.symm neq_145_h0))
  have hT := hT.off hG0 ho
  have hT := hT.add (g := 141) zq_145 (show T0 E (va_up G_144 q_145 141) 141 _ from ⟨by decide, rfl⟩) hr_146
  have hE := hE.add (g := 141) zq_145 szq_145
  have hG0 := (va_up_ne G_144 141 neq_145_h0).trans hG0
  have gq_41 := va_up_self G_144 q_145 141
  have st_41 : ∀ a x, x ≠ 0 → G_144 a = x → va_up G_144 q_145 141 a = x := fun a x h1 h2 => up_k h2 zq_145 h1
  obtain ⟨G_148, eG_148⟩ : ∃ z, z = va_up G_144 q_145 141 := ⟨_, rfl⟩
  rw [← eG_148] at hT hE hG0 gq_41 st_41
  refine lv_aload_n hx hb dX10_init_284 rfl (lv_at hl 0 rfl) ?_
  refine lv_bipush (v := 25) hx hb dX10_init_285 (by decide) ?_
  have hSo : s.heap.size ≤ _ := hS.1
  refine rr_newa (D := DG E) (atype := .int) (N' := 25) (a0 := (25, .inl (fun _ => 0))) hx hb (hts _ ac_int) hK.1 0 rfl hS rfl (by decide) (by decide) (by decide) (Nat.le_of_ble_eq_true rfl) (Nat.le_of_ble_eq_true rfl) dX10_init_287 (fun q_149 H hq hat hz ho hS => ?_)
  have hr_150 := hat
  have zq_149 := hT.fresh hq
  have neq_149_h0 : h0 ≠ q_149 := ne_q hr_147.lt hq
  have hr_147 := hr_147.kept (ho _ hr_147.lt)
  have szq_149 : sz ≤ q_149 := le_q hsz hSo hq
  have hT := hT.kept ho
  refine rr_putF (D := DG E) (ci := 10) (v := .ref q_149) (ty := .array .int) (C := RX10) (T := TX10) (N := 49) hx hb hts iw_X10 tyX10 tyX10_ok nmX10 hown hK.1 hr_147 hS (Or.inl rfl) rfl 42 (by decide) (hts _ fl_X10_122) (fun _ h9 => h9) rfl hin rfl (by decide +kernel) rfl rfl (Nat.le_of_ble_eq_true rfl) dX10_init_289 (fun H locs hn ho hz hS => ?_)
  have hr_151 : va_at (DG E) vwCl (h0, .inr (10, [.int 0, .int 0, .int 0, .int 0, .ref q_1, .ref q_5, .ref q_9, .ref q_13, .ref q_17, .ref q_21, .ref q_25, .ref q_29, .ref q_33, .ref q_37, .ref q_41, .ref q_45, .ref q_49, .ref q_53, .ref q_57, .ref q_61, .ref q_65, .ref q_69, .ref q_73, .ref q_77, .ref q_81, .ref q_85, .ref q_89, .ref q_93, .ref q_97, .ref q_101, .ref q_105, .ref q_109, .ref q_113, .ref q_117, .ref q_121, .ref q_125, .ref q_129, .ref q_133, .ref q_137, .ref q_141, .int 0, .ref q_145, .ref q_149, .null, .null, .null, .null, .null, .null])) H := hn
  have hr_150 := hr_150.kept (ho _ (Ne.symm neq_149_h0))
  have hT := hT.off hG0 ho
  have hT := hT.add (g := 142) zq_149 (show T0 E (va_up G_148 q_149 142) 142 _ from ⟨by decide, rfl⟩) hr_150
  have hE := hE.add (g := 142) zq_149 szq_149
  have hG0 := (va_up_ne G_148 142 neq_149_h0).trans hG0
  have gq_42 := va_up_self G_148 q_149 142
  have st_42 : ∀ a x, x ≠ 0 → G_148 a = x → va_up G_148 q_149 142 a = x := fun a x h1 h2 => up_k h2 zq_149 h1
  obtain ⟨G_152, eG_152⟩ : ∃ z, z = va_up G_148 q_149 142 := ⟨_, rfl⟩
  rw [← eG_152] at hT hE hG0 gq_42 st_42
  refine lv_aload_n hx hb dX10_init_292 rfl (lv_at hl 0 rfl) ?_
  refine lv_bipush (v := 25) hx hb dX10_init_293 (by decide) ?_
  have hSo : s.heap.size ≤ _ := hS.1
  refine rr_newa (D := DG E) (atype := .int) (N' := 25) (a0 := (25, .inl (fun _ => 0))) hx hb (hts _ ac_int) hK.1 0 rfl hS rfl (by decide) (by decide) (by decide) (Nat.le_of_ble_eq_true rfl) (Nat.le_of_ble_eq_true rfl) dX10_init_295 (fun q_153 H hq hat hz ho hS => ?_)
  have hr_154 := hat
  have zq_153 := hT.fresh hq
  have neq_153_h0 : h0 ≠ q_153 := ne_q hr_151.lt hq
  have hr_151 := hr_151.kept (ho _ hr_151.lt)
  have szq_153 : sz ≤ q_153 := le_q hsz hSo hq
  have hT := hT.kept ho
  refine rr_putF (D := DG E) (ci := 10) (v := .ref q_153) (ty := .array .int) (C := RX10) (T := TX10) (N := 49) hx hb hts iw_X10 tyX10 tyX10_ok nmX10 hown hK.1 hr_151 hS (Or.inl rfl) rfl 43 (by decide) (hts _ fl_X10_125) (fun _ h9 => h9) rfl hin rfl (by decide +kernel) rfl rfl (Nat.le_of_ble_eq_true rfl) dX10_init_297 (fun H locs hn ho hz hS => ?_)
  have hr_155 : va_at (DG E) vwCl (h0, .inr (10, [.int 0, .int 0, .int 0, .int 0, .ref q_1, .ref q_5, .ref q_9, .ref q_13, .ref q_17, .ref q_21, .ref q_25, .ref q_29, .ref q_33, .ref q_37, .ref q_41, .ref q_45, .ref q_49, .ref q_53, .ref q_57, .ref q_61, .ref q_65, .ref q_69, .ref q_73, .ref q_77, .ref q_81, .ref q_85, .ref q_89, .ref q_93, .ref q_97, .ref q_101, .ref q_105, .ref q_109, .ref q_113, .ref q_117, .ref q_121, .ref q_125, .ref q_129, .ref q_133, .ref q_137, .ref q_141, .int 0, .ref q_145, .ref q_149, .ref q_153, .null, .null, .null, .null, .null])) H := hn
  have hr_154 := hr_154.kept (ho _ (Ne.symm neq_153_h0))
  have hT := hT.off hG0 ho
  have hT := hT.add (g := 143) zq_153 (show T0 E (va_up G_152 q_153 143) 143 _ from ⟨by decide, rfl⟩) hr_154
  have hE := hE.add (g := 143) zq_153 szq_153
  have hG0 := (va_up_ne G_152 143 neq_153_h0).trans hG0
  have gq_43 := va_up_self G_152 q_153 143
  have st_43 : ∀ a x, x ≠ 0 → G_152 a = x → va_up G_152 q_153 143 a = x := fun a x h1 h2 => up_k h2 zq_153 h1
  obtain ⟨G_156, eG_156⟩ : ∃ z, z = va_up G_152 q_153 143 := ⟨_, rfl⟩
  rw [← eG_156] at hT hE hG0 gq_43 st_43
  refine lv_aload_n hx hb dX10_init_300 rfl (lv_at hl 0 rfl) ?_
  refine lv_bipush (v := 25) hx hb dX10_init_301 (by decide) ?_
  have hSo : s.heap.size ≤ _ := hS.1
  refine rr_newa (D := DG E) (atype := .int) (N' := 25) (a0 := (25, .inl (fun _ => 0))) hx hb (hts _ ac_int) hK.1 0 rfl hS rfl (by decide) (by decide) (by decide) (Nat.le_of_ble_eq_true rfl) (Nat.le_of_ble_eq_true rfl) dX10_init_303 (fun q_157 H hq hat hz ho hS => ?_)
  have hr_158 := hat
  have zq_157 := hT.fresh hq
  have neq_157_h0 : h0 ≠ q_157 := ne_q hr_155.lt hq
  have hr_155 := hr_155.kept (ho _ hr_155.lt)
  have szq_157 : sz ≤ q_157 := le_q hsz hSo hq
  have hT := hT.kept ho
  refine rr_putF (D := DG E) (ci := 10) (v := .ref q_157) (ty := .array .int) (C := RX10) (T := TX10) (N := 49) hx hb hts iw_X10 tyX10 tyX10_ok nmX10 hown hK.1 hr_155 hS (Or.inl rfl) rfl 44 (by decide) (hts _ fl_X10_128) (fun _ h9 => h9) rfl hin rfl (by decide +kernel) rfl rfl (Nat.le_of_ble_eq_true rfl) dX10_init_305 (fun H locs hn ho hz hS => ?_)
  have hr_159 : va_at (DG E) vwCl (h0, .inr (10, [.int 0, .int 0, .int 0, .int 0, .ref q_1, .ref q_5, .ref q_9, .ref q_13, .ref q_17, .ref q_21, .ref q_25, .ref q_29, .ref q_33, .ref q_37, .ref q_41, .ref q_45, .ref q_49, .ref q_53, .ref q_57, .ref q_61, .ref q_65, .ref q_69, .ref q_73, .ref q_77, .ref q_81, .ref q_85, .ref q_89, .ref q_93, .ref q_97, .ref q_101, .ref q_105, .ref q_109, .ref q_113, .ref q_117, .ref q_121, .ref q_125, .ref q_129, .ref q_133, .ref q_137, .ref q_141, .int 0, .ref q_145, .ref q_149, .ref q_153, .ref q_157, .null, .null, .null, .null])) H := hn
  have hr_158 := hr_158.kept (ho _ (Ne.symm neq_157_h0))
  have hT := hT.off hG0 ho
  have hT := hT.add (g := 144) zq_157 (show T0 E (va_up G_156 q_157 144) 144 _ from ⟨by decide, rfl⟩) hr_158
  have hE := hE.add (g := 144) zq_157 szq_157
  have hG0 := (va_up_ne G_156 144 neq_157_h0).trans hG0
  have gq_44 := va_up_self G_156 q_157 144
  have st_44 : ∀ a x, x ≠ 0 → G_156 a = x → va_up G_156 q_157 144 a = x := fun a x h1 h2 => up_k h2 zq_157 h1
  obtain ⟨G_160, eG_160⟩ : ∃ z, z = va_up G_156 q_157 144 := ⟨_, rfl⟩
  rw [← eG_160] at hT hE hG0 gq_44 st_44
  refine lv_aload_n hx hb dX10_init_308 rfl (lv_at hl 0 rfl) ?_
  refine lv_bipush (v := 25) hx hb dX10_init_309 (by decide) ?_
  have hSo : s.heap.size ≤ _ := hS.1
  refine rr_newa (D := DG E) (atype := .int) (N' := 25) (a0 := (25, .inl (fun _ => 0))) hx hb (hts _ ac_int) hK.1 0 rfl hS rfl (by decide) (by decide) (by decide) (Nat.le_of_ble_eq_true rfl) (Nat.le_of_ble_eq_true rfl) dX10_init_311 (fun q_161 H hq hat hz ho hS => ?_)
  have hr_162 := hat
  have zq_161 := hT.fresh hq
  have neq_161_h0 : h0 ≠ q_161 := ne_q hr_159.lt hq
  have hr_159 := hr_159.kept (ho _ hr_159.lt)
  have szq_161 : sz ≤ q_161 := le_q hsz hSo hq
  have hT := hT.kept ho
  refine rr_putF (D := DG E) (ci := 10) (v := .ref q_161) (ty := .array .int) (C := RX10) (T := TX10) (N := 49) hx hb hts iw_X10 tyX10 tyX10_ok nmX10 hown hK.1 hr_159 hS (Or.inl rfl) rfl 45 (by decide) (hts _ fl_X10_131) (fun _ h9 => h9) rfl hin rfl (by decide +kernel) rfl rfl (Nat.le_of_ble_eq_true rfl) dX10_init_313 (fun H locs hn ho hz hS => ?_)
  have hr_163 : va_at (DG E) vwCl (h0, .inr (10, [.int 0, .int 0, .int 0, .int 0, .ref q_1, .ref q_5, .ref q_9, .ref q_13, .ref q_17, .ref q_21, .ref q_25, .ref q_29, .ref q_33, .ref q_37, .ref q_41, .ref q_45, .ref q_49, .ref q_53, .ref q_57, .ref q_61, .ref q_65, .ref q_69, .ref q_73, .ref q_77, .ref q_81, .ref q_85, .ref q_89, .ref q_93, .ref q_97, .ref q_101, .ref q_105, .ref q_109, .ref q_113, .ref q_117, .ref q_121, .ref q_125, .ref q_129, .ref q_133, .ref q_137, .ref q_141, .int 0, .ref q_145, .ref q_149, .ref q_153, .ref q_157, .ref q_161, .null, .null, .null])) H := hn
  have hr_162 := hr_162.kept (ho _ (Ne.symm neq_161_h0))
  have hT := hT.off hG0 ho
  have hT := hT.add (g := 145) zq_161 (show T0 E (va_up G_160 q_161 145) 145 _ from ⟨by decide, rfl⟩) hr_162
  have hE := hE.add (g := 145) zq_161 szq_161
  have hG0 := (va_up_ne G_160 145 neq_161_h0).trans hG0
  have gq_45 := va_up_self G_160 q_161 145
  have st_45 : ∀ a x, x ≠ 0 → G_160 a = x → va_up G_160 q_161 145 a = x := fun a x h1 h2 => up_k h2 zq_161 h1
  obtain ⟨G_164, eG_164⟩ : ∃ z, z = va_up G_160 q_161 145 := ⟨_, rfl⟩
  rw [← eG_164] at hT hE hG0 gq_45 st_45
  refine lv_aload_n hx hb dX10_init_316 rfl (lv_at hl 0 rfl) ?_
  refine lv_bipush (v := 25) hx hb dX10_init_317 (by decide) ?_
  have hSo : s.heap.size ≤ _ := hS.1
  refine rr_newa (D := DG E) (atype := .int) (N' := 25) (a0 := (25, .inl (fun _ => 0))) hx hb (hts _ ac_int) hK.1 0 rfl hS rfl (by decide) (by decide) (by decide) (Nat.le_of_ble_eq_true rfl) (Nat.le_of_ble_eq_true rfl) dX10_init_319 (fun q_165 H hq hat hz ho hS => ?_)
  have hr_166 := hat
  have zq_165 := hT.fresh hq
  have neq_165_h0 : h0 ≠ q_165 := ne_q hr_163.lt hq
  have hr_163 := hr_163.kept (ho _ hr_163.lt)
  have szq_165 : sz ≤ q_165 := le_q hsz hSo hq
  have hT := hT.kept ho
  refine rr_putF (D := DG E) (ci := 10) (v := .ref q_165) (ty := .array .int) (C := RX10) (T := TX10) (N := 49) hx hb hts iw_X10 tyX10 tyX10_ok nmX10 hown hK.1 hr_163 hS (Or.inl rfl) rfl 46 (by decide) (hts _ fl_X10_134) (fun _ h9 => h9) rfl hin rfl (by decide +kernel) rfl rfl (Nat.le_of_ble_eq_true rfl) dX10_init_321 (fun H locs hn ho hz hS => ?_)
  have hr_167 : va_at (DG E) vwCl (h0, .inr (10, [.int 0, .int 0, .int 0, .int 0, .ref q_1, .ref q_5, .ref q_9, .ref q_13, .ref q_17, .ref q_21, .ref q_25, .ref q_29, .ref q_33, .ref q_37, .ref q_41, .ref q_45, .ref q_49, .ref q_53, .ref q_57, .ref q_61, .ref q_65, .ref q_69, .ref q_73, .ref q_77, .ref q_81, .ref q_85, .ref q_89, .ref q_93, .ref q_97, .ref q_101, .ref q_105, .ref q_109, .ref q_113, .ref q_117, .ref q_121, .ref q_125, .ref q_129, .ref q_133, .ref q_137, .ref q_141, .int 0, .ref q_145, .ref q_149, .ref q_153, .ref q_157, .ref q_161, .ref q_165, .null, .null])) H := hn
  have hr_166 := hr_166.kept (ho _ (Ne.symm neq_165_h0))
  have hT := hT.off hG0 ho
  have hT := hT.add (g := 146) zq_165 (show T0 E (va_up G_164 q_165 146) 146 _ from ⟨by decide, rfl⟩) hr_166
  have hE := hE.add (g := 146) zq_165 szq_165
  have hG0 := (va_up_ne G_164 146 neq_165_h0).trans hG0
  have gq_46 := va_up_self G_164 q_165 146
  have st_46 : ∀ a x, x ≠ 0 → G_164 a = x → va_up G_164 q_165 146 a = x := fun a x h1 h2 => up_k h2 zq_165 h1
  obtain ⟨G_168, eG_168⟩ : ∃ z, z = va_up G_164 q_165 146 := ⟨_, rfl⟩
  rw [← eG_168] at hT hE hG0 gq_46 st_46
  refine lv_aload_n hx hb dX10_init_324 rfl (lv_at hl 0 rfl) ?_
  refine lv_bipush (v := 25) hx hb dX10_init_325 (by decide) ?_
  have hSo : s.heap.size ≤ _ := hS.1
  refine rr_newa (D := DG E) (atype := .int) (N' := 25) (a0 := (25, .inl (fun _ => 0))) hx hb (hts _ ac_int) hK.1 0 rfl hS rfl (by decide) (by decide) (by decide) (Nat.le_of_ble_eq_true rfl) (Nat.le_of_ble_eq_true rfl) dX10_init_327 (fun q_169 H hq hat hz ho hS => ?_)
  have hr_170 := hat
  have zq_169 := hT.fresh hq
  have neq_169_h0 : h0 ≠ q_169 := ne_q hr_167.lt hq
  have hr_167 := hr_167.kept (ho _ hr_167.lt)
  have szq_169 : sz ≤ q_169 := le_q hsz hSo hq
  have hT := hT.kept ho
  refine rr_putF (D := DG E) (ci := 10) (v := .ref q_169) (ty := .array .int) (C := RX10) (T := TX10) (N := 49) hx hb hts iw_X10 tyX10 tyX10_ok nmX10 hown hK.1 hr_167 hS (Or.inl rfl) rfl 47 (by decide) (hts _ fl_X10_137) (fun _ h9 => h9) rfl hin rfl (by decide +kernel) rfl rfl (Nat.le_of_ble_eq_true rfl) dX10_init_329 (fun H locs hn ho hz hS => ?_)
  have hr_171 : va_at (DG E) vwCl (h0, .inr (10, [.int 0, .int 0, .int 0, .int 0, .ref q_1, .ref q_5, .ref q_9, .ref q_13, .ref q_17, .ref q_21, .ref q_25, .ref q_29, .ref q_33, .ref q_37, .ref q_41, .ref q_45, .ref q_49, .ref q_53, .ref q_57, .ref q_61, .ref q_65, .ref q_69, .ref q_73, .ref q_77, .ref q_81, .ref q_85, .ref q_89, .ref q_93, .ref q_97, .ref q_101, .ref q_105, .ref q_109, .ref q_113, .ref q_117, .ref q_121, .ref q_125, .ref q_129, .ref q_133, .ref q_137, .ref q_141, .int 0, .ref q_145, .ref q_149, .ref q_153, .ref q_157, .ref q_161, .ref q_165, .ref q_169, .null])) H := hn
  have hr_170 := hr_170.kept (ho _ (Ne.symm neq_169_h0))
  have hT := hT.off hG0 ho
  have hT := hT.add (g := 147) zq_169 (show T0 E (va_up G_168 q_169 147) 147 _ from ⟨by decide, rfl⟩) hr_170
  have hE := hE.add (g := 147) zq_169 szq_169
  have hG0 := (va_up_ne G_168 147 neq_169_h0).trans hG0
  have gq_47 := va_up_self G_168 q_169 147
  have st_47 : ∀ a x, x ≠ 0 → G_168 a = x → va_up G_168 q_169 147 a = x := fun a x h1 h2 => up_k h2 zq_169 h1
  obtain ⟨G_172, eG_172⟩ : ∃ z, z = va_up G_168 q_169 147 := ⟨_, rfl⟩
  rw [← eG_172] at hT hE hG0 gq_47 st_47
  refine lv_aload_n hx hb dX10_init_332 rfl (lv_at hl 0 rfl) ?_
  refine lv_bipush (v := 100) hx hb dX10_init_333 (by decide) ?_
  have hSo : s.heap.size ≤ _ := hS.1
  refine rr_newa (D := DG E) (atype := .int) (N' := 100) (a0 := (100, .inl (fun _ => 0))) hx hb (hts _ ac_int) hK.1 0 rfl hS rfl (by decide) (by decide) (by decide) (Nat.le_of_ble_eq_true rfl) (Nat.le_of_ble_eq_true rfl) dX10_init_335 (fun q_173 H hq hat hz ho hS => ?_)
  have hr_174 := hat
  have zq_173 := hT.fresh hq
  have neq_173_h0 : h0 ≠ q_173 := ne_q hr_171.lt hq
  have hr_171 := hr_171.kept (ho _ hr_171.lt)
  have szq_173 : sz ≤ q_173 := le_q hsz hSo hq
  have hT := hT.kept ho
  refine rr_putF (D := DG E) (ci := 10) (v := .ref q_173) (ty := .array .int) (C := RX10) (T := TX10) (N := 49) hx hb hts iw_X10 tyX10 tyX10_ok nmX10 hown hK.1 hr_171 hS (Or.inl rfl) rfl 48 (by decide) (hts _ fl_X10_140) (fun _ h9 => h9) rfl hin rfl (by decide +kernel) rfl rfl (Nat.le_of_ble_eq_true rfl) dX10_init_337 (fun H locs hn ho hz hS => ?_)
  have hr_175 : va_at (DG E) vwCl (h0, .inr (10, [.int 0, .int 0, .int 0, .int 0, .ref q_1, .ref q_5, .ref q_9, .ref q_13, .ref q_17, .ref q_21, .ref q_25, .ref q_29, .ref q_33, .ref q_37, .ref q_41, .ref q_45, .ref q_49, .ref q_53, .ref q_57, .ref q_61, .ref q_65, .ref q_69, .ref q_73, .ref q_77, .ref q_81, .ref q_85, .ref q_89, .ref q_93, .ref q_97, .ref q_101, .ref q_105, .ref q_109, .ref q_113, .ref q_117, .ref q_121, .ref q_125, .ref q_129, .ref q_133, .ref q_137, .ref q_141, .int 0, .ref q_145, .ref q_149, .ref q_153, .ref q_157, .ref q_161, .ref q_165, .ref q_169, .ref q_173])) H := hn
  have hr_174 := hr_174.kept (ho _ (Ne.symm neq_173_h0))
  have hT := hT.off hG0 ho
  have hT := hT.add (g := 148) zq_173 (show T0 E (va_up G_172 q_173 148) 148 _ from ⟨by decide, rfl⟩) hr_174
  have hE := hE.add (g := 148) zq_173 szq_173
  have hG0 := (va_up_ne G_172 148 neq_173_h0).trans hG0
  have gq_48 := va_up_self G_172 q_173 148
  have st_48 : ∀ a x, x ≠ 0 → G_172 a = x → va_up G_172 q_173 148 a = x := fun a x h1 h2 => up_k h2 zq_173 h1
  obtain ⟨G_176, eG_176⟩ : ∃ z, z = va_up G_172 q_173 148 := ⟨_, rfl⟩
  rw [← eG_176] at hT hE hG0 gq_48 st_48
  have y_43 : ∀ a x, x ≠ 0 → G_176 a = x → G_176 a = x := fun _ _ _ h => h
  have y_42 : ∀ a x, x ≠ 0 → _ → G_176 a = x := fun a x h1 h2 => y_43 a x h1 (st_48 a x h1 h2)
  have y_41 : ∀ a x, x ≠ 0 → _ → G_176 a = x := fun a x h1 h2 => y_42 a x h1 (st_47 a x h1 h2)
  have y_40 : ∀ a x, x ≠ 0 → _ → G_176 a = x := fun a x h1 h2 => y_41 a x h1 (st_46 a x h1 h2)
  have y_39 : ∀ a x, x ≠ 0 → _ → G_176 a = x := fun a x h1 h2 => y_40 a x h1 (st_45 a x h1 h2)
  have y_38 : ∀ a x, x ≠ 0 → _ → G_176 a = x := fun a x h1 h2 => y_39 a x h1 (st_44 a x h1 h2)
  have y_37 : ∀ a x, x ≠ 0 → _ → G_176 a = x := fun a x h1 h2 => y_38 a x h1 (st_43 a x h1 h2)
  have y_36 : ∀ a x, x ≠ 0 → _ → G_176 a = x := fun a x h1 h2 => y_37 a x h1 (st_42 a x h1 h2)
  have y_35 : ∀ a x, x ≠ 0 → _ → G_176 a = x := fun a x h1 h2 => y_36 a x h1 (st_41 a x h1 h2)
  have y_34 : ∀ a x, x ≠ 0 → _ → G_176 a = x := fun a x h1 h2 => y_35 a x h1 (st_39 a x h1 h2)
  have y_33 : ∀ a x, x ≠ 0 → _ → G_176 a = x := fun a x h1 h2 => y_34 a x h1 (st_38 a x h1 h2)
  have y_32 : ∀ a x, x ≠ 0 → _ → G_176 a = x := fun a x h1 h2 => y_33 a x h1 (st_37 a x h1 h2)
  have y_31 : ∀ a x, x ≠ 0 → _ → G_176 a = x := fun a x h1 h2 => y_32 a x h1 (st_36 a x h1 h2)
  have y_30 : ∀ a x, x ≠ 0 → _ → G_176 a = x := fun a x h1 h2 => y_31 a x h1 (st_35 a x h1 h2)
  have y_29 : ∀ a x, x ≠ 0 → _ → G_176 a = x := fun a x h1 h2 => y_30 a x h1 (st_34 a x h1 h2)
  have y_28 : ∀ a x, x ≠ 0 → _ → G_176 a = x := fun a x h1 h2 => y_29 a x h1 (st_33 a x h1 h2)
  have y_27 : ∀ a x, x ≠ 0 → _ → G_176 a = x := fun a x h1 h2 => y_28 a x h1 (st_32 a x h1 h2)
  have y_26 : ∀ a x, x ≠ 0 → _ → G_176 a = x := fun a x h1 h2 => y_27 a x h1 (st_31 a x h1 h2)
  have y_25 : ∀ a x, x ≠ 0 → _ → G_176 a = x := fun a x h1 h2 => y_26 a x h1 (st_30 a x h1 h2)
  have y_24 : ∀ a x, x ≠ 0 → _ → G_176 a = x := fun a x h1 h2 => y_25 a x h1 (st_29 a x h1 h2)
  have y_23 : ∀ a x, x ≠ 0 → _ → G_176 a = x := fun a x h1 h2 => y_24 a x h1 (st_28 a x h1 h2)
  have y_22 : ∀ a x, x ≠ 0 → _ → G_176 a = x := fun a x h1 h2 => y_23 a x h1 (st_27 a x h1 h2)
  have y_21 : ∀ a x, x ≠ 0 → _ → G_176 a = x := fun a x h1 h2 => y_22 a x h1 (st_26 a x h1 h2)
  have y_20 : ∀ a x, x ≠ 0 → _ → G_176 a = x := fun a x h1 h2 => y_21 a x h1 (st_25 a x h1 h2)
  have y_19 : ∀ a x, x ≠ 0 → _ → G_176 a = x := fun a x h1 h2 => y_20 a x h1 (st_24 a x h1 h2)
  have y_18 : ∀ a x, x ≠ 0 → _ → G_176 a = x := fun a x h1 h2 => y_19 a x h1 (st_23 a x h1 h2)
  have y_17 : ∀ a x, x ≠ 0 → _ → G_176 a = x := fun a x h1 h2 => y_18 a x h1 (st_22 a x h1 h2)
  have y_16 : ∀ a x, x ≠ 0 → _ → G_176 a = x := fun a x h1 h2 => y_17 a x h1 (st_21 a x h1 h2)
  have y_15 : ∀ a x, x ≠ 0 → _ → G_176 a = x := fun a x h1 h2 => y_16 a x h1 (st_20 a x h1 h2)
  have y_14 : ∀ a x, x ≠ 0 → _ → G_176 a = x := fun a x h1 h2 => y_15 a x h1 (st_19 a x h1 h2)
  have y_13 : ∀ a x, x ≠ 0 → _ → G_176 a = x := fun a x h1 h2 => y_14 a x h1 (st_18 a x h1 h2)
  have y_12 : ∀ a x, x ≠ 0 → _ → G_176 a = x := fun a x h1 h2 => y_13 a x h1 (st_17 a x h1 h2)
  have y_11 : ∀ a x, x ≠ 0 → _ → G_176 a = x := fun a x h1 h2 => y_12 a x h1 (st_16 a x h1 h2)
  have y_10 : ∀ a x, x ≠ 0 → _ → G_176 a = x := fun a x h1 h2 => y_11 a x h1 (st_15 a x h1 h2)
  have y_9 : ∀ a x, x ≠ 0 → _ → G_176 a = x := fun a x h1 h2 => y_10 a x h1 (st_14 a x h1 h2)
  have y_8 : ∀ a x, x ≠ 0 → _ → G_176 a = x := fun a x h1 h2 => y_9 a x h1 (st_13 a x h1 h2)
  have y_7 : ∀ a x, x ≠ 0 → _ → G_176 a = x := fun a x h1 h2 => y_8 a x h1 (st_12 a x h1 h2)
  have y_6 : ∀ a x, x ≠ 0 → _ → G_176 a = x := fun a x h1 h2 => y_7 a x h1 (st_11 a x h1 h2)
  have y_5 : ∀ a x, x ≠ 0 → _ → G_176 a = x := fun a x h1 h2 => y_6 a x h1 (st_10 a x h1 h2)
  have y_4 : ∀ a x, x ≠ 0 → _ → G_176 a = x := fun a x h1 h2 => y_5 a x h1 (st_9 a x h1 h2)
  have y_3 : ∀ a x, x ≠ 0 → _ → G_176 a = x := fun a x h1 h2 => y_4 a x h1 (st_8 a x h1 h2)
  have y_2 : ∀ a x, x ≠ 0 → _ → G_176 a = x := fun a x h1 h2 => y_3 a x h1 (st_7 a x h1 h2)
  have y_1 : ∀ a x, x ≠ 0 → _ → G_176 a = x := fun a x h1 h2 => y_2 a x h1 (st_6 a x h1 h2)
  have y_0 : ∀ a x, x ≠ 0 → _ → G_176 a = x := fun a x h1 h2 => y_1 a x h1 (st_5 a x h1 h2)
  obtain ⟨rr, err⟩ : ∃ r : Nat → Nat, r = (fun j => ([0, 0, 0, 0, q_1, q_5, q_9, q_13, q_17, q_21, q_25, q_29, q_33, q_37, q_41, q_45, q_49, q_53, q_57, q_61, q_65, q_69, q_73, q_77, q_81, q_85, q_89, q_93, q_97, q_101, q_105, q_109, q_113, q_117, q_121, q_125, q_129, q_133, q_137, q_141, 0, q_145, q_149, q_153, q_157, q_161, q_165, q_169, q_173] : List Nat).getD j 0) := ⟨_, rfl⟩
  have hrr : ∀ j, 4 ≤ j → j < 49 → j ≠ 40 → G_176 (rr j) = 100 + j := by
    intro j h1 h2 h3
    rw [err]
    rcases (show j = 4 ∨ j = 5 ∨ j = 6 ∨ j = 7 ∨ j = 8 ∨ j = 9 ∨ j = 10 ∨ j = 11 ∨ j = 12 ∨ j = 13 ∨ j = 14 ∨ j = 15 ∨ j = 16 ∨ j = 17 ∨ j = 18 ∨ j = 19 ∨ j = 20 ∨ j = 21 ∨ j = 22 ∨ j = 23 ∨ j = 24 ∨ j = 25 ∨ j = 26 ∨ j = 27 ∨ j = 28 ∨ j = 29 ∨ j = 30 ∨ j = 31 ∨ j = 32 ∨ j = 33 ∨ j = 34 ∨ j = 35 ∨ j = 36 ∨ j = 37 ∨ j = 38 ∨ j = 39 ∨ j = 41 ∨ j = 42 ∨ j = 43 ∨ j = 44 ∨ j = 45 ∨ j = 46 ∨ j = 47 ∨ j = 48 by omega) with rfl | rfl | rfl | rfl | rfl | rfl | rfl | rfl | rfl | rfl | rfl | rfl | rfl | rfl | rfl | rfl | rfl | rfl | rfl | rfl | rfl | rfl | rfl | rfl | rfl | rfl | rfl | rfl | rfl | rfl | rfl | rfl | rfl | rfl | rfl | rfl | rfl | rfl | rfl | rfl | rfl | rfl | rfl | rfl
    · exact y_0 _ _ (by decide) gq_4
    · exact y_1 _ _ (by decide) gq_5
    · exact y_2 _ _ (by decide) gq_6
    · exact y_3 _ _ (by decide) gq_7
    · exact y_4 _ _ (by decide) gq_8
    · exact y_5 _ _ (by decide) gq_9
    · exact y_6 _ _ (by decide) gq_10
    · exact y_7 _ _ (by decide) gq_11
    · exact y_8 _ _ (by decide) gq_12
    · exact y_9 _ _ (by decide) gq_13
    · exact y_10 _ _ (by decide) gq_14
    · exact y_11 _ _ (by decide) gq_15
    · exact y_12 _ _ (by decide) gq_16
    · exact y_13 _ _ (by decide) gq_17
    · exact y_14 _ _ (by decide) gq_18
    · exact y_15 _ _ (by decide) gq_19
    · exact y_16 _ _ (by decide) gq_20
    · exact y_17 _ _ (by decide) gq_21
    · exact y_18 _ _ (by decide) gq_22
    · exact y_19 _ _ (by decide) gq_23
    · exact y_20 _ _ (by decide) gq_24
    · exact y_21 _ _ (by decide) gq_25
    · exact y_22 _ _ (by decide) gq_26
    · exact y_23 _ _ (by decide) gq_27
    · exact y_24 _ _ (by decide) gq_28
    · exact y_25 _ _ (by decide) gq_29
    · exact y_26 _ _ (by decide) gq_30
    · exact y_27 _ _ (by decide) gq_31
    · exact y_28 _ _ (by decide) gq_32
    · exact y_29 _ _ (by decide) gq_33
    · exact y_30 _ _ (by decide) gq_34
    · exact y_31 _ _ (by decide) gq_35
    · exact y_32 _ _ (by decide) gq_36
    · exact y_33 _ _ (by decide) gq_37
    · exact y_34 _ _ (by decide) gq_38
    · exact y_35 _ _ (by decide) gq_39
    · exact y_36 _ _ (by decide) gq_41
    · exact y_37 _ _ (by decide) gq_42
    · exact y_38 _ _ (by decide) gq_43
    · exact y_39 _ _ (by decide) gq_44
    · exact y_40 _ _ (by decide) gq_45
    · exact y_41 _ _ (by decide) gq_46
    · exact y_42 _ _ (by decide) gq_47
    · exact y_43 _ _ (by decide) gq_48
  have hr_177 : va_at (DG E) vwCl (h0, .inr (10, mfs 0 0 0 0 rr 0)) H := by rw [err]; exact hr_175
  refine lv_aload_n hx hb dX10_init_340 rfl (lv_at hl 0 rfl) ?_
  refine lv_iload_n hx hb dX10_init_341 rfl (lv_at hl 1 rfl) ?_
  refine lv_iconst (v := 2) hx hb dX10_init_342 (by decide) ?_
  refine lv_icmp_ge (tgt := 350) hx hb dX10_init_343 (by decide) (fun c_178 => ?_) (fun c_178 => ?_)
  · simp only [lt_I, le_I, eq_I, i_0, i_1, i_2, i_3, i_4, i_5, i_6, i_7, i_8, i_10, i_12, i_16, i_20, i_23, i_24, i_31, i_32, i_63, i_64, i_m1] at c_178
    refine lv_iload_n hx hb dX10_init_350 rfl (lv_at hl 1 rfl) ?_
    refine lv_bipush (v := 20) hx hb dX10_init_351 (by decide) ?_
    refine lv_icmp_le (tgt := 361) hx hb dX10_init_353 (by decide) (fun c_179 => ?_) (fun c_179 => ?_)
    · simp only [lt_I, le_I, eq_I, i_0, i_1, i_2, i_3, i_4, i_5, i_6, i_7, i_8, i_10, i_12, i_16, i_20, i_23, i_24, i_31, i_32, i_63, i_64, i_m1] at c_179
      refine lv_iload_n hx hb dX10_init_361 rfl (lv_at hl 1 rfl) ?_
      refine rr_putF (D := DG E) (ci := 10) (v := .int p0) (ty := .int) (C := RX10) (T := TX10) (N := 49) hx hb hts iw_X10 tyX10 tyX10_ok nmX10 hown hK.1 hr_177 hS (Or.inl rfl) rfl 0 (by decide) (hts _ fl_X10_143) (fun _ h9 => h9) rfl hin rfl (by decide +kernel) rfl rfl (Nat.le_of_ble_eq_true rfl) dX10_init_362 (fun H locs hn ho hz hS => ?_)
      have hr_180 : va_at (DG E) vwCl (h0, .inr (10, mfs p0 0 0 0 rr 0)) H := hn
      have hT := hT.off hG0 ho
      refine lv_aload_n hx hb dX10_init_365 rfl (lv_at hl 0 rfl) ?_
      refine lv_iload_n hx hb dX10_init_366 rfl (lv_at hl 2 rfl) ?_
      refine lv_if_ge (tgt := 374) hx hb dX10_init_367 (by decide) (fun c_181 => ?_) (fun c_181 => ?_)
      · simp only [lt_I, le_I, eq_I, i_0, i_1, i_2, i_3, i_4, i_5, i_6, i_7, i_8, i_10, i_12, i_16, i_20, i_23, i_24, i_31, i_32, i_63, i_64, i_m1] at c_181
        refine lv_iload_n hx hb dX10_init_374 rfl (lv_at hl 2 rfl) ?_
        refine lv_bipush (v := 7) hx hb dX10_init_375 (by decide) ?_
        refine lv_icmp_le (tgt := 385) hx hb dX10_init_377 (by decide) (fun c_182 => ?_) (fun c_182 => ?_)
        · simp only [lt_I, le_I, eq_I, i_0, i_1, i_2, i_3, i_4, i_5, i_6, i_7, i_8, i_10, i_12, i_16, i_20, i_23, i_24, i_31, i_32, i_63, i_64, i_m1] at c_182
          refine lv_iload_n hx hb dX10_init_385 rfl (lv_at hl 2 rfl) ?_
          refine rr_putF (D := DG E) (ci := 10) (v := .int p1) (ty := .int) (C := RX10) (T := TX10) (N := 49) hx hb hts iw_X10 tyX10 tyX10_ok nmX10 hown hK.1 hr_180 hS (Or.inl rfl) rfl 1 (by decide) (hts _ fl_X10_147) (fun _ h9 => h9) rfl hin rfl (by decide +kernel) rfl rfl (Nat.le_of_ble_eq_true rfl) dX10_init_386 (fun H locs hn ho hz hS => ?_)
          have hr_183 : va_at (DG E) vwCl (h0, .inr (10, mfs p0 p1 0 0 rr 0)) H := hn
          have hT := hT.off hG0 ho
          refine lv_aload_n hx hb dX10_init_389 rfl (lv_at hl 0 rfl) ?_
          refine lv_iload_n hx hb dX10_init_390 rfl (lv_at hl 3 rfl) ?_
          refine lv_if_ge (tgt := 398) hx hb dX10_init_391 (by decide) (fun c_184 => ?_) (fun c_184 => ?_)
          · simp only [lt_I, le_I, eq_I, i_0, i_1, i_2, i_3, i_4, i_5, i_6, i_7, i_8, i_10, i_12, i_16, i_20, i_23, i_24, i_31, i_32, i_63, i_64, i_m1] at c_184
            refine lv_iload_n hx hb dX10_init_398 rfl (lv_at hl 3 rfl) ?_
            refine lv_bipush (v := 7) hx hb dX10_init_399 (by decide) ?_
            refine lv_icmp_le (tgt := 409) hx hb dX10_init_401 (by decide) (fun c_185 => ?_) (fun c_185 => ?_)
            · simp only [lt_I, le_I, eq_I, i_0, i_1, i_2, i_3, i_4, i_5, i_6, i_7, i_8, i_10, i_12, i_16, i_20, i_23, i_24, i_31, i_32, i_63, i_64, i_m1] at c_185
              refine lv_iload_n hx hb dX10_init_409 rfl (lv_at hl 3 rfl) ?_
              refine rr_putF (D := DG E) (ci := 10) (v := .int p2) (ty := .int) (C := RX10) (T := TX10) (N := 49) hx hb hts iw_X10 tyX10 tyX10_ok nmX10 hown hK.1 hr_183 hS (Or.inl rfl) rfl 2 (by decide) (hts _ fl_X10_150) (fun _ h9 => h9) rfl hin rfl (by decide +kernel) rfl rfl (Nat.le_of_ble_eq_true rfl) dX10_init_410 (fun H locs hn ho hz hS => ?_)
              have hr_186 : va_at (DG E) vwCl (h0, .inr (10, mfs p0 p1 p2 0 rr 0)) H := hn
              have hT := hT.off hG0 ho
              have hT := hT.add (g := 20) hG0 (show T0 E (va_up G_176 h0 20) 20 _ from ⟨p0, p1, p2, rr, rfl, fun j a b c => up_k (hrr j a b c) hG0 (by omega)⟩) hr_186
              have ew0 : p0 = wi p0 2 20 := wi_20 (by omega)
              have ew1 : p1 = wi p1 0 7 := wi_7 (by omega)
              have ew2 : p2 = wi p2 0 7 := wi_7 (by omega)
              have hat9 := hr_186
              rw [show (mfs p0 p1 p2 0 rr 0) = mfs (wi p0 2 20) (wi p1 0 7) (wi p2 0 7) 0 rr 0 by rw [← ew0, ← ew1, ← ew2]] at hat9
              exact W.vret hx hb hr (fun t ht hW => ⟨⟨_, rfl, hE.fin hG0, by rw [ht]; exact hT, rr, by rw [ht]; exact hat9, fun j a b c => up_k (hrr j a b c) hG0 (by omega)⟩, hS.F ht⟩) hS.2.2 dX10_init_413
            · simp only [lt_I, le_I, eq_I, i_0, i_1, i_2, i_3, i_4, i_5, i_6, i_7, i_8, i_10, i_12, i_16, i_20, i_23, i_24, i_31, i_32, i_63, i_64, i_m1] at c_185
              refine lv_bipush (v := 7) hx hb dX10_init_404 (by decide) ?_
              refine lv_goto (tgt := 410) hx hb dX10_init_406 (by decide) ?_
              refine rr_putF (D := DG E) (ci := 10) (v := .int 7) (ty := .int) (C := RX10) (T := TX10) (N := 49) hx hb hts iw_X10 tyX10 tyX10_ok nmX10 hown hK.1 hr_183 hS (Or.inl rfl) rfl 2 (by decide) (hts _ fl_X10_150) (fun _ h9 => h9) rfl hin rfl (by decide +kernel) rfl rfl (Nat.le_of_ble_eq_true rfl) dX10_init_410 (fun H locs hn ho hz hS => ?_)
              have hr_187 : va_at (DG E) vwCl (h0, .inr (10, mfs p0 p1 7 0 rr 0)) H := hn
              have hT := hT.off hG0 ho
              have hT := hT.add (g := 20) hG0 (show T0 E (va_up G_176 h0 20) 20 _ from ⟨p0, p1, 7, rr, rfl, fun j a b c => up_k (hrr j a b c) hG0 (by omega)⟩) hr_187
              have ew0 : p0 = wi p0 2 20 := wi_20 (by omega)
              have ew1 : p1 = wi p1 0 7 := wi_7 (by omega)
              have ew2 : 7 = wi p2 0 7 := wi_7 (by rw [i_7]; omega)
              have hat9 := hr_187
              rw [show (mfs p0 p1 7 0 rr 0) = mfs (wi p0 2 20) (wi p1 0 7) (wi p2 0 7) 0 rr 0 by rw [← ew0, ← ew1, ← ew2]] at hat9
              exact W.vret hx hb hr (fun t ht hW => ⟨⟨_, rfl, hE.fin hG0, by rw [ht]; exact hT, rr, by rw [ht]; exact hat9, fun j a b c => up_k (hrr j a b c) hG0 (by omega)⟩, hS.F ht⟩) hS.2.2 dX10_init_413
          · simp only [lt_I, le_I, eq_I, i_0, i_1, i_2, i_3, i_4, i_5, i_6, i_7, i_8, i_10, i_12, i_16, i_20, i_23, i_24, i_31, i_32, i_63, i_64, i_m1] at c_184
            refine lv_iconst (v := 0) hx hb dX10_init_394 (by decide) ?_
            refine lv_goto (tgt := 410) hx hb dX10_init_395 (by decide) ?_
            refine rr_putF (D := DG E) (ci := 10) (v := .int 0) (ty := .int) (C := RX10) (T := TX10) (N := 49) hx hb hts iw_X10 tyX10 tyX10_ok nmX10 hown hK.1 hr_183 hS (Or.inl rfl) rfl 2 (by decide) (hts _ fl_X10_150) (fun _ h9 => h9) rfl hin rfl (by decide +kernel) rfl rfl (Nat.le_of_ble_eq_true rfl) dX10_init_410 (fun H locs hn ho hz hS => ?_)
            have hr_188 : va_at (DG E) vwCl (h0, .inr (10, mfs p0 p1 0 0 rr 0)) H := hn
            have hT := hT.off hG0 ho
            have hT := hT.add (g := 20) hG0 (show T0 E (va_up G_176 h0 20) 20 _ from ⟨p0, p1, 0, rr, rfl, fun j a b c => up_k (hrr j a b c) hG0 (by omega)⟩) hr_188
            have ew0 : p0 = wi p0 2 20 := wi_20 (by omega)
            have ew1 : p1 = wi p1 0 7 := wi_7 (by omega)
            have ew2 : 0 = wi p2 0 7 := wi_7 (by rw [i_0]; omega)
            have hat9 := hr_188
            rw [show (mfs p0 p1 0 0 rr 0) = mfs (wi p0 2 20) (wi p1 0 7) (wi p2 0 7) 0 rr 0 by rw [← ew0, ← ew1, ← ew2]] at hat9
            exact W.vret hx hb hr (fun t ht hW => ⟨⟨_, rfl, hE.fin hG0, by rw [ht]; exact hT, rr, by rw [ht]; exact hat9, fun j a b c => up_k (hrr j a b c) hG0 (by omega)⟩, hS.F ht⟩) hS.2.2 dX10_init_413
        · simp only [lt_I, le_I, eq_I, i_0, i_1, i_2, i_3, i_4, i_5, i_6, i_7, i_8, i_10, i_12, i_16, i_20, i_23, i_24, i_31, i_32, i_63, i_64, i_m1] at c_182
          refine lv_bipush (v := 7) hx hb dX10_init_380 (by decide) ?_
          refine lv_goto (tgt := 386) hx hb dX10_init_382 (by decide) ?_
          refine rr_putF (D := DG E) (ci := 10) (v := .int 7) (ty := .int) (C := RX10) (T := TX10) (N := 49) hx hb hts iw_X10 tyX10 tyX10_ok nmX10 hown hK.1 hr_180 hS (Or.inl rfl) rfl 1 (by decide) (hts _ fl_X10_147) (fun _ h9 => h9) rfl hin rfl (by decide +kernel) rfl rfl (Nat.le_of_ble_eq_true rfl) dX10_init_386 (fun H locs hn ho hz hS => ?_)
          have hr_189 : va_at (DG E) vwCl (h0, .inr (10, mfs p0 7 0 0 rr 0)) H := hn
          have hT := hT.off hG0 ho
          refine lv_aload_n hx hb dX10_init_389 rfl (lv_at hl 0 rfl) ?_
          refine lv_iload_n hx hb dX10_init_390 rfl (lv_at hl 3 rfl) ?_
          refine lv_if_ge (tgt := 398) hx hb dX10_init_391 (by decide) (fun c_190 => ?_) (fun c_190 => ?_)
          · simp only [lt_I, le_I, eq_I, i_0, i_1, i_2, i_3, i_4, i_5, i_6, i_7, i_8, i_10, i_12, i_16, i_20, i_23, i_24, i_31, i_32, i_63, i_64, i_m1] at c_190
            refine lv_iload_n hx hb dX10_init_398 rfl (lv_at hl 3 rfl) ?_
            refine lv_bipush (v := 7) hx hb dX10_init_399 (by decide) ?_
            refine lv_icmp_le (tgt := 409) hx hb dX10_init_401 (by decide) (fun c_191 => ?_) (fun c_191 => ?_)
            · simp only [lt_I, le_I, eq_I, i_0, i_1, i_2, i_3, i_4, i_5, i_6, i_7, i_8, i_10, i_12, i_16, i_20, i_23, i_24, i_31, i_32, i_63, i_64, i_m1] at c_191
              refine lv_iload_n hx hb dX10_init_409 rfl (lv_at hl 3 rfl) ?_
              refine rr_putF (D := DG E) (ci := 10) (v := .int p2) (ty := .int) (C := RX10) (T := TX10) (N := 49) hx hb hts iw_X10 tyX10 tyX10_ok nmX10 hown hK.1 hr_189 hS (Or.inl rfl) rfl 2 (by decide) (hts _ fl_X10_150) (fun _ h9 => h9) rfl hin rfl (by decide +kernel) rfl rfl (Nat.le_of_ble_eq_true rfl) dX10_init_410 (fun H locs hn ho hz hS => ?_)
              have hr_192 : va_at (DG E) vwCl (h0, .inr (10, mfs p0 7 p2 0 rr 0)) H := hn
              have hT := hT.off hG0 ho
              have hT := hT.add (g := 20) hG0 (show T0 E (va_up G_176 h0 20) 20 _ from ⟨p0, 7, p2, rr, rfl, fun j a b c => up_k (hrr j a b c) hG0 (by omega)⟩) hr_192
              have ew0 : p0 = wi p0 2 20 := wi_20 (by omega)
              have ew1 : 7 = wi p1 0 7 := wi_7 (by rw [i_7]; omega)
              have ew2 : p2 = wi p2 0 7 := wi_7 (by omega)
              have hat9 := hr_192
              rw [show (mfs p0 7 p2 0 rr 0) = mfs (wi p0 2 20) (wi p1 0 7) (wi p2 0 7) 0 rr 0 by rw [← ew0, ← ew1, ← ew2]] at hat9
              exact W.vret hx hb hr (fun t ht hW => ⟨⟨_, rfl, hE.fin hG0, by rw [ht]; exact hT, rr, by rw [ht]; exact hat9, fun j a b c => up_k (hrr j a b c) hG0 (by omega)⟩, hS.F ht⟩) hS.2.2 dX10_init_413
            · simp only [lt_I, le_I, eq_I, i_0, i_1, i_2, i_3, i_4, i_5, i_6, i_7, i_8, i_10, i_12, i_16, i_20, i_23, i_24, i_31, i_32, i_63, i_64, i_m1] at c_191
              refine lv_bipush (v := 7) hx hb dX10_init_404 (by decide) ?_
              refine lv_goto (tgt := 410) hx hb dX10_init_406 (by decide) ?_
              refine rr_putF (D := DG E) (ci := 10) (v := .int 7) (ty := .int) (C := RX10) (T := TX10) (N := 49) hx hb hts iw_X10 tyX10 tyX10_ok nmX10 hown hK.1 hr_189 hS (Or.inl rfl) rfl 2 (by decide) (hts _ fl_X10_150) (fun _ h9 => h9) rfl hin rfl (by decide +kernel) rfl rfl (Nat.le_of_ble_eq_true rfl) dX10_init_410 (fun H locs hn ho hz hS => ?_)
              have hr_193 : va_at (DG E) vwCl (h0, .inr (10, mfs p0 7 7 0 rr 0)) H := hn
              have hT := hT.off hG0 ho
              have hT := hT.add (g := 20) hG0 (show T0 E (va_up G_176 h0 20) 20 _ from ⟨p0, 7, 7, rr, rfl, fun j a b c => up_k (hrr j a b c) hG0 (by omega)⟩) hr_193
              have ew0 : p0 = wi p0 2 20 := wi_20 (by omega)
              have ew1 : 7 = wi p1 0 7 := wi_7 (by rw [i_7]; omega)
              have ew2 : 7 = wi p2 0 7 := wi_7 (by rw [i_7]; omega)
              have hat9 := hr_193
              rw [show (mfs p0 7 7 0 rr 0) = mfs (wi p0 2 20) (wi p1 0 7) (wi p2 0 7) 0 rr 0 by rw [← ew0, ← ew1, ← ew2]] at hat9
              exact W.vret hx hb hr (fun t ht hW => ⟨⟨_, rfl, hE.fin hG0, by rw [ht]; exact hT, rr, by rw [ht]; exact hat9, fun j a b c => up_k (hrr j a b c) hG0 (by omega)⟩, hS.F ht⟩) hS.2.2 dX10_init_413
          · simp only [lt_I, le_I, eq_I, i_0, i_1, i_2, i_3, i_4, i_5, i_6, i_7, i_8, i_10, i_12, i_16, i_20, i_23, i_24, i_31, i_32, i_63, i_64, i_m1] at c_190
            refine lv_iconst (v := 0) hx hb dX10_init_394 (by decide) ?_
            refine lv_goto (tgt := 410) hx hb dX10_init_395 (by decide) ?_
            refine rr_putF (D := DG E) (ci := 10) (v := .int 0) (ty := .int) (C := RX10) (T := TX10) (N := 49) hx hb hts iw_X10 tyX10 tyX10_ok nmX10 hown hK.1 hr_189 hS (Or.inl rfl) rfl 2 (by decide) (hts _ fl_X10_150) (fun _ h9 => h9) rfl hin rfl (by decide +kernel) rfl rfl (Nat.le_of_ble_eq_true rfl) dX10_init_410 (fun H locs hn ho hz hS => ?_)
            have hr_194 : va_at (DG E) vwCl (h0, .inr (10, mfs p0 7 0 0 rr 0)) H := hn
            have hT := hT.off hG0 ho
            have hT := hT.add (g := 20) hG0 (show T0 E (va_up G_176 h0 20) 20 _ from ⟨p0, 7, 0, rr, rfl, fun j a b c => up_k (hrr j a b c) hG0 (by omega)⟩) hr_194
            have ew0 : p0 = wi p0 2 20 := wi_20 (by omega)
            have ew1 : 7 = wi p1 0 7 := wi_7 (by rw [i_7]; omega)
            have ew2 : 0 = wi p2 0 7 := wi_7 (by rw [i_0]; omega)
            have hat9 := hr_194
            rw [show (mfs p0 7 0 0 rr 0) = mfs (wi p0 2 20) (wi p1 0 7) (wi p2 0 7) 0 rr 0 by rw [← ew0, ← ew1, ← ew2]] at hat9
            exact W.vret hx hb hr (fun t ht hW => ⟨⟨_, rfl, hE.fin hG0, by rw [ht]; exact hT, rr, by rw [ht]; exact hat9, fun j a b c => up_k (hrr j a b c) hG0 (by omega)⟩, hS.F ht⟩) hS.2.2 dX10_init_413
      · simp only [lt_I, le_I, eq_I, i_0, i_1, i_2, i_3, i_4, i_5, i_6, i_7, i_8, i_10, i_12, i_16, i_20, i_23, i_24, i_31, i_32, i_63, i_64, i_m1] at c_181
        refine lv_iconst (v := 0) hx hb dX10_init_370 (by decide) ?_
        refine lv_goto (tgt := 386) hx hb dX10_init_371 (by decide) ?_
        refine rr_putF (D := DG E) (ci := 10) (v := .int 0) (ty := .int) (C := RX10) (T := TX10) (N := 49) hx hb hts iw_X10 tyX10 tyX10_ok nmX10 hown hK.1 hr_180 hS (Or.inl rfl) rfl 1 (by decide) (hts _ fl_X10_147) (fun _ h9 => h9) rfl hin rfl (by decide +kernel) rfl rfl (Nat.le_of_ble_eq_true rfl) dX10_init_386 (fun H locs hn ho hz hS => ?_)
        have hr_195 : va_at (DG E) vwCl (h0, .inr (10, mfs p0 0 0 0 rr 0)) H := hn
        have hT := hT.off hG0 ho
        refine lv_aload_n hx hb dX10_init_389 rfl (lv_at hl 0 rfl) ?_
        refine lv_iload_n hx hb dX10_init_390 rfl (lv_at hl 3 rfl) ?_
        refine lv_if_ge (tgt := 398) hx hb dX10_init_391 (by decide) (fun c_196 => ?_) (fun c_196 => ?_)
        · simp only [lt_I, le_I, eq_I, i_0, i_1, i_2, i_3, i_4, i_5, i_6, i_7, i_8, i_10, i_12, i_16, i_20, i_23, i_24, i_31, i_32, i_63, i_64, i_m1] at c_196
          refine lv_iload_n hx hb dX10_init_398 rfl (lv_at hl 3 rfl) ?_
          refine lv_bipush (v := 7) hx hb dX10_init_399 (by decide) ?_
          refine lv_icmp_le (tgt := 409) hx hb dX10_init_401 (by decide) (fun c_197 => ?_) (fun c_197 => ?_)
          · simp only [lt_I, le_I, eq_I, i_0, i_1, i_2, i_3, i_4, i_5, i_6, i_7, i_8, i_10, i_12, i_16, i_20, i_23, i_24, i_31, i_32, i_63, i_64, i_m1] at c_197
            refine lv_iload_n hx hb dX10_init_409 rfl (lv_at hl 3 rfl) ?_
            refine rr_putF (D := DG E) (ci := 10) (v := .int p2) (ty := .int) (C := RX10) (T := TX10) (N := 49) hx hb hts iw_X10 tyX10 tyX10_ok nmX10 hown hK.1 hr_195 hS (Or.inl rfl) rfl 2 (by decide) (hts _ fl_X10_150) (fun _ h9 => h9) rfl hin rfl (by decide +kernel) rfl rfl (Nat.le_of_ble_eq_true rfl) dX10_init_410 (fun H locs hn ho hz hS => ?_)
            have hr_198 : va_at (DG E) vwCl (h0, .inr (10, mfs p0 0 p2 0 rr 0)) H := hn
            have hT := hT.off hG0 ho
            have hT := hT.add (g := 20) hG0 (show T0 E (va_up G_176 h0 20) 20 _ from ⟨p0, 0, p2, rr, rfl, fun j a b c => up_k (hrr j a b c) hG0 (by omega)⟩) hr_198
            have ew0 : p0 = wi p0 2 20 := wi_20 (by omega)
            have ew1 : 0 = wi p1 0 7 := wi_7 (by rw [i_0]; omega)
            have ew2 : p2 = wi p2 0 7 := wi_7 (by omega)
            have hat9 := hr_198
            rw [show (mfs p0 0 p2 0 rr 0) = mfs (wi p0 2 20) (wi p1 0 7) (wi p2 0 7) 0 rr 0 by rw [← ew0, ← ew1, ← ew2]] at hat9
            exact W.vret hx hb hr (fun t ht hW => ⟨⟨_, rfl, hE.fin hG0, by rw [ht]; exact hT, rr, by rw [ht]; exact hat9, fun j a b c => up_k (hrr j a b c) hG0 (by omega)⟩, hS.F ht⟩) hS.2.2 dX10_init_413
          · simp only [lt_I, le_I, eq_I, i_0, i_1, i_2, i_3, i_4, i_5, i_6, i_7, i_8, i_10, i_12, i_16, i_20, i_23, i_24, i_31, i_32, i_63, i_64, i_m1] at c_197
            refine lv_bipush (v := 7) hx hb dX10_init_404 (by decide) ?_
            refine lv_goto (tgt := 410) hx hb dX10_init_406 (by decide) ?_
            refine rr_putF (D := DG E) (ci := 10) (v := .int 7) (ty := .int) (C := RX10) (T := TX10) (N := 49) hx hb hts iw_X10 tyX10 tyX10_ok nmX10 hown hK.1 hr_195 hS (Or.inl rfl) rfl 2 (by decide) (hts _ fl_X10_150) (fun _ h9 => h9) rfl hin rfl (by decide +kernel) rfl rfl (Nat.le_of_ble_eq_true rfl) dX10_init_410 (fun H locs hn ho hz hS => ?_)
            have hr_199 : va_at (DG E) vwCl (h0, .inr (10, mfs p0 0 7 0 rr 0)) H := hn
            have hT := hT.off hG0 ho
            have hT := hT.add (g := 20) hG0 (show T0 E (va_up G_176 h0 20) 20 _ from ⟨p0, 0, 7, rr, rfl, fun j a b c => up_k (hrr j a b c) hG0 (by omega)⟩) hr_199
            have ew0 : p0 = wi p0 2 20 := wi_20 (by omega)
            have ew1 : 0 = wi p1 0 7 := wi_7 (by rw [i_0]; omega)
            have ew2 : 7 = wi p2 0 7 := wi_7 (by rw [i_7]; omega)
            have hat9 := hr_199
            rw [show (mfs p0 0 7 0 rr 0) = mfs (wi p0 2 20) (wi p1 0 7) (wi p2 0 7) 0 rr 0 by rw [← ew0, ← ew1, ← ew2]] at hat9
            exact W.vret hx hb hr (fun t ht hW => ⟨⟨_, rfl, hE.fin hG0, by rw [ht]; exact hT, rr, by rw [ht]; exact hat9, fun j a b c => up_k (hrr j a b c) hG0 (by omega)⟩, hS.F ht⟩) hS.2.2 dX10_init_413
        · simp only [lt_I, le_I, eq_I, i_0, i_1, i_2, i_3, i_4, i_5, i_6, i_7, i_8, i_10, i_12, i_16, i_20, i_23, i_24, i_31, i_32, i_63, i_64, i_m1] at c_196
          refine lv_iconst (v := 0) hx hb dX10_init_394 (by decide) ?_
          refine lv_goto (tgt := 410) hx hb dX10_init_395 (by decide) ?_
          refine rr_putF (D := DG E) (ci := 10) (v := .int 0) (ty := .int) (C := RX10) (T := TX10) (N := 49) hx hb hts iw_X10 tyX10 tyX10_ok nmX10 hown hK.1 hr_195 hS (Or.inl rfl) rfl 2 (by decide) (hts _ fl_X10_150) (fun _ h9 => h9) rfl hin rfl (by decide +kernel) rfl rfl (Nat.le_of_ble_eq_true rfl) dX10_init_410 (fun H locs hn ho hz hS => ?_)
          have hr_200 : va_at (DG E) vwCl (h0, .inr (10, mfs p0 0 0 0 rr 0)) H := hn
          have hT := hT.off hG0 ho
          have hT := hT.add (g := 20) hG0 (show T0 E (va_up G_176 h0 20) 20 _ from ⟨p0, 0, 0, rr, rfl, fun j a b c => up_k (hrr j a b c) hG0 (by omega)⟩) hr_200
          have ew0 : p0 = wi p0 2 20 := wi_20 (by omega)
          have ew1 : 0 = wi p1 0 7 := wi_7 (by rw [i_0]; omega)
          have ew2 : 0 = wi p2 0 7 := wi_7 (by rw [i_0]; omega)
          have hat9 := hr_200
          rw [show (mfs p0 0 0 0 rr 0) = mfs (wi p0 2 20) (wi p1 0 7) (wi p2 0 7) 0 rr 0 by rw [← ew0, ← ew1, ← ew2]] at hat9
          exact W.vret hx hb hr (fun t ht hW => ⟨⟨_, rfl, hE.fin hG0, by rw [ht]; exact hT, rr, by rw [ht]; exact hat9, fun j a b c => up_k (hrr j a b c) hG0 (by omega)⟩, hS.F ht⟩) hS.2.2 dX10_init_413
    · simp only [lt_I, le_I, eq_I, i_0, i_1, i_2, i_3, i_4, i_5, i_6, i_7, i_8, i_10, i_12, i_16, i_20, i_23, i_24, i_31, i_32, i_63, i_64, i_m1] at c_179
      refine lv_bipush (v := 20) hx hb dX10_init_356 (by decide) ?_
      refine lv_goto (tgt := 362) hx hb dX10_init_358 (by decide) ?_
      refine rr_putF (D := DG E) (ci := 10) (v := .int 20) (ty := .int) (C := RX10) (T := TX10) (N := 49) hx hb hts iw_X10 tyX10 tyX10_ok nmX10 hown hK.1 hr_177 hS (Or.inl rfl) rfl 0 (by decide) (hts _ fl_X10_143) (fun _ h9 => h9) rfl hin rfl (by decide +kernel) rfl rfl (Nat.le_of_ble_eq_true rfl) dX10_init_362 (fun H locs hn ho hz hS => ?_)
      have hr_201 : va_at (DG E) vwCl (h0, .inr (10, mfs 20 0 0 0 rr 0)) H := hn
      have hT := hT.off hG0 ho
      refine lv_aload_n hx hb dX10_init_365 rfl (lv_at hl 0 rfl) ?_
      refine lv_iload_n hx hb dX10_init_366 rfl (lv_at hl 2 rfl) ?_
      refine lv_if_ge (tgt := 374) hx hb dX10_init_367 (by decide) (fun c_202 => ?_) (fun c_202 => ?_)
      · simp only [lt_I, le_I, eq_I, i_0, i_1, i_2, i_3, i_4, i_5, i_6, i_7, i_8, i_10, i_12, i_16, i_20, i_23, i_24, i_31, i_32, i_63, i_64, i_m1] at c_202
        refine lv_iload_n hx hb dX10_init_374 rfl (lv_at hl 2 rfl) ?_
        refine lv_bipush (v := 7) hx hb dX10_init_375 (by decide) ?_
        refine lv_icmp_le (tgt := 385) hx hb dX10_init_377 (by decide) (fun c_203 => ?_) (fun c_203 => ?_)
        · simp only [lt_I, le_I, eq_I, i_0, i_1, i_2, i_3, i_4, i_5, i_6, i_7, i_8, i_10, i_12, i_16, i_20, i_23, i_24, i_31, i_32, i_63, i_64, i_m1] at c_203
          refine lv_iload_n hx hb dX10_init_385 rfl (lv_at hl 2 rfl) ?_
          refine rr_putF (D := DG E) (ci := 10) (v := .int p1) (ty := .int) (C := RX10) (T := TX10) (N := 49) hx hb hts iw_X10 tyX10 tyX10_ok nmX10 hown hK.1 hr_201 hS (Or.inl rfl) rfl 1 (by decide) (hts _ fl_X10_147) (fun _ h9 => h9) rfl hin rfl (by decide +kernel) rfl rfl (Nat.le_of_ble_eq_true rfl) dX10_init_386 (fun H locs hn ho hz hS => ?_)
          have hr_204 : va_at (DG E) vwCl (h0, .inr (10, mfs 20 p1 0 0 rr 0)) H := hn
          have hT := hT.off hG0 ho
          refine lv_aload_n hx hb dX10_init_389 rfl (lv_at hl 0 rfl) ?_
          refine lv_iload_n hx hb dX10_init_390 rfl (lv_at hl 3 rfl) ?_
          refine lv_if_ge (tgt := 398) hx hb dX10_init_391 (by decide) (fun c_205 => ?_) (fun c_205 => ?_)
          · simp only [lt_I, le_I, eq_I, i_0, i_1, i_2, i_3, i_4, i_5, i_6, i_7, i_8, i_10, i_12, i_16, i_20, i_23, i_24, i_31, i_32, i_63, i_64, i_m1] at c_205
            refine lv_iload_n hx hb dX10_init_398 rfl (lv_at hl 3 rfl) ?_
            refine lv_bipush (v := 7) hx hb dX10_init_399 (by decide) ?_
            refine lv_icmp_le (tgt := 409) hx hb dX10_init_401 (by decide) (fun c_206 => ?_) (fun c_206 => ?_)
            · simp only [lt_I, le_I, eq_I, i_0, i_1, i_2, i_3, i_4, i_5, i_6, i_7, i_8, i_10, i_12, i_16, i_20, i_23, i_24, i_31, i_32, i_63, i_64, i_m1] at c_206
              refine lv_iload_n hx hb dX10_init_409 rfl (lv_at hl 3 rfl) ?_
              refine rr_putF (D := DG E) (ci := 10) (v := .int p2) (ty := .int) (C := RX10) (T := TX10) (N := 49) hx hb hts iw_X10 tyX10 tyX10_ok nmX10 hown hK.1 hr_204 hS (Or.inl rfl) rfl 2 (by decide) (hts _ fl_X10_150) (fun _ h9 => h9) rfl hin rfl (by decide +kernel) rfl rfl (Nat.le_of_ble_eq_true rfl) dX10_init_410 (fun H locs hn ho hz hS => ?_)
              have hr_207 : va_at (DG E) vwCl (h0, .inr (10, mfs 20 p1 p2 0 rr 0)) H := hn
              have hT := hT.off hG0 ho
              have hT := hT.add (g := 20) hG0 (show T0 E (va_up G_176 h0 20) 20 _ from ⟨20, p1, p2, rr, rfl, fun j a b c => up_k (hrr j a b c) hG0 (by omega)⟩) hr_207
              have ew0 : 20 = wi p0 2 20 := wi_20 (by rw [i_20]; omega)
              have ew1 : p1 = wi p1 0 7 := wi_7 (by omega)
              have ew2 : p2 = wi p2 0 7 := wi_7 (by omega)
              have hat9 := hr_207
              rw [show (mfs 20 p1 p2 0 rr 0) = mfs (wi p0 2 20) (wi p1 0 7) (wi p2 0 7) 0 rr 0 by rw [← ew0, ← ew1, ← ew2]] at hat9
              exact W.vret hx hb hr (fun t ht hW => ⟨⟨_, rfl, hE.fin hG0, by rw [ht]; exact hT, rr, by rw [ht]; exact hat9, fun j a b c => up_k (hrr j a b c) hG0 (by omega)⟩, hS.F ht⟩) hS.2.2 dX10_init_413
            · simp only [lt_I, le_I, eq_I, i_0, i_1, i_2, i_3, i_4, i_5, i_6, i_7, i_8, i_10, i_12, i_16, i_20, i_23, i_24, i_31, i_32, i_63, i_64, i_m1] at c_206
              refine lv_bipush (v := 7) hx hb dX10_init_404 (by decide) ?_
              refine lv_goto (tgt := 410) hx hb dX10_init_406 (by decide) ?_
              refine rr_putF (D := DG E) (ci := 10) (v := .int 7) (ty := .int) (C := RX10) (T := TX10) (N := 49) hx hb hts iw_X10 tyX10 tyX10_ok nmX10 hown hK.1 hr_204 hS (Or.inl rfl) rfl 2 (by decide) (hts _ fl_X10_150) (fun _ h9 => h9) rfl hin rfl (by decide +kernel) rfl rfl (Nat.le_of_ble_eq_true rfl) dX10_init_410 (fun H locs hn ho hz hS => ?_)
              have hr_208 : va_at (DG E) vwCl (h0, .inr (10, mfs 20 p1 7 0 rr 0)) H := hn
              have hT := hT.off hG0 ho
              have hT := hT.add (g := 20) hG0 (show T0 E (va_up G_176 h0 20) 20 _ from ⟨20, p1, 7, rr, rfl, fun j a b c => up_k (hrr j a b c) hG0 (by omega)⟩) hr_208
              have ew0 : 20 = wi p0 2 20 := wi_20 (by rw [i_20]; omega)
              have ew1 : p1 = wi p1 0 7 := wi_7 (by omega)
              have ew2 : 7 = wi p2 0 7 := wi_7 (by rw [i_7]; omega)
              have hat9 := hr_208
              rw [show (mfs 20 p1 7 0 rr 0) = mfs (wi p0 2 20) (wi p1 0 7) (wi p2 0 7) 0 rr 0 by rw [← ew0, ← ew1, ← ew2]] at hat9
              exact W.vret hx hb hr (fun t ht hW => ⟨⟨_, rfl, hE.fin hG0, by rw [ht]; exact hT, rr, by rw [ht]; exact hat9, fun j a b c => up_k (hrr j a b c) hG0 (by omega)⟩, hS.F ht⟩) hS.2.2 dX10_init_413
          · simp only [lt_I, le_I, eq_I, i_0, i_1, i_2, i_3, i_4, i_5, i_6, i_7, i_8, i_10, i_12, i_16, i_20, i_23, i_24, i_31, i_32, i_63, i_64, i_m1] at c_205
            refine lv_iconst (v := 0) hx hb dX10_init_394 (by decide) ?_
            refine lv_goto (tgt := 410) hx hb dX10_init_395 (by decide) ?_
            refine rr_putF (D := DG E) (ci := 10) (v := .int 0) (ty := .int) (C := RX10) (T := TX10) (N := 49) hx hb hts iw_X10 tyX10 tyX10_ok nmX10 hown hK.1 hr_204 hS (Or.inl rfl) rfl 2 (by decide) (hts _ fl_X10_150) (fun _ h9 => h9) rfl hin rfl (by decide +kernel) rfl rfl (Nat.le_of_ble_eq_true rfl) dX10_init_410 (fun H locs hn ho hz hS => ?_)
            have hr_209 : va_at (DG E) vwCl (h0, .inr (10, mfs 20 p1 0 0 rr 0)) H := hn
            have hT := hT.off hG0 ho
            have hT := hT.add (g := 20) hG0 (show T0 E (va_up G_176 h0 20) 20 _ from ⟨20, p1, 0, rr, rfl, fun j a b c => up_k (hrr j a b c) hG0 (by omega)⟩) hr_209
            have ew0 : 20 = wi p0 2 20 := wi_20 (by rw [i_20]; omega)
            have ew1 : p1 = wi p1 0 7 := wi_7 (by omega)
            have ew2 : 0 = wi p2 0 7 := wi_7 (by rw [i_0]; omega)
            have hat9 := hr_209
            rw [show (mfs 20 p1 0 0 rr 0) = mfs (wi p0 2 20) (wi p1 0 7) (wi p2 0 7) 0 rr 0 by rw [← ew0, ← ew1, ← ew2]] at hat9
            exact W.vret hx hb hr (fun t ht hW => ⟨⟨_, rfl, hE.fin hG0, by rw [ht]; exact hT, rr, by rw [ht]; exact hat9, fun j a b c => up_k (hrr j a b c) hG0 (by omega)⟩, hS.F ht⟩) hS.2.2 dX10_init_413
        · simp only [lt_I, le_I, eq_I, i_0, i_1, i_2, i_3, i_4, i_5, i_6, i_7, i_8, i_10, i_12, i_16, i_20, i_23, i_24, i_31, i_32, i_63, i_64, i_m1] at c_203
          refine lv_bipush (v := 7) hx hb dX10_init_380 (by decide) ?_
          refine lv_goto (tgt := 386) hx hb dX10_init_382 (by decide) ?_
          refine rr_putF (D := DG E) (ci := 10) (v := .int 7) (ty := .int) (C := RX10) (T := TX10) (N := 49) hx hb hts iw_X10 tyX10 tyX10_ok nmX10 hown hK.1 hr_201 hS (Or.inl rfl) rfl 1 (by decide) (hts _ fl_X10_147) (fun _ h9 => h9) rfl hin rfl (by decide +kernel) rfl rfl (Nat.le_of_ble_eq_true rfl) dX10_init_386 (fun H locs hn ho hz hS => ?_)
          have hr_210 : va_at (DG E) vwCl (h0, .inr (10, mfs 20 7 0 0 rr 0)) H := hn
          have hT := hT.off hG0 ho
          refine lv_aload_n hx hb dX10_init_389 rfl (lv_at hl 0 rfl) ?_
          refine lv_iload_n hx hb dX10_init_390 rfl (lv_at hl 3 rfl) ?_
          refine lv_if_ge (tgt := 398) hx hb dX10_init_391 (by decide) (fun c_211 => ?_) (fun c_211 => ?_)
          · simp only [lt_I, le_I, eq_I, i_0, i_1, i_2, i_3, i_4, i_5, i_6, i_7, i_8, i_10, i_12, i_16, i_20, i_23, i_24, i_31, i_32, i_63, i_64, i_m1] at c_211
            refine lv_iload_n hx hb dX10_init_398 rfl (lv_at hl 3 rfl) ?_
            refine lv_bipush (v := 7) hx hb dX10_init_399 (by decide) ?_
            refine lv_icmp_le (tgt := 409) hx hb dX10_init_401 (by decide) (fun c_212 => ?_) (fun c_212 => ?_)
            · simp only [lt_I, le_I, eq_I, i_0, i_1, i_2, i_3, i_4, i_5, i_6, i_7, i_8, i_10, i_12, i_16, i_20, i_23, i_24, i_31, i_32, i_63, i_64, i_m1] at c_212
              refine lv_iload_n hx hb dX10_init_409 rfl (lv_at hl 3 rfl) ?_
              refine rr_putF (D := DG E) (ci := 10) (v := .int p2) (ty := .int) (C := RX10) (T := TX10) (N := 49) hx hb hts iw_X10 tyX10 tyX10_ok nmX10 hown hK.1 hr_210 hS (Or.inl rfl) rfl 2 (by decide) (hts _ fl_X10_150) (fun _ h9 => h9) rfl hin rfl (by decide +kernel) rfl rfl (Nat.le_of_ble_eq_true rfl) dX10_init_410 (fun H locs hn ho hz hS => ?_)
              have hr_213 : va_at (DG E) vwCl (h0, .inr (10, mfs 20 7 p2 0 rr 0)) H := hn
              have hT := hT.off hG0 ho
              have hT := hT.add (g := 20) hG0 (show T0 E (va_up G_176 h0 20) 20 _ from ⟨20, 7, p2, rr, rfl, fun j a b c => up_k (hrr j a b c) hG0 (by omega)⟩) hr_213
              have ew0 : 20 = wi p0 2 20 := wi_20 (by rw [i_20]; omega)
              have ew1 : 7 = wi p1 0 7 := wi_7 (by rw [i_7]; omega)
              have ew2 : p2 = wi p2 0 7 := wi_7 (by omega)
              have hat9 := hr_213
              rw [show (mfs 20 7 p2 0 rr 0) = mfs (wi p0 2 20) (wi p1 0 7) (wi p2 0 7) 0 rr 0 by rw [← ew0, ← ew1, ← ew2]] at hat9
              exact W.vret hx hb hr (fun t ht hW => ⟨⟨_, rfl, hE.fin hG0, by rw [ht]; exact hT, rr, by rw [ht]; exact hat9, fun j a b c => up_k (hrr j a b c) hG0 (by omega)⟩, hS.F ht⟩) hS.2.2 dX10_init_413
            · simp only [lt_I, le_I, eq_I, i_0, i_1, i_2, i_3, i_4, i_5, i_6, i_7, i_8, i_10, i_12, i_16, i_20, i_23, i_24, i_31, i_32, i_63, i_64, i_m1] at c_212
              refine lv_bipush (v := 7) hx hb dX10_init_404 (by decide) ?_
              refine lv_goto (tgt := 410) hx hb dX10_init_406 (by decide) ?_
              refine rr_putF (D := DG E) (ci := 10) (v := .int 7) (ty := .int) (C := RX10) (T := TX10) (N := 49) hx hb hts iw_X10 tyX10 tyX10_ok nmX10 hown hK.1 hr_210 hS (Or.inl rfl) rfl 2 (by decide) (hts _ fl_X10_150) (fun _ h9 => h9) rfl hin rfl (by decide +kernel) rfl rfl (Nat.le_of_ble_eq_true rfl) dX10_init_410 (fun H locs hn ho hz hS => ?_)
              have hr_214 : va_at (DG E) vwCl (h0, .inr (10, mfs 20 7 7 0 rr 0)) H := hn
              have hT := hT.off hG0 ho
              have hT := hT.add (g := 20) hG0 (show T0 E (va_up G_176 h0 20) 20 _ from ⟨20, 7, 7, rr, rfl, fun j a b c => up_k (hrr j a b c) hG0 (by omega)⟩) hr_214
              have ew0 : 20 = wi p0 2 20 := wi_20 (by rw [i_20]; omega)
              have ew1 : 7 = wi p1 0 7 := wi_7 (by rw [i_7]; omega)
              have ew2 : 7 = wi p2 0 7 := wi_7 (by rw [i_7]; omega)
              have hat9 := hr_214
              rw [show (mfs 20 7 7 0 rr 0) = mfs (wi p0 2 20) (wi p1 0 7) (wi p2 0 7) 0 rr 0 by rw [← ew0, ← ew1, ← ew2]] at hat9
              exact W.vret hx hb hr (fun t ht hW => ⟨⟨_, rfl, hE.fin hG0, by rw [ht]; exact hT, rr, by rw [ht]; exact hat9, fun j a b c => up_k (hrr j a b c) hG0 (by omega)⟩, hS.F ht⟩) hS.2.2 dX10_init_413
          · simp only [lt_I, le_I, eq_I, i_0, i_1, i_2, i_3, i_4, i_5, i_6, i_7, i_8, i_10, i_12, i_16, i_20, i_23, i_24, i_31, i_32, i_63, i_64, i_m1] at c_211
            refine lv_iconst (v := 0) hx hb dX10_init_394 (by decide) ?_
            refine lv_goto (tgt := 410) hx hb dX10_init_395 (by decide) ?_
            refine rr_putF (D := DG E) (ci := 10) (v := .int 0) (ty := .int) (C := RX10) (T := TX10) (N := 49) hx hb hts iw_X10 tyX10 tyX10_ok nmX10 hown hK.1 hr_210 hS (Or.inl rfl) rfl 2 (by decide) (hts _ fl_X10_150) (fun _ h9 => h9) rfl hin rfl (by decide +kernel) rfl rfl (Nat.le_of_ble_eq_true rfl) dX10_init_410 (fun H locs hn ho hz hS => ?_)
            have hr_215 : va_at (DG E) vwCl (h0, .inr (10, mfs 20 7 0 0 rr 0)) H := hn
            have hT := hT.off hG0 ho
            have hT := hT.add (g := 20) hG0 (show T0 E (va_up G_176 h0 20) 20 _ from ⟨20, 7, 0, rr, rfl, fun j a b c => up_k (hrr j a b c) hG0 (by omega)⟩) hr_215
            have ew0 : 20 = wi p0 2 20 := wi_20 (by rw [i_20]; omega)
            have ew1 : 7 = wi p1 0 7 := wi_7 (by rw [i_7]; omega)
            have ew2 : 0 = wi p2 0 7 := wi_7 (by rw [i_0]; omega)
            have hat9 := hr_215
            rw [show (mfs 20 7 0 0 rr 0) = mfs (wi p0 2 20) (wi p1 0 7) (wi p2 0 7) 0 rr 0 by rw [← ew0, ← ew1, ← ew2]] at hat9
            exact W.vret hx hb hr (fun t ht hW => ⟨⟨_, rfl, hE.fin hG0, by rw [ht]; exact hT, rr, by rw [ht]; exact hat9, fun j a b c => up_k (hrr j a b c) hG0 (by omega)⟩, hS.F ht⟩) hS.2.2 dX10_init_413
      · simp only [lt_I, le_I, eq_I, i_0, i_1, i_2, i_3, i_4, i_5, i_6, i_7, i_8, i_10, i_12, i_16, i_20, i_23, i_24, i_31, i_32, i_63, i_64, i_m1] at c_202
        refine lv_iconst (v := 0) hx hb dX10_init_370 (by decide) ?_
        refine lv_goto (tgt := 386) hx hb dX10_init_371 (by decide) ?_
        refine rr_putF (D := DG E) (ci := 10) (v := .int 0) (ty := .int) (C := RX10) (T := TX10) (N := 49) hx hb hts iw_X10 tyX10 tyX10_ok nmX10 hown hK.1 hr_201 hS (Or.inl rfl) rfl 1 (by decide) (hts _ fl_X10_147) (fun _ h9 => h9) rfl hin rfl (by decide +kernel) rfl rfl (Nat.le_of_ble_eq_true rfl) dX10_init_386 (fun H locs hn ho hz hS => ?_)
        have hr_216 : va_at (DG E) vwCl (h0, .inr (10, mfs 20 0 0 0 rr 0)) H := hn
        have hT := hT.off hG0 ho
        refine lv_aload_n hx hb dX10_init_389 rfl (lv_at hl 0 rfl) ?_
        refine lv_iload_n hx hb dX10_init_390 rfl (lv_at hl 3 rfl) ?_
        refine lv_if_ge (tgt := 398) hx hb dX10_init_391 (by decide) (fun c_217 => ?_) (fun c_217 => ?_)
        · simp only [lt_I, le_I, eq_I, i_0, i_1, i_2, i_3, i_4, i_5, i_6, i_7, i_8, i_10, i_12, i_16, i_20, i_23, i_24, i_31, i_32, i_63, i_64, i_m1] at c_217
          refine lv_iload_n hx hb dX10_init_398 rfl (lv_at hl 3 rfl) ?_
          refine lv_bipush (v := 7) hx hb dX10_init_399 (by decide) ?_
          refine lv_icmp_le (tgt := 409) hx hb dX10_init_401 (by decide) (fun c_218 => ?_) (fun c_218 => ?_)
          · simp only [lt_I, le_I, eq_I, i_0, i_1, i_2, i_3, i_4, i_5, i_6, i_7, i_8, i_10, i_12, i_16, i_20, i_23, i_24, i_31, i_32, i_63, i_64, i_m1] at c_218
            refine lv_iload_n hx hb dX10_init_409 rfl (lv_at hl 3 rfl) ?_
            refine rr_putF (D := DG E) (ci := 10) (v := .int p2) (ty := .int) (C := RX10) (T := TX10) (N := 49) hx hb hts iw_X10 tyX10 tyX10_ok nmX10 hown hK.1 hr_216 hS (Or.inl rfl) rfl 2 (by decide) (hts _ fl_X10_150) (fun _ h9 => h9) rfl hin rfl (by decide +kernel) rfl rfl (Nat.le_of_ble_eq_true rfl) dX10_init_410 (fun H locs hn ho hz hS => ?_)
            have hr_219 : va_at (DG E) vwCl (h0, .inr (10, mfs 20 0 p2 0 rr 0)) H := hn
            have hT := hT.off hG0 ho
            have hT := hT.add (g := 20) hG0 (show T0 E (va_up G_176 h0 20) 20 _ from ⟨20, 0, p2, rr, rfl, fun j a b c => up_k (hrr j a b c) hG0 (by omega)⟩) hr_219
            have ew0 : 20 = wi p0 2 20 := wi_20 (by rw [i_20]; omega)
            have ew1 : 0 = wi p1 0 7 := wi_7 (by rw [i_0]; omega)
            have ew2 : p2 = wi p2 0 7 := wi_7 (by omega)
            have hat9 := hr_219
            rw [show (mfs 20 0 p2 0 rr 0) = mfs (wi p0 2 20) (wi p1 0 7) (wi p2 0 7) 0 rr 0 by rw [← ew0, ← ew1, ← ew2]] at hat9
            exact W.vret hx hb hr (fun t ht hW => ⟨⟨_, rfl, hE.fin hG0, by rw [ht]; exact hT, rr, by rw [ht]; exact hat9, fun j a b c => up_k (hrr j a b c) hG0 (by omega)⟩, hS.F ht⟩) hS.2.2 dX10_init_413
          · simp only [lt_I, le_I, eq_I, i_0, i_1, i_2, i_3, i_4, i_5, i_6, i_7, i_8, i_10, i_12, i_16, i_20, i_23, i_24, i_31, i_32, i_63, i_64, i_m1] at c_218
            refine lv_bipush (v := 7) hx hb dX10_init_404 (by decide) ?_
            refine lv_goto (tgt := 410) hx hb dX10_init_406 (by decide) ?_
            refine rr_putF (D := DG E) (ci := 10) (v := .int 7) (ty := .int) (C := RX10) (T := TX10) (N := 49) hx hb hts iw_X10 tyX10 tyX10_ok nmX10 hown hK.1 hr_216 hS (Or.inl rfl) rfl 2 (by decide) (hts _ fl_X10_150) (fun _ h9 => h9) rfl hin rfl (by decide +kernel) rfl rfl (Nat.le_of_ble_eq_true rfl) dX10_init_410 (fun H locs hn ho hz hS => ?_)
            have hr_220 : va_at (DG E) vwCl (h0, .inr (10, mfs 20 0 7 0 rr 0)) H := hn
            have hT := hT.off hG0 ho
            have hT := hT.add (g := 20) hG0 (show T0 E (va_up G_176 h0 20) 20 _ from ⟨20, 0, 7, rr, rfl, fun j a b c => up_k (hrr j a b c) hG0 (by omega)⟩) hr_220
            have ew0 : 20 = wi p0 2 20 := wi_20 (by rw [i_20]; omega)
            have ew1 : 0 = wi p1 0 7 := wi_7 (by rw [i_0]; omega)
            have ew2 : 7 = wi p2 0 7 := wi_7 (by rw [i_7]; omega)
            have hat9 := hr_220
            rw [show (mfs 20 0 7 0 rr 0) = mfs (wi p0 2 20) (wi p1 0 7) (wi p2 0 7) 0 rr 0 by rw [← ew0, ← ew1, ← ew2]] at hat9
            exact W.vret hx hb hr (fun t ht hW => ⟨⟨_, rfl, hE.fin hG0, by rw [ht]; exact hT, rr, by rw [ht]; exact hat9, fun j a b c => up_k (hrr j a b c) hG0 (by omega)⟩, hS.F ht⟩) hS.2.2 dX10_init_413
        · simp only [lt_I, le_I, eq_I, i_0, i_1, i_2, i_3, i_4, i_5, i_6, i_7, i_8, i_10, i_12, i_16, i_20, i_23, i_24, i_31, i_32, i_63, i_64, i_m1] at c_217
          refine lv_iconst (v := 0) hx hb dX10_init_394 (by decide) ?_
          refine lv_goto (tgt := 410) hx hb dX10_init_395 (by decide) ?_
          refine rr_putF (D := DG E) (ci := 10) (v := .int 0) (ty := .int) (C := RX10) (T := TX10) (N := 49) hx hb hts iw_X10 tyX10 tyX10_ok nmX10 hown hK.1 hr_216 hS (Or.inl rfl) rfl 2 (by decide) (hts _ fl_X10_150) (fun _ h9 => h9) rfl hin rfl (by decide +kernel) rfl rfl (Nat.le_of_ble_eq_true rfl) dX10_init_410 (fun H locs hn ho hz hS => ?_)
          have hr_221 : va_at (DG E) vwCl (h0, .inr (10, mfs 20 0 0 0 rr 0)) H := hn
          have hT := hT.off hG0 ho
          have hT := hT.add (g := 20) hG0 (show T0 E (va_up G_176 h0 20) 20 _ from ⟨20, 0, 0, rr, rfl, fun j a b c => up_k (hrr j a b c) hG0 (by omega)⟩) hr_221
          have ew0 : 20 = wi p0 2 20 := wi_20 (by rw [i_20]; omega)
          have ew1 : 0 = wi p1 0 7 := wi_7 (by rw [i_0]; omega)
          have ew2 : 0 = wi p2 0 7 := wi_7 (by rw [i_0]; omega)
          have hat9 := hr_221
          rw [show (mfs 20 0 0 0 rr 0) = mfs (wi p0 2 20) (wi p1 0 7) (wi p2 0 7) 0 rr 0 by rw [← ew0, ← ew1, ← ew2]] at hat9
          exact W.vret hx hb hr (fun t ht hW => ⟨⟨_, rfl, hE.fin hG0, by rw [ht]; exact hT, rr, by rw [ht]; exact hat9, fun j a b c => up_k (hrr j a b c) hG0 (by omega)⟩, hS.F ht⟩) hS.2.2 dX10_init_413
  · simp only [lt_I, le_I, eq_I, i_0, i_1, i_2, i_3, i_4, i_5, i_6, i_7, i_8, i_10, i_12, i_16, i_20, i_23, i_24, i_31, i_32, i_63, i_64, i_m1] at c_178
    refine lv_iconst (v := 2) hx hb dX10_init_346 (by decide) ?_
    refine lv_goto (tgt := 362) hx hb dX10_init_347 (by decide) ?_
    refine rr_putF (D := DG E) (ci := 10) (v := .int 2) (ty := .int) (C := RX10) (T := TX10) (N := 49) hx hb hts iw_X10 tyX10 tyX10_ok nmX10 hown hK.1 hr_177 hS (Or.inl rfl) rfl 0 (by decide) (hts _ fl_X10_143) (fun _ h9 => h9) rfl hin rfl (by decide +kernel) rfl rfl (Nat.le_of_ble_eq_true rfl) dX10_init_362 (fun H locs hn ho hz hS => ?_)
    have hr_222 : va_at (DG E) vwCl (h0, .inr (10, mfs 2 0 0 0 rr 0)) H := hn
    have hT := hT.off hG0 ho
    refine lv_aload_n hx hb dX10_init_365 rfl (lv_at hl 0 rfl) ?_
    refine lv_iload_n hx hb dX10_init_366 rfl (lv_at hl 2 rfl) ?_
    refine lv_if_ge (tgt := 374) hx hb dX10_init_367 (by decide) (fun c_223 => ?_) (fun c_223 => ?_)
    · simp only [lt_I, le_I, eq_I, i_0, i_1, i_2, i_3, i_4, i_5, i_6, i_7, i_8, i_10, i_12, i_16, i_20, i_23, i_24, i_31, i_32, i_63, i_64, i_m1] at c_223
      refine lv_iload_n hx hb dX10_init_374 rfl (lv_at hl 2 rfl) ?_
      refine lv_bipush (v := 7) hx hb dX10_init_375 (by decide) ?_
      refine lv_icmp_le (tgt := 385) hx hb dX10_init_377 (by decide) (fun c_224 => ?_) (fun c_224 => ?_)
      · simp only [lt_I, le_I, eq_I, i_0, i_1, i_2, i_3, i_4, i_5, i_6, i_7, i_8, i_10, i_12, i_16, i_20, i_23, i_24, i_31, i_32, i_63, i_64, i_m1] at c_224
        refine lv_iload_n hx hb dX10_init_385 rfl (lv_at hl 2 rfl) ?_
        refine rr_putF (D := DG E) (ci := 10) (v := .int p1) (ty := .int) (C := RX10) (T := TX10) (N := 49) hx hb hts iw_X10 tyX10 tyX10_ok nmX10 hown hK.1 hr_222 hS (Or.inl rfl) rfl 1 (by decide) (hts _ fl_X10_147) (fun _ h9 => h9) rfl hin rfl (by decide +kernel) rfl rfl (Nat.le_of_ble_eq_true rfl) dX10_init_386 (fun H locs hn ho hz hS => ?_)
        have hr_225 : va_at (DG E) vwCl (h0, .inr (10, mfs 2 p1 0 0 rr 0)) H := hn
        have hT := hT.off hG0 ho
        refine lv_aload_n hx hb dX10_init_389 rfl (lv_at hl 0 rfl) ?_
        refine lv_iload_n hx hb dX10_init_390 rfl (lv_at hl 3 rfl) ?_
        refine lv_if_ge (tgt := 398) hx hb dX10_init_391 (by decide) (fun c_226 => ?_) (fun c_226 => ?_)
        · simp only [lt_I, le_I, eq_I, i_0, i_1, i_2, i_3, i_4, i_5, i_6, i_7, i_8, i_10, i_12, i_16, i_20, i_23, i_24, i_31, i_32, i_63, i_64, i_m1] at c_226
          refine lv_iload_n hx hb dX10_init_398 rfl (lv_at hl 3 rfl) ?_
          refine lv_bipush (v := 7) hx hb dX10_init_399 (by decide) ?_
          refine lv_icmp_le (tgt := 409) hx hb dX10_init_401 (by decide) (fun c_227 => ?_) (fun c_227 => ?_)
          · simp only [lt_I, le_I, eq_I, i_0, i_1, i_2, i_3, i_4, i_5, i_6, i_7, i_8, i_10, i_12, i_16, i_20, i_23, i_24, i_31, i_32, i_63, i_64, i_m1] at c_227
            refine lv_iload_n hx hb dX10_init_409 rfl (lv_at hl 3 rfl) ?_
            refine rr_putF (D := DG E) (ci := 10) (v := .int p2) (ty := .int) (C := RX10) (T := TX10) (N := 49) hx hb hts iw_X10 tyX10 tyX10_ok nmX10 hown hK.1 hr_225 hS (Or.inl rfl) rfl 2 (by decide) (hts _ fl_X10_150) (fun _ h9 => h9) rfl hin rfl (by decide +kernel) rfl rfl (Nat.le_of_ble_eq_true rfl) dX10_init_410 (fun H locs hn ho hz hS => ?_)
            have hr_228 : va_at (DG E) vwCl (h0, .inr (10, mfs 2 p1 p2 0 rr 0)) H := hn
            have hT := hT.off hG0 ho
            have hT := hT.add (g := 20) hG0 (show T0 E (va_up G_176 h0 20) 20 _ from ⟨2, p1, p2, rr, rfl, fun j a b c => up_k (hrr j a b c) hG0 (by omega)⟩) hr_228
            have ew0 : 2 = wi p0 2 20 := wi_20 (by rw [i_2]; omega)
            have ew1 : p1 = wi p1 0 7 := wi_7 (by omega)
            have ew2 : p2 = wi p2 0 7 := wi_7 (by omega)
            have hat9 := hr_228
            rw [show (mfs 2 p1 p2 0 rr 0) = mfs (wi p0 2 20) (wi p1 0 7) (wi p2 0 7) 0 rr 0 by rw [← ew0, ← ew1, ← ew2]] at hat9
            exact W.vret hx hb hr (fun t ht hW => ⟨⟨_, rfl, hE.fin hG0, by rw [ht]; exact hT, rr, by rw [ht]; exact hat9, fun j a b c => up_k (hrr j a b c) hG0 (by omega)⟩, hS.F ht⟩) hS.2.2 dX10_init_413
          · simp only [lt_I, le_I, eq_I, i_0, i_1, i_2, i_3, i_4, i_5, i_6, i_7, i_8, i_10, i_12, i_16, i_20, i_23, i_24, i_31, i_32, i_63, i_64, i_m1] at c_227
            refine lv_bipush (v := 7) hx hb dX10_init_404 (by decide) ?_
            refine lv_goto (tgt := 410) hx hb dX10_init_406 (by decide) ?_
            refine rr_putF (D := DG E) (ci := 10) (v := .int 7) (ty := .int) (C := RX10) (T := TX10) (N := 49) hx hb hts iw_X10 tyX10 tyX10_ok nmX10 hown hK.1 hr_225 hS (Or.inl rfl) rfl 2 (by decide) (hts _ fl_X10_150) (fun _ h9 => h9) rfl hin rfl (by decide +kernel) rfl rfl (Nat.le_of_ble_eq_true rfl) dX10_init_410 (fun H locs hn ho hz hS => ?_)
            have hr_229 : va_at (DG E) vwCl (h0, .inr (10, mfs 2 p1 7 0 rr 0)) H := hn
            have hT := hT.off hG0 ho
            have hT := hT.add (g := 20) hG0 (show T0 E (va_up G_176 h0 20) 20 _ from ⟨2, p1, 7, rr, rfl, fun j a b c => up_k (hrr j a b c) hG0 (by omega)⟩) hr_229
            have ew0 : 2 = wi p0 2 20 := wi_20 (by rw [i_2]; omega)
            have ew1 : p1 = wi p1 0 7 := wi_7 (by omega)
            have ew2 : 7 = wi p2 0 7 := wi_7 (by rw [i_7]; omega)
            have hat9 := hr_229
            rw [show (mfs 2 p1 7 0 rr 0) = mfs (wi p0 2 20) (wi p1 0 7) (wi p2 0 7) 0 rr 0 by rw [← ew0, ← ew1, ← ew2]] at hat9
            exact W.vret hx hb hr (fun t ht hW => ⟨⟨_, rfl, hE.fin hG0, by rw [ht]; exact hT, rr, by rw [ht]; exact hat9, fun j a b c => up_k (hrr j a b c) hG0 (by omega)⟩, hS.F ht⟩) hS.2.2 dX10_init_413
        · simp only [lt_I, le_I, eq_I, i_0, i_1, i_2, i_3, i_4, i_5, i_6, i_7, i_8, i_10, i_12, i_16, i_20, i_23, i_24, i_31, i_32, i_63, i_64, i_m1] at c_226
          refine lv_iconst (v := 0) hx hb dX10_init_394 (by decide) ?_
          refine lv_goto (tgt := 410) hx hb dX10_init_395 (by decide) ?_
          refine rr_putF (D := DG E) (ci := 10) (v := .int 0) (ty := .int) (C := RX10) (T := TX10) (N := 49) hx hb hts iw_X10 tyX10 tyX10_ok nmX10 hown hK.1 hr_225 hS (Or.inl rfl) rfl 2 (by decide) (hts _ fl_X10_150) (fun _ h9 => h9) rfl hin rfl (by decide +kernel) rfl rfl (Nat.le_of_ble_eq_true rfl) dX10_init_410 (fun H locs hn ho hz hS => ?_)
          have hr_230 : va_at (DG E) vwCl (h0, .inr (10, mfs 2 p1 0 0 rr 0)) H := hn
          have hT := hT.off hG0 ho
          have hT := hT.add (g := 20) hG0 (show T0 E (va_up G_176 h0 20) 20 _ from ⟨2, p1, 0, rr, rfl, fun j a b c => up_k (hrr j a b c) hG0 (by omega)⟩) hr_230
          have ew0 : 2 = wi p0 2 20 := wi_20 (by rw [i_2]; omega)
          have ew1 : p1 = wi p1 0 7 := wi_7 (by omega)
          have ew2 : 0 = wi p2 0 7 := wi_7 (by rw [i_0]; omega)
          have hat9 := hr_230
          rw [show (mfs 2 p1 0 0 rr 0) = mfs (wi p0 2 20) (wi p1 0 7) (wi p2 0 7) 0 rr 0 by rw [← ew0, ← ew1, ← ew2]] at hat9
          exact W.vret hx hb hr (fun t ht hW => ⟨⟨_, rfl, hE.fin hG0, by rw [ht]; exact hT, rr, by rw [ht]; exact hat9, fun j a b c => up_k (hrr j a b c) hG0 (by omega)⟩, hS.F ht⟩) hS.2.2 dX10_init_413
      · simp only [lt_I, le_I, eq_I, i_0, i_1, i_2, i_3, i_4, i_5, i_6, i_7, i_8, i_10, i_12, i_16, i_20, i_23, i_24, i_31, i_32, i_63, i_64, i_m1] at c_224
        refine lv_bipush (v := 7) hx hb dX10_init_380 (by decide) ?_
        refine lv_goto (tgt := 386) hx hb dX10_init_382 (by decide) ?_
        refine rr_putF (D := DG E) (ci := 10) (v := .int 7) (ty := .int) (C := RX10) (T := TX10) (N := 49) hx hb hts iw_X10 tyX10 tyX10_ok nmX10 hown hK.1 hr_222 hS (Or.inl rfl) rfl 1 (by decide) (hts _ fl_X10_147) (fun _ h9 => h9) rfl hin rfl (by decide +kernel) rfl rfl (Nat.le_of_ble_eq_true rfl) dX10_init_386 (fun H locs hn ho hz hS => ?_)
        have hr_231 : va_at (DG E) vwCl (h0, .inr (10, mfs 2 7 0 0 rr 0)) H := hn
        have hT := hT.off hG0 ho
        refine lv_aload_n hx hb dX10_init_389 rfl (lv_at hl 0 rfl) ?_
        refine lv_iload_n hx hb dX10_init_390 rfl (lv_at hl 3 rfl) ?_
        refine lv_if_ge (tgt := 398) hx hb dX10_init_391 (by decide) (fun c_232 => ?_) (fun c_232 => ?_)
        · simp only [lt_I, le_I, eq_I, i_0, i_1, i_2, i_3, i_4, i_5, i_6, i_7, i_8, i_10, i_12, i_16, i_20, i_23, i_24, i_31, i_32, i_63, i_64, i_m1] at c_232
          refine lv_iload_n hx hb dX10_init_398 rfl (lv_at hl 3 rfl) ?_
          refine lv_bipush (v := 7) hx hb dX10_init_399 (by decide) ?_
          refine lv_icmp_le (tgt := 409) hx hb dX10_init_401 (by decide) (fun c_233 => ?_) (fun c_233 => ?_)
          · simp only [lt_I, le_I, eq_I, i_0, i_1, i_2, i_3, i_4, i_5, i_6, i_7, i_8, i_10, i_12, i_16, i_20, i_23, i_24, i_31, i_32, i_63, i_64, i_m1] at c_233
            refine lv_iload_n hx hb dX10_init_409 rfl (lv_at hl 3 rfl) ?_
            refine rr_putF (D := DG E) (ci := 10) (v := .int p2) (ty := .int) (C := RX10) (T := TX10) (N := 49) hx hb hts iw_X10 tyX10 tyX10_ok nmX10 hown hK.1 hr_231 hS (Or.inl rfl) rfl 2 (by decide) (hts _ fl_X10_150) (fun _ h9 => h9) rfl hin rfl (by decide +kernel) rfl rfl (Nat.le_of_ble_eq_true rfl) dX10_init_410 (fun H locs hn ho hz hS => ?_)
            have hr_234 : va_at (DG E) vwCl (h0, .inr (10, mfs 2 7 p2 0 rr 0)) H := hn
            have hT := hT.off hG0 ho
            have hT := hT.add (g := 20) hG0 (show T0 E (va_up G_176 h0 20) 20 _ from ⟨2, 7, p2, rr, rfl, fun j a b c => up_k (hrr j a b c) hG0 (by omega)⟩) hr_234
            have ew0 : 2 = wi p0 2 20 := wi_20 (by rw [i_2]; omega)
            have ew1 : 7 = wi p1 0 7 := wi_7 (by rw [i_7]; omega)
            have ew2 : p2 = wi p2 0 7 := wi_7 (by omega)
            have hat9 := hr_234
            rw [show (mfs 2 7 p2 0 rr 0) = mfs (wi p0 2 20) (wi p1 0 7) (wi p2 0 7) 0 rr 0 by rw [← ew0, ← ew1, ← ew2]] at hat9
            exact W.vret hx hb hr (fun t ht hW => ⟨⟨_, rfl, hE.fin hG0, by rw [ht]; exact hT, rr, by rw [ht]; exact hat9, fun j a b c => up_k (hrr j a b c) hG0 (by omega)⟩, hS.F ht⟩) hS.2.2 dX10_init_413
          · simp only [lt_I, le_I, eq_I, i_0, i_1, i_2, i_3, i_4, i_5, i_6, i_7, i_8, i_10, i_12, i_16, i_20, i_23, i_24, i_31, i_32, i_63, i_64, i_m1] at c_233
            refine lv_bipush (v := 7) hx hb dX10_init_404 (by decide) ?_
            refine lv_goto (tgt := 410) hx hb dX10_init_406 (by decide) ?_
            refine rr_putF (D := DG E) (ci := 10) (v := .int 7) (ty := .int) (C := RX10) (T := TX10) (N := 49) hx hb hts iw_X10 tyX10 tyX10_ok nmX10 hown hK.1 hr_231 hS (Or.inl rfl) rfl 2 (by decide) (hts _ fl_X10_150) (fun _ h9 => h9) rfl hin rfl (by decide +kernel) rfl rfl (Nat.le_of_ble_eq_true rfl) dX10_init_410 (fun H locs hn ho hz hS => ?_)
            have hr_235 : va_at (DG E) vwCl (h0, .inr (10, mfs 2 7 7 0 rr 0)) H := hn
            have hT := hT.off hG0 ho
            have hT := hT.add (g := 20) hG0 (show T0 E (va_up G_176 h0 20) 20 _ from ⟨2, 7, 7, rr, rfl, fun j a b c => up_k (hrr j a b c) hG0 (by omega)⟩) hr_235
            have ew0 : 2 = wi p0 2 20 := wi_20 (by rw [i_2]; omega)
            have ew1 : 7 = wi p1 0 7 := wi_7 (by rw [i_7]; omega)
            have ew2 : 7 = wi p2 0 7 := wi_7 (by rw [i_7]; omega)
            have hat9 := hr_235
            rw [show (mfs 2 7 7 0 rr 0) = mfs (wi p0 2 20) (wi p1 0 7) (wi p2 0 7) 0 rr 0 by rw [← ew0, ← ew1, ← ew2]] at hat9
            exact W.vret hx hb hr (fun t ht hW => ⟨⟨_, rfl, hE.fin hG0, by rw [ht]; exact hT, rr, by rw [ht]; exact hat9, fun j a b c => up_k (hrr j a b c) hG0 (by omega)⟩, hS.F ht⟩) hS.2.2 dX10_init_413
        · simp only [lt_I, le_I, eq_I, i_0, i_1, i_2, i_3, i_4, i_5, i_6, i_7, i_8, i_10, i_12, i_16, i_20, i_23, i_24, i_31, i_32, i_63, i_64, i_m1] at c_232
          refine lv_iconst (v := 0) hx hb dX10_init_394 (by decide) ?_
          refine lv_goto (tgt := 410) hx hb dX10_init_395 (by decide) ?_
          refine rr_putF (D := DG E) (ci := 10) (v := .int 0) (ty := .int) (C := RX10) (T := TX10) (N := 49) hx hb hts iw_X10 tyX10 tyX10_ok nmX10 hown hK.1 hr_231 hS (Or.inl rfl) rfl 2 (by decide) (hts _ fl_X10_150) (fun _ h9 => h9) rfl hin rfl (by decide +kernel) rfl rfl (Nat.le_of_ble_eq_true rfl) dX10_init_410 (fun H locs hn ho hz hS => ?_)
          have hr_236 : va_at (DG E) vwCl (h0, .inr (10, mfs 2 7 0 0 rr 0)) H := hn
          have hT := hT.off hG0 ho
          have hT := hT.add (g := 20) hG0 (show T0 E (va_up G_176 h0 20) 20 _ from ⟨2, 7, 0, rr, rfl, fun j a b c => up_k (hrr j a b c) hG0 (by omega)⟩) hr_236
          have ew0 : 2 = wi p0 2 20 := wi_20 (by rw [i_2]; omega)
          have ew1 : 7 = wi p1 0 7 := wi_7 (by rw [i_7]; omega)
          have ew2 : 0 = wi p2 0 7 := wi_7 (by rw [i_0]; omega)
          have hat9 := hr_236
          rw [show (mfs 2 7 0 0 rr 0) = mfs (wi p0 2 20) (wi p1 0 7) (wi p2 0 7) 0 rr 0 by rw [← ew0, ← ew1, ← ew2]] at hat9
          exact W.vret hx hb hr (fun t ht hW => ⟨⟨_, rfl, hE.fin hG0, by rw [ht]; exact hT, rr, by rw [ht]; exact hat9, fun j a b c => up_k (hrr j a b c) hG0 (by omega)⟩, hS.F ht⟩) hS.2.2 dX10_init_413
    · simp only [lt_I, le_I, eq_I, i_0, i_1, i_2, i_3, i_4, i_5, i_6, i_7, i_8, i_10, i_12, i_16, i_20, i_23, i_24, i_31, i_32, i_63, i_64, i_m1] at c_223
      refine lv_iconst (v := 0) hx hb dX10_init_370 (by decide) ?_
      refine lv_goto (tgt := 386) hx hb dX10_init_371 (by decide) ?_
      refine rr_putF (D := DG E) (ci := 10) (v := .int 0) (ty := .int) (C := RX10) (T := TX10) (N := 49) hx hb hts iw_X10 tyX10 tyX10_ok nmX10 hown hK.1 hr_222 hS (Or.inl rfl) rfl 1 (by decide) (hts _ fl_X10_147) (fun _ h9 => h9) rfl hin rfl (by decide +kernel) rfl rfl (Nat.le_of_ble_eq_true rfl) dX10_init_386 (fun H locs hn ho hz hS => ?_)
      have hr_237 : va_at (DG E) vwCl (h0, .inr (10, mfs 2 0 0 0 rr 0)) H := hn
      have hT := hT.off hG0 ho
      refine lv_aload_n hx hb dX10_init_389 rfl (lv_at hl 0 rfl) ?_
      refine lv_iload_n hx hb dX10_init_390 rfl (lv_at hl 3 rfl) ?_
      refine lv_if_ge (tgt := 398) hx hb dX10_init_391 (by decide) (fun c_238 => ?_) (fun c_238 => ?_)
      · simp only [lt_I, le_I, eq_I, i_0, i_1, i_2, i_3, i_4, i_5, i_6, i_7, i_8, i_10, i_12, i_16, i_20, i_23, i_24, i_31, i_32, i_63, i_64, i_m1] at c_238
        refine lv_iload_n hx hb dX10_init_398 rfl (lv_at hl 3 rfl) ?_
        refine lv_bipush (v := 7) hx hb dX10_init_399 (by decide) ?_
        refine lv_icmp_le (tgt := 409) hx hb dX10_init_401 (by decide) (fun c_239 => ?_) (fun c_239 => ?_)
        · simp only [lt_I, le_I, eq_I, i_0, i_1, i_2, i_3, i_4, i_5, i_6, i_7, i_8, i_10, i_12, i_16, i_20, i_23, i_24, i_31, i_32, i_63, i_64, i_m1] at c_239
          refine lv_iload_n hx hb dX10_init_409 rfl (lv_at hl 3 rfl) ?_
          refine rr_putF (D := DG E) (ci := 10) (v := .int p2) (ty := .int) (C := RX10) (T := TX10) (N := 49) hx hb hts iw_X10 tyX10 tyX10_ok nmX10 hown hK.1 hr_237 hS (Or.inl rfl) rfl 2 (by decide) (hts _ fl_X10_150) (fun _ h9 => h9) rfl hin rfl (by decide +kernel) rfl rfl (Nat.le_of_ble_eq_true rfl) dX10_init_410 (fun H locs hn ho hz hS => ?_)
          have hr_240 : va_at (DG E) vwCl (h0, .inr (10, mfs 2 0 p2 0 rr 0)) H := hn
          have hT := hT.off hG0 ho
          have hT := hT.add (g := 20) hG0 (show T0 E (va_up G_176 h0 20) 20 _ from ⟨2, 0, p2, rr, rfl, fun j a b c => up_k (hrr j a b c) hG0 (by omega)⟩) hr_240
          have ew0 : 2 = wi p0 2 20 := wi_20 (by rw [i_2]; omega)
          have ew1 : 0 = wi p1 0 7 := wi_7 (by rw [i_0]; omega)
          have ew2 : p2 = wi p2 0 7 := wi_7 (by omega)
          have hat9 := hr_240
          rw [show (mfs 2 0 p2 0 rr 0) = mfs (wi p0 2 20) (wi p1 0 7) (wi p2 0 7) 0 rr 0 by rw [← ew0, ← ew1, ← ew2]] at hat9
          exact W.vret hx hb hr (fun t ht hW => ⟨⟨_, rfl, hE.fin hG0, by rw [ht]; exact hT, rr, by rw [ht]; exact hat9, fun j a b c => up_k (hrr j a b c) hG0 (by omega)⟩, hS.F ht⟩) hS.2.2 dX10_init_413
        · simp only [lt_I, le_I, eq_I, i_0, i_1, i_2, i_3, i_4, i_5, i_6, i_7, i_8, i_10, i_12, i_16, i_20, i_23, i_24, i_31, i_32, i_63, i_64, i_m1] at c_239
          refine lv_bipush (v := 7) hx hb dX10_init_404 (by decide) ?_
          refine lv_goto (tgt := 410) hx hb dX10_init_406 (by decide) ?_
          refine rr_putF (D := DG E) (ci := 10) (v := .int 7) (ty := .int) (C := RX10) (T := TX10) (N := 49) hx hb hts iw_X10 tyX10 tyX10_ok nmX10 hown hK.1 hr_237 hS (Or.inl rfl) rfl 2 (by decide) (hts _ fl_X10_150) (fun _ h9 => h9) rfl hin rfl (by decide +kernel) rfl rfl (Nat.le_of_ble_eq_true rfl) dX10_init_410 (fun H locs hn ho hz hS => ?_)
          have hr_241 : va_at (DG E) vwCl (h0, .inr (10, mfs 2 0 7 0 rr 0)) H := hn
          have hT := hT.off hG0 ho
          have hT := hT.add (g := 20) hG0 (show T0 E (va_up G_176 h0 20) 20 _ from ⟨2, 0, 7, rr, rfl, fun j a b c => up_k (hrr j a b c) hG0 (by omega)⟩) hr_241
          have ew0 : 2 = wi p0 2 20 := wi_20 (by rw [i_2]; omega)
          have ew1 : 0 = wi p1 0 7 := wi_7 (by rw [i_0]; omega)
          have ew2 : 7 = wi p2 0 7 := wi_7 (by rw [i_7]; omega)
          have hat9 := hr_241
          rw [show (mfs 2 0 7 0 rr 0) = mfs (wi p0 2 20) (wi p1 0 7) (wi p2 0 7) 0 rr 0 by rw [← ew0, ← ew1, ← ew2]] at hat9
          exact W.vret hx hb hr (fun t ht hW => ⟨⟨_, rfl, hE.fin hG0, by rw [ht]; exact hT, rr, by rw [ht]; exact hat9, fun j a b c => up_k (hrr j a b c) hG0 (by omega)⟩, hS.F ht⟩) hS.2.2 dX10_init_413
      · simp only [lt_I, le_I, eq_I, i_0, i_1, i_2, i_3, i_4, i_5, i_6, i_7, i_8, i_10, i_12, i_16, i_20, i_23, i_24, i_31, i_32, i_63, i_64, i_m1] at c_238
        refine lv_iconst (v := 0) hx hb dX10_init_394 (by decide) ?_
        refine lv_goto (tgt := 410) hx hb dX10_init_395 (by decide) ?_
        refine rr_putF (D := DG E) (ci := 10) (v := .int 0) (ty := .int) (C := RX10) (T := TX10) (N := 49) hx hb hts iw_X10 tyX10 tyX10_ok nmX10 hown hK.1 hr_237 hS (Or.inl rfl) rfl 2 (by decide) (hts _ fl_X10_150) (fun _ h9 => h9) rfl hin rfl (by decide +kernel) rfl rfl (Nat.le_of_ble_eq_true rfl) dX10_init_410 (fun H locs hn ho hz hS => ?_)
        have hr_242 : va_at (DG E) vwCl (h0, .inr (10, mfs 2 0 0 0 rr 0)) H := hn
        have hT := hT.off hG0 ho
        have hT := hT.add (g := 20) hG0 (show T0 E (va_up G_176 h0 20) 20 _ from ⟨2, 0, 0, rr, rfl, fun j a b c => up_k (hrr j a b c) hG0 (by omega)⟩) hr_242
        have ew0 : 2 = wi p0 2 20 := wi_20 (by rw [i_2]; omega)
        have ew1 : 0 = wi p1 0 7 := wi_7 (by rw [i_0]; omega)
        have ew2 : 0 = wi p2 0 7 := wi_7 (by rw [i_0]; omega)
        have hat9 := hr_242
        rw [show (mfs 2 0 0 0 rr 0) = mfs (wi p0 2 20) (wi p1 0 7) (wi p2 0 7) 0 rr 0 by rw [← ew0, ← ew1, ← ew2]] at hat9
        exact W.vret hx hb hr (fun t ht hW => ⟨⟨_, rfl, hE.fin hG0, by rw [ht]; exact hT, rr, by rw [ht]; exact hat9, fun j a b c => up_k (hrr j a b c) hG0 (by omega)⟩, hS.F ht⟩) hS.2.2 dX10_init_413
