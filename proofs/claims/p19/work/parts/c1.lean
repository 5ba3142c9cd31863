section
set_option maxHeartbeats 40000000 in
set_option maxRecDepth 100000 in
theorem c_X10_init (l : Launch) (E : EE) (z0 : Nat) (G : Nat → Nat) (h0 sz : Nat) (p0 p1 p2 : Int32) (hG0 : G h0 = 0) (hz0 : z0 ≤ h0) (hz1 : z0 ≤ sz) : Met l yX10_init [Cond.code yX10_init cX10_init 4 none] ({ frames := 1, cells := 44, slots := 809, locals := 20 } : Room) (va_Pc [.ref h0, .int p0, .int p1, .int p2] (fun U => (U.heap.size = sz ∧ va_at (DG E) vwCl (h0, .inr (10, [.int 0, .int 0, .int 0, .int 0, .null, .null, .null, .null, .null, .null, .null, .null, .null, .null, .null, .null, .null, .null, .null, .null, .null, .null, .null, .null, .null, .null, .null, .null, .null, .null, .null, .null, .null, .null, .null, .null, .null, .null, .null, .null, .int 0, .null, .null, .null, .null, .null, .null, .null, .null])) U.heap ∧ TH E (T0 E) G [] U.heap) ∧ KS E z0 U)) (va_Qv (fun (G1 : Nat → Nat) => GX G G1 h0 20 sz) (fun G1 t => TH E (T0 E) G1 [] t.heap ∧ ∃ rf : Nat → Nat, va_at (DG E) vwCl (h0, .inr (10, mfs (wi p0 2 20) (wi p1 0 7) (wi p2 0 7) 0 rf 0)) t.heap ∧ ∀ j, 4 ≤ j → j < 49 → j ≠ 40 → G1 (rf j) = 100 + j) (AC h0 sz)) 44 809 (AC h0 sz) := by
  refine Met.ofW (cc := cX10_init) (maxL := 4) (ret := none) (by decide) rfl ?_
  intro p e s m args below meth c s₁ B hml hv
  obtain ⟨rfl, ⟨hsz, hr0, hT⟩, hK⟩ := hv
  have hx := B.exec
  have hb := B.bytes
  have hr := B.returns
  have hts : ∀ w ∈ TS, w.before ([.ref h0, .int p0, .int p1, .int p2] : List Value).toArray s = true := fun w hw => hK.2.1 w hw _
  have hown : s.vm.findClass RX10 = some m.cls := findClass_of_methodNamed B.named
  have hlocks := B.notSynchronized
  have hin : meth.name = "<init>" := (name_of_methodNamed B.named B.method).1
  have hS : va_S (AC h0 sz) s.heap s.heap [] := va_S.rf
  have hAz : ∀ q, AC h0 sz q → z0 ≤ q := fun q h => h.elim (fun e => by omega) (fun e => by omega)
  have hE : GE G G h0 sz := GE.rf
  have hlt0 : h0 < sz := by have h9 := hr0.lt; have h8 : h0 < _ := h9; omega
  obtain ⟨H, eH⟩ : ∃ H, H = s.heap := ⟨_, rfl⟩
  rw [← eH] at hr0 hT
  have hS : va_S (AC h0 sz) s.heap H [] := by rw [eH]; exact hS
  rw [← eH]
  have hsz : s.heap.size = sz := hsz
  have hl := lv_entry ([.ref h0, .int p0, .int p1, .int p2]) (n := 4) (Nat.le_of_ble_eq_true rfl)
  rw [lg_entry_eq]
  generalize (lg_sl ([.ref h0, .int p0, .int p1, .int p2]) ++ List.replicate (4 - (lg_sl ([.ref h0, .int p0, .int p1, .int p2])).length) Slot.unset).toArray = ls at hl ⊢
  have hl : lv_has ls 4 [(0, .ref h0), (1, .int p0), (2, .int p1), (3, .int p2)] := hl
  refine lv_aload_n hx hb dX10_init_0 rfl (lv_at hl 0 rfl) ?_
  refine W.objInit hx hb hown (hts _ ml_X10_1) (hts _ im_Object__init_) (hts _ co_Object__init_) rfl (by rw [hml]; exact hl.1) rfl dX10_init_1 (Nat.le_of_ble_eq_true rfl) (Nat.le_of_ble_eq_true rfl) ?_
  refine W.eq (g2 := F0 m 4 ls []) rfl ?_
  refine lv_aload_n hx hb dX10_init_4 rfl (lv_at hl 0 rfl) ?_
  refine lv_bipush (v := 64) hx hb dX10_init_5 (by decide) ?_
  have hSo : s.heap.size ≤ _ := hS.1
  refine rr_newa (D := DG E) (atype := .int) (N' := 64) (a0 := (64, .inl (fun _ => 0))) hx hb (hts _ ac_int) hK.1 0 rfl hS rfl (by decide) (by decide) (by decide) (Nat.le_of_ble_eq_true rfl) (Nat.le_of_ble_eq_true rfl) dX10_init_7 (fun q_1 H hq hat hz ho hS => ?_)
  have hr_2 := hat
  have zq_1 := hT.fresh hq
  have neq_1_h0 : h0 ≠ q_1 := ne_q hr0.lt hq
  have hr0 := hr0.kept (ho _ hr0.lt)
  have szq_1 : sz ≤ q_1 := le_q hsz hSo hq
  have hT := hT.kept ho
  refine rr_putF (D := DG E) (ci := 10) (v := .ref q_1) (ty := .array .int) (C := RX10) (T := TX10) (N := 49) hx hb hts iw_X10 tyX10 tyX10_ok nmX10 hown hK.1 hr0 hS (Or.inl rfl) rfl 4 (by decide) (hts _ fl_X10_7) (fun _ h9 => h9) rfl hin rfl (by decide +kernel) rfl rfl (Nat.le_of_ble_eq_true rfl) dX10_init_9 (fun H locs hn ho hz hS => ?_)
  have hr_3 : va_at (DG E) vwCl (h0, .inr (10, [.int 0, .int 0, .int 0, .int 0, .ref q_1, .null, .null, .null, .null, .null, .null, .null, .null, .null, .null, .null, .null, .null, .null, .null, .null, .null, .null, .null, .null, .null, .null, .null, .null, .null, .null, .null, .null, .null, .null, .null, .null, .null, .null, .null, .int 0, .null, .null, .null, .null, .null, .null, .null, .null])) H := hn
  have hr_2 := hr_2.kept (ho _ (Ne.symm neq_1_h0))
  have hT := hT.off hG0 ho
  have hT := hT.add (g := 104) zq_1 (show T0 E (va_up G q_1 104) 104 _ from ⟨by decide, rfl⟩) hr_2
  have hE := hE.add (g := 104) zq_1 szq_1
  have hG0 := (va_up_ne G 104 neq_1_h0).trans hG0
  have gq_4 := va_up_self G q_1 104
  have st_4 : ∀ a x, x ≠ 0 → G a = x → va_up G q_1 104 a = x := fun a x h1 h2 => up_k h2 zq_1 h1
  obtain ⟨G_4, eG_4⟩ : ∃ z, z = va_up G q_1 104 := ⟨_, rfl⟩
  rw [← eG_4] at hT hE hG0 gq_4 st_4
  try clear hSo hq hz hat
  refine lv_aload_n hx hb dX10_init_12 rfl (lv_at hl 0 rfl) ?_
  refine lv_bipush (v := 12) hx hb dX10_init_13 (by decide) ?_
  have hSo : s.heap.size ≤ _ := hS.1
  refine rr_newa (D := DG E) (atype := .int) (N' := 12) (a0 := (12, .inl (fun _ => 0))) hx hb (hts _ ac_int) hK.1 0 rfl hS rfl (by decide) (by decide) (by decide) (Nat.le_of_ble_eq_true rfl) (Nat.le_of_ble_eq_true rfl) dX10_init_15 (fun q_5 H hq hat hz ho hS => ?_)
  have hr_6 := hat
  have zq_5 := hT.fresh hq
  have neq_5_h0 : h0 ≠ q_5 := ne_q hr_3.lt hq
  have hr_3 := hr_3.kept (ho _ hr_3.lt)
  have szq_5 : sz ≤ q_5 := le_q hsz hSo hq
  have hT := hT.kept ho
  refine rr_putF (D := DG E) (ci := 10) (v := .ref q_5) (ty := .array .int) (C := RX10) (T := TX10) (N := 49) hx hb hts iw_X10 tyX10 tyX10_ok nmX10 hown hK.1 hr_3 hS (Or.inl rfl) rfl 5 (by decide) (hts _ fl_X10_13) (fun _ h9 => h9) rfl hin rfl (by decide +kernel) rfl rfl (Nat.le_of_ble_eq_true rfl) dX10_init_17 (fun H locs hn ho hz hS => ?_)
  have hr_7 : va_at (DG E) vwCl (h0, .inr (10, [.int 0, .int 0, .int 0, .int 0, .ref q_1, .ref q_5, .null, .null, .null, .null, .null, .null, .null, .null, .null, .null, .null, .null, .null, .null, .null, .null, .null, .null, .null, .null, .null, .null, .null, .null, .null, .null, .null, .null, .null, .null, .null, .null, .null, .null, .int 0, .null, .null, .null, .null, .null, .null, .null, .null])) H := hn
  have hr_6 := hr_6.kept (ho _ (Ne.symm neq_5_h0))
  have hT := hT.off hG0 ho
  have hT := hT.add (g := 105) zq_5 (show T0 E (va_up G_4 q_5 105) 105 _ from ⟨by decide, rfl⟩) hr_6
  have hE := hE.add (g := 105) zq_5 szq_5
  have hG0 := (va_up_ne G_4 105 neq_5_h0).trans hG0
  have gq_5 := va_up_self G_4 q_5 105
  have st_5 : ∀ a x, x ≠ 0 → G_4 a = x → va_up G_4 q_5 105 a = x := fun a x h1 h2 => up_k h2 zq_5 h1
  obtain ⟨G_8, eG_8⟩ : ∃ z, z = va_up G_4 q_5 105 := ⟨_, rfl⟩
  rw [← eG_8] at hT hE hG0 gq_5 st_5
  try clear hSo hq hz hat
  refine lv_aload_n hx hb dX10_init_20 rfl (lv_at hl 0 rfl) ?_
  refine lv_bipush (v := 12) hx hb dX10_init_21 (by decide) ?_
  have hSo : s.heap.size ≤ _ := hS.1
  refine rr_newa (D := DG E) (atype := .int) (N' := 12) (a0 := (12, .inl (fun _ => 0))) hx hb (hts _ ac_int) hK.1 0 rfl hS rfl (by decide) (by decide) (by decide) (Nat.le_of_ble_eq_true rfl) (Nat.le_of_ble_eq_true rfl) dX10_init_23 (fun q_9 H hq hat hz ho hS => ?_)
  have hr_10 := hat
  have zq_9 := hT.fresh hq
  have neq_9_h0 : h0 ≠ q_9 := ne_q hr_7.lt hq
  have hr_7 := hr_7.kept (ho _ hr_7.lt)
  have szq_9 : sz ≤ q_9 := le_q hsz hSo hq
  have hT := hT.kept ho
  refine rr_putF (D := DG E) (ci := 10) (v := .ref q_9) (ty := .array .int) (C := RX10) (T := TX10) (N := 49) hx hb hts iw_X10 tyX10 tyX10_ok nmX10 hown hK.1 hr_7 hS (Or.inl rfl) rfl 6 (by decide) (hts _ fl_X10_16) (fun _ h9 => h9) rfl hin rfl (by decide +kernel) rfl rfl (Nat.le_of_ble_eq_true rfl) dX10_init_25 (fun H locs hn ho hz hS => ?_)
  have hr_11 : va_at (DG E) vwCl (h0, .inr (10, [.int 0, .int 0, .int 0, .int 0, .ref q_1, .ref q_5, .ref q_9, .null, .null, .null, .null, .null, .null, .null, .null, .null, .null, .null, .null, .null, .null, .null, .null, .null, .null, .null, .null, .null, .null, .null, .null, .null, .null, .null, .null, .null, .null, .null, .null, .null, .int 0, .null, .null, .null, .null, .null, .null, .null, .null])) H := hn
  have hr_10 := hr_10.kept (ho _ (Ne.symm neq_9_h0))
  have hT := hT.off hG0 ho
  have hT := hT.add (g := 106) zq_9 (show T0 E (va_up G_8 q_9 106) 106 _ from ⟨by decide, rfl⟩) hr_10
  have hE := hE.add (g := 106) zq_9 szq_9
  have hG0 := (va_up_ne G_8 106 neq_9_h0).trans hG0
  have gq_6 := va_up_self G_8 q_9 106
  have st_6 : ∀ a x, x ≠ 0 → G_8 a = x → va_up G_8 q_9 106 a = x := fun a x h1 h2 => up_k h2 zq_9 h1
  obtain ⟨G_12, eG_12⟩ : ∃ z, z = va_up G_8 q_9 106 := ⟨_, rfl⟩
  rw [← eG_12] at hT hE hG0 gq_6 st_6
  try clear hSo hq hz hat
  refine lv_aload_n hx hb dX10_init_28 rfl (lv_at hl 0 rfl) ?_
  refine lv_bipush (v := 12) hx hb dX10_init_29 (by decide) ?_
  have hSo : s.heap.size ≤ _ := hS.1
  refine rr_newa (D := DG E) (atype := .int) (N' := 12) (a0 := (12, .inl (fun _ => 0))) hx hb (hts _ ac_int) hK.1 0 rfl hS rfl (by decide) (by decide) (by decide) (Nat.le_of_ble_eq_true rfl) (Nat.le_of_ble_eq_true rfl) dX10_init_31 (fun q_13 H hq hat hz ho hS => ?_)
  have hr_14 := hat
  have zq_13 := hT.fresh hq
  have neq_13_h0 : h0 ≠ q_13 := ne_q hr_11.lt hq
  have hr_11 := hr_11.kept (ho _ hr_11.lt)
  have szq_13 : sz ≤ q_13 := le_q hsz hSo hq
  have hT := hT.kept ho
  refine rr_putF (D := DG E) (ci := 10) (v := .ref q_13) (ty := .array .int) (C := RX10) (T := TX10) (N := 49) hx hb hts iw_X10 tyX10 tyX10_ok nmX10 hown hK.1 hr_11 hS (Or.inl rfl) rfl 7 (by decide) (hts _ fl_X10_19) (fun _ h9 => h9) rfl hin rfl (by decide +kernel) rfl rfl (Nat.le_of_ble_eq_true rfl) dX10_init_33 (fun H locs hn ho hz hS => ?_)
  have hr_15 : va_at (DG E) vwCl (h0, .inr (10, [.int 0, .int 0, .int 0, .int 0, .ref q_1, .ref q_5, .ref q_9, .ref q_13, .null, .null, .null, .null, .null, .null, .null, .null, .null, .null, .null, .null, .null, .null, .null, .null, .null, .null, .null, .null, .null, .null, .null, .null, .null, .null, .null, .null, .null, .null, .null, .null, .int 0, .null, .null, .null, .null, .null, .null, .null, .null])) H := hn
  have hr_14 := hr_14.kept (ho _ (Ne.symm neq_13_h0))
  have hT := hT.off hG0 ho
  have hT := hT.add (g := 107) zq_13 (show T0 E (va_up G_12 q_13 107) 107 _ from ⟨by decide, rfl⟩) hr_14
  have hE := hE.add (g := 107) zq_13 szq_13
  have hG0 := (va_up_ne G_12 107 neq_13_h0).trans hG0
  have gq_7 := va_up_self G_12 q_13 107
  have st_7 : ∀ a x, x ≠ 0 → G_12 a = x → va_up G_12 q_13 107 a = x := fun a x h1 h2 => up_k h2 zq_13 h1
  obtain ⟨G_16, eG_16⟩ : ∃ z, z = va_up G_12 q_13 107 := ⟨_, rfl⟩
  rw [← eG_16] at hT hE hG0 gq_7 st_7
  try clear hSo hq hz hat
  refine lv_aload_n hx hb dX10_init_36 rfl (lv_at hl 0 rfl) ?_
  refine lv_iconst (v := 2) hx hb dX10_init_37 (by decide) ?_
  have hSo : s.heap.size ≤ _ := hS.1
  refine rr_newa (D := DG E) (atype := .int) (N' := 2) (a0 := (2, .inl (fun _ => 0))) hx hb (hts _ ac_int) hK.1 0 rfl hS rfl (by decide) (by decide) (by decide) (Nat.le_of_ble_eq_true rfl) (Nat.le_of_ble_eq_true rfl) dX10_init_38 (fun q_17 H hq hat hz ho hS => ?_)
  have hr_18 := hat
  have zq_17 := hT.fresh hq
  have neq_17_h0 : h0 ≠ q_17 := ne_q hr_15.lt hq
  have hr_15 := hr_15.kept (ho _ hr_15.lt)
  have szq_17 : sz ≤ q_17 := le_q hsz hSo hq
  have hT := hT.kept ho
  refine rr_putF (D := DG E) (ci := 10) (v := .ref q_17) (ty := .array .int) (C := RX10) (T := TX10) (N := 49) hx hb hts iw_X10 tyX10 tyX10_ok nmX10 hown hK.1 hr_15 hS (Or.inl rfl) rfl 8 (by decide) (hts _ fl_X10_22) (fun _ h9 => h9) rfl hin rfl (by decide +kernel) rfl rfl (Nat.le_of_ble_eq_true rfl) dX10_init_40 (fun H locs hn ho hz hS => ?_)
  have hr_19 : va_at (DG E) vwCl (h0, .inr (10, [.int 0, .int 0, .int 0, .int 0, .ref q_1, .ref q_5, .ref q_9, .ref q_13, .ref q_17, .null, .null, .null, .null, .null, .null, .null, .null, .null, .null, .null, .null, .null, .null, .null, .null, .null, .null, .null, .null, .null, .null, .null, .null, .null, .null, .null, .null, .null, .null, .null, .int 0, .null, .null, .null, .null, .null, .null, .null, .null])) H := hn
  have hr_18 := hr_18.kept (ho _ (Ne.symm neq_17_h0))
  have hT := hT.off hG0 ho
  have hT := hT.add (g := 108) zq_17 (show T0 E (va_up G_16 q_17 108) 108 _ from ⟨by decide, rfl⟩) hr_18
  have hE := hE.add (g := 108) zq_17 szq_17
  have hG0 := (va_up_ne G_16 108 neq_17_h0).trans hG0
  have gq_8 := va_up_self G_16 q_17 108
  have st_8 : ∀ a x, x ≠ 0 → G_16 a = x → va_up G_16 q_17 108 a = x := fun a x h1 h2 => up_k h2 zq_17 h1
  obtain ⟨G_20, eG_20⟩ : ∃ z, z = va_up G_16 q_17 108 := ⟨_, rfl⟩
  rw [← eG_20] at hT hE hG0 gq_8 st_8
  try clear hSo hq hz hat
  refine lv_aload_n hx hb dX10_init_43 rfl (lv_at hl 0 rfl) ?_
  refine lv_sipush (v := 160) hx hb dX10_init_44 (by decide) ?_
  have hSo : s.heap.size ≤ _ := hS.1
  refine rr_newa (D := DG E) (atype := .int) (N' := 160) (a0 := (160, .inl (fun _ => 0))) hx hb (hts _ ac_int) hK.1 0 rfl hS rfl (by decide) (by decide) (by decide) (Nat.le_of_ble_eq_true rfl) (Nat.le_of_ble_eq_true rfl) dX10_init_47 (fun q_21 H hq hat hz ho hS => ?_)
  have hr_22 := hat
  have zq_21 := hT.fresh hq
  have neq_21_h0 : h0 ≠ q_21 := ne_q hr_19.lt hq
  have hr_19 := hr_19.kept (ho _ hr_19.lt)
  have szq_21 : sz ≤ q_21 := le_q hsz hSo hq
  have hT := hT.kept ho
  refine rr_putF (D := DG E) (ci := 10) (v := .ref q_21) (ty := .array .int) (C := RX10) (T := TX10) (N := 49) hx hb hts iw_X10 tyX10 tyX10_ok nmX10 hown hK.1 hr_19 hS (Or.inl rfl) rfl 9 (by decide) (hts _ fl_X10_25) (fun _ h9 => h9) rfl hin rfl (by decide +kernel) rfl rfl (Nat.le_of_ble_eq_true rfl) dX10_init_49 (fun H locs hn ho hz hS => ?_)
  have hr_23 : va_at (DG E) vwCl (h0, .inr (10, [.int 0, .int 0, .int 0, .int 0, .ref q_1, .ref q_5, .ref q_9, .ref q_13, .ref q_17, .ref q_21, .null, .null, .null, .null, .null, .null, .null, .null, .null, .null, .null, .null, .null, .null, .null, .null, .null, .null, .null, .null, .null, .null, .null, .null, .null, .null, .null, .null, .null, .null, .int 0, .null, .null, .null, .null, .null, .null, .null, .null])) H := hn
  have hr_22 := hr_22.kept (ho _ (Ne.symm neq_21_h0))
  have hT := hT.off hG0 ho
  have hT := hT.add (g := 109) zq_21 (show T0 E (va_up G_20 q_21 109) 109 _ from ⟨by decide, rfl⟩) hr_22
  have hE := hE.add (g := 109) zq_21 szq_21
  have hG0 := (va_up_ne G_20 109 neq_21_h0).trans hG0
  have gq_9 := va_up_self G_20 q_21 109
  have st_9 : ∀ a x, x ≠ 0 → G_20 a = x → va_up G_20 q_21 109 a = x := fun a x h1 h2 => up_k h2 zq_21 h1
  obtain ⟨G_24, eG_24⟩ : ∃ z, z = va_up G_20 q_21 109 := ⟨_, rfl⟩
  rw [← eG_24] at hT hE hG0 gq_9 st_9
  try clear hSo hq hz hat
  refine lv_aload_n hx hb dX10_init_52 rfl (lv_at hl 0 rfl) ?_
  refine lv_iconst (v := 4) hx hb dX10_init_53 (by decide) ?_
  have hSo : s.heap.size ≤ _ := hS.1
  refine rr_newa (D := DG E) (atype := .int) (N' := 4) (a0 := (4, .inl (fun _ => 0))) hx hb (hts _ ac_int) hK.1 0 rfl hS rfl (by decide) (by decide) (by decide) (Nat.le_of_ble_eq_true rfl) (Nat.le_of_ble_eq_true rfl) dX10_init_54 (fun q_25 H hq hat hz ho hS => ?_)
  have hr_26 := hat
  have zq_25 := hT.fresh hq
  have neq_25_h0 : h0 ≠ q_25 := ne_q hr_23.lt hq
  have hr_23 := hr_23.kept (ho _ hr_23.lt)
  have szq_25 : sz ≤ q_25 := le_q hsz hSo hq
  have hT := hT.kept ho
  refine rr_putF (D := DG E) (ci := 10) (v := .ref q_25) (ty := .array .int) (C := RX10) (T := TX10) (N := 49) hx hb hts iw_X10 tyX10 tyX10_ok nmX10 hown hK.1 hr_23 hS (Or.inl rfl) rfl 10 (by decide) (hts _ fl_X10_28) (fun _ h9 => h9) rfl hin rfl (by decide +kernel) rfl rfl (Nat.le_of_ble_eq_true rfl) dX10_init_56 (fun H locs hn ho hz hS => ?_)
  have hr_27 : va_at (DG E) vwCl (h0, .inr (10, [.int 0, .int 0, .int 0, .int 0, .ref q_1, .ref q_5, .ref q_9, .ref q_13, .ref q_17, .ref q_21, .ref q_25, .null, .null, .null, .null, .null, .null, .null, .null, .null, .null, .null, .null, .null, .null, .null, .null, .null, .null, .null, .null, .null, .null, .null, .null, .null, .null, .null, .null, .null, .int 0, .null, .null, .null, .null, .null, .null, .null, .null])) H := hn
  have hr_26 := hr_26.kept (ho _ (Ne.symm neq_25_h0))
  have hT := hT.off hG0 ho
  have hT := hT.add (g := 110) zq_25 (show T0 E (va_up G_24 q_25 110) 110 _ from ⟨by decide, rfl⟩) hr_26
  have hE := hE.add (g := 110) zq_25 szq_25
  have hG0 := (va_up_ne G_24 110 neq_25_h0).trans hG0
  have gq_10 := va_up_self G_24 q_25 110
  have st_10 : ∀ a x, x ≠ 0 → G_24 a = x → va_up G_24 q_25 110 a = x := fun a x h1 h2 => up_k h2 zq_25 h1
  obtain ⟨G_28, eG_28⟩ : ∃ z, z = va_up G_24 q_25 110 := ⟨_, rfl⟩
  rw [← eG_28] at hT hE hG0 gq_10 st_10
  try clear hSo hq hz hat
  refine lv_aload_n hx hb dX10_init_59 rfl (lv_at hl 0 rfl) ?_
  refine lv_iconst (v := 4) hx hb dX10_init_60 (by decide) ?_
  have hSo : s.heap.size ≤ _ := hS.1
  refine rr_newa (D := DG E) (atype := .int) (N' := 4) (a0 := (4, .inl (fun _ => 0))) hx hb (hts _ ac_int) hK.1 0 rfl hS rfl (by decide) (by decide) (by decide) (Nat.le_of_ble_eq_true rfl) (Nat.le_of_ble_eq_true rfl) dX10_init_61 (fun q_29 H hq hat hz ho hS => ?_)
  have hr_30 := hat
  have zq_29 := hT.fresh hq
  have neq_29_h0 : h0 ≠ q_29 := ne_q hr_27.lt hq
  have hr_27 := hr_27.kept (ho _ hr_27.lt)
  have szq_29 : sz ≤ q_29 := le_q hsz hSo hq
  have hT := hT.kept ho
  refine rr_putF (D := DG E) (ci := 10) (v := .ref q_29) (ty := .array .int) (C := RX10) (T := TX10) (N := 49) hx hb hts iw_X10 tyX10 tyX10_ok nmX10 hown hK.1 hr_27 hS (Or.inl rfl) rfl 11 (by decide) (hts _ fl_X10_31) (fun _ h9 => h9) rfl hin rfl (by decide +kernel) rfl rfl (Nat.le_of_ble_eq_true rfl) dX10_init_63 (fun H locs hn ho hz hS => ?_)
  have hr_31 : va_at (DG E) vwCl (h0, .inr (10, [.int 0, .int 0, .int 0, .int 0, .ref q_1, .ref q_5, .ref q_9, .ref q_13, .ref q_17, .ref q_21, .ref q_25, .ref q_29, .null, .null, .null, .null, .null, .null, .null, .null, .null, .null, .null, .null, .null, .null, .null, .null, .null, .null, .null, .null, .null, .null, .null, .null, .null, .null, .null, .null, .int 0, .null, .null, .null, .null, .null, .null, .null, .null])) H := hn
  have hr_30 := hr_30.kept (ho _ (Ne.symm neq_29_h0))
  have hT := hT.off hG0 ho
  have hT := hT.add (g := 111) zq_29 (show T0 E (va_up G_28 q_29 111) 111 _ from ⟨by decide, rfl⟩) hr_30
  have hE := hE.add (g := 111) zq_29 szq_29
  have hG0 := (va_up_ne G_28 111 neq_29_h0).trans hG0
  have gq_11 := va_up_self G_28 q_29 111
  have st_11 : ∀ a x, x ≠ 0 → G_28 a = x → va_up G_28 q_29 111 a = x := fun a x h1 h2 => up_k h2 zq_29 h1
  obtain ⟨G_32, eG_32⟩ : ∃ z, z = va_up G_28 q_29 111 := ⟨_, rfl⟩
  rw [← eG_32] at hT hE hG0 gq_11 st_11
  try clear hSo hq hz hat
  refine lv_aload_n hx hb dX10_init_66 rfl (lv_at hl 0 rfl) ?_
  refine lv_iconst (v := 4) hx hb dX10_init_67 (by decide) ?_
  have hSo : s.heap.size ≤ _ := hS.1
  refine rr_newa (D := DG E) (atype := .int) (N' := 4) (a0 := (4, .inl (fun _ => 0))) hx hb (hts _ ac_int) hK.1 0 rfl hS rfl (by decide) (by decide) (by decide) (Nat.le_of_ble_eq_true rfl) (Nat.le_of_ble_eq_true rfl) dX10_init_68 (fun q_33 H hq hat hz ho hS => ?_)
  have hr_34 := hat
  have zq_33 := hT.fresh hq
  have neq_33_h0 : h0 ≠ q_33 := ne_q hr_31.lt hq
  have hr_31 := hr_31.kept (ho _ hr_31.lt)
  have szq_33 : sz ≤ q_33 := le_q hsz hSo hq
  have hT := hT.kept ho
  refine rr_putF (D := DG E) (ci := 10) (v := .ref q_33) (ty := .array .int) (C := RX10) (T := TX10) (N := 49) hx hb hts iw_X10 tyX10 tyX10_ok nmX10 hown hK.1 hr_31 hS (Or.inl rfl) rfl 12 (by decide) (hts _ fl_X10_34) (fun _ h9 => h9) rfl hin rfl (by decide +kernel) rfl rfl (Nat.le_of_ble_eq_true rfl) dX10_init_70 (fun H locs hn ho hz hS => ?_)
  have hr_35 : va_at (DG E) vwCl (h0, .inr (10, [.int 0, .int 0, .int 0, .int 0, .ref q_1, .ref q_5, .ref q_9, .ref q_13, .ref q_17, .ref q_21, .ref q_25, .ref q_29, .ref q_33, .null, .null, .null, .null, .null, .null, .null, .null, .null, .null, .null, .null, .null, .null, .null, .null, .null, .null, .null, .null, .null, .null, .null, .null, .null, .null, .null, .int 0, .null, .null, .null, .null, .null, .null, .null, .null])) H := hn
  have hr_34 := hr_34.kept (ho _ (Ne.symm neq_33_h0))
  have hT := hT.off hG0 ho
  have hT := hT.add (g := 112) zq_33 (show T0 E (va_up G_32 q_33 112) 112 _ from ⟨by decide, rfl⟩) hr_34
  have hE := hE.add (g := 112) zq_33 szq_33
  have hG0 := (va_up_ne G_32 112 neq_33_h0).trans hG0
  have gq_12 := va_up_self G_32 q_33 112
  have st_12 : ∀ a x, x ≠ 0 → G_32 a = x → va_up G_32 q_33 112 a = x := fun a x h1 h2 => up_k h2 zq_33 h1
  obtain ⟨G_36, eG_36⟩ : ∃ z, z = va_up G_32 q_33 112 := ⟨_, rfl⟩
  rw [← eG_36] at hT hE hG0 gq_12 st_12
  try clear hSo hq hz hat
  refine lv_aload_n hx hb dX10_init_73 rfl (lv_at hl 0 rfl) ?_
  refine lv_iconst (v := 4) hx hb dX10_init_74 (by decide) ?_
  have hSo : s.heap.size ≤ _ := hS.1
  refine rr_newa (D := DG E) (atype := .int) (N' := 4) (a0 := (4, .inl (fun _ => 0))) hx hb (hts _ ac_int) hK.1 0 rfl hS rfl (by decide) (by decide) (by decide) (Nat.le_of_ble_eq_true rfl) (Nat.le_of_ble_eq_true rfl) dX10_init_75 (fun q_37 H hq hat hz ho hS => ?_)
  have hr_38 := hat
  have zq_37 := hT.fresh hq
  have neq_37_h0 : h0 ≠ q_37 := ne_q hr_35.lt hq
  have hr_35 := hr_35.kept (ho _ hr_35.lt)
  have szq_37 : sz ≤ q_37 := le_q hsz hSo hq
  have hT := hT.kept ho
  refine rr_putF (D := DG E) (ci := 10) (v := .ref q_37) (ty := .array .int) (C := RX10) (T := TX10) (N := 49) hx hb hts iw_X10 tyX10 tyX10_ok nmX10 hown hK.1 hr_35 hS (Or.inl rfl) rfl 13 (by decide) (hts _ fl_X10_37) (fun _ h9 => h9) rfl hin rfl (by decide +kernel) rfl rfl (Nat.le_of_ble_eq_true rfl) dX10_init_77 (fun H locs hn ho hz hS => ?_)
  have hr_39 : va_at (DG E) vwCl (h0, .inr (10, [.int 0, .int 0, .int 0, .int 0, .ref q_1, .ref q_5, .ref q_9, .ref q_13, .ref q_17, .ref q_21, .ref q_25, .ref q_29, .ref q_33, .ref q_37, .null, .null, .null, .null, .null, .null, .null, .null, .null, .null, .null, .null, .null, .null, .null, .null, .null, .null, .null, .null, .null, .null, .null, .null, .null, .null, .int 0, .null, .null, .null, .null, .null, .null, .null, .null])) H := hn
  have hr_38 := hr_38.kept (ho _ (Ne.symm neq_37_h0))
  have hT := hT.off hG0 ho
  have hT := hT.add (g := 113) zq_37 (show T0 E (va_up G_36 q_37 113) 113 _ from ⟨by decide, rfl⟩) hr_38
  have hE := hE.add (g := 113) zq_37 szq_37
  have hG0 := (va_up_ne G_36 113 neq_37_h0).trans hG0
  have gq_13 := va_up_self G_36 q_37 113
  have st_13 : ∀ a x, x ≠ 0 → G_36 a = x → va_up G_36 q_37 113 a = x := fun a x h1 h2 => up_k h2 zq_37 h1
  obtain ⟨G_40, eG_40⟩ : ∃ z, z = va_up G_36 q_37 113 := ⟨_, rfl⟩
  rw [← eG_40] at hT hE hG0 gq_13 st_13
  try clear hSo hq hz hat
  refine lv_aload_n hx hb dX10_init_80 rfl (lv_at hl 0 rfl) ?_
  refine lv_iconst (v := 4) hx hb dX10_init_81 (by decide) ?_
  have hSo : s.heap.size ≤ _ := hS.1
  refine rr_newa (D := DG E) (atype := .int) (N' := 4) (a0 := (4, .inl (fun _ => 0))) hx hb (hts _ ac_int) hK.1 0 rfl hS rfl (by decide) (by decide) (by decide) (Nat.le_of_ble_eq_true rfl) (Nat.le_of_ble_eq_true rfl) dX10_init_82 (fun q_41 H hq hat hz ho hS => ?_)
  have hr_42 := hat
  have zq_41 := hT.fresh hq
  have neq_41_h0 : h0 ≠ q_41 := ne_q hr_39.lt hq
  have hr_39 := hr_39.kept (ho _ hr_39.lt)
  have szq_41 : sz ≤ q_41 := le_q hsz hSo hq
  have hT := hT.kept ho
  refine rr_putF (D := DG E) (ci := 10) (v := .ref q_41) (ty := .array .int) (C := RX10) (T := TX10) (N := 49) hx hb hts iw_X10 tyX10 tyX10_ok nmX10 hown hK.1 hr_39 hS (Or.inl rfl) rfl 14 (by decide) (hts _ fl_X10_40) (fun _ h9 => h9) rfl hin rfl (by decide +kernel) rfl rfl (Nat.le_of_ble_eq_true rfl) dX10_init_84 (fun H locs hn ho hz hS => ?_)
  have hr_43 : va_at (DG E) vwCl (h0, .inr (10, [.int 0, .int 0, .int 0, .int 0, .ref q_1, .ref q_5, .ref q_9, .ref q_13, .ref q_17, .ref q_21, .ref q_25, .ref q_29, .ref q_33, .ref q_37, .ref q_41, .null, .null, .null, .null, .null, .null, .null, .null, .null, .null, .null, .null, .null, .null, .null, .null, .null, .null, .null, .null, .null, .null, .null, .null, .null, .int 0, .null, .null, .null, .null, .null, .null, .null, .null])) H := hn
  have hr_42 := hr_42.kept (ho _ (Ne.symm neq_41_h0))
  have hT := hT.off hG0 ho
  have hT := hT.add (g := 114) zq_41 (show T0 E (va_up G_40 q_41 114) 114 _ from ⟨by decide, rfl⟩) hr_42
  have hE := hE.add (g := 114) zq_41 szq_41
  have hG0 := (va_up_ne G_40 114 neq_41_h0).trans hG0
  have gq_14 := va_up_self G_40 q_41 114
  have st_14 : ∀ a x, x ≠ 0 → G_40 a = x → va_up G_40 q_41 114 a = x := fun a x h1 h2 => up_k h2 zq_41 h1
  obtain ⟨G_44, eG_44⟩ : ∃ z, z = va_up G_40 q_41 114 := ⟨_, rfl⟩
  rw [← eG_44] at hT hE hG0 gq_14 st_14
  try clear hSo hq hz hat
  refine lv_aload_n hx hb dX10_init_87 rfl (lv_at hl 0 rfl) ?_
  refine lv_iconst (v := 4) hx hb dX10_init_88 (by decide) ?_
  have hSo : s.heap.size ≤ _ := hS.1
  refine rr_newa (D := DG E) (atype := .int) (N' := 4) (a0 := (4, .inl (fun _ => 0))) hx hb (hts _ ac_int) hK.1 0 rfl hS rfl (by decide) (by decide) (by decide) (Nat.le_of_ble_eq_true rfl) (Nat.le_of_ble_eq_true rfl) dX10_init_89 (fun q_45 H hq hat hz ho hS => ?_)
  have hr_46 := hat
  have zq_45 := hT.fresh hq
  have neq_45_h0 : h0 ≠ q_45 := ne_q hr_43.lt hq
  have hr_43 := hr_43.kept (ho _ hr_43.lt)
  have szq_45 : sz ≤ q_45 := le_q hsz hSo hq
  have hT := hT.kept ho
  refine rr_putF (D := DG E) (ci := 10) (v := .ref q_45) (ty := .array .int) (C := RX10) (T := TX10) (N := 49) hx hb hts iw_X10 tyX10 tyX10_ok nmX10 hown hK.1 hr_43 hS (Or.inl rfl) rfl 15 (by decide) (hts _ fl_X10_43) (fun _ h9 => h9) rfl hin rfl (by decide +kernel) rfl rfl (Nat.le_of_ble_eq_true rfl) dX10_init_91 (fun H locs hn ho hz hS => ?_)
  have hr_47 : va_at (DG E) vwCl (h0, .inr (10, [.int 0, .int 0, .int 0, .int 0, .ref q_1, .ref q_5, .ref q_9, .ref q_13, .ref q_17, .ref q_21, .ref q_25, .ref q_29, .ref q_33, .ref q_37, .ref q_41, .ref q_45, .null, .null, .null, .null, .null, .null, .null, .null, .null, .null, .null, .null, .null, .null, .null, .null, .null, .null, .null, .null, .null, .null, .null, .null, .int 0, .null, .null, .null, .null, .null, .null, .null, .null])) H := hn
  have hr_46 := hr_46.kept (ho _ (Ne.symm neq_45_h0))
  have hT := hT.off hG0 ho
  have hT := hT.add (g := 115) zq_45 (show T0 E (va_up G_44 q_45 115) 115 _ from ⟨by decide, rfl⟩) hr_46
  have hE := hE.add (g := 115) zq_45 szq_45
  have hG0 := (va_up_ne G_44 115 neq_45_h0).trans hG0
  have gq_15 := va_up_self G_44 q_45 115
  have st_15 : ∀ a x, x ≠ 0 → G_44 a = x → va_up G_44 q_45 115 a = x := fun a x h1 h2 => up_k h2 zq_45 h1
  obtain ⟨G_48, eG_48⟩ : ∃ z, z = va_up G_44 q_45 115 := ⟨_, rfl⟩
  rw [← eG_48] at hT hE hG0 gq_15 st_15
  try clear hSo hq hz hat
  refine lv_aload_n hx hb dX10_init_94 rfl (lv_at hl 0 rfl) ?_
  refine lv_iconst (v := 4) hx hb dX10_init_95 (by decide) ?_
  have hSo : s.heap.size ≤ _ := hS.1
  refine rr_newa (D := DG E) (atype := .int) (N' := 4) (a0 := (4, .inl (fun _ => 0))) hx hb (hts _ ac_int) hK.1 0 rfl hS rfl (by decide) (by decide) (by decide) (Nat.le_of_ble_eq_true rfl) (Nat.le_of_ble_eq_true rfl) dX10_init_96 (fun q_49 H hq hat hz ho hS => ?_)
  have hr_50 := hat
  have zq_49 := hT.fresh hq
  have neq_49_h0 : h0 ≠ q_49 := ne_q hr_47.lt hq
  have hr_47 := hr_47.kept (ho _ hr_47.lt)
  have szq_49 : sz ≤ q_49 := le_q hsz hSo hq
  have hT := hT.kept ho
  refine rr_putF (D := DG E) (ci := 10) (v := .ref q_49) (ty := .array .int) (C := RX10) (T := TX10) (N := 49) hx hb hts iw_X10 tyX10 tyX10_ok nmX10 hown hK.1 hr_47 hS (Or.inl rfl) rfl 16 (by decide) (hts _ fl_X10_46) (fun _ h9 => h9) rfl hin rfl (by decide +kernel) rfl rfl (Nat.le_of_ble_eq_true rfl) dX10_init_98 (fun H locs hn ho hz hS => ?_)
  have hr_51 : va_at (DG E) vwCl (h0, .inr (10, [.int 0, .int 0, .int 0, .int 0, .ref q_1, .ref q_5, .ref q_9, .ref q_13, .ref q_17, .ref q_21, .ref q_25, .ref q_29, .ref q_33, .ref q_37, .ref q_41, .ref q_45, .ref q_49, .null, .null, .null, .null, .null, .null, .null, .null, .null, .null, .null, .null, .null, .null, .null, .null, .null, .null, .null, .null, .null, .null, .null, .int 0, .null, .null, .null, .null, .null, .null, .null, .null])) H := hn
  have hr_50 := hr_50.kept (ho _ (Ne.symm neq_49_h0))
  have hT := hT.off hG0 ho
  have hT := hT.add (g := 116) zq_49 (show T0 E (va_up G_48 q_49 116) 116 _ from ⟨by decide, rfl⟩) hr_50
  have hE := hE.add (g := 116) zq_49 szq_49
  have hG0 := (va_up_ne G_48 116 neq_49_h0).trans hG0
  have gq_16 := va_up_self G_48 q_49 116
  have st_16 : ∀ a x, x ≠ 0 → G_48 a = x → va_up G_48 q_49 116 a = x := fun a x h1 h2 => up_k h2 zq_49 h1
  obtain ⟨G_52, eG_52⟩ : ∃ z, z = va_up G_48 q_49 116 := ⟨_, rfl⟩
  rw [← eG_52] at hT hE hG0 gq_16 st_16
  try clear hSo hq hz hat
  refine lv_aload_n hx hb dX10_init_101 rfl (lv_at hl 0 rfl) ?_
  refine lv_iconst (v := 4) hx hb dX10_init_102 (by decide) ?_
  have hSo : s.heap.size ≤ _ := hS.1
  refine rr_newa (D := DG E) (atype := .int) (N' := 4) (a0 := (4, .inl (fun _ => 0))) hx hb (hts _ ac_int) hK.1 0 rfl hS rfl (by decide) (by decide) (by decide) (Nat.le_of_ble_eq_true rfl) (Nat.le_of_ble_eq_true rfl) dX10_init_103 (fun q_53 H hq hat hz ho hS => ?_)
  have hr_54 := hat
  have zq_53 := hT.fresh hq
  have neq_53_h0 : h0 ≠ q_53 := ne_q hr_51.lt hq
  have hr_51 := hr_51.kept (ho _ hr_51.lt)
  have szq_53 : sz ≤ q_53 := le_q hsz hSo hq
  have hT := hT.kept ho
  refine rr_putF (D := DG E) (ci := 10) (v := .ref q_53) (ty := .array .int) (C := RX10) (T := TX10) (N := 49) hx hb hts iw_X10 tyX10 tyX10_ok nmX10 hown hK.1 hr_51 hS (Or.inl rfl) rfl 17 (by decide) (hts _ fl_X10_49) (fun _ h9 => h9) rfl hin rfl (by decide +kernel) rfl rfl (Nat.le_of_ble_eq_true rfl) dX10_init_105 (fun H locs hn ho hz hS => ?_)
  have hr_55 : va_at (DG E) vwCl (h0, .inr (10, [.int 0, .int 0, .int 0, .int 0, .ref q_1, .ref q_5, .ref q_9, .ref q_13, .ref q_17, .ref q_21, .ref q_25, .ref q_29, .ref q_33, .ref q_37, .ref q_41, .ref q_45, .ref q_49, .ref q_53, .null, .null, .null, .null, .null, .null, .null, .null, .null, .null, .null, .null, .null, .null, .null, .null, .null, .null, .null, .null, .null, .null, .int 0, .null, .null, .null, .null, .null, .null, .null, .null])) H := hn
  have hr_54 := hr_54.kept (ho _ (Ne.symm neq_53_h0))
  have hT := hT.off hG0 ho
  have hT := hT.add (g := 117) zq_53 (show T0 E (va_up G_52 q_53 117) 117 _ from ⟨by decide, rfl⟩) hr_54
  have hE := hE.add (g := 117) zq_53 szq_53
  have hG0 := (va_up_ne G_52 117 neq_53_h0).trans hG0
  have gq_17 := va_up_self G_52 q_53 117
  have st_17 : ∀ a x, x ≠ 0 → G_52 a = x → va_up G_52 q_53 117 a = x := fun a x h1 h2 => up_k h2 zq_53 h1
  obtain ⟨G_56, eG_56⟩ : ∃ z, z = va_up G_52 q_53 117 := ⟨_, rfl⟩
  rw [← eG_56] at hT hE hG0 gq_17 st_17
  try clear hSo hq hz hat
  refine lv_aload_n hx hb dX10_init_108 rfl (lv_at hl 0 rfl) ?_
  refine lv_iconst (v := 4) hx hb dX10_init_109 (by decide) ?_
  have hSo : s.heap.size ≤ _ := hS.1
  refine rr_newa (D := DG E) (atype := .boolean) (N' := 4) (a0 := (4, .inl (fun _ => 0))) hx hb (hts _ ac_boolean) hK.1 1 rfl hS rfl (by decide) (by decide) (by decide) (Nat.le_of_ble_eq_true rfl) (Nat.le_of_ble_eq_true rfl) dX10_init_110 (fun q_57 H hq hat hz ho hS => ?_)
  have hr_58 := hat
  have zq_57 := hT.fresh hq
  have neq_57_h0 : h0 ≠ q_57 := ne_q hr_55.lt hq
  have hr_55 := hr_55.kept (ho _ hr_55.lt)
  have szq_57 : sz ≤ q_57 := le_q hsz hSo hq
  have hT := hT.kept ho
  refine rr_putF (D := DG E) (ci := 10) (v := .ref q_57) (ty := .array .boolean) (C := RX10) (T := TX10) (N := 49) hx hb hts iw_X10 tyX10 tyX10_ok nmX10 hown hK.1 hr_55 hS (Or.inl rfl) rfl 18 (by decide) (hts _ fl_X10_52) (fun _ h9 => h9) rfl hin rfl (by decide +kernel) rfl rfl (Nat.le_of_ble_eq_true rfl) dX10_init_112 (fun H locs hn ho hz hS => ?_)
  have hr_59 : va_at (DG E) vwCl (h0, .inr (10, [.int 0, .int 0, .int 0, .int 0, .ref q_1, .ref q_5, .ref q_9, .ref q_13, .ref q_17, .ref q_21, .ref q_25, .ref q_29, .ref q_33, .ref q_37, .ref q_41, .ref q_45, .ref q_49, .ref q_53, .ref q_57, .null, .null, .null, .null, .null, .null, .null, .null, .null, .null, .null, .null, .null, .null, .null, .null, .null, .null, .null, .null, .null, .int 0, .null, .null, .null, .null, .null, .null, .null, .null])) H := hn
  have hr_58 := hr_58.kept (ho _ (Ne.symm neq_57_h0))
  have hT := hT.off hG0 ho
  have hT := hT.add (g := 118) zq_57 (show T0 E (va_up G_56 q_57 118) 118 _ from ⟨by decide, rfl⟩) hr_58
  have hE := hE.add (g := 118) zq_57 szq_57
  have hG0 := (va_up_ne G_56 118 neq_57_h0).trans hG0
  have gq_18 := va_up_self G_56 q_57 118
  have st_18 : ∀ a x, x ≠ 0 → G_56 a = x → va_up G_56 q_57 118 a = x := fun a x h1 h2 => up_k h2 zq_57 h1
  obtain ⟨G_60, eG_60⟩ : ∃ z, z = va_up G_56 q_57 118 := ⟨_, rfl⟩
  rw [← eG_60] at hT hE hG0 gq_18 st_18
  try clear hSo hq hz hat
  refine lv_aload_n hx hb dX10_init_115 rfl (lv_at hl 0 rfl) ?_
  refine lv_iconst (v := 4) hx hb dX10_init_116 (by decide) ?_
  have hSo : s.heap.size ≤ _ := hS.1
  refine rr_newa (D := DG E) (atype := .boolean) (N' := 4) (a0 := (4, .inl (fun _ => 0))) hx hb (hts _ ac_boolean) hK.1 1 rfl hS rfl (by decide) (by decide) (by decide) (Nat.le_of_ble_eq_true rfl) (Nat.le_of_ble_eq_true rfl) dX10_init_117 (fun q_61 H hq hat hz ho hS => ?_)
  have hr_62 := hat
  have zq_61 := hT.fresh hq
  have neq_61_h0 : h0 ≠ q_61 := ne_q hr_59.lt hq
  have hr_59 := hr_59.kept (ho _ hr_59.lt)
  have szq_61 : sz ≤ q_61 := le_q hsz hSo hq
  have hT := hT.kept ho
  refine rr_putF (D := DG E) (ci := 10) (v := .ref q_61) (ty := .array .boolean) (C := RX10) (T := TX10) (N := 49) hx hb hts iw_X10 tyX10 tyX10_ok nmX10 hown hK.1 hr_59 hS (Or.inl rfl) rfl 19 (by decide) (hts _ fl_X10_56) (fun _ h9 => h9) rfl hin rfl (by decide +kernel) rfl rfl (Nat.le_of_ble_eq_true rfl) dX10_init_119 (fun H locs hn ho hz hS => ?_)
  have hr_63 : va_at (DG E) vwCl (h0, .inr (10, [.int 0, .int 0, .int 0, .int 0, .ref q_1, .ref q_5, .ref q_9, .ref q_13, .ref q_17, .ref q_21, .ref q_25, .ref q_29, .ref q_33, .ref q_37, .ref q_41, .ref q_45, .ref q_49, .ref q_53, .ref q_57, .ref q_61, .null, .null, .null, .null, .null, .null, .null, .null, .null, .null, .null, .null, .null, .null, .null, .null, .null, .null, .null, .null, .int 0, .null, .null, .null, .null, .null, .null, .null, .null])) H := hn
  have hr_62 := hr_62.kept (ho _ (Ne.symm neq_61_h0))
  have hT := hT.off hG0 ho
  have hT := hT.add (g := 119) zq_61 (show T0 E (va_up G_60 q_61 119) 119 _ from ⟨by decide, rfl⟩) hr_62
  have hE := hE.add (g := 119) zq_61 szq_61
  have hG0 := (va_up_ne G_60 119 neq_61_h0).trans hG0
  have gq_19 := va_up_self G_60 q_61 119
  have st_19 : ∀ a x, x ≠ 0 → G_60 a = x → va_up G_60 q_61 119 a = x := fun a x h1 h2 => up_k h2 zq_61 h1
  obtain ⟨G_64, eG_64⟩ : ∃ z, z = va_up G_60 q_61 119 := ⟨_, rfl⟩
  rw [← eG_64] at hT hE hG0 gq_19 st_19
  try clear hSo hq hz hat
  refine lv_aload_n hx hb dX10_init_122 rfl (lv_at hl 0 rfl) ?_
  refine lv_iconst (v := 4) hx hb dX10_init_123 (by decide) ?_
  have hSo : s.heap.size ≤ _ := hS.1
  refine rr_newa (D := DG E) (atype := .int) (N' := 4) (a0 := (4, .inl (fun _ => 0))) hx hb (hts _ ac_int) hK.1 0 rfl hS rfl (by decide) (by decide) (by decide) (Nat.le_of_ble_eq_true rfl) (Nat.le_of_ble_eq_true rfl) dX10_init_124 (fun q_65 H hq hat hz ho hS => ?_)
  have hr_66 := hat
  have zq_65 := hT.fresh hq
  have neq_65_h0 : h0 ≠ q_65 := ne_q hr_63.lt hq
  have hr_63 := hr_63.kept (ho _ hr_63.lt)
  have szq_65 : sz ≤ q_65 := le_q hsz hSo hq
  have hT := hT.kept ho
  refine rr_putF (D := DG E) (ci := 10) (v := .ref q_65) (ty := .array .int) (C := RX10) (T := TX10) (N := 49) hx hb hts iw_X10 tyX10 tyX10_ok nmX10 hown hK.1 hr_63 hS (Or.inl rfl) rfl 20 (by decide) (hts _ fl_X10_59) (fun _ h9 => h9) rfl hin rfl (by decide +kernel) rfl rfl (Nat.le_of_ble_eq_true rfl) dX10_init_126 (fun H locs hn ho hz hS => ?_)
  have hr_67 : va_at (DG E) vwCl (h0, .inr (10, [.int 0, .int 0, .int 0, .int 0, .ref q_1, .ref q_5, .ref q_9, .ref q_13, .ref q_17, .ref q_21, .ref q_25, .ref q_29, .ref q_33, .ref q_37, .ref q_41, .ref q_45, .ref q_49, .ref q_53, .ref q_57, .ref q_61, .ref q_65, .null, .null, .null, .null, .null, .null, .null, .null, .null, .null, .null, .null, .null, .null, .null, .null, .null, .null, .null, .int 0, .null, .null, .null, .null, .null, .null, .null, .null])) H := hn
  have hr_66 := hr_66.kept (ho _ (Ne.symm neq_65_h0))
  have hT := hT.off hG0 ho
  have hT := hT.add (g := 120) zq_65 (show T0 E (va_up G_64 q_65 120) 120 _ from ⟨by decide, rfl⟩) hr_66
  have hE := hE.add (g := 120) zq_65 szq_65
  have hG0 := (va_up_ne G_64 120 neq_65_h0).trans hG0
  have gq_20 := va_up_self G_64 q_65 120
  have st_20 : ∀ a x, x ≠ 0 → G_64 a = x → va_up G_64 q_65 120 a = x := fun a x h1 h2 => up_k h2 zq_65 h1
  obtain ⟨G_68, eG_68⟩ : ∃ z, z = va_up G_64 q_65 120 := ⟨_, rfl⟩
  rw [← eG_68] at hT hE hG0 gq_20 st_20
  try clear hSo hq hz hat
  refine lv_aload_n hx hb dX10_init_129 rfl (lv_at hl 0 rfl) ?_
  refine lv_iconst (v := 4) hx hb dX10_init_130 (by decide) ?_
  have hSo : s.heap.size ≤ _ := hS.1
  refine rr_newa (D := DG E) (atype := .int) (N' := 4) (a0 := (4, .inl (fun _ => 0))) hx hb (hts _ ac_int) hK.1 0 rfl hS rfl (by decide) (by decide) (by decide) (Nat.le_of_ble_eq_true rfl) (Nat.le_of_ble_eq_true rfl) dX10_init_131 (fun q_69 H hq hat hz ho hS => ?_)
  have hr_70 := hat
  have zq_69 := hT.fresh hq
  have neq_69_h0 : h0 ≠ q_69 := ne_q hr_67.lt hq
  have hr_67 := hr_67.kept (ho _ hr_67.lt)
  have szq_69 : sz ≤ q_69 := le_q hsz hSo hq
  have hT := hT.kept ho
  refine rr_putF (D := DG E) (ci := 10) (v := .ref q_69) (ty := .array .int) (C := RX10) (T := TX10) (N := 49) hx hb hts iw_X10 tyX10 tyX10_ok nmX10 hown hK.1 hr_67 hS (Or.inl rfl) rfl 21 (by decide) (hts _ fl_X10_62) (fun _ h9 => h9) rfl hin rfl (by decide +kernel) rfl rfl (Nat.le_of_ble_eq_true rfl) dX10_init_133 (fun H locs hn ho hz hS => ?_)
  have hr_71 : va_at (DG E) vwCl (h0, .inr (10, [.int 0, .int 0, .int 0, .int 0, .ref q_1, .ref q_5, .ref q_9, .ref q_13, .ref q_17, .ref q_21, .ref q_25, .ref q_29, .ref q_33, .ref q_37, .ref q_41, .ref q_45, .ref q_49, .ref q_53, .ref q_57, .ref q_61, .ref q_65, .ref q_69, .null, .null, .null, .null, .null, .null, .null, .null, .null, .null, .null, .null, .null, .null, .null, .null, .null, .null, .int 0, .null, .null, .null, .null, .null, .null, .null, .null])) H := hn
  have hr_70 := hr_70.kept (ho _ (Ne.symm neq_69_h0))
  have hT := hT.off hG0 ho
  have hT := hT.add (g := 121) zq_69 (show T0 E (va_up G_68 q_69 121) 121 _ from ⟨by decide, rfl⟩) hr_70
  have hE := hE.add (g := 121) zq_69 szq_69
  have hG0 := (va_up_ne G_68 121 neq_69_h0).trans hG0
  have gq_21 := va_up_self G_68 q_69 121
  have st_21 : ∀ a x, x ≠ 0 → G_68 a = x → va_up G_68 q_69 121 a = x := fun a x h1 h2 => up_k h2 zq_69 h1
  obtain ⟨G_72, eG_72⟩ : ∃ z, z = va_up G_68 q_69 121 := ⟨_, rfl⟩
  rw [← eG_72] at hT hE hG0 gq_21 st_21
  try clear hSo hq hz hat
  refine lv_aload_n hx hb dX10_init_136 rfl (lv_at hl 0 rfl) ?_
  refine lv_bipush (v := 16) hx hb dX10_init_137 (by decide) ?_
  have hSo : s.heap.size ≤ _ := hS.1
  refine rr_newa (D := DG E) (atype := .int) (N' := 16) (a0 := (16, .inl (fun _ => 0))) hx hb (hts _ ac_int) hK.1 0 rfl hS rfl (by decide) (by decide) (by decide) (Nat.le_of_ble_eq_true rfl) (Nat.le_of_ble_eq_true rfl) dX10_init_139 (fun q_73 H hq hat hz ho hS => ?_)
  have hr_74 := hat
  have zq_73 := hT.fresh hq
  have neq_73_h0 : h0 ≠ q_73 := ne_q hr_71.lt hq
  have hr_71 := hr_71.kept (ho _ hr_71.lt)
  have szq_73 : sz ≤ q_73 := le_q hsz hSo hq
  have hT := hT.kept ho
  refine rr_putF (D := DG E) (ci := 10) (v := .ref q_73) (ty := .array .int) (C := RX10) (T := TX10) (N := 49) hx hb hts iw_X10 tyX10 tyX10_ok nmX10 hown hK.1 hr_71 hS (Or.inl rfl) rfl 22 (by decide) (hts _ fl_X10_65) (fun _ h9 => h9) rfl hin rfl (by decide +kernel) rfl rfl (Nat.le_of_ble_eq_true rfl) dX10_init_141 (fun H locs hn ho hz hS => ?_)
  have hr_75 : va_at (DG E) vwCl (h0, .inr (10, [.int 0, .int 0, .int 0, .int 0, .ref q_1, .ref q_5, .ref q_9, .ref q_13, .ref q_17, .ref q_21, .ref q_25, .ref q_29, .ref q_33, .ref q_37, .ref q_41, .ref q_45, .ref q_49, .ref q_53, .ref q_57, .ref q_61, .ref q_65, .ref q_69, .ref q_73, .null, .null, .null, .null, .null, .null, .null, .null, .null, .null, .null, .null, .null, .null, .null, .null, .null, .int 0, .null, .null, .null, .null, .null, .null, .null, .null])) H := hn
  have hr_74 := hr_74.kept (ho _ (Ne.symm neq_73_h0))
  have hT := hT.off hG0 ho
  have hT := hT.add (g := 122) zq_73 (show T0 E (va_up G_72 q_73 122) 122 _ from ⟨by decide, rfl⟩) hr_74
  have hE := hE.add (g := 122) zq_73 szq_73
  have hG0 := (va_up_ne G_72 122 neq_73_h0).trans hG0
  have gq_22 := va_up_self G_72 q_73 122
  have st_22 : ∀ a x, x ≠ 0 → G_72 a = x → va_up G_72 q_73 122 a = x := fun a x h1 h2 => up_k h2 zq_73 h1
  obtain ⟨G_76, eG_76⟩ : ∃ z, z = va_up G_72 q_73 122 := ⟨_, rfl⟩
  rw [← eG_76] at hT hE hG0 gq_22 st_22
  try clear hSo hq hz hat
  refine lv_aload_n hx hb dX10_init_144 rfl (lv_at hl 0 rfl) ?_
  refine lv_bipush (v := 16) hx hb dX10_init_145 (by decide) ?_
  have hSo : s.heap.size ≤ _ := hS.1
  refine rr_newa (D := DG E) (atype := .int) (N' := 16) (a0 := (16, .inl (fun _ => 0))) hx hb (hts _ ac_int) hK.1 0 rfl hS rfl (by decide) (by decide) (by decide) (Nat.le_of_ble_eq_true rfl) (Nat.le_of_ble_eq_true rfl) dX10_init_147 (fun q_77 H hq hat hz ho hS => ?_)
  have hr_78 := hat
  have zq_77 := hT.fresh hq
  have neq_77_h0 : h0 ≠ q_77 := ne_q hr_75.lt hq
  have hr_75 := hr_75.kept (ho _ hr_75.lt)
  have szq_77 : sz ≤ q_77 := le_q hsz hSo hq
  have hT := hT.kept ho
  refine rr_putF (D := DG E) (ci := 10) (v := .ref q_77) (ty := .array .int) (C := RX10) (T := TX10) (N := 49) hx hb hts iw_X10 tyX10 tyX10_ok nmX10 hown hK.1 hr_75 hS (Or.inl rfl) rfl 23 (by decide) (hts _ fl_X10_68) (fun _ h9 => h9) rfl hin rfl (by decide +kernel) rfl rfl (Nat.le_of_ble_eq_true rfl) dX10_init_149 (fun H locs hn ho hz hS => ?_)
  have hr_79 : va_at (DG E) vwCl (h0, .inr (10, [.int 0, .int 0, .int 0, .int 0, .ref q_1, .ref q_5, .ref q_9, .ref q_13, .ref q_17, .ref q_21, .ref q_25, .ref q_29, .ref q_33, .ref q_37, .ref q_41, .ref q_45, .ref q_49, .ref q_53, .ref q_57, .ref q_61, .ref q_65, .ref q_69, .ref q_73, .ref q_77, .null, .null, .null, .null, .null, .null, .null, .null, .null, .null, .null, .null, .null, .null, .null, .null, .int 0, .null, .null, .null, .null, .null, .null, .null, .null])) H := hn
  have hr_78 := hr_78.kept (ho _ (Ne.symm neq_77_h0))
  have hT := hT.off hG0 ho
  have hT := hT.add (g := 123) zq_77 (show T0 E (va_up G_76 q_77 123) 123 _ from ⟨by decide, rfl⟩) hr_78
  have hE := hE.add (g := 123) zq_77 szq_77
  have hG0 := (va_up_ne G_76 123 neq_77_h0).trans hG0
  have gq_23 := va_up_self G_76 q_77 123
  have st_23 : ∀ a x, x ≠ 0 → G_76 a = x → va_up G_76 q_77 123 a = x := fun a x h1 h2 => up_k h2 zq_77 h1
  obtain ⟨G_80, eG_80⟩ : ∃ z, z = va_up G_76 q_77 123 := ⟨_, rfl⟩
  rw [← eG_80] at hT hE hG0 gq_23 st_23
  try clear hSo hq hz hat
  refine lv_aload_n hx hb dX10_init_152 rfl (lv_at hl 0 rfl) ?_
  refine lv_bipush (v := 16) hx hb dX10_init_153 (by decide) ?_
  have hSo : s.heap.size ≤ _ := hS.1
  refine rr_newa (D := DG E) (atype := .int) (N' := 16) (a0 := (16, .inl (fun _ => 0))) hx hb (hts _ ac_int) hK.1 0 rfl hS rfl (by decide) (by decide) (by decide) (Nat.le_of_ble_eq_true rfl) (Nat.le_of_ble_eq_true rfl) dX10_init_155 (fun q_81 H hq hat hz ho hS => ?_)
  have hr_82 := hat
  have zq_81 := hT.fresh hq
  have neq_81_h0 : h0 ≠ q_81 := ne_q hr_79.lt hq
  have hr_79 := hr_79.kept (ho _ hr_79.lt)
  have szq_81 : sz ≤ q_81 := le_q hsz hSo hq
  have hT := hT.kept ho
  refine rr_putF (D := DG E) (ci := 10) (v := .ref q_81) (ty := .array .int) (C := RX10) (T := TX10) (N := 49) hx hb hts iw_X10 tyX10 tyX10_ok nmX10 hown hK.1 hr_79 hS (Or.inl rfl) rfl 24 (by decide) (hts _ fl_X10_71) (fun _ h9 => h9) rfl hin rfl (by decide +kernel) rfl rfl (Nat.le_of_ble_eq_true rfl) dX10_init_157 (fun H locs hn ho hz hS => ?_)
  have hr_83 : va_at (DG E) vwCl (h0, .inr (10, [.int 0, .int 0, .int 0, .int 0, .ref q_1, .ref q_5, .ref q_9, .ref q_13, .ref q_17, .ref q_21, .ref q_25, .ref q_29, .ref q_33, .ref q_37, .ref q_41, .ref q_45, .ref q_49, .ref q_53, .ref q_57, .ref q_61, .ref q_65, .ref q_69, .ref q_73, .ref q_77, .ref q_81, .null, .null, .null, .null, .null, .null, .null, .null, .null, .null, .null, .null, .null, .null, .null, .int 0, .null, .null, .null, .null, .null, .null, .null, .null])) H := hn
  have hr_82 := hr_82.kept (ho _ (Ne.symm neq_81_h0))
  have hT := hT.off hG0 ho
  have hT := hT.add (g := 124) zq_81 (show T0 E (va_up G_80 q_81 124) 124 _ from ⟨by decide, rfl⟩) hr_82
  have hE := hE.add (g := 124) zq_81 szq_81
  have hG0 := (va_up_ne G_80 124 neq_81_h0).trans hG0
  have gq_24 := va_up_self G_80 q_81 124
  have st_24 : ∀ a x, x ≠ 0 → G_80 a = x → va_up G_80 q_81 124 a = x := fun a x h1 h2 => up_k h2 zq_81 h1
  obtain ⟨G_84, eG_84⟩ : ∃ z, z = va_up G_80 q_81 124 := ⟨_, rfl⟩
  rw [← eG_84] at hT hE hG0 gq_24 st_24
  try clear hSo hq hz hat
  refine lv_aload_n hx hb dX10_init_160 rfl (lv_at hl 0 rfl) ?_
  refine lv_bipush (v := 16) hx hb dX10_init_161 (by decide) ?_
  have hSo : s.heap.size ≤ _ := hS.1
  refine rr_newa (D := DG E) (atype := .int) (N' := 16) (a0 := (16, .inl (fun _ => 0))) hx hb (hts _ ac_int) hK.1 0 rfl hS rfl (by decide) (by decide) (by decide) (Nat.le_of_ble_eq_true rfl) (Nat.le_of_ble_eq_true rfl) dX10_init_163 (fun q_85 H hq hat hz ho hS => ?_)
  have hr_86 := hat
  have zq_85 := hT.fresh hq
  have neq_85_h0 : h0 ≠ q_85 := ne_q hr_83.lt hq
  have hr_83 := hr_83.kept (ho _ hr_83.lt)
  have szq_85 : sz ≤ q_85 := le_q hsz hSo hq
  have hT := hT.kept ho
  refine rr_putF (D := DG E) (ci := 10) (v := .ref q_85) (ty := .array .int) (C := RX10) (T := TX10) (N := 49) hx hb hts iw_X10 tyX10 tyX10_ok nmX10 hown hK.1 hr_83 hS (Or.inl rfl) rfl 25 (by decide) (hts _ fl_X10_74) (fun _ h9 => h9) rfl hin rfl (by decide +kernel) rfl rfl (Nat.le_of_ble_eq_true rfl) dX10_init_165 (fun H locs hn ho hz hS => ?_)
  have hr_87 : va_at (DG E) vwCl (h0, .inr (10, [.int 0, .int 0, .int 0, .int 0, .ref q_1, .ref q_5, .ref q_9, .ref q_13, .ref q_17, .ref q_21, .ref q_25, .ref q_29, .ref q_33, .ref q_37, .ref q_41, .ref q_45, .ref q_49, .ref q_53, .ref q_57, .ref q_61, .ref q_65, .ref q_69, .ref q_73, .ref q_77, .ref q_81, .ref q_85, .null, .null, .null, .null, .null, .null, .null, .null, .null, .null, .null, .null, .null, .null, .int 0, .null, .null, .null, .null, .null, .null, .null, .null])) H := hn
  have hr_86 := hr_86.kept (ho _ (Ne.symm neq_85_h0))
  have hT := hT.off hG0 ho
  have hT := hT.add (g := 125) zq_85 (show T0 E (va_up G_84 q_85 125) 125 _ from ⟨by decide, rfl⟩) hr_86
  have hE := hE.add (g := 125) zq_85 szq_85
  have hG0 := (va_up_ne G_84 125 neq_85_h0).trans hG0
  have gq_25 := va_up_self G_84 q_85 125
  have st_25 : ∀ a x, x ≠ 0 → G_84 a = x → va_up G_84 q_85 125 a = x := fun a x h1 h2 => up_k h2 zq_85 h1
  obtain ⟨G_88, eG_88⟩ : ∃ z, z = va_up G_84 q_85 125 := ⟨_, rfl⟩
  rw [← eG_88] at hT hE hG0 gq_25 st_25
  try clear hSo hq hz hat
  refine lv_aload_n hx hb dX10_init_168 rfl (lv_at hl 0 rfl) ?_
  refine lv_bipush (v := 16) hx hb dX10_init_169 (by decide) ?_
  have hSo : s.heap.size ≤ _ := hS.1
  refine rr_newa (D := DG E) (atype := .int) (N' := 16) (a0 := (16, .inl (fun _ => 0))) hx hb (hts _ ac_int) hK.1 0 rfl hS rfl (by decide) (by decide) (by decide) (Nat.le_of_ble_eq_true rfl) (Nat.le_of_ble_eq_true rfl) dX10_init_171 (fun q_89 H hq hat hz ho hS => ?_)
  have hr_90 := hat
  have zq_89 := hT.fresh hq
  have neq_89_h0 : h0 ≠ q_89 := ne_q hr_87.lt hq
  have hr_87 := hr_87.kept (ho _ hr_87.lt)
  have szq_89 : sz ≤ q_89 := le_q hsz hSo hq
  have hT := hT.kept ho
  refine rr_putF (D := DG E) (ci := 10) (v := .ref q_89) (ty := .array .int) (C := RX10) (T := TX10) (N := 49) hx hb hts iw_X10 tyX10 tyX10_ok nmX10 hown hK.1 hr_87 hS (Or.inl rfl) rfl 26 (by decide) (hts _ fl_X10_77) (fun _ h9 => h9) rfl hin rfl (by decide +kernel) rfl rfl (Nat.le_of_ble_eq_true rfl) dX10_init_173 (fun H locs hn ho hz hS => ?_)
  have hr_91 : va_at (DG E) vwCl (h0, .inr (10, [.int 0, .int 0, .int 0, .int 0, .ref q_1, .ref q_5, .ref q_9, .ref q_13, .ref q_17, .ref q_21, .ref q_25, .ref q_29, .ref q_33, .ref q_37, .ref q_41, .ref q_45, .ref q_49, .ref q_53, .ref q_57, .ref q_61, .ref q_65, .ref q_69, .ref q_73, .ref q_77, .ref q_81, .ref q_85, .ref q_89, .null, .null, .null, .null, .null, .null, .null, .null, .null, .null, .null, .null, .null, .int 0, .null, .null, .null, .null, .null, .null, .null, .null])) H := hn
  have hr_90 := hr_90.kept (ho _ (Ne.symm neq_89_h0))
  have hT := hT.off hG0 ho
  have hT := hT.add (g := 126) zq_89 (show T0 E (va_up G_88 q_89 126) 126 _ from ⟨by decide, rfl⟩) hr_90
  have hE := hE.add (g := 126) zq_89 szq_89
  have hG0 := (va_up_ne G_88 126 neq_89_h0).trans hG0
  have gq_26 := va_up_self G_88 q_89 126
  have st_26 : ∀ a x, x ≠ 0 → G_88 a = x → va_up G_88 q_89 126 a = x := fun a x h1 h2 => up_k h2 zq_89 h1
  obtain ⟨G_92, eG_92⟩ : ∃ z, z = va_up G_88 q_89 126 := ⟨_, rfl⟩
  rw [← eG_92] at hT hE hG0 gq_26 st_26
  try clear hSo hq hz hat
  refine lv_aload_n hx hb dX10_init_176 rfl (lv_at hl 0 rfl) ?_
  refine lv_bipush (v := 16) hx hb dX10_init_177 (by decide) ?_
  have hSo : s.heap.size ≤ _ := hS.1
  refine rr_newa (D := DG E) (atype := .int) (N' := 16) (a0 := (16, .inl (fun _ => 0))) hx hb (hts _ ac_int) hK.1 0 rfl hS rfl (by decide) (by decide) (by decide) (Nat.le_of_ble_eq_true rfl) (Nat.le_of_ble_eq_true rfl) dX10_init_179 (fun q_93 H hq hat hz ho hS => ?_)
  have hr_94 := hat
  have zq_93 := hT.fresh hq
  have neq_93_h0 : h0 ≠ q_93 := ne_q hr_91.lt hq
  have hr_91 := hr_91.kept (ho _ hr_91.lt)
  have szq_93 : sz ≤ q_93 := le_q hsz hSo hq
  have hT := hT.kept ho
  refine rr_putF (D := DG E) (ci := 10) (v := .ref q_93) (ty := .array .int) (C := RX10) (T := TX10) (N := 49) hx hb hts iw_X10 tyX10 tyX10_ok nmX10 hown hK.1 hr_91 hS (Or.inl rfl) rfl 27 (by decide) (hts _ fl_X10_80) (fun _ h9 => h9) rfl hin rfl (by decide +kernel) rfl rfl (Nat.le_of_ble_eq_true rfl) dX10_init_181 (fun H locs hn ho hz hS => ?_)
  have hr_95 : va_at (DG E) vwCl (h0, .inr (10, [.int 0, .int 0, .int 0, .int 0, .ref q_1, .ref q_5, .ref q_9, .ref q_13, .ref q_17, .ref q_21, .ref q_25, .ref q_29, .ref q_33, .ref q_37, .ref q_41, .ref q_45, .ref q_49, .ref q_53, .ref q_57, .ref q_61, .ref q_65, .ref q_69, .ref q_73, .ref q_77, .ref q_81, .ref q_85, .ref q_89, .ref q_93, .null, .null, .null, .null, .null, .null, .null, .null, .null, .null, .null, .null, .int 0, .null, .null, .null, .null, .null, .null, .null, .null])) H := hn
  have hr_94 := hr_94.kept (ho _ (Ne.symm neq_93_h0))
  have hT := hT.off hG0 ho
  have hT := hT.add (g := 127) zq_93 (show T0 E (va_up G_92 q_93 127) 127 _ from ⟨by decide, rfl⟩) hr_94
  have hE := hE.add (g := 127) zq_93 szq_93
  have hG0 := (va_up_ne G_92 127 neq_93_h0).trans hG0
  have gq_27 := va_up_self G_92 q_93 127
  have st_27 : ∀ a x, x ≠ 0 → G_92 a = x → va_up G_92 q_93 127 a = x := fun a x h1 h2 => up_k h2 zq_93 h1
  obtain ⟨G_96, eG_96⟩ : ∃ z, z = va_up G_92 q_93 127 := ⟨_, rfl⟩
  rw [← eG_96] at hT hE hG0 gq_27 st_27
  try clear hSo hq hz hat
  refine lv_aload_n hx hb dX10_init_184 rfl (lv_at hl 0 rfl) ?_
  refine lv_bipush (v := 16) hx hb dX10_init_185 (by decide) ?_
  have hSo : s.heap.size ≤ _ := hS.1
  refine rr_newa (D := DG E) (atype := .int) (N' := 16) (a0 := (16, .inl (fun _ => 0))) hx hb (hts _ ac_int) hK.1 0 rfl hS rfl (by decide) (by decide) (by decide) (Nat.le_of_ble_eq_true rfl) (Nat.le_of_ble_eq_true rfl) dX10_init_187 (fun q_97 H hq hat hz ho hS => ?_)
  have hr_98 := hat
  have zq_97 := hT.fresh hq
  have neq_97_h0 : h0 ≠ q_97 := ne_q hr_95.lt hq
  have hr_95 := hr_95.kept (ho _ hr_95.lt)
  have szq_97 : sz ≤ q_97 := le_q hsz hSo hq
  have hT := hT.kept ho
  refine rr_putF (D := DG E) (ci := 10) (v := .ref q_97) (ty := .array .int) (C := RX10) (T := TX10) (N := 49) hx hb hts iw_X10 tyX10 tyX10_ok nmX10 hown hK.1 hr_95 hS (Or.inl rfl) rfl 28 (by decide) (hts _ fl_X10_83) (fun _ h9 => h9) rfl hin rfl (by decide +kernel) rfl rfl (Nat.le_of_ble_eq_true rfl) dX10_init_189 (fun H locs hn ho hz hS => ?_)
  have hr_99 : va_at (DG E) vwCl (h0, .inr (10, [.int 0, .int 0, .int 0, .int 0, .ref q_1, .ref q_5, .ref q_9, .ref q_13, .ref q_17, .ref q_21, .ref q_25, .ref q_29, .ref q_33, .ref q_37, .ref q_41, .ref q_45, .ref q_49, .ref q_53, .ref q_57, .ref q_61, .ref q_65, .ref q_69, .ref q_73, .ref q_77, .ref q_81, .ref q_85, .ref q_89, .ref q_93, .ref q_97, .null, .null, .null, .null, .null, .null, .null, .null, .null, .null, .null, .int 0, .null, .null, .null, .null, .null, .null, .null, .null])) H := hn
  have hr_98 := hr_98.kept (ho _ (Ne.symm neq_97_h0))
  have hT := hT.off hG0 ho
  have hT := hT.add (g := 128) zq_97 (show T0 E (va_up G_96 q_97 128) 128 _ from ⟨by decide, rfl⟩) hr_98
  have hE := hE.add (g := 128) zq_97 szq_97
  have hG0 := (va_up_ne G_96 128 neq_97_h0).trans hG0
  have gq_28 := va_up_self G_96 q_97 128
  have st_28 : ∀ a x, x ≠ 0 → G_96 a = x → va_up G_96 q_97 128 a = x := fun a x h1 h2 => up_k h2 zq_97 h1
  obtain ⟨G_100, eG_100⟩ : ∃ z, z = va_up G_96 q_97 128 := ⟨_, rfl⟩
  rw [← eG_100] at hT hE hG0 gq_28 st_28
  try clear hSo hq hz hat
  refine lv_aload_n hx hb dX10_init_192 rfl (lv_at hl 0 rfl) ?_
  refine lv_bipush (v := 16) hx hb dX10_init_193 (by decide) ?_
  have hSo : s.heap.size ≤ _ := hS.1
  refine rr_newa (D := DG E) (atype := .int) (N' := 16) (a0 := (16, .inl (fun _ => 0))) hx hb (hts _ ac_int) hK.1 0 rfl hS rfl (by decide) (by decide) (by decide) (Nat.le_of_ble_eq_true rfl) (Nat.le_of_ble_eq_true rfl) dX10_init_195 (fun q_101 H hq hat hz ho hS => ?_)
  have hr_102 := hat
  have zq_101 := hT.fresh hq
  have neq_101_h0 : h0 ≠ q_101 := ne_q hr_99.lt hq
  have hr_99 := hr_99.kept (ho _ hr_99.lt)
  have szq_101 : sz ≤ q_101 := le_q hsz hSo hq
  have hT := hT.kept ho
  refine rr_putF (D := DG E) (ci := 10) (v := .ref q_101) (ty := .array .int) (C := RX10) (T := TX10) (N := 49) hx hb hts iw_X10 tyX10 tyX10_ok nmX10 hown hK.1 hr_99 hS (Or.inl rfl) rfl 29 (by decide) (hts _ fl_X10_86) (fun _ h9 => h9) rfl hin rfl (by decide +kernel) rfl rfl (Nat.le_of_ble_eq_true rfl) dX10_init_197 (fun H locs hn ho hz hS => ?_)
  have hr_103 : va_at (DG E) vwCl (h0, .inr (10, [.int 0, .int 0, .int 0, .int 0, .ref q_1, .ref q_5, .ref q_9, .ref q_13, .ref q_17, .ref q_21, .ref q_25, .ref q_29, .ref q_33, .ref q_37, .ref q_41, .ref q_45, .ref q_49, .ref q_53, .ref q_57, .ref q_61, .ref q_65, .ref q_69, .ref q_73, .ref q_77, .ref q_81, .ref q_85, .ref q_89, .ref q_93, .ref q_97, .ref q_101, .null, .null, .null, .null, .null, .null, .null, .null, .null, .null, .int 0, .null, .null, .null, .null, .null, .null, .null, .null])) H := hn
  have hr_102 := hr_102.kept (ho _ (Ne.symm neq_101_h0))
  have hT := hT.off hG0 ho
  have hT := hT.add (g := 129) zq_101 (show T0 E (va_up G_100 q_101 129) 129 _ from ⟨by decide, rfl⟩) hr_102
  have hE := hE.add (g := 129) zq_101 szq_101
  have hG0 := (va_up_ne G_100 129 neq_101_h0).trans hG0
  have gq_29 := va_up_self G_100 q_101 129
  have st_29 : ∀ a x, x ≠ 0 → G_100 a = x → va_up G_100 q_101 129 a = x := fun a x h1 h2 => up_k h2 zq_101 h1
  obtain ⟨G_104, eG_104⟩ : ∃ z, z = va_up G_100 q_101 129 := ⟨_, rfl⟩
  rw [← eG_104] at hT hE hG0 gq_29 st_29
  try clear hSo hq hz hat
  refine lv_aload_n hx hb dX10_init_200 rfl (lv_at hl 0 rfl) ?_
  refine lv_iconst (v := 4) hx hb dX10_init_201 (by decide) ?_
  have hSo : s.heap.size ≤ _ := hS.1
  refine rr_newa (D := DG E) (atype := .int) (N' := 4) (a0 := (4, .inl (fun _ => 0))) hx hb (hts _ ac_int) hK.1 0 rfl hS rfl (by decide) (by decide) (by decide) (Nat.le_of_ble_eq_true rfl) (Nat.le_of_ble_eq_true rfl) dX10_init_202 (fun q_105 H hq hat hz ho hS => ?_)
  have hr_106 := hat
  have zq_105 := hT.fresh hq
  have neq_105_h0 : h0 ≠ q_105 := ne_q hr_103.lt hq
  have hr_103 := hr_103.kept (ho _ hr_103.lt)
  have szq_105 : sz ≤ q_105 := le_q hsz hSo hq
  have hT := hT.kept ho
  refine rr_putF (D := DG E) (ci := 10) (v := .ref q_105) (ty := .array .int) (C := RX10) (T := TX10) (N := 49) hx hb hts iw_X10 tyX10 tyX10_ok nmX10 hown hK.1 hr_103 hS (Or.inl rfl) rfl 30 (by decide) (hts _ fl_X10_89) (fun _ h9 => h9) rfl hin rfl (by decide +kernel) rfl rfl (Nat.le_of_ble_eq_true rfl) dX10_init_204 (fun H locs hn ho hz hS => ?_)
  have hr_107 : va_at (DG E) vwCl (h0, .inr (10, [.int 0, .int 0, .int 0, .int 0, .ref q_1, .ref q_5, .ref q_9, .ref q_13, .ref q_17, .ref q_21, .ref q_25, .ref q_29, .ref q_33, .ref q_37, .ref q_41, .ref q_45, .ref q_49, .ref q_53, .ref q_57, .ref q_61, .ref q_65, .ref q_69, .ref q_73, .ref q_77, .ref q_81, .ref q_85, .ref q_89, .ref q_93, .ref q_97, .ref q_101, .ref q_105, .null, .null, .null, .null, .null, .null, .null, .null, .null, .int 0, .null, .null, .null, .null, .null, .null, .null, .null])) H := hn
  have hr_106 := hr_106.kept (ho _ (Ne.symm neq_105_h0))
  have hT := hT.off hG0 ho
  have hT := hT.add (g := 130) zq_105 (show T0 E (va_up G_104 q_105 130) 130 _ from ⟨by decide, rfl⟩) hr_106
  have hE := hE.add (g := 130) zq_105 szq_105
  have hG0 := (va_up_ne G_104 130 neq_105_h0).trans hG0
  have gq_30 := va_up_self G_104 q_105 130
  have st_30 : ∀ a x, x ≠ 0 → G_104 a = x → va_up G_104 q_105 130 a = x := fun a x h1 h2 => up_k h2 zq_105 h1
  obtain ⟨G_108, eG_108⟩ : ∃ z, z = va_up G_104 q_105 130 := ⟨_, rfl⟩
  rw [← eG_108] at hT hE hG0 gq_30 st_30
  try clear hSo hq hz hat
  refine lv_aload_n hx hb dX10_init_207 rfl (lv_at hl 0 rfl) ?_
  refine lv_iconst (v := 4) hx hb dX10_init_208 (by decide) ?_
  have hSo : s.heap.size ≤ _ := hS.1
  refine rr_newa (D := DG E) (atype := .int) (N' := 4) (a0 := (4, .inl (fun _ => 0))) hx hb (hts _ ac_int) hK.1 0 rfl hS rfl (by decide) (by decide) (by decide) (Nat.le_of_ble_eq_true rfl) (Nat.le_of_ble_eq_true rfl) dX10_init_209 (fun q_109 H hq hat hz ho hS => ?_)
  have hr_110 := hat
  have zq_109 := hT.fresh hq
  have neq_109_h0 : h0 ≠ q_109 := ne_q hr_107.lt hq
  have hr_107 := hr_107.kept (ho _ hr_107.lt)
  have szq_109 : sz ≤ q_109 := le_q hsz hSo hq
  have hT := hT.kept ho
  refine rr_putF (D := DG E) (ci := 10) (v := .ref q_109) (ty := .array .int) (C := RX10) (T := TX10) (N := 49) hx hb hts iw_X10 tyX10 tyX10_ok nmX10 hown hK.1 hr_107 hS (Or.inl rfl) rfl 31 (by decide) (hts _ fl_X10_92) (fun _ h9 => h9) rfl hin rfl (by decide +kernel) rfl rfl (Nat.le_of_ble_eq_true rfl) dX10_init_211 (fun H locs hn ho hz hS => ?_)
  have hr_111 : va_at (DG E) vwCl (h0, .inr (10, [.int 0, .int 0, .int 0, .int 0, .ref q_1, .ref q_5, .ref q_9, .ref q_13, .ref q_17, .ref q_21, .ref q_25, .ref q_29, .ref q_33, .ref q_37, .ref q_41, .ref q_45, .ref q_49, .ref q_53, .ref q_57, .ref q_61, .ref q_65, .ref q_69, .ref q_73, .ref q_77, .ref q_81, .ref q_85, .ref q_89, .ref q_93, .ref q_97, .ref q_101, .ref q_105, .ref q_109, .null, .null, .null, .null, .null, .null, .null, .null, .int 0, .null, .null, .null, .null, .null, .null, .null, .null])) H := hn
  have hr_110 := hr_110.kept (ho _ (Ne.symm neq_109_h0))
  have hT := hT.off hG0 ho
  have hT := hT.add (g := 131) zq_109 (show T0 E (va_up G_108 q_109 131) 131 _ from ⟨by decide, rfl⟩) hr_110
  have hE := hE.add (g := 131) zq_109 szq_109
  have hG0 := (va_up_ne G_108 131 neq_109_h0).trans hG0
  have gq_31 := va_up_self G_108 q_109 131
  have st_31 : ∀ a x, x ≠ 0 → G_108 a = x → va_up G_108 q_109 131 a = x := fun a x h1 h2 => up_k h2 zq_109 h1
  obtain ⟨G_112, eG_112⟩ : ∃ z, z = va_up G_108 q_109 131 := ⟨_, rfl⟩
  rw [← eG_112] at hT hE hG0 gq_31 st_31
  try clear hSo hq hz hat
  refine lv_aload_n hx hb dX10_init_214 rfl (lv_at hl 0 rfl) ?_
  refine lv_bipush (v := 16) hx hb dX10_init_215 (by decide) ?_
  have hSo : s.heap.size ≤ _ := hS.1
  refine rr_newa (D := DG E) (atype := .int) (N' := 16) (a0 := (16, .inl (fun _ => 0))) hx hb (hts _ ac_int) hK.1 0 rfl hS rfl (by decide) (by decide) (by decide) (Nat.le_of_ble_eq_true rfl) (Nat.le_of_ble_eq_true rfl) dX10_init_217 (fun q_113 H hq hat hz ho hS => ?_)
  have hr_114 := hat
  have zq_113 := hT.fresh hq
  have neq_113_h0 : h0 ≠ q_113 := ne_q hr_111.lt hq
  have hr_111 := hr_111.kept (ho _ hr_111.lt)
  have szq_113 : sz ≤ q_113 := le_q hsz hSo hq
  have hT := hT.kept ho
  refine rr_putF (D := DG E) (ci := 10) (v := .ref q_113) (ty := .array .int) (C := RX10) (T := TX10) (N := 49) hx hb hts iw_X10 tyX10 tyX10_ok nmX10 hown hK.1 hr_111 hS (Or.inl rfl) rfl 32 (by decide) (hts _ fl_X10_95) (fun _ h9 => h9) rfl hin rfl (by decide +kernel) rfl rfl (Nat.le_of_ble_eq_true rfl) dX10_init_219 (fun H locs hn ho hz hS => ?_)
  have hr_115 : va_at (DG E) vwCl (h0, .inr (10, [.int 0, .int 0, .int 0, .int 0, .ref q_1, .ref q_5, .ref q_9, .ref q_13, .ref q_17, .ref q_21, .ref q_25, .ref q_29, .ref q_33, .ref q_37, .ref q_41, .ref q_45, .ref q_49, .ref q_53, .ref q_57, .ref q_61, .ref q_65, .ref q_69, .ref q_73, .ref q_77, .ref q_81, .ref q_85, .ref q_89, .ref q_93, .ref q_97, .ref q_101, .ref q_105, .ref q_109, .ref q_113, .null, .null, .null, .null, .null, .null, .null, .int 0, .null, .null, .null, .null, .null, .null, .null, .null])) H := hn
  have hr_114 := hr_114.kept (ho _ (Ne.symm neq_113_h0))
  have hT := hT.off hG0 ho
  have hT := hT.add (g := 132) zq_113 (show T0 E (va_up G_112 q_113 132) 132 _ from ⟨by decide, rfl⟩) hr_114
  have hE := hE.add (g := 132) zq_113 szq_113
  have hG0 := (va_up_ne G_112 132 neq_113_h0).trans hG0
  have gq_32 := va_up_self G_112 q_113 132
  have st_32 : ∀ a x, x ≠ 0 → G_112 a = x → va_up G_112 q_113 132 a = x := fun a x h1 h2 => up_k h2 zq_113 h1
  obtain ⟨G_116, eG_116⟩ : ∃ z, z = va_up G_112 q_113 132 := ⟨_, rfl⟩
  rw [← eG_116] at hT hE hG0 gq_32 st_32
  try clear hSo hq hz hat
  refine lv_aload_n hx hb dX10_init_222 rfl (lv_at hl 0 rfl) ?_
  refine lv_bipush (v := 16) hx hb dX10_init_223 (by decide) ?_
  have hSo : s.heap.size ≤ _ := hS.1
  refine rr_newa (D := DG E) (atype := .int) (N' := 16) (a0 := (16, .inl (fun _ => 0))) hx hb (hts _ ac_int) hK.1 0 rfl hS rfl (by decide) (by decide) (by decide) (Nat.le_of_ble_eq_true rfl) (Nat.le_of_ble_eq_true rfl) dX10_init_225 (fun q_117 H hq hat hz ho hS => ?_)
  have hr_118 := hat
  have zq_117 := hT.fresh hq
  have neq_117_h0 : h0 ≠ q_117 := ne_q hr_115.lt hq
  have hr_115 := hr_115.kept (ho _ hr_115.lt)
  have szq_117 : sz ≤ q_117 := le_q hsz hSo hq
  have hT := hT.kept ho
  refine rr_putF (D := DG E) (ci := 10) (v := .ref q_117) (ty := .array .int) (C := RX10) (T := TX10) (N := 49) hx hb hts iw_X10 tyX10 tyX10_ok nmX10 hown hK.1 hr_115 hS (Or.inl rfl) rfl 33 (by decide) (hts _ fl_X10_98) (fun _ h9 => h9) rfl hin rfl (by decide +kernel) rfl rfl (Nat.le_of_ble_eq_true rfl) dX10_init_227 (fun H locs hn ho hz hS => ?_)
  have hr_119 : va_at (DG E) vwCl (h0, .inr (10, [.int 0, .int 0, .int 0, .int 0, .ref q_1, .ref q_5, .ref q_9, .ref q_13, .ref q_17, .ref q_21, .ref q_25, .ref q_29, .ref q_33, .ref q_37, .ref q_41, .ref q_45, .ref q_49, .ref q_53, .ref q_57, .ref q_61, .ref q_65, .ref q_69, .ref q_73, .ref q_77, .ref q_81, .ref q_85, .ref q_89, .ref q_93, .ref q_97, .ref q_101, .ref q_105, .ref q_109, .ref q_113, .ref q_117, .null, .null, .null, .null, .null, .null, .int 0, .null, .null, .null, .null, .null, .null, .null, .null])) H := hn
  have hr_118 := hr_118.kept (ho _ (Ne.symm neq_117_h0))
  have hT := hT.off hG0 ho
  have hT := hT.add (g := 133) zq_117 (show T0 E (va_up G_116 q_117 133) 133 _ from ⟨by decide, rfl⟩) hr_118
  have hE := hE.add (g := 133) zq_117 szq_117
  have hG0 := (va_up_ne G_116 133 neq_117_h0).trans hG0
  have gq_33 := va_up_self G_116 q_117 133
  have st_33 : ∀ a x, x ≠ 0 → G_116 a = x → va_up G_116 q_117 133 a = x := fun a x h1 h2 => up_k h2 zq_117 h1
  obtain ⟨G_120, eG_120⟩ : ∃ z, z = va_up G_116 q_117 133 := ⟨_, rfl⟩
  rw [← eG_120] at hT hE hG0 gq_33 st_33
  try clear hSo hq hz hat
  refine lv_aload_n hx hb dX10_init_230 rfl (lv_at hl 0 rfl) ?_
  refine lv_bipush (v := 16) hx hb dX10_init_231 (by decide) ?_
  have hSo : s.heap.size ≤ _ := hS.1
  refine rr_newa (D := DG E) (atype := .int) (N' := 16) (a0 := (16, .inl (fun _ => 0))) hx hb (hts _ ac_int) hK.1 0 rfl hS rfl (by decide) (by decide) (by decide) (Nat.le_of_ble_eq_true rfl) (Nat.le_of_ble_eq_true rfl) dX10_init_233 (fun q_121 H hq hat hz ho hS => ?_)
  have hr_122 := hat
  have zq_121 := hT.fresh hq
  have neq_121_h0 : h0 ≠ q_121 := ne_q hr_119.lt hq
  have hr_119 := hr_119.kept (ho _ hr_119.lt)
  have szq_121 : sz ≤ q_121 := le_q hsz hSo hq
  have hT := hT.kept ho
  refine rr_putF (D := DG E) (ci := 10) (v := .ref q_121) (ty := .array .int) (C := RX10) (T := TX10) (N := 49) hx hb hts iw_X10 tyX10 tyX10_ok nmX10 hown hK.1 hr_119 hS (Or.inl rfl) rfl 34 (by decide) (hts _ fl_X10_101) (fun _ h9 => h9) rfl hin rfl (by decide +kernel) rfl rfl (Nat.le_of_ble_eq_true rfl) dX10_init_235 (fun H locs hn ho hz hS => ?_)
  have hr_123 : va_at (DG E) vwCl (h0, .inr (10, [.int 0, .int 0, .int 0, .int 0, .ref q_1, .ref q_5, .ref q_9, .ref q_13, .ref q_17, .ref q_21, .ref q_25, .ref q_29, .ref q_33, .ref q_37, .ref q_41, .ref q_45, .ref q_49, .ref q_53, .ref q_57, .ref q_61, .ref q_65, .ref q_69, .ref q_73, .ref q_77, .ref q_81, .ref q_85, .ref q_89, .ref q_93, .ref q_97, .ref q_101, .ref q_105, .ref q_109, .ref q_113, .ref q_117, .ref q_121, .null, .null, .null, .null, .null, .int 0, .null, .null, .null, .null, .null, .null, .null, .null])) H := hn
  have hr_122 := hr_122.kept (ho _ (Ne.symm neq_121_h0))
  have hT := hT.off hG0 ho
  have hT := hT.add (g := 134) zq_121 (show T0 E (va_up G_120 q_121 134) 134 _ from ⟨by decide, rfl⟩) hr_122
  have hE := hE.add (g := 134) zq_121 szq_121
  have hG0 := (va_up_ne G_120 134 neq_121_h0).trans hG0
  have gq_34 := va_up_self G_120 q_121 134
  have st_34 : ∀ a x, x ≠ 0 → G_120 a = x → va_up G_120 q_121 134 a = x := fun a x h1 h2 => up_k h2 zq_121 h1
  obtain ⟨G_124, eG_124⟩ : ∃ z, z = va_up G_120 q_121 134 := ⟨_, rfl⟩
  rw [← eG_124] at hT hE hG0 gq_34 st_34
  try clear hSo hq hz hat
  refine lv_aload_n hx hb dX10_init_238 rfl (lv_at hl 0 rfl) ?_
  refine lv_bipush (v := 16) hx hb dX10_init_239 (by decide) ?_
  have hSo : s.heap.size ≤ _ := hS.1
  refine rr_newa (D := DG E) (atype := .int) (N' := 16) (a0 := (16, .inl (fun _ => 0))) hx hb (hts _ ac_int) hK.1 0 rfl hS rfl (by decide) (by decide) (by decide) (Nat.le_of_ble_eq_true rfl) (Nat.le_of_ble_eq_true rfl) dX10_init_241 (fun q_125 H hq hat hz ho hS => ?_)
  have hr_126 := hat
  have zq_125 := hT.fresh hq
  have neq_125_h0 : h0 ≠ q_125 := ne_q hr_123.lt hq
  have hr_123 := hr_123.kept (ho _ hr_123.lt)
  have szq_125 : sz ≤ q_125 := le_q hsz hSo hq
  have hT := hT.kept ho
  refine rr_putF (D := DG E) (ci := 10) (v := .ref q_125) (ty := .array .int) (C := RX10) (T := TX10) (N := 49) hx hb hts iw_X10 tyX10 tyX10_ok nmX10 hown hK.1 hr_123 hS (Or.inl rfl) rfl 35 (by decide) (hts _ fl_X10_104) (fun _ h9 => h9) rfl hin rfl (by decide +kernel) rfl rfl (Nat.le_of_ble_eq_true rfl) dX10_init_243 (fun H locs hn ho hz hS => ?_)
  have hr_127 : va_at (DG E) vwCl (h0, .inr (10, [.int 0, .int 0, .int 0, .int 0, .ref q_1, .ref q_5, .ref q_9, .ref q_13, .ref q_17, .ref q_21, .ref q_25, .ref q_29, .ref q_33, .ref q_37, .ref q_41, .ref q_45, .ref q_49, .ref q_53, .ref q_57, .ref q_61, .ref q_65, .ref q_69, .ref q_73, .ref q_77, .ref q_81, .ref q_85, .ref q_89, .ref q_93, .ref q_97, .ref q_101, .ref q_105, .ref q_109, .ref q_113, .ref q_117, .ref q_121, .ref q_125, .null, .null, .null, .null, .int 0, .null, .null, .null, .null, .null, .null, .null, .null])) H := hn
  have hr_126 := hr_126.kept (ho _ (Ne.symm neq_125_h0))
  have hT := hT.off hG0 ho
  have hT := hT.add (g := 135) zq_125 (show T0 E (va_up G_124 q_125 135) 135 _ from ⟨by decide, rfl⟩) hr_126
  have hE := hE.add (g := 135) zq_125 szq_125
  have hG0 := (va_up_ne G_124 135 neq_125_h0).trans hG0
  have gq_35 := va_up_self G_124 q_125 135
  have st_35 : ∀ a x, x ≠ 0 → G_124 a = x → va_up G_124 q_125 135 a = x := fun a x h1 h2 => up_k h2 zq_125 h1
  obtain ⟨G_128, eG_128⟩ : ∃ z, z = va_up G_124 q_125 135 := ⟨_, rfl⟩
  rw [← eG_128] at hT hE hG0 gq_35 st_35
  try clear hSo hq hz hat
  refine lv_aload_n hx hb dX10_init_246 rfl (lv_at hl 0 rfl) ?_
  refine lv_iconst (v := 4) hx hb dX10_init_247 (by decide) ?_
  have hSo : s.heap.size ≤ _ := hS.1
  refine rr_newa (D := DG E) (atype := .boolean) (N' := 4) (a0 := (4, .inl (fun _ => 0))) hx hb (hts _ ac_boolean) hK.1 1 rfl hS rfl (by decide) (by decide) (by decide) (Nat.le_of_ble_eq_true rfl) (Nat.le_of_ble_eq_true rfl) dX10_init_248 (fun q_129 H hq hat hz ho hS => ?_)
  have hr_130 := hat
  have zq_129 := hT.fresh hq
  have neq_129_h0 : h0 ≠ q_129 := ne_q hr_127.lt hq
  have hr_127 := hr_127.kept (ho _ hr_127.lt)
  have szq_129 : sz ≤ q_129 := le_q hsz hSo hq
  have hT := hT.kept ho
  refine rr_putF (D := DG E) (ci := 10) (v := .ref q_129) (ty := .array .boolean) (C := RX10) (T := TX10) (N := 49) hx hb hts iw_X10 tyX10 tyX10_ok nmX10 hown hK.1 hr_127 hS (Or.inl rfl) rfl 36 (by decide) (hts _ fl_X10_107) (fun _ h9 => h9) rfl hin rfl (by decide +kernel) rfl rfl (Nat.le_of_ble_eq_true rfl) dX10_init_250 (fun H locs hn ho hz hS => ?_)
  have hr_131 : va_at (DG E) vwCl (h0, .inr (10, [.int 0, .int 0, .int 0, .int 0, .ref q_1, .ref q_5, .ref q_9, .ref q_13, .ref q_17, .ref q_21, .ref q_25, .ref q_29, .ref q_33, .ref q_37, .ref q_41, .ref q_45, .ref q_49, .ref q_53, .ref q_57, .ref q_61, .ref q_65, .ref q_69, .ref q_73, .ref q_77, .ref q_81, .ref q_85, .ref q_89, .ref q_93, .ref q_97, .ref q_101, .ref q_105, .ref q_109, .ref q_113, .ref q_117, .ref q_121, .ref q_125, .ref q_129, .null, .null, .null, .int 0, .null, .null, .null, .null, .null, .null, .null, .null])) H := hn
  have hr_130 := hr_130.kept (ho _ (Ne.symm neq_129_h0))
  have hT := hT.off hG0 ho
  have hT := hT.add (g := 136) zq_129 (show T0 E (va_up G_128 q_129 136) 136 _ from ⟨by decide, rfl⟩) hr_130
  have hE := hE.add (g := 136) zq_129 szq_129
  have hG0 := (va_up_ne G_128 136 neq_129_h0).trans hG0
  have gq_36 := va_up_self G_128 q_129 136
  have st_36 : ∀ a x, x ≠ 0 → G_128 a = x → va_up G_128 q_129 136 a = x := fun a x h1 h2 => up_k h2 zq_129 h1
  obtain ⟨G_132, eG_132⟩ : ∃ z, z = va_up G_128 q_129 136 := ⟨_, rfl⟩
  rw [← eG_132] at hT hE hG0 gq_36 st_36
  try clear hSo hq hz hat
  refine lv_aload_n hx hb dX10_init_253 rfl (lv_at hl 0 rfl) ?_
  refine lv_iconst (v := 4) hx hb dX10_init_254 (by decide) ?_
  have hSo : s.heap.size ≤ _ := hS.1
  refine rr_newa (D := DG E) (atype := .int) (N' := 4) (a0 := (4, .inl (fun _ => 0))) hx hb (hts _ ac_int) hK.1 0 rfl hS rfl (by decide) (by decide) (by decide) (Nat.le_of_ble_eq_true rfl) (Nat.le_of_ble_eq_true rfl) dX10_init_255 (fun q_133 H hq hat hz ho hS => ?_)
  have hr_134 := hat
  have zq_133 := hT.fresh hq
  have neq_133_h0 : h0 ≠ q_133 := ne_q hr_131.lt hq
  have hr_131 := hr_131.kept (ho _ hr_131.lt)
  have szq_133 : sz ≤ q_133 := le_q hsz hSo hq
  have hT := hT.kept ho
  refine rr_putF (D := DG E) (ci := 10) (v := .ref q_133) (ty := .array .int) (C := RX10) (T := TX10) (N := 49) hx hb hts iw_X10 tyX10 tyX10_ok nmX10 hown hK.1 hr_131 hS (Or.inl rfl) rfl 37 (by decide) (hts _ fl_X10_110) (fun _ h9 => h9) rfl hin rfl (by decide +kernel) rfl rfl (Nat.le_of_ble_eq_true rfl) dX10_init_257 (fun H locs hn ho hz hS => ?_)
  have hr_135 : va_at (DG E) vwCl (h0, .inr (10, [.int 0, .int 0, .int 0, .int 0, .ref q_1, .ref q_5, .ref q_9, .ref q_13, .ref q_17, .ref q_21, .ref q_25, .ref q_29, .ref q_33, .ref q_37, .ref q_41, .ref q_45, .ref q_49, .ref q_53, .ref q_57, .ref q_61, .ref q_65, .ref q_69, .ref q_73, .ref q_77, .ref q_81, .ref q_85, .ref q_89, .ref q_93, .ref q_97, .ref q_101, .ref q_105, .ref q_109, .ref q_113, .ref q_117, .ref q_121, .ref q_125, .ref q_129, .ref q_133, .null, .null, .int 0, .null, .null, .null, .null, .null, .null, .null, .null])) H := hn
  have hr_134 := hr_134.kept (ho _ (Ne.symm neq_133_h0))
  have hT := hT.off hG0 ho
  have hT := hT.add (g := 137) zq_133 (show T0 E (va_up G_132 q_133 137) 137 _ from ⟨by decide, rfl⟩) hr_134
  have hE := hE.add (g := 137) zq_133 szq_133
  have hG0 := (va_up_ne G_132 137 neq_133_h0).trans hG0
  have gq_37 := va_up_self G_132 q_133 137
  have st_37 : ∀ a x, x ≠ 0 → G_132 a = x → va_up G_132 q_133 137 a = x := fun a x h1 h2 => up_k h2 zq_133 h1
  obtain ⟨G_136, eG_136⟩ : ∃ z, z = va_up G_132 q_133 137 := ⟨_, rfl⟩
  rw [← eG_136] at hT hE hG0 gq_37 st_37
  try clear hSo hq hz hat
  refine lv_aload_n hx hb dX10_init_260 rfl (lv_at hl 0 rfl) ?_
  refine lv_bipush (v := 8) hx hb dX10_init_261 (by decide) ?_
  have hSo : s.heap.size ≤ _ := hS.1
  refine rr_newa (D := DG E) (atype := .int) (N' := 8) (a0 := (8, .inl (fun _ => 0))) hx hb (hts _ ac_int) hK.1 0 rfl hS rfl (by decide) (by decide) (by decide) (Nat.le_of_ble_eq_true rfl) (Nat.le_of_ble_eq_true rfl) dX10_init_263 (fun q_137 H hq hat hz ho hS => ?_)
  have hr_138 := hat
  have zq_137 := hT.fresh hq
  have neq_137_h0 : h0 ≠ q_137 := ne_q hr_135.lt hq
  have hr_135 := hr_135.kept (ho _ hr_135.lt)
  have szq_137 : sz ≤ q_137 := le_q hsz hSo hq
  have hT := hT.kept ho
  refine rr_putF (D := DG E) (ci := 10) (v := .ref q_137) (ty := .array .int) (C := RX10) (T := TX10) (N := 49) hx hb hts iw_X10 tyX10 tyX10_ok nmX10 hown hK.1 hr_135 hS (Or.inl rfl) rfl 38 (by decide) (hts _ fl_X10_113) (fun _ h9 => h9) rfl hin rfl (by decide +kernel) rfl rfl (Nat.le_of_ble_eq_true rfl) dX10_init_265 (fun H locs hn ho hz hS => ?_)
  have hr_139 : va_at (DG E) vwCl (h0, .inr (10, [.int 0, .int 0, .int 0, .int 0, .ref q_1, .ref q_5, .ref q_9, .ref q_13, .ref q_17, .ref q_21, .ref q_25, .ref q_29, .ref q_33, .ref q_37, .ref q_41, .ref q_45, .ref q_49, .ref q_53, .ref q_57, .ref q_61, .ref q_65, .ref q_69, .ref q_73, .ref q_77, .ref q_81, .ref q_85, .ref q_89, .ref q_93, .ref q_97, .ref q_101, .ref q_105, .ref q_109, .ref q_113, .ref q_117, .ref q_121, .ref q_125, .ref q_129, .ref q_133, .ref q_137, .null, .int 0, .null, .null, .null, .null, .null, .null, .null, .null])) H := hn
  have hr_138 := hr_138.kept (ho _ (Ne.symm neq_137_h0))
  have hT := hT.off hG0 ho
  have hT := hT.add (g := 138) zq_137 (show T0 E (va_up G_136 q_137 138) 138 _ from ⟨by decide, rfl⟩) hr_138
  have hE := hE.add (g := 138) zq_137 szq_137
  have hG0 := (va_up_ne G_136 138 neq_137_h0).trans hG0
  have gq_38 := va_up_self G_136 q_137 138
  have st_38 : ∀ a x, x ≠ 0 → G_136 a = x → va_up G_136 q_137 138 a = x := fun a x h1 h2 => up_k h2 zq_137 h1
  obtain ⟨G_140, eG_140⟩ : ∃ z, z = va_up G_136 q_137 138 := ⟨_, rfl⟩
  rw [← eG_140] at hT hE hG0 gq_38 st_38
  try clear hSo hq hz hat
  refine lv_aload_n hx hb dX10_init_268 rfl (lv_at hl 0 rfl) ?_
  refine lv_bipush (v := 8) hx hb dX10_init_269 (by decide) ?_
  have hSo : s.heap.size ≤ _ := hS.1
  refine rr_newa (D := DG E) (atype := .int) (N' := 8) (a0 := (8, .inl (fun _ => 0))) hx hb (hts _ ac_int) hK.1 0 rfl hS rfl (by decide) (by decide) (by decide) (Nat.le_of_ble_eq_true rfl) (Nat.le_of_ble_eq_true rfl) dX10_init_271 (fun q_141 H hq hat hz ho hS => ?_)
  have hr_142 := hat
  have zq_141 := hT.fresh hq
  have neq_141_h0 : h0 ≠ q_141 := ne_q hr_139.lt hq
  have hr_139 := hr_139.kept (ho _ hr_139.lt)
  have szq_141 : sz ≤ q_141 := le_q hsz hSo hq
  have hT := hT.kept ho
  refine rr_putF (D := DG E) (ci := 10) (v := .ref q_141) (ty := .array .int) (C := RX10) (T := TX10) (N := 49) hx hb hts iw_X10 tyX10 tyX10_ok nmX10 hown hK.1 hr_139 hS (Or.inl rfl) rfl 39 (by decide) (hts _ fl_X10_116) (fun _ h9 => h9) rfl hin rfl (by decide +kernel) rfl rfl (Nat.le_of_ble_eq_true rfl) dX10_init_273 (fun H locs hn ho hz hS => ?_)
  have hr_143 : va_at (DG E) vwCl (h0, .inr (10, [.int 0, .int 0, .int 0, .int 0, .ref q_1, .ref q_5, .ref q_9, .ref q_13, .ref q_17, .ref q_21, .ref q_25, .ref q_29, .ref q_33, .ref q_37, .ref q_41, .ref q_45, .ref q_49, .ref q_53, .ref q_57, .ref q_61, .ref q_65, .ref q_69, .ref q_73, .ref q_77, .ref q_81, .ref q_85, .ref q_89, .ref q_93, .ref q_97, .ref q_101, .ref q_105, .ref q_109, .ref q_113, .ref q_117, .ref q_121, .ref q_125, .ref q_129, .ref q_133, .ref q_137, .ref q_141, .int 0, .null, .null, .null, .null, .null, .null, .null, .null])) H := hn
  have hr_142 := hr_142.kept (ho _ (Ne.symm neq_141_h0))
  have hT := hT.off hG0 ho
  have hT := hT.add (g := 139) zq_141 (show T0 E (va_up G_140 q_141 139) 139 _ from ⟨by decide, rfl⟩) hr_142
  have hE := hE.add (g := 139) zq_141 szq_141
  have hG0 := (va_up_ne G_140 139 neq_141_h0).trans hG0
  have gq_39 := va_up_self G_140 q_141 139
  have st_39 : ∀ a x, x ≠ 0 → G_140 a = x → va_up G_140 q_141 139 a = x := fun a x h1 h2 => up_k h2 zq_141 h1
  obtain ⟨G_144, eG_144⟩ : ∃ z, z = va_up G_140 q_141 139 := ⟨_, rfl⟩
  rw [← eG_144] at hT hE hG0 gq_39 st_39
  try clear hSo hq hz hat
  refine lv_aload_n hx hb dX10_init_276 rfl (lv_at hl 0 rfl) ?_
  refine lv_bipush (v := 25) hx hb dX10_init_277 (by decide) ?_
  have hSo : s.heap.size ≤ _ := hS.1
  refine rr_newa (D := DG E) (atype := .int) (N' := 25) (a0 := (25, .inl (fun _ => 0))) hx hb (hts _ ac_int) hK.1 0 rfl hS rfl (by decide) (by decide) (by decide) (Nat.le_of_ble_eq_true rfl) (Nat.le_of_ble_eq_true rfl) dX10_init_279 (fun q_145 H hq hat hz ho hS => ?_)
  have hr_146 := hat
  have zq_145 := hT.fresh hq
  have neq_145_h0 : h0 ≠ q_145 := ne_q hr_143.lt hq
  have hr_143 := hr_143.kept (ho _ hr_143.lt)
  have szq_145 : sz ≤ q_145 := le_q hsz hSo hq
  have hT := hT.kept ho
  refine rr_putF (D := DG E) (ci := 10) (v := .ref q_145) (ty := .array .int) (C := RX10) (T := TX10) (N := 49) hx hb hts iw_X10 tyX10 tyX10_ok nmX10 hown hK.1 hr_143 hS (Or.inl rfl) rfl 41 (by decide) (hts _ fl_X10_119) (fun _ h9 => h9) rfl hin rfl (by decide +kernel) rfl rfl (Nat.le_of_ble_eq_true rfl) dX10_init_281 (fun H locs hn ho hz hS => ?_)
  have hr_147 : va_at (DG E) vwCl (h0, .inr (10, [.int 0, .int 0, .int 0, .int 0, .ref q_1, .ref q_5, .ref q_9, .ref q_13, .ref q_17, .ref q_21, .ref q_25, .ref q_29, .ref q_33, .ref q_37, .ref q_41, .ref q_45, .ref q_49, .ref q_53, .ref q_57, .ref q_61, .ref q_65, .ref q_69, .ref q_73, .ref q_77, .ref q_81, .ref q_85, .ref q_89, .ref q_93, .ref q_97, .ref q_101, .ref q_105, .ref q_109, .ref q_113, .ref q_117, .ref q_121, .ref q_125, .ref q_129, .ref q_133, .ref q_137, .ref q_141, .int 0, .ref q_145, .null, .null, .null, .null, .null, .null, .null])) H := hn
  have hr_146 := hr_146.kept (ho _ (Ne.symm neq_145_h0))
  have hT := hT.off hG0 ho
  have hT := hT.add (g := 141) zq_145 (show T0 E (va_up G_144 q_145 141) 141 _ from ⟨by decide, rfl⟩) hr_146
  have hE := hE.add (g := 141) zq_145 szq_145
  have hG0 := (va_up_ne G_144 141 neq_145_h0).trans hG0
  have gq_41 := va_up_self G_144 q_145 141
  have st_41 : ∀ a x, x ≠ 0 → G_144 a = x → va_up G_144 q_145 141 a = x := fun a x h1 h2 => up_k h2 zq_145 h1
  obtain ⟨G_148, eG_148⟩ : ∃ z, z = va_up G_144 q_145 141 := ⟨_, rfl⟩
  rw [← eG_148] at hT hE hG0 gq_41 st_41
  try clear hSo hq hz hat
  refine lv_aload_n hx hb dX10_init_284 rfl (lv_at hl 0 rfl) ?_
  refine lv_bipush (v := 25) hx hb dX10_init_285 (by decide) ?_
  have hSo : s.heap.size ≤ _ := hS.1
  refine rr_newa (D := DG E) (atype := .int) (N' := 25) (a0 := (25, .inl (fun _ => 0))) hx hb (hts _ ac_int) hK.1 0 rfl hS rfl (by decide) (by decide) (by decide) (Nat.le_of_ble_eq_true rfl) (Nat.le_of_ble_eq_true rfl) dX10_init_287 (fun q_149 H hq hat hz ho hS => ?_)
  have hr_150 := hat
  have zq_149 := hT.fresh hq
  have neq_149_h0 : h0 ≠ q_149 := ne_q hr_147.lt hq
  have hr_147 := hr_147.kept (ho _ hr_147.lt)
  have szq_149 : sz ≤ q_149 := le_q hsz hSo hq
  have hT := hT.kept ho
  refine rr_putF (D := DG E) (ci := 10) (v := .ref q_149) (ty := .array .int) (C := RX10) (T := TX10) (N := 49) hx hb hts iw_X10 tyX10 tyX10_ok nmX10 hown hK.1 hr_147 hS (Or.inl rfl) rfl 42 (by decide) (hts _ fl_X10_122) (fun _ h9 => h9) rfl hin rfl (by decide +kernel) rfl rfl (Nat.le_of_ble_eq_true rfl) dX10_init_289 (fun H locs hn ho hz hS => ?_)
  have hr_151 : va_at (DG E) vwCl (h0, .inr (10, [.int 0, .int 0, .int 0, .int 0, .ref q_1, .ref q_5, .ref q_9, .ref q_13, .ref q_17, .ref q_21, .ref q_25, .ref q_29, .ref q_33, .ref q_37, .ref q_41, .ref q_45, .ref q_49, .ref q_53, .ref q_57, .ref q_61, .ref q_65, .ref q_69, .ref q_73, .ref q_77, .ref q_81, .ref q_85, .ref q_89, .ref q_93, .ref q_97, .ref q_101, .ref q_105, .ref q_109, .ref q_113, .ref q_117, .ref q_121, .ref q_125, .ref q_129, .ref q_133, .ref q_137, .ref q_141, .int 0, .ref q_145, .ref q_149, .null, .null, .null, .null, .null, .null])) H := hn
  have hr_150 := hr_150.kept (ho _ (Ne.symm neq_149_h0))
  have hT := hT.off hG0 ho
  have hT := hT.add (g := 142) zq_149 (show T0 E (va_up G_148 q_149 142) 142 _ from ⟨by decide, rfl⟩) hr_150
  have hE := hE.add (g := 142) zq_149 szq_149
  have hG0 := (va_up_ne G_148 142 neq_149_h0).trans hG0
  have gq_42 := va_up_self G_148 q_149 142
  have st_42 : ∀ a x, x ≠ 0 → G_148 a = x → va_up G_148 q_149 142 a = x := fun a x h1 h2 => up_k h2 zq_149 h1
  obtain ⟨G_152, eG_152⟩ : ∃ z, z = va_up G_148 q_149 142 := ⟨_, rfl⟩
  rw [← eG_152] at hT hE hG0 gq_42 st_42
  try clear hSo hq hz hat
  refine lv_aload_n hx hb dX10_init_292 rfl (lv_at hl 0 rfl) ?_
  refine lv_bipush (v := 25) hx hb dX10_init_293 (by decide) ?_
  have hSo : s.heap.size ≤ _ := hS.1
  refine rr_newa (D := DG E) (atype := .int) (N' := 25) (a0 := (25, .inl (fun _ => 0))) hx hb (hts _ ac_int) hK.1 0 rfl hS rfl (by decide) (by decide) (by decide) (Nat.le_of_ble_eq_true rfl) (Nat.le_of_ble_eq_true rfl) dX10_init_295 (fun q_153 H hq hat hz ho hS => ?_)
  have hr_154 := hat
  have zq_153 := hT.fresh hq
  have neq_153_h0 : h0 ≠ q_153 := ne_q hr_151.lt hq
  have hr_151 := hr_151.kept (ho _ hr_151.lt)
  have szq_153 : sz ≤ q_153 := le_q hsz hSo hq
  have hT := hT.kept ho
  refine rr_putF (D := DG E) (ci := 10) (v := .ref q_153) (ty := .array .int) (C := RX10) (T := TX10) (N := 49) hx hb hts iw_X10 tyX10 tyX10_ok nmX10 hown hK.1 hr_151 hS (Or.inl rfl) rfl 43 (by decide) (hts _ fl_X10_125) (fun _ h9 => h9) rfl hin rfl (by decide +kernel) rfl rfl (Nat.le_of_ble_eq_true rfl) dX10_init_297 (fun H locs hn ho hz hS => ?_)
  have hr_155 : va_at (DG E) vwCl (h0, .inr (10, [.int 0, .int 0, .int 0, .int 0, .ref q_1, .ref q_5, .ref q_9, .ref q_13, .ref q_17, .ref q_21, .ref q_25, .ref q_29, .ref q_33, .ref q_37, .ref q_41, .ref q_45, .ref q_49, .ref q_53, .ref q_57, .ref q_61, .ref q_65, .ref q_69, .ref q_73, .ref q_77, .ref q_81, .ref q_85, .ref q_89, .ref q_93, .ref q_97, .ref q_101, .ref q_105, .ref q_109, .ref q_113, .ref q_117, .ref q_121, .ref q_125, .ref q_129, .ref q_133, .ref q_137, .ref q_141, .int 0, .ref q_145, .ref q_149, .ref q_153, .null, .null, .null, .null, .null])) H := hn
  have hr_154 := hr_154.kept (ho _ (Ne.symm neq_153_h0))
  have hT := hT.off hG0 ho
  have hT := hT.add (g := 143) zq_153 (show T0 E (va_up G_152 q_153 143) 143 _ from ⟨by decide, rfl⟩) hr_154
  have hE := hE.add (g := 143) zq_153 szq_153
  have hG0 := (va_up_ne G_152 143 neq_153_h0).trans hG0
  have gq_43 := va_up_self G_152 q_153 143
  have st_43 : ∀ a x, x ≠ 0 → G_152 a = x → va_up G_152 q_153 143 a = x := fun a x h1 h2 => up_k h2 zq_153 h1
  obtain ⟨G_156, eG_156⟩ : ∃ z, z = va_up G_152 q_153 143 := ⟨_, rfl⟩
  rw [← eG_156] at hT hE hG0 gq_43 st_43
  try clear hSo hq hz hat
  refine lv_aload_n hx hb dX10_init_300 rfl (lv_at hl 0 rfl) ?_
  refine lv_bipush (v := 25) hx hb dX10_init_301 (by decide) ?_
  have hSo : s.heap.size ≤ _ := hS.1
  refine rr_newa (D := DG E) (atype := .int) (N' := 25) (a0 := (25, .inl (fun _ => 0))) hx hb (hts _ ac_int) hK.1 0 rfl hS rfl (by decide) (by decide) (by decide) (Nat.le_of_ble_eq_true rfl) (Nat.le_of_ble_eq_true rfl) dX10_init_303 (fun q_157 H hq hat hz ho hS => ?_)
  have hr_158 := hat
  have zq_157 := hT.fresh hq
  have neq_157_h0 : h0 ≠ q_157 := ne_q hr_155.lt hq
  have hr_155 := hr_155.kept (ho _ hr_155.lt)
  have szq_157 : sz ≤ q_157 := le_q hsz hSo hq
  have hT := hT.kept ho
  refine rr_putF (D := DG E) (ci := 10) (v := .ref q_157) (ty := .array .int) (C := RX10) (T := TX10) (N := 49) hx hb hts iw_X10 tyX10 tyX10_ok nmX10 hown hK.1 hr_155 hS (Or.inl rfl) rfl 44 (by decide) (hts _ fl_X10_128) (fun _ h9 => h9) rfl hin rfl (by decide +kernel) rfl rfl (Nat.le_of_ble_eq_true rfl) dX10_init_305 (fun H locs hn ho hz hS => ?_)
  have hr_159 : va_at (DG E) vwCl (h0, .inr (10, [.int 0, .int 0, .int 0, .int 0, .ref q_1, .ref q_5, .ref q_9, .ref q_13, .ref q_17, .ref q_21, .ref q_25, .ref q_29, .ref q_33, .ref q_37, .ref q_41, .ref q_45, .ref q_49, .ref q_53, .ref q_57, .ref q_61, .ref q_65, .ref q_69, .ref q_73, .ref q_77, .ref q_81, .ref q_85, .ref q_89, .ref q_93, .ref q_97, .ref q_101, .ref q_105, .ref q_109, .ref q_113, .ref q_117, .ref q_121, .ref q_125, .ref q_129, .ref q_133, .ref q_137, .ref q_141, .int 0, .ref q_145, .ref q_149, .ref q_153, .ref q_157, .null, .null, .null, .null])) H := hn
  have hr_158 := hr_158.kept (ho _ (Ne.symm neq_157_h0))
  have hT := hT.off hG0 ho
  have hT := hT.add (g := 144) zq_157 (show T0 E (va_up G_156 q_157 144) 144 _ from ⟨by decide, rfl⟩) hr_158
  have hE := hE.add (g := 144) zq_157 szq_157
  have hG0 := (va_up_ne G_156 144 neq_157_h0).trans hG0
  have gq_44 := va_up_self G_156 q_157 144
  have st_44 : ∀ a x, x ≠ 0 → G_156 a = x → va_up G_156 q_157 144 a = x := fun a x h1 h2 => up_k h2 zq_157 h1
  obtain ⟨G_160, eG_160⟩ : ∃ z, z = va_up G_156 q_157 144 := ⟨_, rfl⟩
  rw [← eG_160] at hT hE hG0 gq_44 st_44
  try clear hSo hq hz hat
  refine lv_aload_n hx hb dX10_init_308 rfl (lv_at hl 0 rfl) ?_
  refine lv_bipush (v := 25) hx hb dX10_init_309 (by decide) ?_
  have hSo : s.heap.size ≤ _ := hS.1
  refine rr_newa (D := DG E) (atype := .int) (N' := 25) (a0 := (25, .inl (fun _ => 0))) hx hb (hts _ ac_int) hK.1 0 rfl hS rfl (by decide) (by decide) (by decide) (Nat.le_of_ble_eq_true rfl) (Nat.le_of_ble_eq_true rfl) dX10_init_311 (fun q_161 H hq hat hz ho hS => ?_)
  have hr_162 := hat
  have zq_161 := hT.fresh hq
  have neq_161_h0 : h0 ≠ q_161 := ne_q hr_159.lt hq
  have hr_159 := hr_159.kept (ho _ hr_159.lt)
  have szq_161 : sz ≤ q_161 := le_q hsz hSo hq
  have hT := hT.kept ho
  refine rr_putF (D := DG E) (ci := 10) (v := .ref q_161) (ty := .array .int) (C := RX10) (T := TX10) (N := 49) hx hb hts iw_X10 tyX10 tyX10_ok nmX10 hown hK.1 hr_159 hS (Or.inl rfl) rfl 45 (by decide) (hts _ fl_X10_131) (fun _ h9 => h9) rfl hin rfl (by decide +kernel) rfl rfl (Nat.le_of_ble_eq_true rfl) dX10_init_313 (fun H locs hn ho hz hS => ?_)
  have hr_163 : va_at (DG E) vwCl (h0, .inr (10, [.int 0, .int 0, .int 0, .int 0, .ref q_1, .ref q_5, .ref q_9, .ref q_13, .ref q_17, .ref q_21, .ref q_25, .ref q_29, .ref q_33, .ref q_37, .ref q_41, .ref q_45, .ref q_49, .ref q_53, .ref q_57, .ref q_61, .ref q_65, .ref q_69, .ref q_73, .ref q_77, .ref q_81, .ref q_85, .ref q_89, .ref q_93, .ref q_97, .ref q_101, .ref q_105, .ref q_109, .ref q_113, .ref q_117, .ref q_121, .ref q_125, .ref q_129, .ref q_133, .ref q_137, .ref q_141, .int 0, .ref q_145, .ref q_149, .ref q_153, .ref q_157, .ref q_161, .null, .null, .null])) H := hn
  have hr_162 := hr_162.kept (ho _ (Ne.symm neq_161_h0))
  have hT := hT.off hG0 ho
  have hT := hT.add (g := 145) zq_161 (show T0 E (va_up G_160 q_161 145) 145 _ from ⟨by decide, rfl⟩) hr_162
  have hE := hE.add (g := 145) zq_161 szq_161
  have hG0 := (va_up_ne G_160 145 neq_161_h0).trans hG0
  have gq_45 := va_up_self G_160 q_161 145
  have st_45 : ∀ a x, x ≠ 0 → G_160 a = x → va_up G_160 q_161 145 a = x := fun a x h1 h2 => up_k h2 zq_161 h1
  obtain ⟨G_164, eG_164⟩ : ∃ z, z = va_up G_160 q_161 145 := ⟨_, rfl⟩
  rw [← eG_164] at hT hE hG0 gq_45 st_45
  try clear hSo hq hz hat
  refine lv_aload_n hx hb dX10_init_316 rfl (lv_at hl 0 rfl) ?_
  refine lv_bipush (v := 25) hx hb dX10_init_317 (by decide) ?_
  have hSo : s.heap.size ≤ _ := hS.1
  refine rr_newa (D := DG E) (atype := .int) (N' := 25) (a0 := (25, .inl (fun _ => 0))) hx hb (hts _ ac_int) hK.1 0 rfl hS rfl (by decide) (by decide) (by decide) (Nat.le_of_ble_eq_true rfl) (Nat.le_of_ble_eq_true rfl) dX10_init_319 (fun q_165 H hq hat hz ho hS => ?_)
  have hr_166 := hat
  have zq_165 := hT.fresh hq
  have neq_165_h0 : h0 ≠ q_165 := ne_q hr_163.lt hq
  have hr_163 := hr_163.kept (ho _ hr_163.lt)
  have szq_165 : sz ≤ q_165 := le_q hsz hSo hq
  have hT := hT.kept ho
  refine rr_putF (D := DG E) (ci := 10) (v := .ref q_165) (ty := .array .int) (C := RX10) (T := TX10) (N := 49) hx hb hts iw_X10 tyX10 tyX10_ok nmX10 hown hK.1 hr_163 hS (Or.inl rfl) rfl 46 (by decide) (hts _ fl_X10_134) (fun _ h9 => h9) rfl hin rfl (by decide +kernel) rfl rfl (Nat.le_of_ble_eq_true rfl) dX10_init_321 (fun H locs hn ho hz hS => ?_)
  have hr_167 : va_at (DG E) vwCl (h0, .inr (10, [.int 0, .int 0, .int 0, .int 0, .ref q_1, .ref q_5, .ref q_9, .ref q_13, .ref q_17, .ref q_21, .ref q_25, .ref q_29, .ref q_33, .ref q_37, .ref q_41, .ref q_45, .ref q_49, .ref q_53, .ref q_57, .ref q_61, .ref q_65, .ref q_69, .ref q_73, .ref q_77, .ref q_81, .ref q_85, .ref q_89, .ref q_93, .ref q_97, .ref q_101, .ref q_105, .ref q_109, .ref q_113, .ref q_117, .ref q_121, .ref q_125, .ref q_129, .ref q_133, .ref q_137, .ref q_141, .int 0, .ref q_145, .ref q_149, .ref q_153, .ref q_157, .ref q_161, .ref q_165, .null, .null])) H := hn
  have hr_166 := hr_166.kept (ho _ (Ne.symm neq_165_h0))
  have hT := hT.off hG0 ho
  have hT := hT.add (g := 146) zq_165 (show T0 E (va_up G_164 q_165 146) 146 _ from ⟨by decide, rfl⟩) hr_166
  have hE := hE.add (g := 146) zq_165 szq_165
  have hG0 := (va_up_ne G_164 146 neq_165_h0).trans hG0
  have gq_46 := va_up_self G_164 q_165 146
  have st_46 : ∀ a x, x ≠ 0 → G_164 a = x → va_up G_164 q_165 146 a = x := fun a x h1 h2 => up_k h2 zq_165 h1
  obtain ⟨G_168, eG_168⟩ : ∃ z, z = va_up G_164 q_165 146 := ⟨_, rfl⟩
  rw [← eG_168] at hT hE hG0 gq_46 st_46
  try clear hSo hq hz hat
  refine lv_aload_n hx hb dX10_init_324 rfl (lv_at hl 0 rfl) ?_
  refine lv_bipush (v := 25) hx hb dX10_init_325 (by decide) ?_
  have hSo : s.heap.size ≤ _ := hS.1
  refine rr_newa (D := DG E) (atype := .int) (N' := 25) (a0 := (25, .inl (fun _ => 0))) hx hb (hts _ ac_int) hK.1 0 rfl hS rfl (by decide) (by decide) (by decide) (Nat.le_of_ble_eq_true rfl) (Nat.le_of_ble_eq_true rfl) dX10_init_327 (fun q_169 H hq hat hz ho hS => ?_)
  have hr_170 := hat
  have zq_169 := hT.fresh hq
  have neq_169_h0 : h0 ≠ q_169 := ne_q hr_167.lt hq
  have hr_167 := hr_167.kept (ho _ hr_167.lt)
  have szq_169 : sz ≤ q_169 := le_q hsz hSo hq
  have hT := hT.kept ho
  refine rr_putF (D := DG E) (ci := 10) (v := .ref q_169) (ty := .array .int) (C := RX10) (T := TX10) (N := 49) hx hb hts iw_X10 tyX10 tyX10_ok nmX10 hown hK.1 hr_167 hS (Or.inl rfl) rfl 47 (by decide) (hts _ fl_X10_137) (fun _ h9 => h9) rfl hin rfl (by decide +kernel) rfl rfl (Nat.le_of_ble_eq_true rfl) dX10_init_329 (fun H locs hn ho hz hS => ?_)
  have hr_171 : va_at (DG E) vwCl (h0, .inr (10, [.int 0, .int 0, .int 0, .int 0, .ref q_1, .ref q_5, .ref q_9, .ref q_13, .ref q_17, .ref q_21, .ref q_25, .ref q_29, .ref q_33, .ref q_37, .ref q_41, .ref q_45, .ref q_49, .ref q_53, .ref q_57, .ref q_61, .ref q_65, .ref q_69, .ref q_73, .ref q_77, .ref q_81, .ref q_85, .ref q_89, .ref q_93, .ref q_97, .ref q_101, .ref q_105, .ref q_109, .ref q_113, .ref q_117, .ref q_121, .ref q_125, .ref q_129, .ref q_133, .ref q_137, .ref q_141, .int 0, .ref q_145, .ref q_149, .ref q_153, .ref q_157, .ref q_161, .ref q_165, .ref q_169, .null])) H := hn
  have hr_170 := hr_170.kept (ho _ (Ne.symm neq_169_h0))
  have hT := hT.off hG0 ho
  have hT := hT.add (g := 147) zq_169 (show T0 E (va_up G_168 q_169 147) 147 _ from ⟨by decide, rfl⟩) hr_170
  have hE := hE.add (g := 147) zq_169 szq_169
  have hG0 := (va_up_ne G_168 147 neq_169_h0).trans hG0
  have gq_47 := va_up_self G_168 q_169 147
  have st_47 : ∀ a x, x ≠ 0 → G_168 a = x → va_up G_168 q_169 147 a = x := fun a x h1 h2 => up_k h2 zq_169 h1
  obtain ⟨G_172, eG_172⟩ : ∃ z, z = va_up G_168 q_169 147 := ⟨_, rfl⟩
  rw [← eG_172] at hT hE hG0 gq_47 st_47
  try clear hSo hq hz hat
  refine lv_aload_n hx hb dX10_init_332 rfl (lv_at hl 0 rfl) ?_
  refine lv_bipush (v := 100) hx hb dX10_init_333 (by decide) ?_
  have hSo : s.heap.size ≤ _ := hS.1
  refine rr_newa (D := DG E) (atype := .int) (N' := 100) (a0 := (100, .inl (fun _ => 0))) hx hb (hts _ ac_int) hK.1 0 rfl hS rfl (by decide) (by decide) (by decide) (Nat.le_of_ble_eq_true rfl) (Nat.le_of_ble_eq_true rfl) dX10_init_335 (fun q_173 H hq hat hz ho hS => ?_)
  have hr_174 := hat
  have zq_173 := hT.fresh hq
  have neq_173_h0 : h0 ≠ q_173 := ne_q hr_171.lt hq
  have hr_171 := hr_171.kept (ho _ hr_171.lt)
  have szq_173 : sz ≤ q_173 := le_q hsz hSo hq
  have hT := hT.kept ho
  refine rr_putF (D := DG E) (ci := 10) (v := .ref q_173) (ty := .array .int) (C := RX10) (T := TX10) (N := 49) hx hb hts iw_X10 tyX10 tyX10_ok nmX10 hown hK.1 hr_171 hS (Or.inl rfl) rfl 48 (by decide) (hts _ fl_X10_140) (fun _ h9 => h9) rfl hin rfl (by decide +kernel) rfl rfl (Nat.le_of_ble_eq_true rfl) dX10_init_337 (fun H locs hn ho hz hS => ?_)
  have hr_175 : va_at (DG E) vwCl (h0, .inr (10, [.int 0, .int 0, .int 0, .int 0, .ref q_1, .ref q_5, .ref q_9, .ref q_13, .ref q_17, .ref q_21, .ref q_25, .ref q_29, .ref q_33, .ref q_37, .ref q_41, .ref q_45, .ref q_49, .ref q_53, .ref q_57, .ref q_61, .ref q_65, .ref q_69, .ref q_73, .ref q_77, .ref q_81, .ref q_85, .ref q_89, .ref q_93, .ref q_97, .ref q_101, .ref q_105, .ref q_109, .ref q_113, .ref q_117, .ref q_121, .ref q_125, .ref q_129, .ref q_133, .ref q_137, .ref q_141, .int 0, .ref q_145, .ref q_149, .ref q_153, .ref q_157, .ref q_161, .ref q_165, .ref q_169, .ref q_173])) H := hn
  have hr_174 := hr_174.kept (ho _ (Ne.symm neq_173_h0))
  have hT := hT.off hG0 ho
  have hT := hT.add (g := 148) zq_173 (show T0 E (va_up G_172 q_173 148) 148 _ from ⟨by decide, rfl⟩) hr_174
  have hE := hE.add (g := 148) zq_173 szq_173
  have hG0 := (va_up_ne G_172 148 neq_173_h0).trans hG0
  have gq_48 := va_up_self G_172 q_173 148
  have st_48 : ∀ a x, x ≠ 0 → G_172 a = x → va_up G_172 q_173 148 a = x := fun a x h1 h2 => up_k h2 zq_173 h1
  obtain ⟨G_176, eG_176⟩ : ∃ z, z = va_up G_172 q_173 148 := ⟨_, rfl⟩
  rw [← eG_176] at hT hE hG0 gq_48 st_48
  try clear hSo hq hz hat
  have y_43 : ∀ a x, x ≠ 0 → G_176 a = x → G_176 a = x := fun _ _ _ h => h
  have y_42 : ∀ a x, x ≠ 0 → _ → G_176 a = x := fun a x h1 h2 => y_43 a x h1 (st_48 a x h1 h2)
  have y_41 : ∀ a x, x ≠ 0 → _ → G_176 a = x := fun a x h1 h2 => y_42 a x h1 (st_47 a x h1 h2)
  have y_40 : ∀ a x, x ≠ 0 → _ → G_176 a = x := fun a x h1 h2 => y_41 a x h1 (st_46 a x h1 h2)
  have y_39 : ∀ a x, x ≠ 0 → _ → G_176 a = x := fun a x h1 h2 => y_40 a x h1 (st_45 a x h1 h2)
  have y_38 : ∀ a x, x ≠ 0 → _ → G_176 a = x := fun a x h1 h2 => y_39 a x h1 (st_44 a x h1 h2)
  have y_37 : ∀ a x, x ≠ 0 → _ → G_176 a = x := fun a x h1 h2 => y_38 a x h1 (st_43 a x h1 h2)
  have y_36 : ∀ a x, x ≠ 0 → _ → G_176 a = x := fun a x h1 h2 => y_37 a x h1 (st_42 a x h1 h2)
  have y_35 : ∀ a x, x ≠ 0 → _ → G_176 a = x := fun a x h1 h2 => y_36 a x h1 (st_41 a x h1 h2)
  have y_34 : ∀ a x, x ≠ 0 → _ → G_176 a = x := fun a x h1 h2 => y_35 a x h1 (st_39 a x h1 h2)
  have y_33 : ∀ a x, x ≠ 0 → _ → G_176 a = x := fun a x h1 h2 => y_34 a x h1 (st_38 a x h1 h2)
  have y_32 : ∀ a x, x ≠ 0 → _ → G_176 a = x := fun a x h1 h2 => y_33 a x h1 (st_37 a x h1 h2)
  have y_31 : ∀ a x, x ≠ 0 → _ → G_176 a = x := fun a x h1 h2 => y_32 a x h1 (st_36 a x h1 h2)
  have y_30 : ∀ a x, x ≠ 0 → _ → G_176 a = x := fun a x h1 h2 => y_31 a x h1 (st_35 a x h1 h2)
  have y_29 : ∀ a x, x ≠ 0 → _ → G_176 a = x := fun a x h1 h2 => y_30 a x h1 (st_34 a x h1 h2)
  have y_28 : ∀ a x, x ≠ 0 → _ → G_176 a = x := fun a x h1 h2 => y_29 a x h1 (st_33 a x h1 h2)
  have y_27 : ∀ a x, x ≠ 0 → _ → G_176 a = x := fun a x h1 h2 => y_28 a x h1 (st_32 a x h1 h2)
  have y_26 : ∀ a x, x ≠ 0 → _ → G_176 a = x := fun a x h1 h2 => y_27 a x h1 (st_31 a x h1 h2)
  have y_25 : ∀ a x, x ≠ 0 → _ → G_176 a = x := fun a x h1 h2 => y_26 a x h1 (st_30 a x h1 h2)
  have y_24 : ∀ a x, x ≠ 0 → _ → G_176 a = x := fun a x h1 h2 => y_25 a x h1 (st_29 a x h1 h2)
  have y_23 : ∀ a x, x ≠ 0 → _ → G_176 a = x := fun a x h1 h2 => y_24 a x h1 (st_28 a x h1 h2)
  have y_22 : ∀ a x, x ≠ 0 → _ → G_176 a = x := fun a x h1 h2 => y_23 a x h1 (st_27 a x h1 h2)
  have y_21 : ∀ a x, x ≠ 0 → _ → G_176 a = x := fun a x h1 h2 => y_22 a x h1 (st_26 a x h1 h2)
  have y_20 : ∀ a x, x ≠ 0 → _ → G_176 a = x := fun a x h1 h2 => y_21 a x h1 (st_25 a x h1 h2)
  have y_19 : ∀ a x, x ≠ 0 → _ → G_176 a = x := fun a x h1 h2 => y_20 a x h1 (st_24 a x h1 h2)
  have y_18 : ∀ a x, x ≠ 0 → _ → G_176 a = x := fun a x h1 h2 => y_19 a x h1 (st_23 a x h1 h2)
  have y_17 : ∀ a x, x ≠ 0 → _ → G_176 a = x := fun a x h1 h2 => y_18 a x h1 (st_22 a x h1 h2)
  have y_16 : ∀ a x, x ≠ 0 → _ → G_176 a = x := fun a x h1 h2 => y_17 a x h1 (st_21 a x h1 h2)
  have y_15 : ∀ a x, x ≠ 0 → _ → G_176 a = x := fun a x h1 h2 => y_16 a x h1 (st_20 a x h1 h2)
  have y_14 : ∀ a x, x ≠ 0 → _ → G_176 a = x := fun a x h1 h2 => y_15 a x h1 (st_19 a x h1 h2)
  have y_13 : ∀ a x, x ≠ 0 → _ → G_176 a = x := fun a x h1 h2 => y_14 a x h1 (st_18 a x h1 h2)
  have y_12 : ∀ a x, x ≠ 0 → _ → G_176 a = x := fun a x h1 h2 => y_13 a x h1 (st_17 a x h1 h2)
  have y_11 : ∀ a x, x ≠ 0 → _ → G_176 a = x := fun a x h1 h2 => y_12 a x h1 (st_16 a x h1 h2)
  have y_10 : ∀ a x, x ≠ 0 → _ → G_176 a = x := fun a x h1 h2 => y_11 a x h1 (st_15 a x h1 h2)
  have y_9 : ∀ a x, x ≠ 0 → _ → G_176 a = x := fun a x h1 h2 => y_10 a x h1 (st_14 a x h1 h2)
  have y_8 : ∀ a x, x ≠ 0 → _ → G_176 a = x := fun a x h1 h2 => y_9 a x h1 (st_13 a x h1 h2)
  have y_7 : ∀ a x, x ≠ 0 → _ → G_176 a = x := fun a x h1 h2 => y_8 a x h1 (st_12 a x h1 h2)
  have y_6 : ∀ a x, x ≠ 0 → _ → G_176 a = x := fun a x h1 h2 => y_7 a x h1 (st_11 a x h1 h2)
  have y_5 : ∀ a x, x ≠ 0 → _ → G_176 a = x := fun a x h1 h2 => y_6 a x h1 (st_10 a x h1 h2)
  have y_4 : ∀ a x, x ≠ 0 → _ → G_176 a = x := fun a x h1 h2 => y_5 a x h1 (st_9 a x h1 h2)
  have y_3 : ∀ a x, x ≠ 0 → _ → G_176 a = x := fun a x h1 h2 => y_4 a x h1 (st_8 a x h1 h2)
  have y_2 : ∀ a x, x ≠ 0 → _ → G_176 a = x := fun a x h1 h2 => y_3 a x h1 (st_7 a x h1 h2)
  have y_1 : ∀ a x, x ≠ 0 → _ → G_176 a = x := fun a x h1 h2 => y_2 a x h1 (st_6 a x h1 h2)
  have y_0 : ∀ a x, x ≠ 0 → _ → G_176 a = x := fun a x h1 h2 => y_1 a x h1 (st_5 a x h1 h2)
  obtain ⟨rr, err⟩ : ∃ r : Nat → Nat, r = (fun j => ([0, 0, 0, 0, q_1, q_5, q_9, q_13, q_17, q_21, q_25, q_29, q_33, q_37, q_41, q_45, q_49, q_53, q_57, q_61, q_65, q_69, q_73, q_77, q_81, q_85, q_89, q_93, q_97, q_101, q_105, q_109, q_113, q_117, q_121, q_125, q_129, q_133, q_137, q_141, 0, q_145, q_149, q_153, q_157, q_161, q_165, q_169, q_173] : List Nat).getD j 0) := ⟨_, rfl⟩
  have hrr : ∀ j, 4 ≤ j → j < 49 → j ≠ 40 → G_176 (rr j) = 100 + j := by
    intro j h1 h2 h3
    rw [err]
    rcases (show j = 4 ∨ j = 5 ∨ j = 6 ∨ j = 7 ∨ j = 8 ∨ j = 9 ∨ j = 10 ∨ j = 11 ∨ j = 12 ∨ j = 13 ∨ j = 14 ∨ j = 15 ∨ j = 16 ∨ j = 17 ∨ j = 18 ∨ j = 19 ∨ j = 20 ∨ j = 21 ∨ j = 22 ∨ j = 23 ∨ j = 24 ∨ j = 25 ∨ j = 26 ∨ j = 27 ∨ j = 28 ∨ j = 29 ∨ j = 30 ∨ j = 31 ∨ j = 32 ∨ j = 33 ∨ j = 34 ∨ j = 35 ∨ j = 36 ∨ j = 37 ∨ j = 38 ∨ j = 39 ∨ j = 41 ∨ j = 42 ∨ j = 43 ∨ j = 44 ∨ j = 45 ∨ j = 46 ∨ j = 47 ∨ j = 48 by omega) with rfl | rfl | rfl | rfl | rfl | rfl | rfl | rfl | rfl | rfl | rfl | rfl | rfl | rfl | rfl | rfl | rfl | rfl | rfl | rfl | rfl | rfl | rfl | rfl | rfl | rfl | rfl | rfl | rfl | rfl | rfl | rfl | rfl | rfl | rfl | rfl | rfl | rfl | rfl | rfl | rfl | rfl | rfl | rfl
    · exact y_0 _ _ (by decide) gq_4
    · exact y_1 _ _ (by decide) gq_5
    · exact y_2 _ _ (by decide) gq_6
    · exact y_3 _ _ (by decide) gq_7
    · exact y_4 _ _ (by decide) gq_8
    · exact y_5 _ _ (by decide) gq_9
    · exact y_6 _ _ (by decide) gq_10
    · exact y_7 _ _ (by decide) gq_11
    · exact y_8 _ _ (by decide) gq_12
    · exact y_9 _ _ (by decide) gq_13
    · exact y_10 _ _ (by decide) gq_14
    · exact y_11 _ _ (by decide) gq_15
    · exact y_12 _ _ (by decide) gq_16
    · exact y_13 _ _ (by decide) gq_17
    · exact y_14 _ _ (by decide) gq_18
    · exact y_15 _ _ (by decide) gq_19
    · exact y_16 _ _ (by decide) gq_20
    · exact y_17 _ _ (by decide) gq_21
    · exact y_18 _ _ (by decide) gq_22
    · exact y_19 _ _ (by decide) gq_23
    · exact y_20 _ _ (by decide) gq_24
    · exact y_21 _ _ (by decide) gq_25
    · exact y_22 _ _ (by decide) gq_26
    · exact y_23 _ _ (by decide) gq_27
    · exact y_24 _ _ (by decide) gq_28
    · exact y_25 _ _ (by decide) gq_29
    · exact y_26 _ _ (by decide) gq_30
    · exact y_27 _ _ (by decide) gq_31
    · exact y_28 _ _ (by decide) gq_32
    · exact y_29 _ _ (by decide) gq_33
    · exact y_30 _ _ (by decide) gq_34
    · exact y_31 _ _ (by decide) gq_35
    · exact y_32 _ _ (by decide) gq_36
    · exact y_33 _ _ (by decide) gq_37
    · exact y_34 _ _ (by decide) gq_38
    · exact y_35 _ _ (by decide) gq_39
    · exact y_36 _ _ (by decide) gq_41
    · exact y_37 _ _ (by decide) gq_42
    · exact y_38 _ _ (by decide) gq_43
    · exact y_39 _ _ (by decide) gq_44
    · exact y_40 _ _ (by decide) gq_45
    · exact y_41 _ _ (by decide) gq_46
    · exact y_42 _ _ (by decide) gq_47
    · exact y_43 _ _ (by decide) gq_48
  have hr_177 : va_at (DG E) vwCl (h0, .inr (10, mfs 0 0 0 0 rr 0)) H := by rw [err]; exact hr_175
  try clear zq_1 zq_5 zq_9 zq_13 zq_17 zq_21 zq_25 zq_29 zq_33 zq_37 zq_41 zq_45 zq_49 zq_53 zq_57 zq_61 zq_65 zq_69 zq_73 zq_77 zq_81 zq_85 zq_89 zq_93 zq_97 zq_101 zq_105 zq_109 zq_113 zq_117 zq_121 zq_125 zq_129 zq_133 zq_137 zq_141 zq_145 zq_149 zq_153 zq_157 zq_161 zq_165 zq_169 zq_173
  try clear szq_1 szq_5 szq_9 szq_13 szq_17 szq_21 szq_25 szq_29 szq_33 szq_37 szq_41 szq_45 szq_49 szq_53 szq_57 szq_61 szq_65 szq_69 szq_73 szq_77 szq_81 szq_85 szq_89 szq_93 szq_97 szq_101 szq_105 szq_109 szq_113 szq_117 szq_121 szq_125 szq_129 szq_133 szq_137 szq_141 szq_145 szq_149 szq_153 szq_157 szq_161 szq_165 szq_169 szq_173
  try clear neq_1_h0 neq_5_h0 neq_9_h0 neq_13_h0 neq_17_h0 neq_21_h0 neq_25_h0 neq_29_h0 neq_33_h0 neq_37_h0 neq_41_h0 neq_45_h0 neq_49_h0 neq_53_h0 neq_57_h0 neq_61_h0 neq_65_h0 neq_69_h0 neq_73_h0 neq_77_h0 neq_81_h0 neq_85_h0 neq_89_h0 neq_93_h0 neq_97_h0 neq_101_h0 neq_105_h0 neq_109_h0 neq_113_h0 neq_117_h0 neq_121_h0 neq_125_h0 neq_129_h0 neq_133_h0 neq_137_h0 neq_141_h0 neq_145_h0 neq_149_h0 neq_153_h0 neq_157_h0 neq_161_h0 neq_165_h0 neq_169_h0 neq_173_h0
  try clear gq_4 gq_5 gq_6 gq_7 gq_8 gq_9 gq_10 gq_11 gq_12 gq_13 gq_14 gq_15 gq_16 gq_17 gq_18 gq_19 gq_20 gq_21 gq_22 gq_23 gq_24 gq_25 gq_26 gq_27 gq_28 gq_29 gq_30 gq_31 gq_32 gq_33 gq_34 gq_35 gq_36 gq_37 gq_38 gq_39 gq_41 gq_42 gq_43 gq_44 gq_45 gq_46 gq_47 gq_48
  try clear y_0 y_1 y_2 y_3 y_4 y_5 y_6 y_7 y_8 y_9 y_10 y_11 y_12 y_13 y_14 y_15 y_16 y_17 y_18 y_19 y_20 y_21 y_22 y_23 y_24 y_25 y_26 y_27 y_28 y_29 y_30 y_31 y_32 y_33 y_34 y_35 y_36 y_37 y_38 y_39 y_40 y_41 y_42 y_43
  try clear st_4 st_5 st_6 st_7 st_8 st_9 st_10 st_11 st_12 st_13 st_14 st_15 st_16 st_17 st_18 st_19 st_20 st_21 st_22 st_23 st_24 st_25 st_26 st_27 st_28 st_29 st_30 st_31 st_32 st_33 st_34 st_35 st_36 st_37 st_38 st_39 st_41 st_42 st_43 st_44 st_45 st_46 st_47 st_48
  refine lv_aload_n hx hb dX10_init_340 rfl (lv_at hl 0 rfl) ?_
  refine W.jv (P := fun v : Int32 => v = wi p0 2 20) (f := fun v => F0 m 362 ls [.int v, .ref h0]) (fun v0 ev0 => ?_) (fun key => ?_)
  · obtain rfl := ev0
    refine rr_putF (D := DG E) (ci := 10) (v := .int (wi p0 2 20)) (ty := .int) (C := RX10) (T := TX10) (N := 49) hx hb hts iw_X10 tyX10 tyX10_ok nmX10 hown hK.1 hr_177 hS (Or.inl rfl) rfl 0 (by decide) (hts _ fl_X10_143) (fun _ h9 => h9) rfl hin rfl (by decide +kernel) rfl rfl (Nat.le_of_ble_eq_true rfl) dX10_init_362 (fun H locs hn ho hz hS => ?_)
    have hrs_0 : va_at (DG E) vwCl (h0, .inr (10, mfs (wi p0 2 20) 0 0 0 rr 0)) H := hn
    have hT := hT.off hG0 ho
    refine lv_aload_n hx hb dX10_init_365 rfl (lv_at hl 0 rfl) ?_
    refine W.jv (P := fun v : Int32 => v = wi p1 0 7) (f := fun v => F0 m 386 ls [.int v, .ref h0]) (fun v1 ev1 => ?_) (fun key => ?_)
    · obtain rfl := ev1
      refine rr_putF (D := DG E) (ci := 10) (v := .int (wi p1 0 7)) (ty := .int) (C := RX10) (T := TX10) (N := 49) hx hb hts iw_X10 tyX10 tyX10_ok nmX10 hown hK.1 hrs_0 hS (Or.inl rfl) rfl 1 (by decide) (hts _ fl_X10_147) (fun _ h9 => h9) rfl hin rfl (by decide +kernel) rfl rfl (Nat.le_of_ble_eq_true rfl) dX10_init_386 (fun H locs hn ho hz hS => ?_)
      have hrs_1 : va_at (DG E) vwCl (h0, .inr (10, mfs (wi p0 2 20) (wi p1 0 7) 0 0 rr 0)) H := hn
      have hT := hT.off hG0 ho
      refine lv_aload_n hx hb dX10_init_389 rfl (lv_at hl 0 rfl) ?_
      refine W.jv (P := fun v : Int32 => v = wi p2 0 7) (f := fun v => F0 m 410 ls [.int v, .ref h0]) (fun v2 ev2 => ?_) (fun key => ?_)
      · obtain rfl := ev2
        refine rr_putF (D := DG E) (ci := 10) (v := .int (wi p2 0 7)) (ty := .int) (C := RX10) (T := TX10) (N := 49) hx hb hts iw_X10 tyX10 tyX10_ok nmX10 hown hK.1 hrs_1 hS (Or.inl rfl) rfl 2 (by decide) (hts _ fl_X10_150) (fun _ h9 => h9) rfl hin rfl (by decide +kernel) rfl rfl (Nat.le_of_ble_eq_true rfl) dX10_init_410 (fun H locs hn ho hz hS => ?_)
        have hrs_2 : va_at (DG E) vwCl (h0, .inr (10, mfs (wi p0 2 20) (wi p1 0 7) (wi p2 0 7) 0 rr 0)) H := hn
        have hT := hT.off hG0 ho
        have hT := hT.add (g := 20) hG0 (show T0 E (va_up G_176 h0 20) 20 _ from ⟨wi p0 2 20, wi p1 0 7, wi p2 0 7, rr, rfl, fun j a b c => up_k (hrr j a b c) hG0 (by omega)⟩) hrs_2
        exact W.vret hx hb hr (fun t ht hW => ⟨⟨_, rfl, hE.fin hG0, by rw [ht]; exact hT, rr, by rw [ht]; exact hrs_2, fun j a b c => up_k (hrr j a b c) hG0 (by omega)⟩, hS.F ht⟩) hS.2.2 dX10_init_413
      · refine lv_iload_n hx hb dX10_init_390 rfl (lv_at hl 3 rfl) ?_
        refine lv_if_ge (tgt := 398) hx hb dX10_init_391 (by decide) (fun c391 => ?_) (fun c391 => ?_)
        · simp only [lt_I, le_I, eq_I, i_0, i_1, i_2, i_3, i_4, i_5, i_6, i_7, i_8, i_10, i_12, i_16, i_20, i_23, i_24, i_31, i_32, i_63, i_64, i_m1] at c391
          refine lv_iload_n hx hb dX10_init_398 rfl (lv_at hl 3 rfl) ?_
          refine lv_bipush (v := 7) hx hb dX10_init_399 (by decide) ?_
          refine lv_icmp_le (tgt := 409) hx hb dX10_init_401 (by decide) (fun c401 => ?_) (fun c401 => ?_)
          · simp only [lt_I, le_I, eq_I, i_0, i_1, i_2, i_3, i_4, i_5, i_6, i_7, i_8, i_10, i_12, i_16, i_20, i_23, i_24, i_31, i_32, i_63, i_64, i_m1] at c401
            refine lv_iload_n hx hb dX10_init_409 rfl (lv_at hl 3 rfl) ?_
            exact key _ (wi_7 (by omega))
          · simp only [lt_I, le_I, eq_I, i_0, i_1, i_2, i_3, i_4, i_5, i_6, i_7, i_8, i_10, i_12, i_16, i_20, i_23, i_24, i_31, i_32, i_63, i_64, i_m1] at c401
            refine lv_bipush (v := 7) hx hb dX10_init_404 (by decide) ?_
            refine lv_goto (tgt := 410) hx hb dX10_init_406 (by decide) ?_
            exact key _ (wi_7 (by rw [i_7]; omega))
        · simp only [lt_I, le_I, eq_I, i_0, i_1, i_2, i_3, i_4, i_5, i_6, i_7, i_8, i_10, i_12, i_16, i_20, i_23, i_24, i_31, i_32, i_63, i_64, i_m1] at c391
          refine lv_iconst (v := 0) hx hb dX10_init_394 (by decide) ?_
          refine lv_goto (tgt := 410) hx hb dX10_init_395 (by decide) ?_
          exact key _ (wi_7 (by rw [i_0]; omega))
    · refine lv_iload_n hx hb dX10_init_366 rfl (lv_at hl 2 rfl) ?_
      refine lv_if_ge (tgt := 374) hx hb dX10_init_367 (by decide) (fun c367 => ?_) (fun c367 => ?_)
      · simp only [lt_I, le_I, eq_I, i_0, i_1, i_2, i_3, i_4, i_5, i_6, i_7, i_8, i_10, i_12, i_16, i_20, i_23, i_24, i_31, i_32, i_63, i_64, i_m1] at c367
        refine lv_iload_n hx hb dX10_init_374 rfl (lv_at hl 2 rfl) ?_
        refine lv_bipush (v := 7) hx hb dX10_init_375 (by decide) ?_
        refine lv_icmp_le (tgt := 385) hx hb dX10_init_377 (by decide) (fun c377 => ?_) (fun c377 => ?_)
        · simp only [lt_I, le_I, eq_I, i_0, i_1, i_2, i_3, i_4, i_5, i_6, i_7, i_8, i_10, i_12, i_16, i_20, i_23, i_24, i_31, i_32, i_63, i_64, i_m1] at c377
          refine lv_iload_n hx hb dX10_init_385 rfl (lv_at hl 2 rfl) ?_
          exact key _ (wi_7 (by omega))
        · simp only [lt_I, le_I, eq_I, i_0, i_1, i_2, i_3, i_4, i_5, i_6, i_7, i_8, i_10, i_12, i_16, i_20, i_23, i_24, i_31, i_32, i_63, i_64, i_m1] at c377
          refine lv_bipush (v := 7) hx hb dX10_init_380 (by decide) ?_
          refine lv_goto (tgt := 386) hx hb dX10_init_382 (by decide) ?_
          exact key _ (wi_7 (by rw [i_7]; omega))
      · simp only [lt_I, le_I, eq_I, i_0, i_1, i_2, i_3, i_4, i_5, i_6, i_7, i_8, i_10, i_12, i_16, i_20, i_23, i_24, i_31, i_32, i_63, i_64, i_m1] at c367
        refine lv_iconst (v := 0) hx hb dX10_init_370 (by decide) ?_
        refine lv_goto (tgt := 386) hx hb dX10_init_371 (by decide) ?_
        exact key _ (wi_7 (by rw [i_0]; omega))
  · refine lv_iload_n hx hb dX10_init_341 rfl (lv_at hl 1 rfl) ?_
    refine lv_iconst (v := 2) hx hb dX10_init_342 (by decide) ?_
    refine lv_icmp_ge (tgt := 350) hx hb dX10_init_343 (by decide) (fun c343 => ?_) (fun c343 => ?_)
    · simp only [lt_I, le_I, eq_I, i_0, i_1, i_2, i_3, i_4, i_5, i_6, i_7, i_8, i_10, i_12, i_16, i_20, i_23, i_24, i_31, i_32, i_63, i_64, i_m1] at c343
      refine lv_iload_n hx hb dX10_init_350 rfl (lv_at hl 1 rfl) ?_
      refine lv_bipush (v := 20) hx hb dX10_init_351 (by decide) ?_
      refine lv_icmp_le (tgt := 361) hx hb dX10_init_353 (by decide) (fun c353 => ?_) (fun c353 => ?_)
      · simp only [lt_I, le_I, eq_I, i_0, i_1, i_2, i_3, i_4, i_5, i_6, i_7, i_8, i_10, i_12, i_16, i_20, i_23, i_24, i_31, i_32, i_63, i_64, i_m1] at c353
        refine lv_iload_n hx hb dX10_init_361 rfl (lv_at hl 1 rfl) ?_
        exact key _ (wi_20 (by omega))
      · simp only [lt_I, le_I, eq_I, i_0, i_1, i_2, i_3, i_4, i_5, i_6, i_7, i_8, i_10, i_12, i_16, i_20, i_23, i_24, i_31, i_32, i_63, i_64, i_m1] at c353
        refine lv_bipush (v := 20) hx hb dX10_init_356 (by decide) ?_
        refine lv_goto (tgt := 362) hx hb dX10_init_358 (by decide) ?_
        exact key _ (wi_20 (by rw [i_20]; omega))
    · simp only [lt_I, le_I, eq_I, i_0, i_1, i_2, i_3, i_4, i_5, i_6, i_7, i_8, i_10, i_12, i_16, i_20, i_23, i_24, i_31, i_32, i_63, i_64, i_m1] at c343
      refine lv_iconst (v := 2) hx hb dX10_init_346 (by decide) ?_
      refine lv_goto (tgt := 362) hx hb dX10_init_347 (by decide) ?_
      exact key _ (wi_20 (by rw [i_2]; omega))
end
section
set_option maxHeartbeats 16000000 in
set_option maxRecDepth 100000 in
theorem e_X4_init (l : Launch) (E : EE) (z0 h0 sz : Nat)  (hz0 : z0 ≤ h0) (hz1 : z0 ≤ sz) (hlt : h0 < sz) : Met l yX4_init [Cond.code yX4_init cX4_init 1 none] ({ frames := 1, cells := 0, slots := 0, locals := 20 } : Room) (va_Pc [.ref h0] (fun U => (U.heap.size = sz ∧ va_at (DG E) vwCl (h0, .inr (4, [.int 0, .int 0, .int 0, .int 0, .int 0, .int 0, .int 0, .int 0, .int 0, .int 0])) U.heap) ∧ KS E z0 U)) (va_Qv (fun (_ : Unit) => True) (fun _ t => t.heap.size = sz + 0 ∧ va_at (DG E) vwCl (h0, .inr (4, [.int 0, .int 0, .int 0, .int 0, .int 0, .int 0, .int 0, .int 0, .int 0, .int 0])) t.heap) (AC h0 sz)) 0 0 (AC h0 sz) := by
  refine Met.ofW (cc := cX4_init) (maxL := 1) (ret := none) (by decide) rfl ?_
  intro p e s m args below meth c s₁ B hml hv
  obtain ⟨rfl, ⟨hsz, hr0⟩, hK⟩ := hv
  have hx := B.exec
  have hb := B.bytes
  have hr := B.returns
  have hts : ∀ w ∈ TS, w.before ([.ref h0] : List Value).toArray s = true := fun w hw => hK.2.1 w hw _
  have hown : s.vm.findClass RX4 = some m.cls := findClass_of_methodNamed B.named
  have hlocks := B.notSynchronized
  have hin : meth.name = "<init>" := (name_of_methodNamed B.named B.method).1
  have hS : va_S (AC h0 sz) s.heap s.heap [] := va_S.rf
  have hAz : ∀ q, AC h0 sz q → z0 ≤ q := fun q h => h.elim (fun e => by omega) (fun e => by omega)
  obtain ⟨H, eH⟩ : ∃ H, H = s.heap := ⟨_, rfl⟩
  rw [← eH] at hr0 hsz
  have hS : va_S (AC h0 sz) s.heap H [] := by rw [eH]; exact hS
  rw [← eH]
  have hsz : H.size = sz + 0 := hsz
  have hl := lv_entry ([.ref h0]) (n := 1) (Nat.le_of_ble_eq_true rfl)
  rw [lg_entry_eq]
  generalize (lg_sl ([.ref h0]) ++ List.replicate (1 - (lg_sl ([.ref h0])).length) Slot.unset).toArray = ls at hl ⊢
  have hl : lv_has ls 1 [(0, .ref h0)] := hl
  refine lv_aload_n hx hb dX4_init_0 rfl (lv_at hl 0 rfl) ?_
  refine W.objInit hx hb hown (hts _ ml_X4_3) (hts _ im_Object__init_) (hts _ co_Object__init_) rfl (by rw [hml]; exact hl.1) rfl dX4_init_1 (Nat.le_of_ble_eq_true rfl) (Nat.le_of_ble_eq_true rfl) ?_
  refine W.eq (g2 := F0 m 4 ls []) rfl ?_
  refine W.widen (k := 0) (n := 0) (Nat.le_of_ble_eq_true rfl) (Nat.le_of_ble_eq_true rfl) ?_
  exact W.vret hx hb hr (fun t ht hW => ⟨⟨(), rfl, trivial, (by rw [ht]; exact hsz), (by show va_at (DG E) vwCl (h0, .inr (4, [.int 0, .int 0, .int 0, .int 0, .int 0, .int 0, .int 0, .int 0, .int 0, .int 0])) t.heap; rw [ht]; exact hr0)⟩, hS.F ht⟩) hS.2.2 dX4_init_4
set_option maxHeartbeats 16000000 in
set_option maxRecDepth 100000 in
theorem e_X6_init (l : Launch) (E : EE) (z0 h0 sz : Nat)  (hz0 : z0 ≤ h0) (hz1 : z0 ≤ sz) (hlt : h0 < sz) : Met l yX6_init [Cond.code yX6_init cX6_init 1 none] ({ frames := 1, cells := 0, slots := 0, locals := 20 } : Room) (va_Pc [.ref h0] (fun U => (U.heap.size = sz ∧ va_at (DG E) vwCl (h0, .inr (6, [.int 0, .int 0, .int 0])) U.heap) ∧ KS E z0 U)) (va_Qv (fun (_ : Unit) => True) (fun _ t => t.heap.size = sz + 0 ∧ va_at (DG E) vwCl (h0, .inr (6, [.int 0, .int 0, .int 0])) t.heap) (AC h0 sz)) 0 0 (AC h0 sz) := by
  refine Met.ofW (cc := cX6_init) (maxL := 1) (ret := none) (by decide) rfl ?_
  intro p e s m args below meth c s₁ B hml hv
  obtain ⟨rfl, ⟨hsz, hr0⟩, hK⟩ := hv
  have hx := B.exec
  have hb := B.bytes
  have hr := B.returns
  have hts : ∀ w ∈ TS, w.before ([.ref h0] : List Value).toArray s = true := fun w hw => hK.2.1 w hw _
  have hown : s.vm.findClass RX6 = some m.cls := findClass_of_methodNamed B.named
  have hlocks := B.notSynchronized
  have hin : meth.name = "<init>" := (name_of_methodNamed B.named B.method).1
  have hS : va_S (AC h0 sz) s.heap s.heap [] := va_S.rf
  have hAz : ∀ q, AC h0 sz q → z0 ≤ q := fun q h => h.elim (fun e => by omega) (fun e => by omega)
  obtain ⟨H, eH⟩ : ∃ H, H = s.heap := ⟨_, rfl⟩
  rw [← eH] at hr0 hsz
  have hS : va_S (AC h0 sz) s.heap H [] := by rw [eH]; exact hS
  rw [← eH]
  have hsz : H.size = sz + 0 := hsz
  have hl := lv_entry ([.ref h0]) (n := 1) (Nat.le_of_ble_eq_true rfl)
  rw [lg_entry_eq]
  generalize (lg_sl ([.ref h0]) ++ List.replicate (1 - (lg_sl ([.ref h0])).length) Slot.unset).toArray = ls at hl ⊢
  have hl : lv_has ls 1 [(0, .ref h0)] := hl
  refine lv_aload_n hx hb dX6_init_0 rfl (lv_at hl 0 rfl) ?_
  refine W.objInit hx hb hown (hts _ ml_X6_1) (hts _ im_Object__init_) (hts _ co_Object__init_) rfl (by rw [hml]; exact hl.1) rfl dX6_init_1 (Nat.le_of_ble_eq_true rfl) (Nat.le_of_ble_eq_true rfl) ?_
  refine W.eq (g2 := F0 m 4 ls []) rfl ?_
  refine W.widen (k := 0) (n := 0) (Nat.le_of_ble_eq_true rfl) (Nat.le_of_ble_eq_true rfl) ?_
  exact W.vret hx hb hr (fun t ht hW => ⟨⟨(), rfl, trivial, (by rw [ht]; exact hsz), (by show va_at (DG E) vwCl (h0, .inr (6, [.int 0, .int 0, .int 0])) t.heap; rw [ht]; exact hr0)⟩, hS.F ht⟩) hS.2.2 dX6_init_4
set_option maxHeartbeats 16000000 in
set_option maxRecDepth 100000 in
theorem e_X2_init (l : Launch) (E : EE) (z0 h0 sz : Nat)  (hz0 : z0 ≤ h0) (hz1 : z0 ≤ sz) (hlt : h0 < sz) : Met l yX2_init [Cond.code yX2_init cX2_init 1 none] ({ frames := 1, cells := 1, slots := 4, locals := 20 } : Room) (va_Pc [.ref h0] (fun U => (U.heap.size = sz ∧ va_at (DG E) vwCl (h0, .inr (2, [.int 0, .int 0, .int 0, .int 0, .int 0, .int 0, .int 0, .null])) U.heap) ∧ KS E z0 U)) (va_Qv (fun (_ : Unit) => True) (fun _ t => t.heap.size = sz + 1 ∧ va_at (DG E) vwCl (h0, .inr (2, [.int 0, .int 0, .int 0, .int 0, .int 0, .int 0, .int 0, .ref (sz + 0)])) t.heap ∧ va_at (DG E) vwCl ((sz + 0), .inl (E.2.2 0, 4, .inl (fun _ => 0))) t.heap) (AC h0 sz)) 1 4 (AC h0 sz) := by
  refine Met.ofW (cc := cX2_init) (maxL := 1) (ret := none) (by decide) rfl ?_
  intro p e s m args below meth c s₁ B hml hv
  obtain ⟨rfl, ⟨hsz, hr0⟩, hK⟩ := hv
  have hx := B.exec
  have hb := B.bytes
  have hr := B.returns
  have hts : ∀ w ∈ TS, w.before ([.ref h0] : List Value).toArray s = true := fun w hw => hK.2.1 w hw _
  have hown : s.vm.findClass RX2 = some m.cls := findClass_of_methodNamed B.named
  have hlocks := B.notSynchronized
  have hin : meth.name = "<init>" := (name_of_methodNamed B.named B.method).1
  have hS : va_S (AC h0 sz) s.heap s.heap [] := va_S.rf
  have hAz : ∀ q, AC h0 sz q → z0 ≤ q := fun q h => h.elim (fun e => by omega) (fun e => by omega)
  obtain ⟨H, eH⟩ : ∃ H, H = s.heap := ⟨_, rfl⟩
  rw [← eH] at hr0 hsz
  have hS : va_S (AC h0 sz) s.heap H [] := by rw [eH]; exact hS
  rw [← eH]
  have hsz : H.size = sz + 0 := hsz
  have hl := lv_entry ([.ref h0]) (n := 1) (Nat.le_of_ble_eq_true rfl)
  rw [lg_entry_eq]
  generalize (lg_sl ([.ref h0]) ++ List.replicate (1 - (lg_sl ([.ref h0])).length) Slot.unset).toArray = ls at hl ⊢
  have hl : lv_has ls 1 [(0, .ref h0)] := hl
  refine lv_aload_n hx hb dX2_init_0 rfl (lv_at hl 0 rfl) ?_
  refine W.objInit hx hb hown (hts _ ml_X2_3) (hts _ im_Object__init_) (hts _ co_Object__init_) rfl (by rw [hml]; exact hl.1) rfl dX2_init_1 (Nat.le_of_ble_eq_true rfl) (Nat.le_of_ble_eq_true rfl) ?_
  refine W.eq (g2 := F0 m 4 ls []) rfl ?_
  refine lv_aload_n hx hb dX2_init_4 rfl (lv_at hl 0 rfl) ?_
  refine lv_iconst (v := 4) hx hb dX2_init_5 (by decide) ?_
  refine rr_newa (D := DG E) (atype := .int) (N' := 4) (a0 := (4, .inl (fun _ => 0))) hx hb (hts _ ac_int) hK.1 0 rfl hS rfl (by decide) (by decide) (by decide) (Nat.le_of_ble_eq_true rfl) (Nat.le_of_ble_eq_true rfl) dX2_init_6 (fun q_1 H hq hat hz ho hS => ?_)
  obtain rfl : sz + 0 = q_1 := (hq.trans hsz).symm
  have hr0 := hr0.kept (ho _ hr0.lt)
  have hsz : H.size = sz + 1 := by rw [hz, hsz]
  have hr_2 := hat
  refine rr_putF (D := DG E) (ci := 2) (v := .ref (sz + 0)) (ty := .array .int) (C := RX2) (T := TX2) (N := 8) hx hb hts iw_X2 tyX2 tyX2_ok nmX2 hown hK.1 hr0 hS (Or.inl rfl) rfl 7 (by decide) (hts _ fl_X2_9) (fun _ h9 => h9) rfl hin rfl (by decide +kernel) rfl rfl (Nat.le_of_ble_eq_true rfl) dX2_init_8 (fun H locs hn ho hz hS => ?_)
  have hr_3 : va_at (DG E) vwCl (h0, .inr (2, [.int 0, .int 0, .int 0, .int 0, .int 0, .int 0, .int 0, .ref (sz + 0)])) H := hn
  have hr_2 := hr_2.kept (ho _ (ne_h' hlt))
  have hsz : H.size = sz + 1 := hz.trans hsz
  refine W.widen (k := 1) (n := 4) (Nat.le_of_ble_eq_true rfl) (Nat.le_of_ble_eq_true rfl) ?_
  exact W.vret hx hb hr (fun t ht hW => ⟨⟨(), rfl, trivial, (by rw [ht]; exact hsz), (by show va_at (DG E) vwCl (h0, .inr (2, [.int 0, .int 0, .int 0, .int 0, .int 0, .int 0, .int 0, .ref (sz + 0)])) t.heap; rw [ht]; exact hr_3), (by show va_at (DG E) vwCl ((sz + 0), .inl (E.2.2 0, 4, .inl (fun _ => 0))) t.heap; rw [ht]; exact hr_2)⟩, hS.F ht⟩) hS.2.2 dX2_init_11
set_option maxHeartbeats 16000000 in
set_option maxRecDepth 100000 in
theorem e_X5_init (l : Launch) (E : EE) (z0 h0 sz : Nat) (p0 : Int32) (a0 : Nat) (hz0 : z0 ≤ h0) (hz1 : z0 ≤ sz) (hlt : h0 < sz) : Met l yX5_init [Cond.code yX5_init cX5_init 4 none] ({ frames := 2, cells := 5, slots := 44, locals := 40 } : Room) (va_Pc [.ref h0, .int p0, .ref a0] (fun U => (U.heap.size = sz ∧ va_at (DG E) vwCl (h0, .inr (5, [.int 0, .null, .null, .int 0, .int 0, .int 0])) U.heap) ∧ KS E z0 U)) (va_Qv (fun (_ : Unit) => True) (fun _ t => t.heap.size = sz + 5 ∧ va_at (DG E) vwCl (h0, .inr (5, [.int p0, .ref a0, .ref (sz + 0), .int 0, .int 0, .int 0])) t.heap ∧ va_at (DG E) vwCl ((sz + 0), .inl (E.2.2 6, 4, .inr (.inr (.inr (.inr (fun i => some ((sz + 1) + i))))))) t.heap ∧ va_at (DG E) vwCl ((sz + 1), .inr (4, [.int 0, .int 0, .int 0, .int 0, .int 0, .int 0, .int 0, .int 0, .int 0, .int 0])) t.heap ∧ va_at (DG E) vwCl ((sz + 2), .inr (4, [.int 0, .int 0, .int 0, .int 0, .int 0, .int 0, .int 0, .int 0, .int 0, .int 0])) t.heap ∧ va_at (DG E) vwCl ((sz + 3), .inr (4, [.int 0, .int 0, .int 0, .int 0, .int 0, .int 0, .int 0, .int 0, .int 0, .int 0])) t.heap ∧ va_at (DG E) vwCl ((sz + 4), .inr (4, [.int 0, .int 0, .int 0, .int 0, .int 0, .int 0, .int 0, .int 0, .int 0, .int 0])) t.heap) (AC h0 sz)) 5 44 (AC h0 sz) := by
  refine Met.ofW (cc := cX5_init) (maxL := 4) (ret := none) (by decide) rfl ?_
  intro p e s m args below meth c s₁ B hml hv
  obtain ⟨rfl, ⟨hsz, hr0⟩, hK⟩ := hv
  have hx := B.exec
  have hb := B.bytes
  have hr := B.returns
  have hts : ∀ w ∈ TS, w.before ([.ref h0, .int p0, .ref a0] : List Value).toArray s = true := fun w hw => hK.2.1 w hw _
  have hown : s.vm.findClass RX5 = some m.cls := findClass_of_methodNamed B.named
  have hlocks := B.notSynchronized
  have hin : meth.name = "<init>" := (name_of_methodNamed B.named B.method).1
  have hS : va_S (AC h0 sz) s.heap s.heap [] := va_S.rf
  have hAz : ∀ q, AC h0 sz q → z0 ≤ q := fun q h => h.elim (fun e => by omega) (fun e => by omega)
  obtain ⟨H, eH⟩ : ∃ H, H = s.heap := ⟨_, rfl⟩
  rw [← eH] at hr0 hsz
  have hS : va_S (AC h0 sz) s.heap H [] := by rw [eH]; exact hS
  rw [← eH]
  have hsz : H.size = sz + 0 := hsz
  have hl := lv_entry ([.ref h0, .int p0, .ref a0]) (n := 4) (Nat.le_of_ble_eq_true rfl)
  rw [lg_entry_eq]
  generalize (lg_sl ([.ref h0, .int p0, .ref a0]) ++ List.replicate (4 - (lg_sl ([.ref h0, .int p0, .ref a0])).length) Slot.unset).toArray = ls at hl ⊢
  have hl : lv_has ls 4 [(0, .ref h0), (1, .int p0), (2, .ref a0)] := hl
  refine lv_aload_n hx hb dX5_init_0 rfl (lv_at hl 0 rfl) ?_
  refine W.objInit hx hb hown (hts _ ml_X5_3) (hts _ im_Object__init_) (hts _ co_Object__init_) rfl (by rw [hml]; exact hl.1) rfl dX5_init_1 (Nat.le_of_ble_eq_true rfl) (Nat.le_of_ble_eq_true rfl) ?_
  refine W.eq (g2 := F0 m 4 ls []) rfl ?_
  refine lv_aload_n hx hb dX5_init_4 rfl (lv_at hl 0 rfl) ?_
  refine lv_iconst (v := 4) hx hb dX5_init_5 (by decide) ?_
  refine rr_newq (D := DG E) (N' := 4) hx hb hown (hts _ cl_X5_9) (hts _ ao_X4) hK.1 6 rfl hS (by decide) (by decide) (by decide) (Nat.le_of_ble_eq_true rfl) (Nat.le_of_ble_eq_true rfl) dX5_init_6 (fun q_1 H hq hat hz ho hS => ?_)
  obtain rfl : sz + 0 = q_1 := (hq.trans hsz).symm
  have hr0 := hr0.kept (ho _ hr0.lt)
  have hsz : H.size = sz + 1 := by rw [hz, hsz]
  have hr_2 := hat
  refine rr_putF (D := DG E) (ci := 5) (v := .ref (sz + 0)) (ty := .array (.object "RemoteReach$Posted")) (C := RX5) (T := TX5) (N := 6) hx hb hts iw_X5 tyX5 tyX5_ok nmX5 hown hK.1 hr0 hS (Or.inl rfl) rfl 2 (by decide) (hts _ fl_X5_11) (fun _ h9 => h9) rfl hin rfl (by decide +kernel) rfl rfl (Nat.le_of_ble_eq_true rfl) dX5_init_9 (fun H locs hn ho hz hS => ?_)
  have hr_3 : va_at (DG E) vwCl (h0, .inr (5, [.int 0, .null, .ref (sz + 0), .int 0, .int 0, .int 0])) H := hn
  have hr_2 := hr_2.kept (ho _ (ne_h' hlt))
  have hsz : H.size = sz + 1 := hz.trans hsz
  refine lv_aload_n hx hb dX5_init_12 rfl (lv_at hl 0 rfl) ?_
  refine lv_iload_n hx hb dX5_init_13 rfl (lv_at hl 1 rfl) ?_
  refine rr_putF (D := DG E) (ci := 5) (v := .int p0) (ty := .int) (C := RX5) (T := TX5) (N := 6) hx hb hts iw_X5 tyX5 tyX5_ok nmX5 hown hK.1 hr_3 hS (Or.inl rfl) rfl 0 (by decide) (hts _ fl_X5_17) (fun _ h9 => h9) rfl hin rfl (by decide +kernel) rfl rfl (Nat.le_of_ble_eq_true rfl) dX5_init_14 (fun H locs hn ho hz hS => ?_)
  have hr_4 : va_at (DG E) vwCl (h0, .inr (5, [.int p0, .null, .ref (sz + 0), .int 0, .int 0, .int 0])) H := hn
  have hr_2 := hr_2.kept (ho _ (ne_h' hlt))
  have hsz : H.size = sz + 1 := hz.trans hsz
  refine lv_aload_n hx hb dX5_init_17 rfl (lv_at hl 0 rfl) ?_
  refine lv_aload_n hx hb dX5_init_18 rfl (lv_at hl 2 rfl) ?_
  refine rr_putF (D := DG E) (ci := 5) (v := .ref a0) (ty := .object "RemoteReach$Node") (C := RX5) (T := TX5) (N := 6) hx hb hts iw_X5 tyX5 tyX5_ok nmX5 hown hK.1 hr_4 hS (Or.inl rfl) rfl 1 (by decide) (hts _ fl_X5_21) (fun _ h9 => h9) rfl hin rfl (by decide +kernel) rfl rfl (Nat.le_of_ble_eq_true rfl) dX5_init_19 (fun H locs hn ho hz hS => ?_)
  have hr_5 : va_at (DG E) vwCl (h0, .inr (5, [.int p0, .ref a0, .ref (sz + 0), .int 0, .int 0, .int 0])) H := hn
  have hr_2 := hr_2.kept (ho _ (ne_h' hlt))
  have hsz : H.size = sz + 1 := hz.trans hsz
  refine lv_iconst (v := 0) hx hb dX5_init_22 (by decide) ?_
  refine lv_istore_n (lv' := [(3, .int 0), (0, .ref h0), (1, .int p0), (2, .ref a0)]) hx hb dX5_init_23 rfl hl (by decide) rfl (fun ls hl => ?_)
  refine lv_iload_n hx hb dX5_init_24 rfl (lv_at hl 0 rfl) ?_
  refine lv_iconst (v := 4) hx hb dX5_init_25 (by decide) ?_
  refine lv_icmp_ge (tgt := 48) hx hb dX5_init_26 (by decide) (fun c_6 => absurd c_6 (by decide)) (fun c_6 => ?_)
  refine lv_aload_n hx hb dX5_init_29 rfl (lv_at hl 1 rfl) ?_
  refine va_get (D := DG E) (ci := 5) (v := .ref (sz + 0)) (C := RX5) (T := TX5) (N := 6) hx hb hts iw_X5 hown hK.1 (va_one hr_5) 0 rfl rfl 2 (by decide) (hts _ fl_X5_11) (fun _ h9 => h9) rfl dX5_init_30 ?_
  refine lv_iload_n hx hb dX5_init_33 rfl (lv_at hl 0 rfl) ?_
  refine rr_new (ci := 4) (fs := [.int 0, .int 0, .int 0, .int 0, .int 0, .int 0, .int 0, .int 0, .int 0, .int 0]) (C := RX4) (T := TX4) (N := 10) hx hb hts iw_X4 tyX4 tyX4_ok hown (hts _ cl_X5_9) (hts _ ia_X4) (hts _ in_X4) hK.1 hS rfl (fun j hj => by rcases (show j = 0 ∨ j = 1 ∨ j = 2 ∨ j = 3 ∨ j = 4 ∨ j = 5 ∨ j = 6 ∨ j = 7 ∨ j = 8 ∨ j = 9 by omega) with rfl | rfl | rfl | rfl | rfl | rfl | rfl | rfl | rfl | rfl <;> rfl) (Nat.le_of_ble_eq_true rfl) (Nat.le_of_ble_eq_true rfl) dX5_init_34 (fun q_7 H hq hat hz ho hS => ?_)
  obtain rfl : sz + 1 = q_7 := (hq.trans hsz).symm
  have hr_5 := hr_5.kept (ho _ hr_5.lt)
  have hr_2 := hr_2.kept (ho _ hr_2.lt)
  have hsz : H.size = sz + 2 := by rw [hz, hsz]
  have hr_8 := hat
  refine lv_dup hx hb dX5_init_37 rfl ?_
  refine va_callv (rnIN (fun H => H.size = sz + 2 ∧ va_at (DG E) vwCl ((sz + 1), .inr (4, [.int 0, .int 0, .int 0, .int 0, .int 0, .int 0, .int 0, .int 0, .int 0, .int 0])) H) (As := []) (rest := [.ref (sz + 1), .int 0, .ref (sz + 0)]) ⟨hx, hb, hml, hown, hts⟩ (e_X4_init l E z0 (sz + 1) (sz + 2)  (Nat.le_trans hz1 (Nat.le_add_right sz 1)) (Nat.le_trans hz1 (Nat.le_add_right sz 2)) (Nat.add_lt_add_left (by decide) sz)) ⟨va_cnB (host := RX9) 0 hts (gd1 co_X4_init rfl) rfl rfl rfl (hK.2.1 _ mn_X5_25 #[]) (hts _ in_X4) (by decide +kernel) ⟨Nat.le_of_ble_eq_true rfl, Nat.le_of_ble_eq_true rfl⟩, rfl, hts _ im_X4_init⟩ ⟨hsz, hr_8⟩ (fun U hU hW => hK.go hW hS hAz hU) rfl rfl hl.1 rfl (lv_room (Nat.le_of_ble_eq_true rfl)) dX5_init_38 ⟨Nat.le_of_ble_eq_true rfl, Nat.le_of_ble_eq_true rfl⟩) hS (fun q _ => fun h => h.elim (fun e => by rw [e]; exact (Or.inr (Nat.le_add_right sz 1))) (fun h => Or.inr (Nat.le_trans (Nat.le_add_right sz 2) h))) (fun q => fun h => h.elim (fun e => by rw [e]; exact (Or.inr (Nat.le_add_right sz 1))) (fun h => Or.inr (Nat.le_trans (Nat.le_add_right sz 2) h))) (fun _ t H locs ht hvm hw hB hz hk hS => ?_)
  rw [ht] at hB
  have hr_5 := hr_5.kept (hk _ hr_5.lt (fun h => h.elim (ne_h hlt) (fun h => absurd h (Nat.not_le.mpr (Nat.lt_of_lt_of_le hlt (Nat.le_add_right sz 2))))))
  have hr_2 := hr_2.kept (hk _ hr_2.lt (fun h => h.elim (ne_o (by decide)) (fun h => absurd h (Nat.not_le.mpr (Nat.add_lt_add_left (by decide) sz)))))
  have hsz : H.size = sz + 2 := hB.1
  have hy_9_0 : va_at (DG E) vwCl ((sz + 1), .inr (4, [.int 0, .int 0, .int 0, .int 0, .int 0, .int 0, .int 0, .int 0, .int 0, .int 0])) H := hB.2
  refine rr_aast (D := DG E) hx hb hK.1 6 4 hr_2 hS (Or.inr (Nat.le_add_right sz 0)) rfl hy_9_0 rfl (show vp_in (0) 4 from vp_in_iff.mpr ⟨by decide, by decide⟩) dX5_init_41 (fun H locs hn ho hz hS => ?_)
  have hr_10 : va_at (DG E) vwCl ((sz + 0), .inl (E.2.2 6, 4, .inr (.inr (.inr (.inr (va_up (fun _ => none) 0 (some (sz + 1)))))))) H := hn
  have hr_5 := hr_5.kept (ho _ (ne_h hlt))
  have hy_9_0 := hy_9_0.kept (ho _ (ne_o (by decide)))
  have hsz : H.size = sz + 2 := hz.trans hsz
  refine lv_iinc (v := 1) (lv' := [(3, .int 1), (0, .ref h0), (1, .int p0), (2, .ref a0)]) hx hb dX5_init_42 hl (k := 0) rfl (by decide) (by decide) rfl (fun ls hl => ?_)
  refine lv_goto (tgt := 24) hx hb dX5_init_45 (by decide) ?_
  refine lv_iload_n hx hb dX5_init_24 rfl (lv_at hl 0 rfl) ?_
  refine lv_iconst (v := 4) hx hb dX5_init_25 (by decide) ?_
  refine lv_icmp_ge (tgt := 48) hx hb dX5_init_26 (by decide) (fun c_11 => absurd c_11 (by decide)) (fun c_11 => ?_)
  refine lv_aload_n hx hb dX5_init_29 rfl (lv_at hl 1 rfl) ?_
  refine va_get (D := DG E) (ci := 5) (v := .ref (sz + 0)) (C := RX5) (T := TX5) (N := 6) hx hb hts iw_X5 hown hK.1 (va_one hr_5) 0 rfl rfl 2 (by decide) (hts _ fl_X5_11) (fun _ h9 => h9) rfl dX5_init_30 ?_
  refine lv_iload_n hx hb dX5_init_33 rfl (lv_at hl 0 rfl) ?_
  refine rr_new (ci := 4) (fs := [.int 0, .int 0, .int 0, .int 0, .int 0, .int 0, .int 0, .int 0, .int 0, .int 0]) (C := RX4) (T := TX4) (N := 10) hx hb hts iw_X4 tyX4 tyX4_ok hown (hts _ cl_X5_9) (hts _ ia_X4) (hts _ in_X4) hK.1 hS rfl (fun j hj => by rcases (show j = 0 ∨ j = 1 ∨ j = 2 ∨ j = 3 ∨ j = 4 ∨ j = 5 ∨ j = 6 ∨ j = 7 ∨ j = 8 ∨ j = 9 by omega) with rfl | rfl | rfl | rfl | rfl | rfl | rfl | rfl | rfl | rfl <;> rfl) (Nat.le_of_ble_eq_true rfl) (Nat.le_of_ble_eq_true rfl) dX5_init_34 (fun q_12 H hq hat hz ho hS => ?_)
  obtain rfl : sz + 2 = q_12 := (hq.trans hsz).symm
  have hr_5 := hr_5.kept (ho _ hr_5.lt)
  have hr_10 := hr_10.kept (ho _ hr_10.lt)
  have hy_9_0 := hy_9_0.kept (ho _ hy_9_0.lt)
  have hsz : H.size = sz + 3 := by rw [hz, hsz]
  have hr_13 := hat
  refine lv_dup hx hb dX5_init_37 rfl ?_
  refine va_callv (rnIN (fun H => H.size = sz + 3 ∧ va_at (DG E) vwCl ((sz + 2), .inr (4, [.int 0, .int 0, .int 0, .int 0, .int 0, .int 0, .int 0, .int 0, .int 0, .int 0])) H) (As := []) (rest := [.ref (sz + 2), .int 1, .ref (sz + 0)]) ⟨hx, hb, hml, hown, hts⟩ (e_X4_init l E z0 (sz + 2) (sz + 3)  (Nat.le_trans hz1 (Nat.le_add_right sz 2)) (Nat.le_trans hz1 (Nat.le_add_right sz 3)) (Nat.add_lt_add_left (by decide) sz)) ⟨va_cnB (host := RX9) 0 hts (gd1 co_X4_init rfl) rfl rfl rfl (hK.2.1 _ mn_X5_25 #[]) (hts _ in_X4) (by decide +kernel) ⟨Nat.le_of_ble_eq_true rfl, Nat.le_of_ble_eq_true rfl⟩, rfl, hts _ im_X4_init⟩ ⟨hsz, hr_13⟩ (fun U hU hW => hK.go hW hS hAz hU) rfl rfl hl.1 rfl (lv_room (Nat.le_of_ble_eq_true rfl)) dX5_init_38 ⟨Nat.le_of_ble_eq_true rfl, Nat.le_of_ble_eq_true rfl⟩) hS (fun q _ => fun h => h.elim (fun e => by rw [e]; exact (Or.inr (Nat.le_add_right sz 2))) (fun h => Or.inr (Nat.le_trans (Nat.le_add_right sz 3) h))) (fun q => fun h => h.elim (fun e => by rw [e]; exact (Or.inr (Nat.le_add_right sz 2))) (fun h => Or.inr (Nat.le_trans (Nat.le_add_right sz 3) h))) (fun _ t H locs ht hvm hw hB hz hk hS => ?_)
  rw [ht] at hB
  have hr_5 := hr_5.kept (hk _ hr_5.lt (fun h => h.elim (ne_h hlt) (fun h => absurd h (Nat.not_le.mpr (Nat.lt_of_lt_of_le hlt (Nat.le_add_right sz 3))))))
  have hr_10 := hr_10.kept (hk _ hr_10.lt (fun h => h.elim (ne_o (by decide)) (fun h => absurd h (Nat.not_le.mpr (Nat.add_lt_add_left (by decide) sz)))))
  have hy_9_0 := hy_9_0.kept (hk _ hy_9_0.lt (fun h => h.elim (ne_o (by decide)) (fun h => absurd h (Nat.not_le.mpr (Nat.add_lt_add_left (by decide) sz)))))
  have hsz : H.size = sz + 3 := hB.1
  have hy_14_0 : va_at (DG E) vwCl ((sz + 2), .inr (4, [.int 0, .int 0, .int 0, .int 0, .int 0, .int 0, .int 0, .int 0, .int 0, .int 0])) H := hB.2
  refine rr_aast (D := DG E) hx hb hK.1 6 4 hr_10 hS (Or.inr (Nat.le_add_right sz 0)) rfl hy_14_0 rfl (show vp_in (1) 4 from vp_in_iff.mpr ⟨by decide, by decide⟩) dX5_init_41 (fun H locs hn ho hz hS => ?_)
  have hr_15 : va_at (DG E) vwCl ((sz + 0), .inl (E.2.2 6, 4, .inr (.inr (.inr (.inr (va_up (va_up (fun _ => none) 0 (some (sz + 1))) 1 (some (sz + 2)))))))) H := hn
  have hr_5 := hr_5.kept (ho _ (ne_h hlt))
  have hy_9_0 := hy_9_0.kept (ho _ (ne_o (by decide)))
  have hy_14_0 := hy_14_0.kept (ho _ (ne_o (by decide)))
  have hsz : H.size = sz + 3 := hz.trans hsz
  refine lv_iinc (v := 2) (lv' := [(3, .int 2), (0, .ref h0), (1, .int p0), (2, .ref a0)]) hx hb dX5_init_42 hl (k := 0) rfl (by decide) (by decide) rfl (fun ls hl => ?_)
  refine lv_goto (tgt := 24) hx hb dX5_init_45 (by decide) ?_
  refine lv_iload_n hx hb dX5_init_24 rfl (lv_at hl 0 rfl) ?_
  refine lv_iconst (v := 4) hx hb dX5_init_25 (by decide) ?_
  refine lv_icmp_ge (tgt := 48) hx hb dX5_init_26 (by decide) (fun c_16 => absurd c_16 (by decide)) (fun c_16 => ?_)
  refine lv_aload_n hx hb dX5_init_29 rfl (lv_at hl 1 rfl) ?_
  refine va_get (D := DG E) (ci := 5) (v := .ref (sz + 0)) (C := RX5) (T := TX5) (N := 6) hx hb hts iw_X5 hown hK.1 (va_one hr_5) 0 rfl rfl 2 (by decide) (hts _ fl_X5_11) (fun _ h9 => h9) rfl dX5_init_30 ?_
  refine lv_iload_n hx hb dX5_init_33 rfl (lv_at hl 0 rfl) ?_
  refine rr_new (ci := 4) (fs := [.int 0, .int 0, .int 0, .int 0, .int 0, .int 0, .int 0, .int 0, .int 0, .int 0]) (C := RX4) (T := TX4) (N := 10) hx hb hts iw_X4 tyX4 tyX4_ok hown (hts _ cl_X5_9) (hts _ ia_X4) (hts _ in_X4) hK.1 hS rfl (fun j hj => by rcases (show j = 0 ∨ j = 1 ∨ j = 2 ∨ j = 3 ∨ j = 4 ∨ j = 5 ∨ j = 6 ∨ j = 7 ∨ j = 8 ∨ j = 9 by omega) with rfl | rfl | rfl | rfl | rfl | rfl | rfl | rfl | rfl | rfl <;> rfl) (Nat.le_of_ble_eq_true rfl) (Nat.le_of_ble_eq_true rfl) dX5_init_34 (fun q_17 H hq hat hz ho hS => ?_)
  obtain rfl : sz + 3 = q_17 := (hq.trans hsz).symm
  have hr_5 := hr_5.kept (ho _ hr_5.lt)
  have hr_15 := hr_15.kept (ho _ hr_15.lt)
  have hy_9_0 := hy_9_0.kept (ho _ hy_9_0.lt)
  have hy_14_0 := hy_14_0.kept (ho _ hy_14_0.lt)
  have hsz : H.size = sz + 4 := by rw [hz, hsz]
  have hr_18 := hat
  refine lv_dup hx hb dX5_init_37 rfl ?_
  refine va_callv (rnIN (fun H => H.size = sz + 4 ∧ va_at (DG E) vwCl ((sz + 3), .inr (4, [.int 0, .int 0, .int 0, .int 0, .int 0, .int 0, .int 0, .int 0, .int 0, .int 0])) H) (As := []) (rest := [.ref (sz + 3), .int 2, .ref (sz + 0)]) ⟨hx, hb, hml, hown, hts⟩ (e_X4_init l E z0 (sz + 3) (sz + 4)  (Nat.le_trans hz1 (Nat.le_add_right sz 3)) (Nat.le_trans hz1 (Nat.le_add_right sz 4)) (Nat.add_lt_add_left (by decide) sz)) ⟨va_cnB (host := RX9) 0 hts (gd1 co_X4_init rfl) rfl rfl rfl (hK.2.1 _ mn_X5_25 #[]) (hts _ in_X4) (by decide +kernel) ⟨Nat.le_of_ble_eq_true rfl, Nat.le_of_ble_eq_true rfl⟩, rfl, hts _ im_X4_init⟩ ⟨hsz, hr_18⟩ (fun U hU hW => hK.go hW hS hAz hU) rfl rfl hl.1 rfl (lv_room (Nat.le_of_ble_eq_true rfl)) dX5_init_38 ⟨Nat.le_of_ble_eq_true rfl, Nat.le_of_ble_eq_true rfl⟩) hS (fun q _ => fun h => h.elim (fun e => by rw [e]; exact (Or.inr (Nat.le_add_right sz 3))) (fun h => Or.inr (Nat.le_trans (Nat.le_add_right sz 4) h))) (fun q => fun h => h.elim (fun e => by rw [e]; exact (Or.inr (Nat.le_add_right sz 3))) (fun h => Or.inr (Nat.le_trans (Nat.le_add_right sz 4) h))) (fun _ t H locs ht hvm hw hB hz hk hS => ?_)
  rw [ht] at hB
  have hr_5 := hr_5.kept (hk _ hr_5.lt (fun h => h.elim (ne_h hlt) (fun h => absurd h (Nat.not_le.mpr (Nat.lt_of_lt_of_le hlt (Nat.le_add_right sz 4))))))
  have hr_15 := hr_15.kept (hk _ hr_15.lt (fun h => h.elim (ne_o (by decide)) (fun h => absurd h (Nat.not_le.mpr (Nat.add_lt_add_left (by decide) sz)))))
  have hy_9_0 := hy_9_0.kept (hk _ hy_9_0.lt (fun h => h.elim (ne_o (by decide)) (fun h => absurd h (Nat.not_le.mpr (Nat.add_lt_add_left (by decide) sz)))))
  have hy_14_0 := hy_14_0.kept (hk _ hy_14_0.lt (fun h => h.elim (ne_o (by decide)) (fun h => absurd h (Nat.not_le.mpr (Nat.add_lt_add_left (by decide) sz)))))
  have hsz : H.size = sz + 4 := hB.1
  have hy_19_0 : va_at (DG E) vwCl ((sz + 3), .inr (4, [.int 0, .int 0, .int 0, .int 0, .int 0, .int 0, .int 0, .int 0, .int 0, .int 0])) H := hB.2
  refine rr_aast (D := DG E) hx hb hK.1 6 4 hr_15 hS (Or.inr (Nat.le_add_right sz 0)) rfl hy_19_0 rfl (show vp_in (2) 4 from vp_in_iff.mpr ⟨by decide, by decide⟩) dX5_init_41 (fun H locs hn ho hz hS => ?_)
  have hr_20 : va_at (DG E) vwCl ((sz + 0), .inl (E.2.2 6, 4, .inr (.inr (.inr (.inr (va_up (va_up (va_up (fun _ => none) 0 (some (sz + 1))) 1 (some (sz + 2))) 2 (some (sz + 3)))))))) H := hn
  have hr_5 := hr_5.kept (ho _ (ne_h hlt))
  have hy_9_0 := hy_9_0.kept (ho _ (ne_o (by decide)))
  have hy_14_0 := hy_14_0.kept (ho _ (ne_o (by decide)))
  have hy_19_0 := hy_19_0.kept (ho _ (ne_o (by decide)))
  have hsz : H.size = sz + 4 := hz.trans hsz
  refine lv_iinc (v := 3) (lv' := [(3, .int 3), (0, .ref h0), (1, .int p0), (2, .ref a0)]) hx hb dX5_init_42 hl (k := 0) rfl (by decide) (by decide) rfl (fun ls hl => ?_)
  refine lv_goto (tgt := 24) hx hb dX5_init_45 (by decide) ?_
  refine lv_iload_n hx hb dX5_init_24 rfl (lv_at hl 0 rfl) ?_
  refine lv_iconst (v := 4) hx hb dX5_init_25 (by decide) ?_
  refine lv_icmp_ge (tgt := 48) hx hb dX5_init_26 (by decide) (fun c_21 => absurd c_21 (by decide)) (fun c_21 => ?_)
  refine lv_aload_n hx hb dX5_init_29 rfl (lv_at hl 1 rfl) ?_
  refine va_get (D := DG E) (ci := 5) (v := .ref (sz + 0)) (C := RX5) (T := TX5) (N := 6) hx hb hts iw_X5 hown hK.1 (va_one hr_5) 0 rfl rfl 2 (by decide) (hts _ fl_X5_11) (fun _ h9 => h9) rfl dX5_init_30 ?_
  refine lv_iload_n hx hb dX5_init_33 rfl (lv_at hl 0 rfl) ?_
  refine rr_new (ci := 4) (fs := [.int 0, .int 0, .int 0, .int 0, .int 0, .int 0, .int 0, .int 0, .int 0, .int 0]) (C := RX4) (T := TX4) (N := 10) hx hb hts iw_X4 tyX4 tyX4_ok hown (hts _ cl_X5_9) (hts _ ia_X4) (hts _ in_X4) hK.1 hS rfl (fun j hj => by rcases (show j = 0 ∨ j = 1 ∨ j = 2 ∨ j = 3 ∨ j = 4 ∨ j = 5 ∨ j = 6 ∨ j = 7 ∨ j = 8 ∨ j = 9 by omega) with rfl | rfl | rfl | rfl | rfl | rfl | rfl | rfl | rfl | rfl <;> rfl) (Nat.le_of_ble_eq_true rfl) (Nat.le_of_ble_eq_true rfl) dX5_init_34 (fun q_22 H hq hat hz ho hS => ?_)
  obtain rfl : sz + 4 = q_22 := (hq.trans hsz).symm
  have hr_5 := hr_5.kept (ho _ hr_5.lt)
  have hr_20 := hr_20.kept (ho _ hr_20.lt)
  have hy_9_0 := hy_9_0.kept (ho _ hy_9_0.lt)
  have hy_14_0 := hy_14_0.kept (ho _ hy_14_0.lt)
  have hy_19_0 := hy_19_0.kept (ho _ hy_19_0.lt)
  have hsz : H.size = sz + 5 := by rw [hz, hsz]
  have hr_23 := hat
  refine lv_dup hx hb dX5_init_37 rfl ?_
  refine va_callv (rnIN (fun H => H.size = sz + 5 ∧ va_at (DG E) vwCl ((sz + 4), .inr (4, [.int 0, .int 0, .int 0, .int 0, .int 0, .int 0, .int 0, .int 0, .int 0, .int 0])) H) (As := []) (rest := [.ref (sz + 4), .int 3, .ref (sz + 0)]) ⟨hx, hb, hml, hown, hts⟩ (e_X4_init l E z0 (sz + 4) (sz + 5)  (Nat.le_trans hz1 (Nat.le_add_right sz 4)) (Nat.le_trans hz1 (Nat.le_add_right sz 5)) (Nat.add_lt_add_left (by decide) sz)) ⟨va_cnB (host := RX9) 0 hts (gd1 co_X4_init rfl) rfl rfl rfl (hK.2.1 _ mn_X5_25 #[]) (hts _ in_X4) (by decide +kernel) ⟨Nat.le_of_ble_eq_true rfl, Nat.le_of_ble_eq_true rfl⟩, rfl, hts _ im_X4_init⟩ ⟨hsz, hr_23⟩ (fun U hU hW => hK.go hW hS hAz hU) rfl rfl hl.1 rfl (lv_room (Nat.le_of_ble_eq_true rfl)) dX5_init_38 ⟨Nat.le_of_ble_eq_true rfl, Nat.le_of_ble_eq_true rfl⟩) hS (fun q _ => fun h => h.elim (fun e => by rw [e]; exact (Or.inr (Nat.le_add_right sz 4))) (fun h => Or.inr (Nat.le_trans (Nat.le_add_right sz 5) h))) (fun q => fun h => h.elim (fun e => by rw [e]; exact (Or.inr (Nat.le_add_right sz 4))) (fun h => Or.inr (Nat.le_trans (Nat.le_add_right sz 5) h))) (fun _ t H locs ht hvm hw hB hz hk hS => ?_)
  rw [ht] at hB
  have hr_5 := hr_5.kept (hk _ hr_5.lt (fun h => h.elim (ne_h hlt) (fun h => absurd h (Nat.not_le.mpr (Nat.lt_of_lt_of_le hlt (Nat.le_add_right sz 5))))))
  have hr_20 := hr_20.kept (hk _ hr_20.lt (fun h => h.elim (ne_o (by decide)) (fun h => absurd h (Nat.not_le.mpr (Nat.add_lt_add_left (by decide) sz)))))
  have hy_9_0 := hy_9_0.kept (hk _ hy_9_0.lt (fun h => h.elim (ne_o (by decide)) (fun h => absurd h (Nat.not_le.mpr (Nat.add_lt_add_left (by decide) sz)))))
  have hy_14_0 := hy_14_0.kept (hk _ hy_14_0.lt (fun h => h.elim (ne_o (by decide)) (fun h => absurd h (Nat.not_le.mpr (Nat.add_lt_add_left (by decide) sz)))))
  have hy_19_0 := hy_19_0.kept (hk _ hy_19_0.lt (fun h => h.elim (ne_o (by decide)) (fun h => absurd h (Nat.not_le.mpr (Nat.add_lt_add_left (by decide) sz)))))
  have hsz : H.size = sz + 5 := hB.1
  have hy_24_0 : va_at (DG E) vwCl ((sz + 4), .inr (4, [.int 0, .int 0, .int 0, .int 0, .int 0, .int 0, .int 0, .int 0, .int 0, .int 0])) H := hB.2
  refine rr_aast (D := DG E) hx hb hK.1 6 4 hr_20 hS (Or.inr (Nat.le_add_right sz 0)) rfl hy_24_0 rfl (show vp_in (3) 4 from vp_in_iff.mpr ⟨by decide, by decide⟩) dX5_init_41 (fun H locs hn ho hz hS => ?_)
  have hr_25 : va_at (DG E) vwCl ((sz + 0), .inl (E.2.2 6, 4, .inr (.inr (.inr (.inr (va_up (va_up (va_up (va_up (fun _ => none) 0 (some (sz + 1))) 1 (some (sz + 2))) 2 (some (sz + 3))) 3 (some (sz + 4)))))))) H := hn
  have hr_5 := hr_5.kept (ho _ (ne_h hlt))
  have hy_9_0 := hy_9_0.kept (ho _ (ne_o (by decide)))
  have hy_14_0 := hy_14_0.kept (ho _ (ne_o (by decide)))
  have hy_19_0 := hy_19_0.kept (ho _ (ne_o (by decide)))
  have hy_24_0 := hy_24_0.kept (ho _ (ne_o (by decide)))
  have hsz : H.size = sz + 5 := hz.trans hsz
  refine lv_iinc (v := 4) (lv' := [(3, .int 4), (0, .ref h0), (1, .int p0), (2, .ref a0)]) hx hb dX5_init_42 hl (k := 0) rfl (by decide) (by decide) rfl (fun ls hl => ?_)
  refine lv_goto (tgt := 24) hx hb dX5_init_45 (by decide) ?_
  refine lv_iload_n hx hb dX5_init_24 rfl (lv_at hl 0 rfl) ?_
  refine lv_iconst (v := 4) hx hb dX5_init_25 (by decide) ?_
  refine lv_icmp_ge (tgt := 48) hx hb dX5_init_26 (by decide) (fun c_26 => ?_) (fun c_26 => absurd c_26 (by decide))
  refine W.widen (k := 5) (n := 44) (Nat.le_of_ble_eq_true rfl) (Nat.le_of_ble_eq_true rfl) ?_
  exact W.vret hx hb hr (fun t ht hW => ⟨⟨(), rfl, trivial, (by rw [ht]; exact hsz), (by show va_at (DG E) vwCl (h0, .inr (5, [.int p0, .ref a0, .ref (sz + 0), .int 0, .int 0, .int 0])) t.heap; rw [ht]; exact hr_5), (by show va_at (DG E) vwCl ((sz + 0), .inl (E.2.2 6, 4, .inr (.inr (.inr (.inr (fun i => some ((sz + 1) + i))))))) t.heap; rw [ht]; exact arr_cg hr_25 (fun i hi => by rcases (show i = 0 ∨ i = 1 ∨ i = 2 ∨ i = 3 by omega) with rfl | rfl | rfl | rfl <;> rfl)), (by show va_at (DG E) vwCl ((sz + 1), .inr (4, [.int 0, .int 0, .int 0, .int 0, .int 0, .int 0, .int 0, .int 0, .int 0, .int 0])) t.heap; rw [ht]; exact hy_9_0), (by show va_at (DG E) vwCl ((sz + 2), .inr (4, [.int 0, .int 0, .int 0, .int 0, .int 0, .int 0, .int 0, .int 0, .int 0, .int 0])) t.heap; rw [ht]; exact hy_14_0), (by show va_at (DG E) vwCl ((sz + 3), .inr (4, [.int 0, .int 0, .int 0, .int 0, .int 0, .int 0, .int 0, .int 0, .int 0, .int 0])) t.heap; rw [ht]; exact hy_19_0), (by show va_at (DG E) vwCl ((sz + 4), .inr (4, [.int 0, .int 0, .int 0, .int 0, .int 0, .int 0, .int 0, .int 0, .int 0, .int 0])) t.heap; rw [ht]; exact hy_24_0)⟩, hS.F ht⟩) hS.2.2 dX5_init_48
set_option maxHeartbeats 16000000 in
set_option maxRecDepth 100000 in
theorem e_X1_init (l : Launch) (E : EE) (z0 h0 sz : Nat)  (hz0 : z0 ≤ h0) (hz1 : z0 ≤ sz) (hlt : h0 < sz) : Met l yX1_init [Cond.code yX1_init cX1_init 2 none] ({ frames := 2, cells := 9, slots := 136, locals := 40 } : Room) (va_Pc [.ref h0] (fun U => (U.heap.size = sz ∧ va_at (DG E) vwCl (h0, .inr (1, [.null, .null, .null, .int 0, .int 0])) U.heap) ∧ KS E z0 U)) (va_Qv (fun (_ : Unit) => True) (fun _ t => t.heap.size = sz + 9 ∧ va_at (DG E) vwCl (h0, .inr (1, [.ref (sz + 0), .ref (sz + 1), .ref (sz + 2), .int 0, .int 0])) t.heap ∧ va_at (DG E) vwCl ((sz + 0), .inl (E.2.2 0, 32, .inl (fun _ => 0))) t.heap ∧ va_at (DG E) vwCl ((sz + 1), .inl (E.2.2 4, 6, .inr (.inr (.inr (.inr (fun i => some ((sz + 3) + i))))))) t.heap ∧ va_at (DG E) vwCl ((sz + 2), .inl (E.2.2 0, 80, .inl (fun _ => 0))) t.heap ∧ va_at (DG E) vwCl ((sz + 3), .inr (6, [.int 0, .int 0, .int 0])) t.heap ∧ va_at (DG E) vwCl ((sz + 4), .inr (6, [.int 0, .int 0, .int 0])) t.heap ∧ va_at (DG E) vwCl ((sz + 5), .inr (6, [.int 0, .int 0, .int 0])) t.heap ∧ va_at (DG E) vwCl ((sz + 6), .inr (6, [.int 0, .int 0, .int 0])) t.heap ∧ va_at (DG E) vwCl ((sz + 7), .inr (6, [.int 0, .int 0, .int 0])) t.heap ∧ va_at (DG E) vwCl ((sz + 8), .inr (6, [.int 0, .int 0, .int 0])) t.heap) (AC h0 sz)) 9 136 (AC h0 sz) := by
  refine Met.ofW (cc := cX1_init) (maxL := 2) (ret := none) (by decide) rfl ?_
  intro p e s m args below meth c s₁ B hml hv
  obtain ⟨rfl, ⟨hsz, hr0⟩, hK⟩ := hv
  have hx := B.exec
  have hb := B.bytes
  have hr := B.returns
  have hts : ∀ w ∈ TS, w.before ([.ref h0] : List Value).toArray s = true := fun w hw => hK.2.1 w hw _
  have hown : s.vm.findClass RX1 = some m.cls := findClass_of_methodNamed B.named
  have hlocks := B.notSynchronized
  have hin : meth.name = "<init>" := (name_of_methodNamed B.named B.method).1
  have hS : va_S (AC h0 sz) s.heap s.heap [] := va_S.rf
  have hAz : ∀ q, AC h0 sz q → z0 ≤ q := fun q h => h.elim (fun e => by omega) (fun e => by omega)
  obtain ⟨H, eH⟩ : ∃ H, H = s.heap := ⟨_, rfl⟩
  rw [← eH] at hr0 hsz
  have hS : va_S (AC h0 sz) s.heap H [] := by rw [eH]; exact hS
  rw [← eH]
  have hsz : H.size = sz + 0 := hsz
  have hl := lv_entry ([.ref h0]) (n := 2) (Nat.le_of_ble_eq_true rfl)
  rw [lg_entry_eq]
  generalize (lg_sl ([.ref h0]) ++ List.replicate (2 - (lg_sl ([.ref h0])).length) Slot.unset).toArray = ls at hl ⊢
  have hl : lv_has ls 2 [(0, .ref h0)] := hl
  refine lv_aload_n hx hb dX1_init_0 rfl (lv_at hl 0 rfl) ?_
  refine W.objInit hx hb hown (hts _ ml_X1_3) (hts _ im_Object__init_) (hts _ co_Object__init_) rfl (by rw [hml]; exact hl.1) rfl dX1_init_1 (Nat.le_of_ble_eq_true rfl) (Nat.le_of_ble_eq_true rfl) ?_
  refine W.eq (g2 := F0 m 4 ls []) rfl ?_
  refine lv_aload_n hx hb dX1_init_4 rfl (lv_at hl 0 rfl) ?_
  refine lv_bipush (v := 32) hx hb dX1_init_5 (by decide) ?_
  refine rr_newa (D := DG E) (atype := .int) (N' := 32) (a0 := (32, .inl (fun _ => 0))) hx hb (hts _ ac_int) hK.1 0 rfl hS rfl (by decide) (by decide) (by decide) (Nat.le_of_ble_eq_true rfl) (Nat.le_of_ble_eq_true rfl) dX1_init_7 (fun q_1 H hq hat hz ho hS => ?_)
  obtain rfl : sz + 0 = q_1 := (hq.trans hsz).symm
  have hr0 := hr0.kept (ho _ hr0.lt)
  have hsz : H.size = sz + 1 := by rw [hz, hsz]
  have hr_2 := hat
  refine rr_putF (D := DG E) (ci := 1) (v := .ref (sz + 0)) (ty := .array .int) (C := RX1) (T := TX1) (N := 5) hx hb hts iw_X1 tyX1 tyX1_ok nmX1 hown hK.1 hr0 hS (Or.inl rfl) rfl 0 (by decide) (hts _ fl_X1_9) (fun _ h9 => h9) rfl hin rfl (by decide +kernel) rfl rfl (Nat.le_of_ble_eq_true rfl) dX1_init_9 (fun H locs hn ho hz hS => ?_)
  have hr_3 : va_at (DG E) vwCl (h0, .inr (1, [.ref (sz + 0), .null, .null, .int 0, .int 0])) H := hn
  have hr_2 := hr_2.kept (ho _ (ne_h' hlt))
  have hsz : H.size = sz + 1 := hz.trans hsz
  refine lv_aload_n hx hb dX1_init_12 rfl (lv_at hl 0 rfl) ?_
  refine lv_bipush (v := 6) hx hb dX1_init_13 (by decide) ?_
  refine rr_newq (D := DG E) (N' := 6) hx hb hown (hts _ cl_X1_15) (hts _ ao_X6) hK.1 4 rfl hS (by decide) (by decide) (by decide) (Nat.le_of_ble_eq_true rfl) (Nat.le_of_ble_eq_true rfl) dX1_init_15 (fun q_4 H hq hat hz ho hS => ?_)
  obtain rfl : sz + 1 = q_4 := (hq.trans hsz).symm
  have hr_3 := hr_3.kept (ho _ hr_3.lt)
  have hr_2 := hr_2.kept (ho _ hr_2.lt)
  have hsz : H.size = sz + 2 := by rw [hz, hsz]
  have hr_5 := hat
  refine rr_putF (D := DG E) (ci := 1) (v := .ref (sz + 1)) (ty := .array (.object "RemoteReach$Region")) (C := RX1) (T := TX1) (N := 5) hx hb hts iw_X1 tyX1 tyX1_ok nmX1 hown hK.1 hr_3 hS (Or.inl rfl) rfl 1 (by decide) (hts _ fl_X1_17) (fun _ h9 => h9) rfl hin rfl (by decide +kernel) rfl rfl (Nat.le_of_ble_eq_true rfl) dX1_init_18 (fun H locs hn ho hz hS => ?_)
  have hr_6 : va_at (DG E) vwCl (h0, .inr (1, [.ref (sz + 0), .ref (sz + 1), .null, .int 0, .int 0])) H := hn
  have hr_2 := hr_2.kept (ho _ (ne_h' hlt))
  have hr_5 := hr_5.kept (ho _ (ne_h' hlt))
  have hsz : H.size = sz + 2 := hz.trans hsz
  refine lv_aload_n hx hb dX1_init_21 rfl (lv_at hl 0 rfl) ?_
  refine lv_bipush (v := 80) hx hb dX1_init_22 (by decide) ?_
  refine rr_newa (D := DG E) (atype := .int) (N' := 80) (a0 := (80, .inl (fun _ => 0))) hx hb (hts _ ac_int) hK.1 0 rfl hS rfl (by decide) (by decide) (by decide) (Nat.le_of_ble_eq_true rfl) (Nat.le_of_ble_eq_true rfl) dX1_init_24 (fun q_7 H hq hat hz ho hS => ?_)
  obtain rfl : sz + 2 = q_7 := (hq.trans hsz).symm
  have hr_6 := hr_6.kept (ho _ hr_6.lt)
  have hr_2 := hr_2.kept (ho _ hr_2.lt)
  have hr_5 := hr_5.kept (ho _ hr_5.lt)
  have hsz : H.size = sz + 3 := by rw [hz, hsz]
  have hr_8 := hat
  refine rr_putF (D := DG E) (ci := 1) (v := .ref (sz + 2)) (ty := .array .int) (C := RX1) (T := TX1) (N := 5) hx hb hts iw_X1 tyX1 tyX1_ok nmX1 hown hK.1 hr_6 hS (Or.inl rfl) rfl 2 (by decide) (hts _ fl_X1_21) (fun _ h9 => h9) rfl hin rfl (by decide +kernel) rfl rfl (Nat.le_of_ble_eq_true rfl) dX1_init_26 (fun H locs hn ho hz hS => ?_)
  have hr_9 : va_at (DG E) vwCl (h0, .inr (1, [.ref (sz + 0), .ref (sz + 1), .ref (sz + 2), .int 0, .int 0])) H := hn
  have hr_2 := hr_2.kept (ho _ (ne_h' hlt))
  have hr_5 := hr_5.kept (ho _ (ne_h' hlt))
  have hr_8 := hr_8.kept (ho _ (ne_h' hlt))
  have hsz : H.size = sz + 3 := hz.trans hsz
  refine lv_iconst (v := 0) hx hb dX1_init_29 (by decide) ?_
  refine lv_istore_n (lv' := [(1, .int 0), (0, .ref h0)]) hx hb dX1_init_30 rfl hl (by decide) rfl (fun ls hl => ?_)
  refine lv_iload_n hx hb dX1_init_31 rfl (lv_at hl 0 rfl) ?_
  refine lv_bipush (v := 6) hx hb dX1_init_32 (by decide) ?_
  refine lv_icmp_ge (tgt := 56) hx hb dX1_init_34 (by decide) (fun c_10 => absurd c_10 (by decide)) (fun c_10 => ?_)
  refine lv_aload_n hx hb dX1_init_37 rfl (lv_at hl 1 rfl) ?_
  refine va_get (D := DG E) (ci := 1) (v := .ref (sz + 1)) (C := RX1) (T := TX1) (N := 5) hx hb hts iw_X1 hown hK.1 (va_one hr_9) 0 rfl rfl 1 (by decide) (hts _ fl_X1_17) (fun _ h9 => h9) rfl dX1_init_38 ?_
  refine lv_iload_n hx hb dX1_init_41 rfl (lv_at hl 0 rfl) ?_
  refine rr_new (ci := 6) (fs := [.int 0, .int 0, .int 0]) (C := RX6) (T := TX6) (N := 3) hx hb hts iw_X6 tyX6 tyX6_ok hown (hts _ cl_X1_15) (hts _ ia_X6) (hts _ in_X6) hK.1 hS rfl (fun j hj => by rcases (show j = 0 ∨ j = 1 ∨ j = 2 by omega) with rfl | rfl | rfl <;> rfl) (Nat.le_of_ble_eq_true rfl) (Nat.le_of_ble_eq_true rfl) dX1_init_42 (fun q_11 H hq hat hz ho hS => ?_)
  obtain rfl : sz + 3 = q_11 := (hq.trans hsz).symm
  have hr_9 := hr_9.kept (ho _ hr_9.lt)
  have hr_2 := hr_2.kept (ho _ hr_2.lt)
  have hr_5 := hr_5.kept (ho _ hr_5.lt)
  have hr_8 := hr_8.kept (ho _ hr_8.lt)
  have hsz : H.size = sz + 4 := by rw [hz, hsz]
  have hr_12 := hat
  refine lv_dup hx hb dX1_init_45 rfl ?_
  refine va_callv (rnIN (fun H => H.size = sz + 4 ∧ va_at (DG E) vwCl ((sz + 3), .inr (6, [.int 0, .int 0, .int 0])) H) (As := []) (rest := [.ref (sz + 3), .int 0, .ref (sz + 1)]) ⟨hx, hb, hml, hown, hts⟩ (e_X6_init l E z0 (sz + 3) (sz + 4)  (Nat.le_trans hz1 (Nat.le_add_right sz 3)) (Nat.le_trans hz1 (Nat.le_add_right sz 4)) (Nat.add_lt_add_left (by decide) sz)) ⟨va_cnB (host := RX9) 0 hts (gd1 co_X6_init rfl) rfl rfl rfl (hK.2.1 _ mn_X1_24 #[]) (hts _ in_X6) (by decide +kernel) ⟨Nat.le_of_ble_eq_true rfl, Nat.le_of_ble_eq_true rfl⟩, rfl, hts _ im_X6_init⟩ ⟨hsz, hr_12⟩ (fun U hU hW => hK.go hW hS hAz hU) rfl rfl hl.1 rfl (lv_room (Nat.le_of_ble_eq_true rfl)) dX1_init_46 ⟨Nat.le_of_ble_eq_true rfl, Nat.le_of_ble_eq_true rfl⟩) hS (fun q _ => fun h => h.elim (fun e => by rw [e]; exact (Or.inr (Nat.le_add_right sz 3))) (fun h => Or.inr (Nat.le_trans (Nat.le_add_right sz 4) h))) (fun q => fun h => h.elim (fun e => by rw [e]; exact (Or.inr (Nat.le_add_right sz 3))) (fun h => Or.inr (Nat.le_trans (Nat.le_add_right sz 4) h))) (fun _ t H locs ht hvm hw hB hz hk hS => ?_)
  rw [ht] at hB
  have hr_9 := hr_9.kept (hk _ hr_9.lt (fun h => h.elim (ne_h hlt) (fun h => absurd h (Nat.not_le.mpr (Nat.lt_of_lt_of_le hlt (Nat.le_add_right sz 4))))))
  have hr_2 := hr_2.kept (hk _ hr_2.lt (fun h => h.elim (ne_o (by decide)) (fun h => absurd h (Nat.not_le.mpr (Nat.add_lt_add_left (by decide) sz)))))
  have hr_5 := hr_5.kept (hk _ hr_5.lt (fun h => h.elim (ne_o (by decide)) (fun h => absurd h (Nat.not_le.mpr (Nat.add_lt_add_left (by decide) sz)))))
  have hr_8 := hr_8.kept (hk _ hr_8.lt (fun h => h.elim (ne_o (by decide)) (fun h => absurd h (Nat.not_le.mpr (Nat.add_lt_add_left (by decide) sz)))))
  have hsz : H.size = sz + 4 := hB.1
  have hy_13_0 : va_at (DG E) vwCl ((sz + 3), .inr (6, [.int 0, .int 0, .int 0])) H := hB.2
  refine rr_aast (D := DG E) hx hb hK.1 4 6 hr_5 hS (Or.inr (Nat.le_add_right sz 1)) rfl hy_13_0 rfl (show vp_in (0) 6 from vp_in_iff.mpr ⟨by decide, by decide⟩) dX1_init_49 (fun H locs hn ho hz hS => ?_)
  have hr_14 : va_at (DG E) vwCl ((sz + 1), .inl (E.2.2 4, 6, .inr (.inr (.inr (.inr (va_up (fun _ => none) 0 (some (sz + 3)))))))) H := hn
  have hr_9 := hr_9.kept (ho _ (ne_h hlt))
  have hr_2 := hr_2.kept (ho _ (ne_o (by decide)))
  have hr_8 := hr_8.kept (ho _ (ne_o (by decide)))
  have hy_13_0 := hy_13_0.kept (ho _ (ne_o (by decide)))
  have hsz : H.size = sz + 4 := hz.trans hsz
  refine lv_iinc (v := 1) (lv' := [(1, .int 1), (0, .ref h0)]) hx hb dX1_init_50 hl (k := 0) rfl (by decide) (by decide) rfl (fun ls hl => ?_)
  refine lv_goto (tgt := 31) hx hb dX1_init_53 (by decide) ?_
  refine lv_iload_n hx hb dX1_init_31 rfl (lv_at hl 0 rfl) ?_
  refine lv_bipush (v := 6) hx hb dX1_init_32 (by decide) ?_
  refine lv_icmp_ge (tgt := 56) hx hb dX1_init_34 (by decide) (fun c_15 => absurd c_15 (by decide)) (fun c_15 => ?_)
  refine lv_aload_n hx hb dX1_init_37 rfl (lv_at hl 1 rfl) ?_
  refine va_get (D := DG E) (ci := 1) (v := .ref (sz + 1)) (C := RX1) (T := TX1) (N := 5) hx hb hts iw_X1 hown hK.1 (va_one hr_9) 0 rfl rfl 1 (by decide) (hts _ fl_X1_17) (fun _ h9 => h9) rfl dX1_init_38 ?_
  refine lv_iload_n hx hb dX1_init_41 rfl (lv_at hl 0 rfl) ?_
  refine rr_new (ci := 6) (fs := [.int 0, .int 0, .int 0]) (C := RX6) (T := TX6) (N := 3) hx hb hts iw_X6 tyX6 tyX6_ok hown (hts _ cl_X1_15) (hts _ ia_X6) (hts _ in_X6) hK.1 hS rfl (fun j hj => by rcases (show j = 0 ∨ j = 1 ∨ j = 2 by omega) with rfl | rfl | rfl <;> rfl) (Nat.le_of_ble_eq_true rfl) (Nat.le_of_ble_eq_true rfl) dX1_init_42 (fun q_16 H hq hat hz ho hS => ?_)
  obtain rfl : sz + 4 = q_16 := (hq.trans hsz).symm
  have hr_9 := hr_9.kept (ho _ hr_9.lt)
  have hr_2 := hr_2.kept (ho _ hr_2.lt)
  have hr_14 := hr_14.kept (ho _ hr_14.lt)
  have hr_8 := hr_8.kept (ho _ hr_8.lt)
  have hy_13_0 := hy_13_0.kept (ho _ hy_13_0.lt)
  have hsz : H.size = sz + 5 := by rw [hz, hsz]
  have hr_17 := hat
  refine lv_dup hx hb dX1_init_45 rfl ?_
  refine va_callv (rnIN (fun H => H.size = sz + 5 ∧ va_at (DG E) vwCl ((sz + 4), .inr (6, [.int 0, .int 0, .int 0])) H) (As := []) (rest := [.ref (sz + 4), .int 1, .ref (sz + 1)]) ⟨hx, hb, hml, hown, hts⟩ (e_X6_init l E z0 (sz + 4) (sz + 5)  (Nat.le_trans hz1 (Nat.le_add_right sz 4)) (Nat.le_trans hz1 (Nat.le_add_right sz 5)) (Nat.add_lt_add_left (by decide) sz)) ⟨va_cnB (host := RX9) 0 hts (gd1 co_X6_init rfl) rfl rfl rfl (hK.2.1 _ mn_X1_24 #[]) (hts _ in_X6) (by decide +kernel) ⟨Nat.le_of_ble_eq_true rfl, Nat.le_of_ble_eq_true rfl⟩, rfl, hts _ im_X6_init⟩ ⟨hsz, hr_17⟩ (fun U hU hW => hK.go hW hS hAz hU) rfl rfl hl.1 rfl (lv_room (Nat.le_of_ble_eq_true rfl)) dX1_init_46 ⟨Nat.le_of_ble_eq_true rfl, Nat.le_of_ble_eq_true rfl⟩) hS (fun q _ => fun h => h.elim (fun e => by rw [e]; exact (Or.inr (Nat.le_add_right sz 4))) (fun h => Or.inr (Nat.le_trans (Nat.le_add_right sz 5) h))) (fun q => fun h => h.elim (fun e => by rw [e]; exact (Or.inr (Nat.le_add_right sz 4))) (fun h => Or.inr (Nat.le_trans (Nat.le_add_right sz 5) h))) (fun _ t H locs ht hvm hw hB hz hk hS => ?_)
  rw [ht] at hB
  have hr_9 := hr_9.kept (hk _ hr_9.lt (fun h => h.elim (ne_h hlt) (fun h => absurd h (Nat.not_le.mpr (Nat.lt_of_lt_of_le hlt (Nat.le_add_right sz 5))))))
  have hr_2 := hr_2.kept (hk _ hr_2.lt (fun h => h.elim (ne_o (by decide)) (fun h => absurd h (Nat.not_le.mpr (Nat.add_lt_add_left (by decide) sz)))))
  have hr_14 := hr_14.kept (hk _ hr_14.lt (fun h => h.elim (ne_o (by decide)) (fun h => absurd h (Nat.not_le.mpr (Nat.add_lt_add_left (by decide) sz)))))
  have hr_8 := hr_8.kept (hk _ hr_8.lt (fun h => h.elim (ne_o (by decide)) (fun h => absurd h (Nat.not_le.mpr (Nat.add_lt_add_left (by decide) sz)))))
  have hy_13_0 := hy_13_0.kept (hk _ hy_13_0.lt (fun h => h.elim (ne_o (by decide)) (fun h => absurd h (Nat.not_le.mpr (Nat.add_lt_add_left (by decide) sz)))))
  have hsz : H.size = sz + 5 := hB.1
  have hy_18_0 : va_at (DG E) vwCl ((sz + 4), .inr (6, [.int 0, .int 0, .int 0])) H := hB.2
  refine rr_aast (D := DG E) hx hb hK.1 4 6 hr_14 hS (Or.inr (Nat.le_add_right sz 1)) rfl hy_18_0 rfl (show vp_in (1) 6 from vp_in_iff.mpr ⟨by decide, by decide⟩) dX1_init_49 (fun H locs hn ho hz hS => ?_)
  have hr_19 : va_at (DG E) vwCl ((sz + 1), .inl (E.2.2 4, 6, .inr (.inr (.inr (.inr (va_up (va_up (fun _ => none) 0 (some (sz + 3))) 1 (some (sz + 4)))))))) H := hn
  have hr_9 := hr_9.kept (ho _ (ne_h hlt))
  have hr_2 := hr_2.kept (ho _ (ne_o (by decide)))
  have hr_8 := hr_8.kept (ho _ (ne_o (by decide)))
  have hy_13_0 := hy_13_0.kept (ho _ (ne_o (by decide)))
  have hy_18_0 := hy_18_0.kept (ho _ (ne_o (by decide)))
  have hsz : H.size = sz + 5 := hz.trans hsz
  refine lv_iinc (v := 2) (lv' := [(1, .int 2), (0, .ref h0)]) hx hb dX1_init_50 hl (k := 0) rfl (by decide) (by decide) rfl (fun ls hl => ?_)
  refine lv_goto (tgt := 31) hx hb dX1_init_53 (by decide) ?_
  refine lv_iload_n hx hb dX1_init_31 rfl (lv_at hl 0 rfl) ?_
  refine lv_bipush (v := 6) hx hb dX1_init_32 (by decide) ?_
  refine lv_icmp_ge (tgt := 56) hx hb dX1_init_34 (by decide) (fun c_20 => absurd c_20 (by decide)) (fun c_20 => ?_)
  refine lv_aload_n hx hb dX1_init_37 rfl (lv_at hl 1 rfl) ?_
  refine va_get (D := DG E) (ci := 1) (v := .ref (sz + 1)) (C := RX1) (T := TX1) (N := 5) hx hb hts iw_X1 hown hK.1 (va_one hr_9) 0 rfl rfl 1 (by decide) (hts _ fl_X1_17) (fun _ h9 => h9) rfl dX1_init_38 ?_
  refine lv_iload_n hx hb dX1_init_41 rfl (lv_at hl 0 rfl) ?_
  refine rr_new (ci := 6) (fs := [.int 0, .int 0, .int 0]) (C := RX6) (T := TX6) (N := 3) hx hb hts iw_X6 tyX6 tyX6_ok hown (hts _ cl_X1_15) (hts _ ia_X6) (hts _ in_X6) hK.1 hS rfl (fun j hj => by rcases (show j = 0 ∨ j = 1 ∨ j = 2 by omega) with rfl | rfl | rfl <;> rfl) (Nat.le_of_ble_eq_true rfl) (Nat.le_of_ble_eq_true rfl) dX1_init_42 (fun q_21 H hq hat hz ho hS => ?_)
  obtain rfl : sz + 5 = q_21 := (hq.trans hsz).symm
  have hr_9 := hr_9.kept (ho _ hr_9.lt)
  have hr_2 := hr_2.kept (ho _ hr_2.lt)
  have hr_19 := hr_19.kept (ho _ hr_19.lt)
  have hr_8 := hr_8.kept (ho _ hr_8.lt)
  have hy_13_0 := hy_13_0.kept (ho _ hy_13_0.lt)
  have hy_18_0 := hy_18_0.kept (ho _ hy_18_0.lt)
  have hsz : H.size = sz + 6 := by rw [hz, hsz]
  have hr_22 := hat
  refine lv_dup hx hb dX1_init_45 rfl ?_
  refine va_callv (rnIN (fun H => H.size = sz + 6 ∧ va_at (DG E) vwCl ((sz + 5), .inr (6, [.int 0, .int 0, .int 0])) H) (As := []) (rest := [.ref (sz + 5), .int 2, .ref (sz + 1)]) ⟨hx, hb, hml, hown, hts⟩ (e_X6_init l E z0 (sz + 5) (sz + 6)  (Nat.le_trans hz1 (Nat.le_add_right sz 5)) (Nat.le_trans hz1 (Nat.le_add_right sz 6)) (Nat.add_lt_add_left (by decide) sz)) ⟨va_cnB (host := RX9) 0 hts (gd1 co_X6_init rfl) rfl rfl rfl (hK.2.1 _ mn_X1_24 #[]) (hts _ in_X6) (by decide +kernel) ⟨Nat.le_of_ble_eq_true rfl, Nat.le_of_ble_eq_true rfl⟩, rfl, hts _ im_X6_init⟩ ⟨hsz, hr_22⟩ (fun U hU hW => hK.go hW hS hAz hU) rfl rfl hl.1 rfl (lv_room (Nat.le_of_ble_eq_true rfl)) dX1_init_46 ⟨Nat.le_of_ble_eq_true rfl, Nat.le_of_ble_eq_true rfl⟩) hS (fun q _ => fun h => h.elim (fun e => by rw [e]; exact (Or.inr (Nat.le_add_right sz 5))) (fun h => Or.inr (Nat.le_trans (Nat.le_add_right sz 6) h))) (fun q => fun h => h.elim (fun e => by rw [e]; exact (Or.inr (Nat.le_add_right sz 5))) (fun h => Or.inr (Nat.le_trans (Nat.le_add_right sz 6) h))) (fun _ t H locs ht hvm hw hB hz hk hS => ?_)
  rw [ht] at hB
  have hr_9 := hr_9.kept (hk _ hr_9.lt (fun h => h.elim (ne_h hlt) (fun h => absurd h (Nat.not_le.mpr (Nat.lt_of_lt_of_le hlt (Nat.le_add_right sz 6))))))
  have hr_2 := hr_2.kept (hk _ hr_2.lt (fun h => h.elim (ne_o (by decide)) (fun h => absurd h (Nat.not_le.mpr (Nat.add_lt_add_left (by decide) sz)))))
  have hr_19 := hr_19.kept (hk _ hr_19.lt (fun h => h.elim (ne_o (by decide)) (fun h => absurd h (Nat.not_le.mpr (Nat.add_lt_add_left (by decide) sz)))))
  have hr_8 := hr_8.kept (hk _ hr_8.lt (fun h => h.elim (ne_o (by decide)) (fun h => absurd h (Nat.not_le.mpr (Nat.add_lt_add_left (by decide) sz)))))
  have hy_13_0 := hy_13_0.kept (hk _ hy_13_0.lt (fun h => h.elim (ne_o (by decide)) (fun h => absurd h (Nat.not_le.mpr (Nat.add_lt_add_left (by decide) sz)))))
  have hy_18_0 := hy_18_0.kept (hk _ hy_18_0.lt (fun h => h.elim (ne_o (by decide)) (fun h => absurd h (Nat.not_le.mpr (Nat.add_lt_add_left (by decide) sz)))))
  have hsz : H.size = sz + 6 := hB.1
  have hy_23_0 : va_at (DG E) vwCl ((sz + 5), .inr (6, [.int 0, .int 0, .int 0])) H := hB.2
  refine rr_aast (D := DG E) hx hb hK.1 4 6 hr_19 hS (Or.inr (Nat.le_add_right sz 1)) rfl hy_23_0 rfl (show vp_in (2) 6 from vp_in_iff.mpr ⟨by decide, by decide⟩) dX1_init_49 (fun H locs hn ho hz hS => ?_)
  have hr_24 : va_at (DG E) vwCl ((sz + 1), .inl (E.2.2 4, 6, .inr (.inr (.inr (.inr (va_up (va_up (va_up (fun _ => none) 0 (some (sz + 3))) 1 (some (sz + 4))) 2 (some (sz + 5)))))))) H := hn
  have hr_9 := hr_9.kept (ho _ (ne_h hlt))
  have hr_2 := hr_2.kept (ho _ (ne_o (by decide)))
  have hr_8 := hr_8.kept (ho _ (ne_o (by decide)))
  have hy_13_0 := hy_13_0.kept (ho _ (ne_o (by decide)))
  have hy_18_0 := hy_18_0.kept (ho _ (ne_o (by decide)))
  have hy_23_0 := hy_23_0.kept (ho _ (ne_o (by decide)))
  have hsz : H.size = sz + 6 := hz.trans hsz
  refine lv_iinc (v := 3) (lv' := [(1, .int 3), (0, .ref h0)]) hx hb dX1_init_50 hl (k := 0) rfl (by decide) (by decide) rfl (fun ls hl => ?_)
  refine lv_goto (tgt := 31) hx hb dX1_init_53 (by decide) ?_
  refine lv_iload_n hx hb dX1_init_31 rfl (lv_at hl 0 rfl) ?_
  refine lv_bipush (v := 6) hx hb dX1_init_32 (by decide) ?_
  refine lv_icmp_ge (tgt := 56) hx hb dX1_init_34 (by decide) (fun c_25 => absurd c_25 (by decide)) (fun c_25 => ?_)
  refine lv_aload_n hx hb dX1_init_37 rfl (lv_at hl 1 rfl) ?_
  refine va_get (D := DG E) (ci := 1) (v := .ref (sz + 1)) (C := RX1) (T := TX1) (N := 5) hx hb hts iw_X1 hown hK.1 (va_one hr_9) 0 rfl rfl 1 (by decide) (hts _ fl_X1_17) (fun _ h9 => h9) rfl dX1_init_38 ?_
  refine lv_iload_n hx hb dX1_init_41 rfl (lv_at hl 0 rfl) ?_
  refine rr_new (ci := 6) (fs := [.int 0, .int 0, .int 0]) (C := RX6) (T := TX6) (N := 3) hx hb hts iw_X6 tyX6 tyX6_ok hown (hts _ cl_X1_15) (hts _ ia_X6) (hts _ in_X6) hK.1 hS rfl (fun j hj => by rcases (show j = 0 ∨ j = 1 ∨ j = 2 by omega) with rfl | rfl | rfl <;> rfl) (Nat.le_of_ble_eq_true rfl) (Nat.le_of_ble_eq_true rfl) dX1_init_42 (fun q_26 H hq hat hz ho hS => ?_)
  obtain rfl : sz + 6 = q_26 := (hq.trans hsz).symm
  have hr_9 := hr_9.kept (ho _ hr_9.lt)
  have hr_2 := hr_2.kept (ho _ hr_2.lt)
  have hr_24 := hr_24.kept (ho _ hr_24.lt)
  have hr_8 := hr_8.kept (ho _ hr_8.lt)
  have hy_13_0 := hy_13_0.kept (ho _ hy_13_0.lt)
  have hy_18_0 := hy_18_0.kept (ho _ hy_18_0.lt)
  have hy_23_0 := hy_23_0.kept (ho _ hy_23_0.lt)
  have hsz : H.size = sz + 7 := by rw [hz, hsz]
  have hr_27 := hat
  refine lv_dup hx hb dX1_init_45 rfl ?_
  refine va_callv (rnIN (fun H => H.size = sz + 7 ∧ va_at (DG E) vwCl ((sz + 6), .inr (6, [.int 0, .int 0, .int 0])) H) (As := []) (rest := [.ref (sz + 6), .int 3, .ref (sz + 1)]) ⟨hx, hb, hml, hown, hts⟩ (e_X6_init l E z0 (sz + 6) (sz + 7)  (Nat.le_trans hz1 (Nat.le_add_right sz 6)) (Nat.le_trans hz1 (Nat.le_add_right sz 7)) (Nat.add_lt_add_left (by decide) sz)) ⟨va_cnB (host := RX9) 0 hts (gd1 co_X6_init rfl) rfl rfl rfl (hK.2.1 _ mn_X1_24 #[]) (hts _ in_X6) (by decide +kernel) ⟨Nat.le_of_ble_eq_true rfl, Nat.le_of_ble_eq_true rfl⟩, rfl, hts _ im_X6_init⟩ ⟨hsz, hr_27⟩ (fun U hU hW => hK.go hW hS hAz hU) rfl rfl hl.1 rfl (lv_room (Nat.le_of_ble_eq_true rfl)) dX1_init_46 ⟨Nat.le_of_ble_eq_true rfl, Nat.le_of_ble_eq_true rfl⟩) hS (fun q _ => fun h => h.elim (fun e => by rw [e]; exact (Or.inr (Nat.le_add_right sz 6))) (fun h => Or.inr (Nat.le_trans (Nat.le_add_right sz 7) h))) (fun q => fun h => h.elim (fun e => by rw [e]; exact (Or.inr (Nat.le_add_right sz 6))) (fun h => Or.inr (Nat.le_trans (Nat.le_add_right sz 7) h))) (fun _ t H locs ht hvm hw hB hz hk hS => ?_)
  rw [ht] at hB
  have hr_9 := hr_9.kept (hk _ hr_9.lt (fun h => h.elim (ne_h hlt) (fun h => absurd h (Nat.not_le.mpr (Nat.lt_of_lt_of_le hlt (Nat.le_add_right sz 7))))))
  have hr_2 := hr_2.kept (hk _ hr_2.lt (fun h => h.elim (ne_o (by decide)) (fun h => absurd h (Nat.not_le.mpr (Nat.add_lt_add_left (by decide) sz)))))
  have hr_24 := hr_24.kept (hk _ hr_24.lt (fun h => h.elim (ne_o (by decide)) (fun h => absurd h (Nat.not_le.mpr (Nat.add_lt_add_left (by decide) sz)))))
  have hr_8 := hr_8.kept (hk _ hr_8.lt (fun h => h.elim (ne_o (by decide)) (fun h => absurd h (Nat.not_le.mpr (Nat.add_lt_add_left (by decide) sz)))))
  have hy_13_0 := hy_13_0.kept (hk _ hy_13_0.lt (fun h => h.elim (ne_o (by decide)) (fun h => absurd h (Nat.not_le.mpr (Nat.add_lt_add_left (by decide) sz)))))
  have hy_18_0 := hy_18_0.kept (hk _ hy_18_0.lt (fun h => h.elim (ne_o (by decide)) (fun h => absurd h (Nat.not_le.mpr (Nat.add_lt_add_left (by decide) sz)))))
  have hy_23_0 := hy_23_0.kept (hk _ hy_23_0.lt (fun h => h.elim (ne_o (by decide)) (fun h => absurd h (Nat.not_le.mpr (Nat.add_lt_add_left (by decide) sz)))))
  have hsz : H.size = sz + 7 := hB.1
  have hy_28_0 : va_at (DG E) vwCl ((sz + 6), .inr (6, [.int 0, .int 0, .int 0])) H := hB.2
  refine rr_aast (D := DG E) hx hb hK.1 4 6 hr_24 hS (Or.inr (Nat.le_add_right sz 1)) rfl hy_28_0 rfl (show vp_in (3) 6 from vp_in_iff.mpr ⟨by decide, by decide⟩) dX1_init_49 (fun H locs hn ho hz hS => ?_)
  have hr_29 : va_at (DG E) vwCl ((sz + 1), .inl (E.2.2 4, 6, .inr (.inr (.inr (.inr (va_up (va_up (va_up (va_up (fun _ => none) 0 (some (sz + 3))) 1 (some (sz + 4))) 2 (some (sz + 5))) 3 (some (sz + 6)))))))) H := hn
  have hr_9 := hr_9.kept (ho _ (ne_h hlt))
  have hr_2 := hr_2.kept (ho _ (ne_o (by decide)))
  have hr_8 := hr_8.kept (ho _ (ne_o (by decide)))
  have hy_13_0 := hy_13_0.kept (ho _ (ne_o (by decide)))
  have hy_18_0 := hy_18_0.kept (ho _ (ne_o (by decide)))
  have hy_23_0 := hy_23_0.kept (ho _ (ne_o (by decide)))
  have hy_28_0 := hy_28_0.kept (ho _ (ne_o (by decide)))
  have hsz : H.size = sz + 7 := hz.trans hsz
  refine lv_iinc (v := 4) (lv' := [(1, .int 4), (0, .ref h0)]) hx hb dX1_init_50 hl (k := 0) rfl (by decide) (by decide) rfl (fun ls hl => ?_)
  refine lv_goto (tgt := 31) hx hb dX1_init_53 (by decide) ?_
  refine lv_iload_n hx hb dX1_init_31 rfl (lv_at hl 0 rfl) ?_
  refine lv_bipush (v := 6) hx hb dX1_init_32 (by decide) ?_
  refine lv_icmp_ge (tgt := 56) hx hb dX1_init_34 (by decide) (fun c_30 => absurd c_30 (by decide)) (fun c_30 => ?_)
  refine lv_aload_n hx hb dX1_init_37 rfl (lv_at hl 1 rfl) ?_
  refine va_get (D := DG E) (ci := 1) (v := .ref (sz + 1)) (C := RX1) (T := TX1) (N := 5) hx hb hts iw_X1 hown hK.1 (va_one hr_9) 0 rfl rfl 1 (by decide) (hts _ fl_X1_17) (fun _ h9 => h9) rfl dX1_init_38 ?_
  refine lv_iload_n hx hb dX1_init_41 rfl (lv_at hl 0 rfl) ?_
  refine rr_new (ci := 6) (fs := [.int 0, .int 0, .int 0]) (C := RX6) (T := TX6) (N := 3) hx hb hts iw_X6 tyX6 tyX6_ok hown (hts _ cl_X1_15) (hts _ ia_X6) (hts _ in_X6) hK.1 hS rfl (fun j hj => by rcases (show j = 0 ∨ j = 1 ∨ j = 2 by omega) with rfl | rfl | rfl <;> rfl) (Nat.le_of_ble_eq_true rfl) (Nat.le_of_ble_eq_true rfl) dX1_init_42 (fun q_31 H hq hat hz ho hS => ?_)
  obtain rfl : sz + 7 = q_31 := (hq.trans hsz).symm
  have hr_9 := hr_9.kept (ho _ hr_9.lt)
  have hr_2 := hr_2.kept (ho _ hr_2.lt)
  have hr_29 := hr_29.kept (ho _ hr_29.lt)
  have hr_8 := hr_8.kept (ho _ hr_8.lt)
  have hy_13_0 := hy_13_0.kept (ho _ hy_13_0.lt)
  have hy_18_0 := hy_18_0.kept (ho _ hy_18_0.lt)
  have hy_23_0 := hy_23_0.kept (ho _ hy_23_0.lt)
  have hy_28_0 := hy_28_0.kept (ho _ hy_28_0.lt)
  have hsz : H.size = sz + 8 := by rw [hz, hsz]
  have hr_32 := hat
  refine lv_dup hx hb dX1_init_45 rfl ?_
  refine va_callv (rnIN (fun H => H.size = sz + 8 ∧ va_at (DG E) vwCl ((sz + 7), .inr (6, [.int 0, .int 0, .int 0])) H) (As := []) (rest := [.ref (sz + 7), .int 4, .ref (sz + 1)]) ⟨hx, hb, hml, hown, hts⟩ (e_X6_init l E z0 (sz + 7) (sz + 8)  (Nat.le_trans hz1 (Nat.le_add_right sz 7)) (Nat.le_trans hz1 (Nat.le_add_right sz 8)) (Nat.add_lt_add_left (by decide) sz)) ⟨va_cnB (host := RX9) 0 hts (gd1 co_X6_init rfl) rfl rfl rfl (hK.2.1 _ mn_X1_24 #[]) (hts _ in_X6) (by decide +kernel) ⟨Nat.le_of_ble_eq_true rfl, Nat.le_of_ble_eq_true rfl⟩, rfl, hts _ im_X6_init⟩ ⟨hsz, hr_32⟩ (fun U hU hW => hK.go hW hS hAz hU) rfl rfl hl.1 rfl (lv_room (Nat.le_of_ble_eq_true rfl)) dX1_init_46 ⟨Nat.le_of_ble_eq_true rfl, Nat.le_of_ble_eq_true rfl⟩) hS (fun q _ => fun h => h.elim (fun e => by rw [e]; exact (Or.inr (Nat.le_add_right sz 7))) (fun h => Or.inr (Nat.le_trans (Nat.le_add_right sz 8) h))) (fun q => fun h => h.elim (fun e => by rw [e]; exact (Or.inr (Nat.le_add_right sz 7))) (fun h => Or.inr (Nat.le_trans (Nat.le_add_right sz 8) h))) (fun _ t H locs ht hvm hw hB hz hk hS => ?_)
  rw [ht] at hB
  have hr_9 := hr_9.kept (hk _ hr_9.lt (fun h => h.elim (ne_h hlt) (fun h => absurd h (Nat.not_le.mpr (Nat.lt_of_lt_of_le hlt (Nat.le_add_right sz 8))))))
  have hr_2 := hr_2.kept (hk _ hr_2.lt (fun h => h.elim (ne_o (by decide)) (fun h => absurd h (Nat.not_le.mpr (Nat.add_lt_add_left (by decide) sz)))))
  have hr_29 := hr_29.kept (hk _ hr_29.lt (fun h => h.elim (ne_o (by decide)) (fun h => absurd h (Nat.not_le.mpr (Nat.add_lt_add_left (by decide) sz)))))
  have hr_8 := hr_8.kept (hk _ hr_8.lt (fun h => h.elim (ne_o (by decide)) (fun h => absurd h (Nat.not_le.mpr (Nat.add_lt_add_left (by decide) sz)))))
  have hy_13_0 := hy_13_0.kept (hk _ hy_13_0.lt (fun h => h.elim (ne_o (by decide)) (fun h => absurd h (Nat.not_le.mpr (Nat.add_lt_add_left (by decide) sz)))))
  have hy_18_0 := hy_18_0.kept (hk _ hy_18_0.lt (fun h => h.elim (ne_o (by decide)) (fun h => absurd h (Nat.not_le.mpr (Nat.add_lt_add_left (by decide) sz)))))
  have hy_23_0 := hy_23_0.kept (hk _ hy_23_0.lt (fun h => h.elim (ne_o (by decide)) (fun h => absurd h (Nat.not_le.mpr (Nat.add_lt_add_left (by decide) sz)))))
  have hy_28_0 := hy_28_0.kept (hk _ hy_28_0.lt (fun h => h.elim (ne_o (by decide)) (fun h => absurd h (Nat.not_le.mpr (Nat.add_lt_add_left (by decide) sz)))))
  have hsz : H.size = sz + 8 := hB.1
  have hy_33_0 : va_at (DG E) vwCl ((sz + 7), .inr (6, [.int 0, .int 0, .int 0])) H := hB.2
  refine rr_aast (D := DG E) hx hb hK.1 4 6 hr_29 hS (Or.inr (Nat.le_add_right sz 1)) rfl hy_33_0 rfl (show vp_in (4) 6 from vp_in_iff.mpr ⟨by decide, by decide⟩) dX1_init_49 (fun H locs hn ho hz hS => ?_)
  have hr_34 : va_at (DG E) vwCl ((sz + 1), .inl (E.2.2 4, 6, .inr (.inr (.inr (.inr (va_up (va_up (va_up (va_up (va_up (fun _ => none) 0 (some (sz + 3))) 1 (some (sz + 4))) 2 (some (sz + 5))) 3 (some (sz + 6))) 4 (some (sz + 7)))))))) H := hn
  have hr_9 := hr_9.kept (ho _ (ne_h hlt))
  have hr_2 := hr_2.kept (ho _ (ne_o (by decide)))
  have hr_8 := hr_8.kept (ho _ (ne_o (by decide)))
  have hy_13_0 := hy_13_0.kept (ho _ (ne_o (by decide)))
  have hy_18_0 := hy_18_0.kept (ho _ (ne_o (by decide)))
  have hy_23_0 := hy_23_0.kept (ho _ (ne_o (by decide)))
  have hy_28_0 := hy_28_0.kept (ho _ (ne_o (by decide)))
  have hy_33_0 := hy_33_0.kept (ho _ (ne_o (by decide)))
  have hsz : H.size = sz + 8 := hz.trans hsz
  refine lv_iinc (v := 5) (lv' := [(1, .int 5), (0, .ref h0)]) hx hb dX1_init_50 hl (k := 0) rfl (by decide) (by decide) rfl (fun ls hl => ?_)
  refine lv_goto (tgt := 31) hx hb dX1_init_53 (by decide) ?_
  refine lv_iload_n hx hb dX1_init_31 rfl (lv_at hl 0 rfl) ?_
  refine lv_bipush (v := 6) hx hb dX1_init_32 (by decide) ?_
  refine lv_icmp_ge (tgt := 56) hx hb dX1_init_34 (by decide) (fun c_35 => absurd c_35 (by decide)) (fun c_35 => ?_)
  refine lv_aload_n hx hb dX1_init_37 rfl (lv_at hl 1 rfl) ?_
  refine va_get (D := DG E) (ci := 1) (v := .ref (sz + 1)) (C := RX1) (T := TX1) (N := 5) hx hb hts iw_X1 hown hK.1 (va_one hr_9) 0 rfl rfl 1 (by decide) (hts _ fl_X1_17) (fun _ h9 => h9) rfl dX1_init_38 ?_
  refine lv_iload_n hx hb dX1_init_41 rfl (lv_at hl 0 rfl) ?_
  refine rr_new (ci := 6) (fs := [.int 0, .int 0, .int 0]) (C := RX6) (T := TX6) (N := 3) hx hb hts iw_X6 tyX6 tyX6_ok hown (hts _ cl_X1_15) (hts _ ia_X6) (hts _ in_X6) hK.1 hS rfl (fun j hj => by rcases (show j = 0 ∨ j = 1 ∨ j = 2 by omega) with rfl | rfl | rfl <;> rfl) (Nat.le_of_ble_eq_true rfl) (Nat.le_of_ble_eq_true rfl) dX1_init_42 (fun q_36 H hq hat hz ho hS => ?_)
  obtain rfl : sz + 8 = q_36 := (hq.trans hsz).symm
  have hr_9 := hr_9.kept (ho _ hr_9.lt)
  have hr_2 := hr_2.kept (ho _ hr_2.lt)
  have hr_34 := hr_34.kept (ho _ hr_34.lt)
  have hr_8 := hr_8.kept (ho _ hr_8.lt)
  have hy_13_0 := hy_13_0.kept (ho _ hy_13_0.lt)
  have hy_18_0 := hy_18_0.kept (ho _ hy_18_0.lt)
  have hy_23_0 := hy_23_0.kept (ho _ hy_23_0.lt)
  have hy_28_0 := hy_28_0.kept (ho _ hy_28_0.lt)
  have hy_33_0 := hy_33_0.kept (ho _ hy_33_0.lt)
  have hsz : H.size = sz + 9 := by rw [hz, hsz]
  have hr_37 := hat
  refine lv_dup hx hb dX1_init_45 rfl ?_
  refine va_callv (rnIN (fun H => H.size = sz + 9 ∧ va_at (DG E) vwCl ((sz + 8), .inr (6, [.int 0, .int 0, .int 0])) H) (As := []) (rest := [.ref (sz + 8), .int 5, .ref (sz + 1)]) ⟨hx, hb, hml, hown, hts⟩ (e_X6_init l E z0 (sz + 8) (sz + 9)  (Nat.le_trans hz1 (Nat.le_add_right sz 8)) (Nat.le_trans hz1 (Nat.le_add_right sz 9)) (Nat.add_lt_add_left (by decide) sz)) ⟨va_cnB (host := RX9) 0 hts (gd1 co_X6_init rfl) rfl rfl rfl (hK.2.1 _ mn_X1_24 #[]) (hts _ in_X6) (by decide +kernel) ⟨Nat.le_of_ble_eq_true rfl, Nat.le_of_ble_eq_true rfl⟩, rfl, hts _ im_X6_init⟩ ⟨hsz, hr_37⟩ (fun U hU hW => hK.go hW hS hAz hU) rfl rfl hl.1 rfl (lv_room (Nat.le_of_ble_eq_true rfl)) dX1_init_46 ⟨Nat.le_of_ble_eq_true rfl, Nat.le_of_ble_eq_true rfl⟩) hS (fun q _ => fun h => h.elim (fun e => by rw [e]; exact (Or.inr (Nat.le_add_right sz 8))) (fun h => Or.inr (Nat.le_trans (Nat.le_add_right sz 9) h))) (fun q => fun h => h.elim (fun e => by rw [e]; exact (Or.inr (Nat.le_add_right sz 8))) (fun h => Or.inr (Nat.le_trans (Nat.le_add_right sz 9) h))) (fun _ t H locs ht hvm hw hB hz hk hS => ?_)
  rw [ht] at hB
  have hr_9 := hr_9.kept (hk _ hr_9.lt (fun h => h.elim (ne_h hlt) (fun h => absurd h (Nat.not_le.mpr (Nat.lt_of_lt_of_le hlt (Nat.le_add_right sz 9))))))
  have hr_2 := hr_2.kept (hk _ hr_2.lt (fun h => h.elim (ne_o (by decide)) (fun h => absurd h (Nat.not_le.mpr (Nat.add_lt_add_left (by decide) sz)))))
  have hr_34 := hr_34.kept (hk _ hr_34.lt (fun h => h.elim (ne_o (by decide)) (fun h => absurd h (Nat.not_le.mpr (Nat.add_lt_add_left (by decide) sz)))))
  have hr_8 := hr_8.kept (hk _ hr_8.lt (fun h => h.elim (ne_o (by decide)) (fun h => absurd h (Nat.not_le.mpr (Nat.add_lt_add_left (by decide) sz)))))
  have hy_13_0 := hy_13_0.kept (hk _ hy_13_0.lt (fun h => h.elim (ne_o (by decide)) (fun h => absurd h (Nat.not_le.mpr (Nat.add_lt_add_left (by decide) sz)))))
  have hy_18_0 := hy_18_0.kept (hk _ hy_18_0.lt (fun h => h.elim (ne_o (by decide)) (fun h => absurd h (Nat.not_le.mpr (Nat.add_lt_add_left (by decide) sz)))))
  have hy_23_0 := hy_23_0.kept (hk _ hy_23_0.lt (fun h => h.elim (ne_o (by decide)) (fun h => absurd h (Nat.not_le.mpr (Nat.add_lt_add_left (by decide) sz)))))
  have hy_28_0 := hy_28_0.kept (hk _ hy_28_0.lt (fun h => h.elim (ne_o (by decide)) (fun h => absurd h (Nat.not_le.mpr (Nat.add_lt_add_left (by decide) sz)))))
  have hy_33_0 := hy_33_0.kept (hk _ hy_33_0.lt (fun h => h.elim (ne_o (by decide)) (fun h => absurd h (Nat.not_le.mpr (Nat.add_lt_add_left (by decide) sz)))))
  have hsz : H.size = sz + 9 := hB.1
  have hy_38_0 : va_at (DG E) vwCl ((sz + 8), .inr (6, [.int 0, .int 0, .int 0])) H := hB.2
  refine rr_aast (D := DG E) hx hb hK.1 4 6 hr_34 hS (Or.inr (Nat.le_add_right sz 1)) rfl hy_38_0 rfl (show vp_in (5) 6 from vp_in_iff.mpr ⟨by decide, by decide⟩) dX1_init_49 (fun H locs hn ho hz hS => ?_)
  have hr_39 : va_at (DG E) vwCl ((sz + 1), .inl (E.2.2 4, 6, .inr (.inr (.inr (.inr (va_up (va_up (va_up (va_up (va_up (va_up (fun _ => none) 0 (some (sz + 3))) 1 (some (sz + 4))) 2 (some (sz + 5))) 3 (some (sz + 6))) 4 (some (sz + 7))) 5 (some (sz + 8)))))))) H := hn
  have hr_9 := hr_9.kept (ho _ (ne_h hlt))
  have hr_2 := hr_2.kept (ho _ (ne_o (by decide)))
  have hr_8 := hr_8.kept (ho _ (ne_o (by decide)))
  have hy_13_0 := hy_13_0.kept (ho _ (ne_o (by decide)))
  have hy_18_0 := hy_18_0.kept (ho _ (ne_o (by decide)))
  have hy_23_0 := hy_23_0.kept (ho _ (ne_o (by decide)))
  have hy_28_0 := hy_28_0.kept (ho _ (ne_o (by decide)))
  have hy_33_0 := hy_33_0.kept (ho _ (ne_o (by decide)))
  have hy_38_0 := hy_38_0.kept (ho _ (ne_o (by decide)))
  have hsz : H.size = sz + 9 := hz.trans hsz
  refine lv_iinc (v := 6) (lv' := [(1, .int 6), (0, .ref h0)]) hx hb dX1_init_50 hl (k := 0) rfl (by decide) (by decide) rfl (fun ls hl => ?_)
  refine lv_goto (tgt := 31) hx hb dX1_init_53 (by decide) ?_
  refine lv_iload_n hx hb dX1_init_31 rfl (lv_at hl 0 rfl) ?_
  refine lv_bipush (v := 6) hx hb dX1_init_32 (by decide) ?_
  refine lv_icmp_ge (tgt := 56) hx hb dX1_init_34 (by decide) (fun c_40 => ?_) (fun c_40 => absurd c_40 (by decide))
  refine W.widen (k := 9) (n := 136) (Nat.le_of_ble_eq_true rfl) (Nat.le_of_ble_eq_true rfl) ?_
  exact W.vret hx hb hr (fun t ht hW => ⟨⟨(), rfl, trivial, (by rw [ht]; exact hsz), (by show va_at (DG E) vwCl (h0, .inr (1, [.ref (sz + 0), .ref (sz + 1), .ref (sz + 2), .int 0, .int 0])) t.heap; rw [ht]; exact hr_9), (by show va_at (DG E) vwCl ((sz + 0), .inl (E.2.2 0, 32, .inl (fun _ => 0))) t.heap; rw [ht]; exact hr_2), (by show va_at (DG E) vwCl ((sz + 1), .inl (E.2.2 4, 6, .inr (.inr (.inr (.inr (fun i => some ((sz + 3) + i))))))) t.heap; rw [ht]; exact arr_cg hr_39 (fun i hi => by rcases (show i = 0 ∨ i = 1 ∨ i = 2 ∨ i = 3 ∨ i = 4 ∨ i = 5 by omega) with rfl | rfl | rfl | rfl | rfl | rfl <;> rfl)), (by show va_at (DG E) vwCl ((sz + 2), .inl (E.2.2 0, 80, .inl (fun _ => 0))) t.heap; rw [ht]; exact hr_8), (by show va_at (DG E) vwCl ((sz + 3), .inr (6, [.int 0, .int 0, .int 0])) t.heap; rw [ht]; exact hy_13_0), (by show va_at (DG E) vwCl ((sz + 4), .inr (6, [.int 0, .int 0, .int 0])) t.heap; rw [ht]; exact hy_18_0), (by show va_at (DG E) vwCl ((sz + 5), .inr (6, [.int 0, .int 0, .int 0])) t.heap; rw [ht]; exact hy_23_0), (by show va_at (DG E) vwCl ((sz + 6), .inr (6, [.int 0, .int 0, .int 0])) t.heap; rw [ht]; exact hy_28_0), (by show va_at (DG E) vwCl ((sz + 7), .inr (6, [.int 0, .int 0, .int 0])) t.heap; rw [ht]; exact hy_33_0), (by show va_at (DG E) vwCl ((sz + 8), .inr (6, [.int 0, .int 0, .int 0])) t.heap; rw [ht]; exact hy_38_0)⟩, hS.F ht⟩) hS.2.2 dX1_init_56
set_option maxHeartbeats 16000000 in
set_option maxRecDepth 100000 in
theorem e_X7_init (l : Launch) (E : EE) (z0 h0 sz : Nat) (p0 : Int32) (a0 : Nat) (a1 : Nat) (p1 : Int32) (p2 : Int32) (p3 : Int32) (hz0 : z0 ≤ h0) (hz1 : z0 ≤ sz) (hlt : h0 < sz) : Met l yX7_init [Cond.code yX7_init cX7_init 7 none] ({ frames := 3, cells := 6, slots := 50, locals := 63 } : Room) (va_Pc [.ref h0, .int p0, .ref a0, .ref a1, .int p1, .int p2, .int p3] (fun U => (U.heap.size = sz ∧ va_at (DG E) vwCl (h0, .inr (7, [.int 0, .null, .null, .int 0, .int 0, .int 0, .null, .int 0, .int 0, .int 0, .int 0, .int 0, .int 0, .int 0])) U.heap) ∧ KS E z0 U)) (va_Qv (fun (_ : Unit) => True) (fun _ t => t.heap.size = sz + 6 ∧ va_at (DG E) vwCl (h0, .inr (7, [.int (p0 ^^^ 1), .ref a0, .ref a1, .int p1, .int p2, .int p3, .ref (sz + 0), .int 0, .int 0, .int 0, .int 0, .int 0, .int 0, .int 0])) t.heap ∧ va_at (DG E) vwCl ((sz + 0), .inr (5, [.int p0, .ref a0, .ref (sz + 1), .int 0, .int 0, .int 0])) t.heap ∧ va_at (DG E) vwCl ((sz + 1), .inl (E.2.2 6, 4, .inr (.inr (.inr (.inr (fun i => some ((sz + 2) + i))))))) t.heap ∧ va_at (DG E) vwCl ((sz + 2), .inr (4, [.int 0, .int 0, .int 0, .int 0, .int 0, .int 0, .int 0, .int 0, .int 0, .int 0])) t.heap ∧ va_at (DG E) vwCl ((sz + 3), .inr (4, [.int 0, .int 0, .int 0, .int 0, .int 0, .int 0, .int 0, .int 0, .int 0, .int 0])) t.heap ∧ va_at (DG E) vwCl ((sz + 4), .inr (4, [.int 0, .int 0, .int 0, .int 0, .int 0, .int 0, .int 0, .int 0, .int 0, .int 0])) t.heap ∧ va_at (DG E) vwCl ((sz + 5), .inr (4, [.int 0, .int 0, .int 0, .int 0, .int 0, .int 0, .int 0, .int 0, .int 0, .int 0])) t.heap) (AC h0 sz)) 6 50 (AC h0 sz) := by
  refine Met.ofW (cc := cX7_init) (maxL := 7) (ret := none) (by decide) rfl ?_
  intro p e s m args below meth c s₁ B hml hv
  obtain ⟨rfl, ⟨hsz, hr0⟩, hK⟩ := hv
  have hx := B.exec
  have hb := B.bytes
  have hr := B.returns
  have hts : ∀ w ∈ TS, w.before ([.ref h0, .int p0, .ref a0, .ref a1, .int p1, .int p2, .int p3] : List Value).toArray s = true := fun w hw => hK.2.1 w hw _
  have hown : s.vm.findClass RX7 = some m.cls := findClass_of_methodNamed B.named
  have hlocks := B.notSynchronized
  have hin : meth.name = "<init>" := (name_of_methodNamed B.named B.method).1
  have hS : va_S (AC h0 sz) s.heap s.heap [] := va_S.rf
  have hAz : ∀ q, AC h0 sz q → z0 ≤ q := fun q h => h.elim (fun e => by omega) (fun e => by omega)
  obtain ⟨H, eH⟩ : ∃ H, H = s.heap := ⟨_, rfl⟩
  rw [← eH] at hr0 hsz
  have hS : va_S (AC h0 sz) s.heap H [] := by rw [eH]; exact hS
  rw [← eH]
  have hsz : H.size = sz + 0 := hsz
  have hl := lv_entry ([.ref h0, .int p0, .ref a0, .ref a1, .int p1, .int p2, .int p3]) (n := 7) (Nat.le_of_ble_eq_true rfl)
  rw [lg_entry_eq]
  generalize (lg_sl ([.ref h0, .int p0, .ref a0, .ref a1, .int p1, .int p2, .int p3]) ++ List.replicate (7 - (lg_sl ([.ref h0, .int p0, .ref a0, .ref a1, .int p1, .int p2, .int p3])).length) Slot.unset).toArray = ls at hl ⊢
  have hl : lv_has ls 7 [(0, .ref h0), (1, .int p0), (2, .ref a0), (3, .ref a1), (4, .int p1), (5, .int p2), (6, .int p3)] := hl
  refine lv_aload_n hx hb dX7_init_0 rfl (lv_at hl 0 rfl) ?_
  refine W.objInit hx hb hown (hts _ ml_X7_3) (hts _ im_Object__init_) (hts _ co_Object__init_) rfl (by rw [hml]; exact hl.1) rfl dX7_init_1 (Nat.le_of_ble_eq_true rfl) (Nat.le_of_ble_eq_true rfl) ?_
  refine W.eq (g2 := F0 m 4 ls []) rfl ?_
  refine lv_aload_n hx hb dX7_init_4 rfl (lv_at hl 0 rfl) ?_
  refine lv_iload_n hx hb dX7_init_5 rfl (lv_at hl 1 rfl) ?_
  refine rnSN (As := [.int p0]) (rest := [.ref h0]) ⟨hx, hb, hml, hown, hts⟩ (c_X9_peerOf l p0) ⟨va_cnB (host := RX9) 1 hts (gd1 co_X9_peerOf rfl) rfl rfl rfl (hK.2.1 _ mn_X7_9 #[]) (hts _ in_X9) (by decide +kernel) ⟨Nat.le_of_ble_eq_true rfl, Nat.le_of_ble_eq_true rfl⟩, hts _ st_X9_peerOf, trivial⟩ rfl rfl hl.1 rfl (lv_room (Nat.le_of_ble_eq_true rfl)) dX7_init_6 ⟨Nat.le_of_ble_eq_true rfl, Nat.le_of_ble_eq_true rfl⟩ ?_
  refine W.eq (g2 := F0 m 9 ls [.int (p0 ^^^ 1), .ref h0]) (by rfl) ?_
  refine rr_putF (D := DG E) (ci := 7) (v := .int (p0 ^^^ 1)) (ty := .int) (C := RX7) (T := TX7) (N := 14) hx hb hts iw_X7 tyX7 tyX7_ok nmX7 hown hK.1 hr0 hS (Or.inl rfl) rfl 0 (by decide) (hts _ fl_X7_13) (fun _ h9 => h9) rfl hin rfl (by decide +kernel) rfl rfl (Nat.le_of_ble_eq_true rfl) dX7_init_9 (fun H locs hn ho hz hS => ?_)
  have hr_1 : va_at (DG E) vwCl (h0, .inr (7, [.int (p0 ^^^ 1), .null, .null, .int 0, .int 0, .int 0, .null, .int 0, .int 0, .int 0, .int 0, .int 0, .int 0, .int 0])) H := hn
  have hsz : H.size = sz + 0 := hz.trans hsz
  refine lv_aload_n hx hb dX7_init_12 rfl (lv_at hl 0 rfl) ?_
  refine lv_aload_n hx hb dX7_init_13 rfl (lv_at hl 2 rfl) ?_
  refine rr_putF (D := DG E) (ci := 7) (v := .ref a0) (ty := .object "RemoteReach$Node") (C := RX7) (T := TX7) (N := 14) hx hb hts iw_X7 tyX7 tyX7_ok nmX7 hown hK.1 hr_1 hS (Or.inl rfl) rfl 1 (by decide) (hts _ fl_X7_19) (fun _ h9 => h9) rfl hin rfl (by decide +kernel) rfl rfl (Nat.le_of_ble_eq_true rfl) dX7_init_14 (fun H locs hn ho hz hS => ?_)
  have hr_2 : va_at (DG E) vwCl (h0, .inr (7, [.int (p0 ^^^ 1), .ref a0, .null, .int 0, .int 0, .int 0, .null, .int 0, .int 0, .int 0, .int 0, .int 0, .int 0, .int 0])) H := hn
  have hsz : H.size = sz + 0 := hz.trans hsz
  refine lv_aload_n hx hb dX7_init_17 rfl (lv_at hl 0 rfl) ?_
  refine lv_aload_n hx hb dX7_init_18 rfl (lv_at hl 3 rfl) ?_
  refine rr_putF (D := DG E) (ci := 7) (v := .ref a1) (ty := .object "RemoteReach$Fabric") (C := RX7) (T := TX7) (N := 14) hx hb hts iw_X7 tyX7 tyX7_ok nmX7 hown hK.1 hr_2 hS (Or.inl rfl) rfl 2 (by decide) (hts _ fl_X7_23) (fun _ h9 => h9) rfl hin rfl (by decide +kernel) rfl rfl (Nat.le_of_ble_eq_true rfl) dX7_init_19 (fun H locs hn ho hz hS => ?_)
  have hr_3 : va_at (DG E) vwCl (h0, .inr (7, [.int (p0 ^^^ 1), .ref a0, .ref a1, .int 0, .int 0, .int 0, .null, .int 0, .int 0, .int 0, .int 0, .int 0, .int 0, .int 0])) H := hn
  have hsz : H.size = sz + 0 := hz.trans hsz
  refine lv_aload_n hx hb dX7_init_22 rfl (lv_at hl 0 rfl) ?_
  refine lv_iload hx hb dX7_init_23 (lv_at hl 4 rfl) ?_
  refine rr_putF (D := DG E) (ci := 7) (v := .int p1) (ty := .int) (C := RX7) (T := TX7) (N := 14) hx hb hts iw_X7 tyX7 tyX7_ok nmX7 hown hK.1 hr_3 hS (Or.inl rfl) rfl 3 (by decide) (hts _ fl_X7_27) (fun _ h9 => h9) rfl hin rfl (by decide +kernel) rfl rfl (Nat.le_of_ble_eq_true rfl) dX7_init_25 (fun H locs hn ho hz hS => ?_)
  have hr_4 : va_at (DG E) vwCl (h0, .inr (7, [.int (p0 ^^^ 1), .ref a0, .ref a1, .int p1, .int 0, .int 0, .null, .int 0, .int 0, .int 0, .int 0, .int 0, .int 0, .int 0])) H := hn
  have hsz : H.size = sz + 0 := hz.trans hsz
  refine lv_aload_n hx hb dX7_init_28 rfl (lv_at hl 0 rfl) ?_
  refine lv_iload hx hb dX7_init_29 (lv_at hl 5 rfl) ?_
  refine rr_putF (D := DG E) (ci := 7) (v := .int p2) (ty := .int) (C := RX7) (T := TX7) (N := 14) hx hb hts iw_X7 tyX7 tyX7_ok nmX7 hown hK.1 hr_4 hS (Or.inl rfl) rfl 4 (by decide) (hts _ fl_X7_30) (fun _ h9 => h9) rfl hin rfl (by decide +kernel) rfl rfl (Nat.le_of_ble_eq_true rfl) dX7_init_31 (fun H locs hn ho hz hS => ?_)
  have hr_5 : va_at (DG E) vwCl (h0, .inr (7, [.int (p0 ^^^ 1), .ref a0, .ref a1, .int p1, .int p2, .int 0, .null, .int 0, .int 0, .int 0, .int 0, .int 0, .int 0, .int 0])) H := hn
  have hsz : H.size = sz + 0 := hz.trans hsz
  refine lv_aload_n hx hb dX7_init_34 rfl (lv_at hl 0 rfl) ?_
  refine lv_iload hx hb dX7_init_35 (lv_at hl 6 rfl) ?_
  refine rr_putF (D := DG E) (ci := 7) (v := .int p3) (ty := .int) (C := RX7) (T := TX7) (N := 14) hx hb hts iw_X7 tyX7 tyX7_ok nmX7 hown hK.1 hr_5 hS (Or.inl rfl) rfl 5 (by decide) (hts _ fl_X7_33) (fun _ h9 => h9) rfl hin rfl (by decide +kernel) rfl rfl (Nat.le_of_ble_eq_true rfl) dX7_init_37 (fun H locs hn ho hz hS => ?_)
  have hr_6 : va_at (DG E) vwCl (h0, .inr (7, [.int (p0 ^^^ 1), .ref a0, .ref a1, .int p1, .int p2, .int p3, .null, .int 0, .int 0, .int 0, .int 0, .int 0, .int 0, .int 0])) H := hn
  have hsz : H.size = sz + 0 := hz.trans hsz
  refine lv_aload_n hx hb dX7_init_40 rfl (lv_at hl 0 rfl) ?_
  refine rr_new (ci := 5) (fs := [.int 0, .null, .null, .int 0, .int 0, .int 0]) (C := RX5) (T := TX5) (N := 6) hx hb hts iw_X5 tyX5 tyX5_ok hown (hts _ cl_X7_36) (hts _ ia_X5) (hts _ in_X5) hK.1 hS rfl (fun j hj => by rcases (show j = 0 ∨ j = 1 ∨ j = 2 ∨ j = 3 ∨ j = 4 ∨ j = 5 by omega) with rfl | rfl | rfl | rfl | rfl | rfl <;> rfl) (Nat.le_of_ble_eq_true rfl) (Nat.le_of_ble_eq_true rfl) dX7_init_41 (fun q_7 H hq hat hz ho hS => ?_)
  obtain rfl : sz + 0 = q_7 := (hq.trans hsz).symm
  have hr_6 := hr_6.kept (ho _ hr_6.lt)
  have hsz : H.size = sz + 1 := by rw [hz, hsz]
  have hr_8 := hat
  refine lv_dup hx hb dX7_init_44 rfl ?_
  refine lv_iload_n hx hb dX7_init_45 rfl (lv_at hl 1 rfl) ?_
  refine lv_aload_n hx hb dX7_init_46 rfl (lv_at hl 2 rfl) ?_
  refine va_callv (rnI (fun H => H.size = sz + 1 ∧ va_at (DG E) vwCl ((sz + 0), .inr (5, [.int 0, .null, .null, .int 0, .int 0, .int 0])) H) (As := [.int p0, .ref a0]) (rest := [.ref (sz + 0), .ref h0]) ⟨hx, hb, hml, hown, hts⟩ (e_X5_init l E z0 (sz + 0) (sz + 1) p0 a0 (Nat.le_trans hz1 (Nat.le_add_right sz 0)) (Nat.le_trans hz1 (Nat.le_add_right sz 1)) (Nat.add_lt_add_left (by decide) sz)) (cwI 2 hts (gd1 co_X5_init rfl) rfl rfl rfl (hts _ in_X5) (hts _ ml_X7_38) (hts _ im_X5_init) rfl (by decide +kernel) ⟨Nat.le_of_ble_eq_true rfl, Nat.le_of_ble_eq_true rfl⟩) ⟨hsz, hr_8⟩ (fun U hU hW => hK.go hW hS hAz hU) rfl rfl hl.1 rfl (lv_room (Nat.le_of_ble_eq_true rfl)) dX7_init_47 ⟨Nat.le_of_ble_eq_true rfl, Nat.le_of_ble_eq_true rfl⟩) hS (fun q _ => fun h => h.elim (fun e => by rw [e]; exact (Or.inr (Nat.le_add_right sz 0))) (fun h => Or.inr (Nat.le_trans (Nat.le_add_right sz 1) h))) (fun q => fun h => h.elim (fun e => by rw [e]; exact (Or.inr (Nat.le_add_right sz 0))) (fun h => Or.inr (Nat.le_trans (Nat.le_add_right sz 1) h))) (fun _ t H locs ht hvm hw hB hz hk hS => ?_)
  rw [ht] at hB
  have hr_6 := hr_6.kept (hk _ hr_6.lt (fun h => h.elim (ne_h hlt) (fun h => absurd h (Nat.not_le.mpr (Nat.lt_of_lt_of_le hlt (Nat.le_add_right sz 1))))))
  have hsz : H.size = sz + 6 := hB.1
  have hy_9_0 : va_at (DG E) vwCl ((sz + 0), .inr (5, [.int p0, .ref a0, .ref (sz + 1), .int 0, .int 0, .int 0])) H := hB.2.1
  have hy_9_1 : va_at (DG E) vwCl ((sz + 1), .inl (E.2.2 6, 4, .inr (.inr (.inr (.inr (fun i => some ((sz + 2) + i))))))) H := hB.2.2.1
  have hy_9_2 : va_at (DG E) vwCl ((sz + 2), .inr (4, [.int 0, .int 0, .int 0, .int 0, .int 0, .int 0, .int 0, .int 0, .int 0, .int 0])) H := hB.2.2.2.1
  have hy_9_3 : va_at (DG E) vwCl ((sz + 3), .inr (4, [.int 0, .int 0, .int 0, .int 0, .int 0, .int 0, .int 0, .int 0, .int 0, .int 0])) H := hB.2.2.2.2.1
  have hy_9_4 : va_at (DG E) vwCl ((sz + 4), .inr (4, [.int 0, .int 0, .int 0, .int 0, .int 0, .int 0, .int 0, .int 0, .int 0, .int 0])) H := hB.2.2.2.2.2.1
  have hy_9_5 : va_at (DG E) vwCl ((sz + 5), .inr (4, [.int 0, .int 0, .int 0, .int 0, .int 0, .int 0, .int 0, .int 0, .int 0, .int 0])) H := hB.2.2.2.2.2.2
  refine rr_putF (D := DG E) (ci := 7) (v := .ref (sz + 0)) (ty := .object "RemoteReach$Queue") (C := RX7) (T := TX7) (N := 14) hx hb hts iw_X7 tyX7 tyX7_ok nmX7 hown hK.1 hr_6 hS (Or.inl rfl) rfl 6 (by decide) (hts _ fl_X7_41) (fun _ h9 => h9) rfl hin rfl (by decide +kernel) rfl rfl (Nat.le_of_ble_eq_true rfl) dX7_init_50 (fun H locs hn ho hz hS => ?_)
  have hr_10 : va_at (DG E) vwCl (h0, .inr (7, [.int (p0 ^^^ 1), .ref a0, .ref a1, .int p1, .int p2, .int p3, .ref (sz + 0), .int 0, .int 0, .int 0, .int 0, .int 0, .int 0, .int 0])) H := hn
  have hy_9_0 := hy_9_0.kept (ho _ (ne_h' hlt))
  have hy_9_1 := hy_9_1.kept (ho _ (ne_h' hlt))
  have hy_9_2 := hy_9_2.kept (ho _ (ne_h' hlt))
  have hy_9_3 := hy_9_3.kept (ho _ (ne_h' hlt))
  have hy_9_4 := hy_9_4.kept (ho _ (ne_h' hlt))
  have hy_9_5 := hy_9_5.kept (ho _ (ne_h' hlt))
  have hsz : H.size = sz + 6 := hz.trans hsz
  refine W.widen (k := 6) (n := 50) (Nat.le_of_ble_eq_true rfl) (Nat.le_of_ble_eq_true rfl) ?_
  exact W.vret hx hb hr (fun t ht hW => ⟨⟨(), rfl, trivial, (by rw [ht]; exact hsz), (by show va_at (DG E) vwCl (h0, .inr (7, [.int (p0 ^^^ 1), .ref a0, .ref a1, .int p1, .int p2, .int p3, .ref (sz + 0), .int 0, .int 0, .int 0, .int 0, .int 0, .int 0, .int 0])) t.heap; rw [ht]; exact hr_10), (by show va_at (DG E) vwCl ((sz + 0), .inr (5, [.int p0, .ref a0, .ref (sz + 1), .int 0, .int 0, .int 0])) t.heap; rw [ht]; exact hy_9_0), (by show va_at (DG E) vwCl ((sz + 1), .inl (E.2.2 6, 4, .inr (.inr (.inr (.inr (fun i => some ((sz + 2) + i))))))) t.heap; rw [ht]; exact hy_9_1), (by show va_at (DG E) vwCl ((sz + 2), .inr (4, [.int 0, .int 0, .int 0, .int 0, .int 0, .int 0, .int 0, .int 0, .int 0, .int 0])) t.heap; rw [ht]; exact hy_9_2), (by show va_at (DG E) vwCl ((sz + 3), .inr (4, [.int 0, .int 0, .int 0, .int 0, .int 0, .int 0, .int 0, .int 0, .int 0, .int 0])) t.heap; rw [ht]; exact hy_9_3), (by show va_at (DG E) vwCl ((sz + 4), .inr (4, [.int 0, .int 0, .int 0, .int 0, .int 0, .int 0, .int 0, .int 0, .int 0, .int 0])) t.heap; rw [ht]; exact hy_9_4), (by show va_at (DG E) vwCl ((sz + 5), .inr (4, [.int 0, .int 0, .int 0, .int 0, .int 0, .int 0, .int 0, .int 0, .int 0, .int 0])) t.heap; rw [ht]; exact hy_9_5)⟩, hS.F ht⟩) hS.2.2 dX7_init_53
set_option maxHeartbeats 16000000 in
set_option maxRecDepth 100000 in
theorem e_X3_init (l : Launch) (E : EE) (z0 h0 sz : Nat) (a0 : Nat) (a1 : Nat) (hz0 : z0 ≤ h0) (hz1 : z0 ≤ sz) (hlt : h0 < sz) : Met l yX3_init [Cond.code yX3_init cX3_init 3 none] ({ frames := 1, cells := 0, slots := 0, locals := 20 } : Room) (va_Pc [.ref h0, .ref a0, .ref a1] (fun U => (U.heap.size = sz ∧ va_at (DG E) vwCl (h0, .inr (3, [.null, .null, .int 0])) U.heap) ∧ KS E z0 U)) (va_Qv (fun (_ : Unit) => True) (fun _ t => t.heap.size = sz + 0 ∧ va_at (DG E) vwCl (h0, .inr (3, [.ref a0, .ref a1, .int 0])) t.heap) (AC h0 sz)) 0 0 (AC h0 sz) := by
  refine Met.ofW (cc := cX3_init) (maxL := 3) (ret := none) (by decide) rfl ?_
  intro p e s m args below meth c s₁ B hml hv
  obtain ⟨rfl, ⟨hsz, hr0⟩, hK⟩ := hv
  have hx := B.exec
  have hb := B.bytes
  have hr := B.returns
  have hts : ∀ w ∈ TS, w.before ([.ref h0, .ref a0, .ref a1] : List Value).toArray s = true := fun w hw => hK.2.1 w hw _
  have hown : s.vm.findClass RX3 = some m.cls := findClass_of_methodNamed B.named
  have hlocks := B.notSynchronized
  have hin : meth.name = "<init>" := (name_of_methodNamed B.named B.method).1
  have hS : va_S (AC h0 sz) s.heap s.heap [] := va_S.rf
  have hAz : ∀ q, AC h0 sz q → z0 ≤ q := fun q h => h.elim (fun e => by omega) (fun e => by omega)
  obtain ⟨H, eH⟩ : ∃ H, H = s.heap := ⟨_, rfl⟩
  rw [← eH] at hr0 hsz
  have hS : va_S (AC h0 sz) s.heap H [] := by rw [eH]; exact hS
  rw [← eH]
  have hsz : H.size = sz + 0 := hsz
  have hl := lv_entry ([.ref h0, .ref a0, .ref a1]) (n := 3) (Nat.le_of_ble_eq_true rfl)
  rw [lg_entry_eq]
  generalize (lg_sl ([.ref h0, .ref a0, .ref a1]) ++ List.replicate (3 - (lg_sl ([.ref h0, .ref a0, .ref a1])).length) Slot.unset).toArray = ls at hl ⊢
  have hl : lv_has ls 3 [(0, .ref h0), (1, .ref a0), (2, .ref a1)] := hl
  refine lv_aload_n hx hb dX3_init_0 rfl (lv_at hl 0 rfl) ?_
  refine W.objInit hx hb hown (hts _ ml_X3_3) (hts _ im_Object__init_) (hts _ co_Object__init_) rfl (by rw [hml]; exact hl.1) rfl dX3_init_1 (Nat.le_of_ble_eq_true rfl) (Nat.le_of_ble_eq_true rfl) ?_
  refine W.eq (g2 := F0 m 4 ls []) rfl ?_
  refine lv_aload_n hx hb dX3_init_4 rfl (lv_at hl 0 rfl) ?_
  refine lv_aload_n hx hb dX3_init_5 rfl (lv_at hl 1 rfl) ?_
  refine rr_putF (D := DG E) (ci := 3) (v := .ref a0) (ty := .object "RemoteReach$Requester") (C := RX3) (T := TX3) (N := 3) hx hb hts iw_X3 tyX3 tyX3_ok nmX3 hown hK.1 hr0 hS (Or.inl rfl) rfl 0 (by decide) (hts _ fl_X3_9) (fun _ h9 => h9) rfl hin rfl (by decide +kernel) rfl rfl (Nat.le_of_ble_eq_true rfl) dX3_init_6 (fun H locs hn ho hz hS => ?_)
  have hr_1 : va_at (DG E) vwCl (h0, .inr (3, [.ref a0, .null, .int 0])) H := hn
  have hsz : H.size = sz + 0 := hz.trans hsz
  refine lv_aload_n hx hb dX3_init_9 rfl (lv_at hl 0 rfl) ?_
  refine lv_aload_n hx hb dX3_init_10 rfl (lv_at hl 2 rfl) ?_
  refine rr_putF (D := DG E) (ci := 3) (v := .ref a1) (ty := .object "RemoteReach$Responder") (C := RX3) (T := TX3) (N := 3) hx hb hts iw_X3 tyX3 tyX3_ok nmX3 hown hK.1 hr_1 hS (Or.inl rfl) rfl 1 (by decide) (hts _ fl_X3_15) (fun _ h9 => h9) rfl hin rfl (by decide +kernel) rfl rfl (Nat.le_of_ble_eq_true rfl) dX3_init_11 (fun H locs hn ho hz hS => ?_)
  have hr_2 : va_at (DG E) vwCl (h0, .inr (3, [.ref a0, .ref a1, .int 0])) H := hn
  have hsz : H.size = sz + 0 := hz.trans hsz
  refine W.widen (k := 0) (n := 0) (Nat.le_of_ble_eq_true rfl) (Nat.le_of_ble_eq_true rfl) ?_
  exact W.vret hx hb hr (fun t ht hW => ⟨⟨(), rfl, trivial, (by rw [ht]; exact hsz), (by show va_at (DG E) vwCl (h0, .inr (3, [.ref a0, .ref a1, .int 0])) t.heap; rw [ht]; exact hr_2)⟩, hS.F ht⟩) hS.2.2 dX3_init_14
set_option maxHeartbeats 4000000 in
set_option maxRecDepth 100000 in
theorem e_X8_forgetAdds (l : Launch) (E : EE) (z0 h0 : Nat) (pe : Int32) (nd fa rc an ar : Nat) (hz1 : z0 ≤ an) (hz2 : z0 ≤ ar) (n1 : h0 ≠ an) (n2 : h0 ≠ ar) (n3 : an ≠ ar) (n9 : Nat) : Met l yX8_forgetAdds [Cond.code yX8_forgetAdds cX8_forgetAdds 2 none] ({ frames := 0, cells := 0, slots := 0, locals := 0 } : Room) (va_Pc [.ref h0] (fun U => (U.heap.size = n9 ∧ va_at (DG E) vwCl (h0, .inr (8, [.int pe, .ref nd, .ref fa, .ref rc, .int 0, .int 0, .int 0, .ref an, .ref ar])) U.heap ∧ va_at (DG E) vwCl (an, .inl (E.2.2 0, 2, .inl (fun _ => 0))) U.heap ∧ va_at (DG E) vwCl (ar, .inl (E.2.2 0, 2, .inl (fun _ => 0))) U.heap) ∧ KS E z0 U)) (va_Qv (fun (_ : Unit) => True) (fun _ t => t.heap.size = n9 ∧ va_at (DG E) vwCl (an, .inl (E.2.2 0, 2, .inl (fun _ => -1))) t.heap ∧ va_at (DG E) vwCl (ar, .inl (E.2.2 0, 2, .inl (fun _ => 0))) t.heap) (fun q : Nat => q = an ∨ q = ar)) 0 0 (fun q : Nat => q = an ∨ q = ar) := by
  refine Met.ofW (cc := cX8_forgetAdds) (maxL := 2) (ret := none) (by decide) rfl ?_
  intro p e s m args below meth c s₁ B hml hv
  obtain ⟨rfl, ⟨hsz, hr0, hra, hrb⟩, hK⟩ := hv
  have hx := B.exec
  have hb := B.bytes
  have hr := B.returns
  have hts : ∀ w ∈ TS, w.before ([.ref h0] : List Value).toArray s = true := fun w hw => hK.2.1 w hw _
  have hown : s.vm.findClass RX8 = some m.cls := findClass_of_methodNamed B.named
  have hlocks := B.notSynchronized
  have hS : va_S (fun q : Nat => q = an ∨ q = ar) s.heap s.heap [] := va_S.rf
  have hl := lv_entry ([.ref h0]) (n := 2) (Nat.le_of_ble_eq_true rfl)
  rw [lg_entry_eq]
  generalize (lg_sl ([.ref h0]) ++ List.replicate (2 - (lg_sl ([.ref h0])).length) Slot.unset).toArray = ls at hl ⊢
  have hl : lv_has ls 2 [(0, .ref h0)] := hl
  refine lv_iconst (v := 0) hx hb dX8_forgetAdds_0 (by decide) ?_
  refine lv_istore_n (lv' := [(1, .int 0), (0, .ref h0)]) hx hb dX8_forgetAdds_1 rfl hl (by decide) rfl (fun ls hl => ?_)
  refine lv_iload_n hx hb dX8_forgetAdds_2 rfl (lv_at hl 0 rfl) ?_
  refine lv_iconst (v := 2) hx hb dX8_forgetAdds_3 (by decide) ?_
  refine lv_icmp_ge (tgt := 27) hx hb dX8_forgetAdds_4 (by decide) (fun c_1 => absurd c_1 (by decide)) (fun c_1 => ?_)
  refine lv_aload_n hx hb dX8_forgetAdds_7 rfl (lv_at hl 1 rfl) ?_
  refine va_get (D := DG E) (ci := 8) (v := .ref an) (C := RX8) (T := TX8) (N := 9) hx hb hts iw_X8 hown hK.1 (va_one hr0) 0 rfl rfl 7 (by decide) (hts _ fl_X8_9) (fun _ h9 => h9) rfl dX8_forgetAdds_8 ?_
  refine lv_iload_n hx hb dX8_forgetAdds_11 rfl (lv_at hl 0 rfl) ?_
  refine lv_iconst (v := (-1)) hx hb dX8_forgetAdds_12 (by decide) ?_
  refine rr_iast (D := DG E) hx hb hK.1 0 hra hS (Or.inl rfl) rfl (show vp_in (0) 2 from vp_in_iff.mpr ⟨by decide, by decide⟩) dX8_forgetAdds_13 (fun H locs hn ho hz hS => ?_)
  have hr_2 : va_at (DG E) vwCl (an, .inl (E.2.2 0, 2, .inl (upd (fun _ => 0) (0 : Int32).toNatClampNeg (-1)))) H := hn
  have hr0 := hr0.kept (ho _ n1)
  have hrb := hrb.kept (ho _ (Ne.symm n3))
  have hsz : H.size = n9 := hz.trans hsz
  refine lv_aload_n hx hb dX8_forgetAdds_14 rfl (lv_at hl 1 rfl) ?_
  refine va_get (D := DG E) (ci := 8) (v := .ref ar) (C := RX8) (T := TX8) (N := 9) hx hb hts iw_X8 hown hK.1 (va_one hr0) 0 rfl rfl 8 (by decide) (hts _ fl_X8_15) (fun _ h9 => h9) rfl dX8_forgetAdds_15 ?_
  refine lv_iload_n hx hb dX8_forgetAdds_18 rfl (lv_at hl 0 rfl) ?_
  refine lv_iconst (v := 0) hx hb dX8_forgetAdds_19 (by decide) ?_
  refine rr_iast (D := DG E) hx hb hK.1 0 hrb hS (Or.inr rfl) rfl (show vp_in (0) 2 from vp_in_iff.mpr ⟨by decide, by decide⟩) dX8_forgetAdds_20 (fun H locs hn ho hz hS => ?_)
  have hr_3 : va_at (DG E) vwCl (ar, .inl (E.2.2 0, 2, .inl (upd (fun _ => 0) (0 : Int32).toNatClampNeg 0))) H := hn
  have hr0 := hr0.kept (ho _ n2)
  have hr_2 := hr_2.kept (ho _ n3)
  have hsz : H.size = n9 := hz.trans hsz
  refine lv_iinc (v := 1) (lv' := [(1, .int 1), (0, .ref h0)]) hx hb dX8_forgetAdds_21 hl (k := 0) rfl (by decide) (by decide) rfl (fun ls hl => ?_)
  refine lv_goto (tgt := 2) hx hb dX8_forgetAdds_24 (by decide) ?_
  refine lv_iload_n hx hb dX8_forgetAdds_2 rfl (lv_at hl 0 rfl) ?_
  refine lv_iconst (v := 2) hx hb dX8_forgetAdds_3 (by decide) ?_
  refine lv_icmp_ge (tgt := 27) hx hb dX8_forgetAdds_4 (by decide) (fun c_4 => absurd c_4 (by decide)) (fun c_4 => ?_)
  refine lv_aload_n hx hb dX8_forgetAdds_7 rfl (lv_at hl 1 rfl) ?_
  refine va_get (D := DG E) (ci := 8) (v := .ref an) (C := RX8) (T := TX8) (N := 9) hx hb hts iw_X8 hown hK.1 (va_one hr0) 0 rfl rfl 7 (by decide) (hts _ fl_X8_9) (fun _ h9 => h9) rfl dX8_forgetAdds_8 ?_
  refine lv_iload_n hx hb dX8_forgetAdds_11 rfl (lv_at hl 0 rfl) ?_
  refine lv_iconst (v := (-1)) hx hb dX8_forgetAdds_12 (by decide) ?_
  refine rr_iast (D := DG E) hx hb hK.1 0 hr_2 hS (Or.inl rfl) rfl (show vp_in (1) 2 from vp_in_iff.mpr ⟨by decide, by decide⟩) dX8_forgetAdds_13 (fun H locs hn ho hz hS => ?_)
  have hr_5 : va_at (DG E) vwCl (an, .inl (E.2.2 0, 2, .inl (upd (upd (fun _ => 0) (0 : Int32).toNatClampNeg (-1)) (1 : Int32).toNatClampNeg (-1)))) H := hn
  have hr0 := hr0.kept (ho _ n1)
  have hr_3 := hr_3.kept (ho _ (Ne.symm n3))
  have hsz : H.size = n9 := hz.trans hsz
  refine lv_aload_n hx hb dX8_forgetAdds_14 rfl (lv_at hl 1 rfl) ?_
  refine va_get (D := DG E) (ci := 8) (v := .ref ar) (C := RX8) (T := TX8) (N := 9) hx hb hts iw_X8 hown hK.1 (va_one hr0) 0 rfl rfl 8 (by decide) (hts _ fl_X8_15) (fun _ h9 => h9) rfl dX8_forgetAdds_15 ?_
  refine lv_iload_n hx hb dX8_forgetAdds_18 rfl (lv_at hl 0 rfl) ?_
  refine lv_iconst (v := 0) hx hb dX8_forgetAdds_19 (by decide) ?_
  refine rr_iast (D := DG E) hx hb hK.1 0 hr_3 hS (Or.inr rfl) rfl (show vp_in (1) 2 from vp_in_iff.mpr ⟨by decide, by decide⟩) dX8_forgetAdds_20 (fun H locs hn ho hz hS => ?_)
  have hr_6 : va_at (DG E) vwCl (ar, .inl (E.2.2 0, 2, .inl (upd (upd (fun _ => 0) (0 : Int32).toNatClampNeg 0) (1 : Int32).toNatClampNeg 0))) H := hn
  have hr0 := hr0.kept (ho _ n2)
  have hr_5 := hr_5.kept (ho _ n3)
  have hsz : H.size = n9 := hz.trans hsz
  refine lv_iinc (v := 2) (lv' := [(1, .int 2), (0, .ref h0)]) hx hb dX8_forgetAdds_21 hl (k := 0) rfl (by decide) (by decide) rfl (fun ls hl => ?_)
  refine lv_goto (tgt := 2) hx hb dX8_forgetAdds_24 (by decide) ?_
  refine lv_iload_n hx hb dX8_forgetAdds_2 rfl (lv_at hl 0 rfl) ?_
  refine lv_iconst (v := 2) hx hb dX8_forgetAdds_3 (by decide) ?_
  refine lv_icmp_ge (tgt := 27) hx hb dX8_forgetAdds_4 (by decide) (fun c_7 => ?_) (fun c_7 => absurd c_7 (by decide))
  exact W.vret hx hb hr (fun t ht hW => ⟨⟨(), rfl, trivial, (by rw [ht]; exact hsz), (by rw [ht]; exact arr_cgi hr_5 (fun i hi => by rcases (show i = 0 ∨ i = 1 by omega) with rfl | rfl <;> rfl)), (by rw [ht]; exact arr_cgi hr_6 (fun i hi => by rcases (show i = 0 ∨ i = 1 by omega) with rfl | rfl <;> rfl))⟩, hS.F ht⟩) hS.2.2 dX8_forgetAdds_27
set_option maxHeartbeats 16000000 in
set_option maxRecDepth 100000 in
theorem e_X8_init (l : Launch) (E : EE) (z0 h0 sz : Nat) (p0 : Int32) (a0 : Nat) (a1 : Nat) (hz0 : z0 ≤ h0) (hz1 : z0 ≤ sz) (hlt : h0 < sz) : Met l yX8_init [Cond.code yX8_init cX8_init 4 none] ({ frames := 3, cells := 8, slots := 54, locals := 63 } : Room) (va_Pc [.ref h0, .int p0, .ref a0, .ref a1] (fun U => (U.heap.size = sz ∧ va_at (DG E) vwCl (h0, .inr (8, [.int 0, .null, .null, .null, .int 0, .int 0, .int 0, .null, .null])) U.heap) ∧ KS E z0 U)) (va_Qv (fun (_ : Unit) => True) (fun _ t => t.heap.size = sz + 8 ∧ va_at (DG E) vwCl (h0, .inr (8, [.int (p0 ^^^ 1), .ref a0, .ref a1, .ref (sz + 2), .int 0, .int 0, .int 0, .ref (sz + 0), .ref (sz + 1)])) t.heap ∧ va_at (DG E) vwCl ((sz + 0), .inl (E.2.2 0, 2, .inl (fun _ => -1))) t.heap ∧ va_at (DG E) vwCl ((sz + 1), .inl (E.2.2 0, 2, .inl (fun _ => 0))) t.heap ∧ va_at (DG E) vwCl ((sz + 2), .inr (5, [.int p0, .ref a0, .ref (sz + 3), .int 0, .int 0, .int 0])) t.heap ∧ va_at (DG E) vwCl ((sz + 3), .inl (E.2.2 6, 4, .inr (.inr (.inr (.inr (fun i => some ((sz + 4) + i))))))) t.heap ∧ va_at (DG E) vwCl ((sz + 4), .inr (4, [.int 0, .int 0, .int 0, .int 0, .int 0, .int 0, .int 0, .int 0, .int 0, .int 0])) t.heap ∧ va_at (DG E) vwCl ((sz + 5), .inr (4, [.int 0, .int 0, .int 0, .int 0, .int 0, .int 0, .int 0, .int 0, .int 0, .int 0])) t.heap ∧ va_at (DG E) vwCl ((sz + 6), .inr (4, [.int 0, .int 0, .int 0, .int 0, .int 0, .int 0, .int 0, .int 0, .int 0, .int 0])) t.heap ∧ va_at (DG E) vwCl ((sz + 7), .inr (4, [.int 0, .int 0, .int 0, .int 0, .int 0, .int 0, .int 0, .int 0, .int 0, .int 0])) t.heap) (AC h0 sz)) 8 54 (AC h0 sz) := by
  refine Met.ofW (cc := cX8_init) (maxL := 4) (ret := none) (by decide) rfl ?_
  intro p e s m args below meth c s₁ B hml hv
  obtain ⟨rfl, ⟨hsz, hr0⟩, hK⟩ := hv
  have hx := B.exec
  have hb := B.bytes
  have hr := B.returns
  have hts : ∀ w ∈ TS, w.before ([.ref h0, .int p0, .ref a0, .ref a1] : List Value).toArray s = true := fun w hw => hK.2.1 w hw _
  have hown : s.vm.findClass RX8 = some m.cls := findClass_of_methodNamed B.named
  have hlocks := B.notSynchronized
  have hin : meth.name = "<init>" := (name_of_methodNamed B.named B.method).1
  have hS : va_S (AC h0 sz) s.heap s.heap [] := va_S.rf
  have hAz : ∀ q, AC h0 sz q → z0 ≤ q := fun q h => h.elim (fun e => by omega) (fun e => by omega)
  obtain ⟨H, eH⟩ : ∃ H, H = s.heap := ⟨_, rfl⟩
  rw [← eH] at hr0 hsz
  have hS : va_S (AC h0 sz) s.heap H [] := by rw [eH]; exact hS
  rw [← eH]
  have hsz : H.size = sz + 0 := hsz
  have hl := lv_entry ([.ref h0, .int p0, .ref a0, .ref a1]) (n := 4) (Nat.le_of_ble_eq_true rfl)
  rw [lg_entry_eq]
  generalize (lg_sl ([.ref h0, .int p0, .ref a0, .ref a1]) ++ List.replicate (4 - (lg_sl ([.ref h0, .int p0, .ref a0, .ref a1])).length) Slot.unset).toArray = ls at hl ⊢
  have hl : lv_has ls 4 [(0, .ref h0), (1, .int p0), (2, .ref a0), (3, .ref a1)] := hl
  refine lv_aload_n hx hb dX8_init_0 rfl (lv_at hl 0 rfl) ?_
  refine W.objInit hx hb hown (hts _ ml_X8_3) (hts _ im_Object__init_) (hts _ co_Object__init_) rfl (by rw [hml]; exact hl.1) rfl dX8_init_1 (Nat.le_of_ble_eq_true rfl) (Nat.le_of_ble_eq_true rfl) ?_
  refine W.eq (g2 := F0 m 4 ls []) rfl ?_
  refine lv_aload_n hx hb dX8_init_4 rfl (lv_at hl 0 rfl) ?_
  refine lv_iconst (v := 2) hx hb dX8_init_5 (by decide) ?_
  refine rr_newa (D := DG E) (atype := .int) (N' := 2) (a0 := (2, .inl (fun _ => 0))) hx hb (hts _ ac_int) hK.1 0 rfl hS rfl (by decide) (by decide) (by decide) (Nat.le_of_ble_eq_true rfl) (Nat.le_of_ble_eq_true rfl) dX8_init_6 (fun q_1 H hq hat hz ho hS => ?_)
  obtain rfl : sz + 0 = q_1 := (hq.trans hsz).symm
  have hr0 := hr0.kept (ho _ hr0.lt)
  have hsz : H.size = sz + 1 := by rw [hz, hsz]
  have hr_2 := hat
  refine rr_putF (D := DG E) (ci := 8) (v := .ref (sz + 0)) (ty := .array .int) (C := RX8) (T := TX8) (N := 9) hx hb hts iw_X8 tyX8 tyX8_ok nmX8 hown hK.1 hr0 hS (Or.inl rfl) rfl 7 (by decide) (hts _ fl_X8_9) (fun _ h9 => h9) rfl hin rfl (by decide +kernel) rfl rfl (Nat.le_of_ble_eq_true rfl) dX8_init_8 (fun H locs hn ho hz hS => ?_)
  have hr_3 : va_at (DG E) vwCl (h0, .inr (8, [.int 0, .null, .null, .null, .int 0, .int 0, .int 0, .ref (sz + 0), .null])) H := hn
  have hr_2 := hr_2.kept (ho _ (ne_h' hlt))
  have hsz : H.size = sz + 1 := hz.trans hsz
  refine lv_aload_n hx hb dX8_init_11 rfl (lv_at hl 0 rfl) ?_
  refine lv_iconst (v := 2) hx hb dX8_init_12 (by decide) ?_
  refine rr_newa (D := DG E) (atype := .int) (N' := 2) (a0 := (2, .inl (fun _ => 0))) hx hb (hts _ ac_int) hK.1 0 rfl hS rfl (by decide) (by decide) (by decide) (Nat.le_of_ble_eq_true rfl) (Nat.le_of_ble_eq_true rfl) dX8_init_13 (fun q_4 H hq hat hz ho hS => ?_)
  obtain rfl : sz + 1 = q_4 := (hq.trans hsz).symm
  have hr_3 := hr_3.kept (ho _ hr_3.lt)
  have hr_2 := hr_2.kept (ho _ hr_2.lt)
  have hsz : H.size = sz + 2 := by rw [hz, hsz]
  have hr_5 := hat
  refine rr_putF (D := DG E) (ci := 8) (v := .ref (sz + 1)) (ty := .array .int) (C := RX8) (T := TX8) (N := 9) hx hb hts iw_X8 tyX8 tyX8_ok nmX8 hown hK.1 hr_3 hS (Or.inl rfl) rfl 8 (by decide) (hts _ fl_X8_15) (fun _ h9 => h9) rfl hin rfl (by decide +kernel) rfl rfl (Nat.le_of_ble_eq_true rfl) dX8_init_15 (fun H locs hn ho hz hS => ?_)
  have hr_6 : va_at (DG E) vwCl (h0, .inr (8, [.int 0, .null, .null, .null, .int 0, .int 0, .int 0, .ref (sz + 0), .ref (sz + 1)])) H := hn
  have hr_2 := hr_2.kept (ho _ (ne_h' hlt))
  have hr_5 := hr_5.kept (ho _ (ne_h' hlt))
  have hsz : H.size = sz + 2 := hz.trans hsz
  refine lv_aload_n hx hb dX8_init_18 rfl (lv_at hl 0 rfl) ?_
  refine lv_iload_n hx hb dX8_init_19 rfl (lv_at hl 1 rfl) ?_
  refine rnSN (As := [.int p0]) (rest := [.ref h0]) ⟨hx, hb, hml, hown, hts⟩ (c_X9_peerOf l p0) ⟨va_cnB (host := RX9) 1 hts (gd1 co_X9_peerOf rfl) rfl rfl rfl (hK.2.1 _ mn_X8_18 #[]) (hts _ in_X9) (by decide +kernel) ⟨Nat.le_of_ble_eq_true rfl, Nat.le_of_ble_eq_true rfl⟩, hts _ st_X9_peerOf, trivial⟩ rfl rfl hl.1 rfl (lv_room (Nat.le_of_ble_eq_true rfl)) dX8_init_20 ⟨Nat.le_of_ble_eq_true rfl, Nat.le_of_ble_eq_true rfl⟩ ?_
  refine W.eq (g2 := F0 m 23 ls [.int (p0 ^^^ 1), .ref h0]) (by rfl) ?_
  refine rr_putF (D := DG E) (ci := 8) (v := .int (p0 ^^^ 1)) (ty := .int) (C := RX8) (T := TX8) (N := 9) hx hb hts iw_X8 tyX8 tyX8_ok nmX8 hown hK.1 hr_6 hS (Or.inl rfl) rfl 0 (by decide) (hts _ fl_X8_22) (fun _ h9 => h9) rfl hin rfl (by decide +kernel) rfl rfl (Nat.le_of_ble_eq_true rfl) dX8_init_23 (fun H locs hn ho hz hS => ?_)
  have hr_7 : va_at (DG E) vwCl (h0, .inr (8, [.int (p0 ^^^ 1), .null, .null, .null, .int 0, .int 0, .int 0, .ref (sz + 0), .ref (sz + 1)])) H := hn
  have hr_2 := hr_2.kept (ho _ (ne_h' hlt))
  have hr_5 := hr_5.kept (ho _ (ne_h' hlt))
  have hsz : H.size = sz + 2 := hz.trans hsz
  refine lv_aload_n hx hb dX8_init_26 rfl (lv_at hl 0 rfl) ?_
  refine lv_aload_n hx hb dX8_init_27 rfl (lv_at hl 2 rfl) ?_
  refine rr_putF (D := DG E) (ci := 8) (v := .ref a0) (ty := .object "RemoteReach$Node") (C := RX8) (T := TX8) (N := 9) hx hb hts iw_X8 tyX8 tyX8_ok nmX8 hown hK.1 hr_7 hS (Or.inl rfl) rfl 1 (by decide) (hts _ fl_X8_26) (fun _ h9 => h9) rfl hin rfl (by decide +kernel) rfl rfl (Nat.le_of_ble_eq_true rfl) dX8_init_28 (fun H locs hn ho hz hS => ?_)
  have hr_8 : va_at (DG E) vwCl (h0, .inr (8, [.int (p0 ^^^ 1), .ref a0, .null, .null, .int 0, .int 0, .int 0, .ref (sz + 0), .ref (sz + 1)])) H := hn
  have hr_2 := hr_2.kept (ho _ (ne_h' hlt))
  have hr_5 := hr_5.kept (ho _ (ne_h' hlt))
  have hsz : H.size = sz + 2 := hz.trans hsz
  refine lv_aload_n hx hb dX8_init_31 rfl (lv_at hl 0 rfl) ?_
  refine lv_aload_n hx hb dX8_init_32 rfl (lv_at hl 3 rfl) ?_
  refine rr_putF (D := DG E) (ci := 8) (v := .ref a1) (ty := .object "RemoteReach$Fabric") (C := RX8) (T := TX8) (N := 9) hx hb hts iw_X8 tyX8 tyX8_ok nmX8 hown hK.1 hr_8 hS (Or.inl rfl) rfl 2 (by decide) (hts _ fl_X8_30) (fun _ h9 => h9) rfl hin rfl (by decide +kernel) rfl rfl (Nat.le_of_ble_eq_true rfl) dX8_init_33 (fun H locs hn ho hz hS => ?_)
  have hr_9 : va_at (DG E) vwCl (h0, .inr (8, [.int (p0 ^^^ 1), .ref a0, .ref a1, .null, .int 0, .int 0, .int 0, .ref (sz + 0), .ref (sz + 1)])) H := hn
  have hr_2 := hr_2.kept (ho _ (ne_h' hlt))
  have hr_5 := hr_5.kept (ho _ (ne_h' hlt))
  have hsz : H.size = sz + 2 := hz.trans hsz
  refine lv_aload_n hx hb dX8_init_36 rfl (lv_at hl 0 rfl) ?_
  refine rr_new (ci := 5) (fs := [.int 0, .null, .null, .int 0, .int 0, .int 0]) (C := RX5) (T := TX5) (N := 6) hx hb hts iw_X5 tyX5 tyX5_ok hown (hts _ cl_X8_34) (hts _ ia_X5) (hts _ in_X5) hK.1 hS rfl (fun j hj => by rcases (show j = 0 ∨ j = 1 ∨ j = 2 ∨ j = 3 ∨ j = 4 ∨ j = 5 by omega) with rfl | rfl | rfl | rfl | rfl | rfl <;> rfl) (Nat.le_of_ble_eq_true rfl) (Nat.le_of_ble_eq_true rfl) dX8_init_37 (fun q_10 H hq hat hz ho hS => ?_)
  obtain rfl : sz + 2 = q_10 := (hq.trans hsz).symm
  have hr_9 := hr_9.kept (ho _ hr_9.lt)
  have hr_2 := hr_2.kept (ho _ hr_2.lt)
  have hr_5 := hr_5.kept (ho _ hr_5.lt)
  have hsz : H.size = sz + 3 := by rw [hz, hsz]
  have hr_11 := hat
  refine lv_dup hx hb dX8_init_40 rfl ?_
  refine lv_iload_n hx hb dX8_init_41 rfl (lv_at hl 1 rfl) ?_
  refine lv_aload_n hx hb dX8_init_42 rfl (lv_at hl 2 rfl) ?_
  refine va_callv (rnI (fun H => H.size = sz + 3 ∧ va_at (DG E) vwCl ((sz + 2), .inr (5, [.int 0, .null, .null, .int 0, .int 0, .int 0])) H) (As := [.int p0, .ref a0]) (rest := [.ref (sz + 2), .ref h0]) ⟨hx, hb, hml, hown, hts⟩ (e_X5_init l E z0 (sz + 2) (sz + 3) p0 a0 (Nat.le_trans hz1 (Nat.le_add_right sz 2)) (Nat.le_trans hz1 (Nat.le_add_right sz 3)) (Nat.add_lt_add_left (by decide) sz)) (cwI 2 hts (gd1 co_X5_init rfl) rfl rfl rfl (hts _ in_X5) (hts _ ml_X8_36) (hts _ im_X5_init) rfl (by decide +kernel) ⟨Nat.le_of_ble_eq_true rfl, Nat.le_of_ble_eq_true rfl⟩) ⟨hsz, hr_11⟩ (fun U hU hW => hK.go hW hS hAz hU) rfl rfl hl.1 rfl (lv_room (Nat.le_of_ble_eq_true rfl)) dX8_init_43 ⟨Nat.le_of_ble_eq_true rfl, Nat.le_of_ble_eq_true rfl⟩) hS (fun q _ => fun h => h.elim (fun e => by rw [e]; exact (Or.inr (Nat.le_add_right sz 2))) (fun h => Or.inr (Nat.le_trans (Nat.le_add_right sz 3) h))) (fun q => fun h => h.elim (fun e => by rw [e]; exact (Or.inr (Nat.le_add_right sz 2))) (fun h => Or.inr (Nat.le_trans (Nat.le_add_right sz 3) h))) (fun _ t H locs ht hvm hw hB hz hk hS => ?_)
  rw [ht] at hB
  have hr_9 := hr_9.kept (hk _ hr_9.lt (fun h => h.elim (ne_h hlt) (fun h => absurd h (Nat.not_le.mpr (Nat.lt_of_lt_of_le hlt (Nat.le_add_right sz 3))))))
  have hr_2 := hr_2.kept (hk _ hr_2.lt (fun h => h.elim (ne_o (by decide)) (fun h => absurd h (Nat.not_le.mpr (Nat.add_lt_add_left (by decide) sz)))))
  have hr_5 := hr_5.kept (hk _ hr_5.lt (fun h => h.elim (ne_o (by decide)) (fun h => absurd h (Nat.not_le.mpr (Nat.add_lt_add_left (by decide) sz)))))
  have hsz : H.size = sz + 8 := hB.1
  have hy_12_0 : va_at (DG E) vwCl ((sz + 2), .inr (5, [.int p0, .ref a0, .ref (sz + 3), .int 0, .int 0, .int 0])) H := hB.2.1
  have hy_12_1 : va_at (DG E) vwCl ((sz + 3), .inl (E.2.2 6, 4, .inr (.inr (.inr (.inr (fun i => some ((sz + 4) + i))))))) H := hB.2.2.1
  have hy_12_2 : va_at (DG E) vwCl ((sz + 4), .inr (4, [.int 0, .int 0, .int 0, .int 0, .int 0, .int 0, .int 0, .int 0, .int 0, .int 0])) H := hB.2.2.2.1
  have hy_12_3 : va_at (DG E) vwCl ((sz + 5), .inr (4, [.int 0, .int 0, .int 0, .int 0, .int 0, .int 0, .int 0, .int 0, .int 0, .int 0])) H := hB.2.2.2.2.1
  have hy_12_4 : va_at (DG E) vwCl ((sz + 6), .inr (4, [.int 0, .int 0, .int 0, .int 0, .int 0, .int 0, .int 0, .int 0, .int 0, .int 0])) H := hB.2.2.2.2.2.1
  have hy_12_5 : va_at (DG E) vwCl ((sz + 7), .inr (4, [.int 0, .int 0, .int 0, .int 0, .int 0, .int 0, .int 0, .int 0, .int 0, .int 0])) H := hB.2.2.2.2.2.2
  refine rr_putF (D := DG E) (ci := 8) (v := .ref (sz + 2)) (ty := .object "RemoteReach$Queue") (C := RX8) (T := TX8) (N := 9) hx hb hts iw_X8 tyX8 tyX8_ok nmX8 hown hK.1 hr_9 hS (Or.inl rfl) rfl 3 (by decide) (hts _ fl_X8_39) (fun _ h9 => h9) rfl hin rfl (by decide +kernel) rfl rfl (Nat.le_of_ble_eq_true rfl) dX8_init_46 (fun H locs hn ho hz hS => ?_)
  have hr_13 : va_at (DG E) vwCl (h0, .inr (8, [.int (p0 ^^^ 1), .ref a0, .ref a1, .ref (sz + 2), .int 0, .int 0, .int 0, .ref (sz + 0), .ref (sz + 1)])) H := hn
  have hr_2 := hr_2.kept (ho _ (ne_h' hlt))
  have hr_5 := hr_5.kept (ho _ (ne_h' hlt))
  have hy_12_0 := hy_12_0.kept (ho _ (ne_h' hlt))
  have hy_12_1 := hy_12_1.kept (ho _ (ne_h' hlt))
  have hy_12_2 := hy_12_2.kept (ho _ (ne_h' hlt))
  have hy_12_3 := hy_12_3.kept (ho _ (ne_h' hlt))
  have hy_12_4 := hy_12_4.kept (ho _ (ne_h' hlt))
  have hy_12_5 := hy_12_5.kept (ho _ (ne_h' hlt))
  have hsz : H.size = sz + 8 := hz.trans hsz
  refine lv_aload_n hx hb dX8_init_49 rfl (lv_at hl 0 rfl) ?_
  refine va_callv (rnV (fun H => H.size = sz + 8 ∧ va_at (DG E) vwCl (h0, .inr (8, [.int (p0 ^^^ 1), .ref a0, .ref a1, .ref (sz + 2), .int 0, .int 0, .int 0, .ref (sz + 0), .ref (sz + 1)])) H ∧ va_at (DG E) vwCl ((sz + 0), .inl (E.2.2 0, 2, .inl (fun _ => 0))) H ∧ va_at (DG E) vwCl ((sz + 1), .inl (E.2.2 0, 2, .inl (fun _ => 0))) H) (As := []) (rest := []) ⟨hx, hb, hml, hown, hts⟩ (e_X8_forgetAdds l E z0 h0 (p0 ^^^ 1) a0 a1 (sz + 2) (sz + 0) (sz + 1) (by omega) (by omega) (ne_h hlt) (ne_h hlt) (ne_o (by decide)) (sz + 8)) (cwV 0 hts (gdV ml_X8_43 im_X8_forgetAdds se_X8_X8_forgetAdds in_X8 co_X8_forgetAdds rfl) rfl rfl rfl (by decide +kernel) ⟨Nat.le_of_ble_eq_true rfl, Nat.le_of_ble_eq_true rfl⟩) ⟨hsz, hr_13, hr_2, hr_5⟩ (fun U hU hW => hK.go hW hS hAz hU) (va_recv hK.1 (va_one hr_13) (ci := 8) (q0 := 0) rfl rfl) rfl rfl hl.1 rfl (lv_room (Nat.le_of_ble_eq_true rfl)) dX8_init_50 ⟨Nat.le_of_ble_eq_true rfl, Nat.le_of_ble_eq_true rfl⟩) hS (fun q _ h => h.elim (fun e => by rw [e]; exact (Or.inr (Nat.le_add_right sz 0))) (fun e => by rw [e]; exact (Or.inr (Nat.le_add_right sz 1)))) (fun q h => h.elim (fun e => by rw [e]; exact (Or.inr (Nat.le_add_right sz 0))) (fun e => by rw [e]; exact (Or.inr (Nat.le_add_right sz 1)))) (fun _ t H locs ht hvm hw hB hz hk hS => ?_)
  rw [ht] at hB
  obtain ⟨hsz, ha1, hb1⟩ := hB
  have hr_13 := hr_13.kept (hk _ hr_13.lt (fun q => q.elim (ne_h hlt) (ne_h hlt)))
  have hy_12_0 := hy_12_0.kept (hk _ hy_12_0.lt (fun q => q.elim (ne_o (by decide)) (ne_o (by decide))))
  have hy_12_1 := hy_12_1.kept (hk _ hy_12_1.lt (fun q => q.elim (ne_o (by decide)) (ne_o (by decide))))
  have hy_12_2 := hy_12_2.kept (hk _ hy_12_2.lt (fun q => q.elim (ne_o (by decide)) (ne_o (by decide))))
  have hy_12_3 := hy_12_3.kept (hk _ hy_12_3.lt (fun q => q.elim (ne_o (by decide)) (ne_o (by decide))))
  have hy_12_4 := hy_12_4.kept (hk _ hy_12_4.lt (fun q => q.elim (ne_o (by decide)) (ne_o (by decide))))
  have hy_12_5 := hy_12_5.kept (hk _ hy_12_5.lt (fun q => q.elim (ne_o (by decide)) (ne_o (by decide))))
  refine W.widen (k := 8) (n := 54) (Nat.le_of_ble_eq_true rfl) (Nat.le_of_ble_eq_true rfl) ?_
  exact W.vret hx hb hr (fun t ht hW => ⟨⟨(), rfl, trivial, (by rw [ht]; exact hsz), (by show va_at (DG E) vwCl (h0, .inr (8, [.int (p0 ^^^ 1), .ref a0, .ref a1, .ref (sz + 2), .int 0, .int 0, .int 0, .ref (sz + 0), .ref (sz + 1)])) t.heap; rw [ht]; exact hr_13), (by show va_at (DG E) vwCl ((sz + 0), .inl (E.2.2 0, 2, .inl (fun _ => -1))) t.heap; rw [ht]; exact ha1), (by show va_at (DG E) vwCl ((sz + 1), .inl (E.2.2 0, 2, .inl (fun _ => 0))) t.heap; rw [ht]; exact hb1), (by show va_at (DG E) vwCl ((sz + 2), .inr (5, [.int p0, .ref a0, .ref (sz + 3), .int 0, .int 0, .int 0])) t.heap; rw [ht]; exact hy_12_0), (by show va_at (DG E) vwCl ((sz + 3), .inl (E.2.2 6, 4, .inr (.inr (.inr (.inr (fun i => some ((sz + 4) + i))))))) t.heap; rw [ht]; exact hy_12_1), (by show va_at (DG E) vwCl ((sz + 4), .inr (4, [.int 0, .int 0, .int 0, .int 0, .int 0, .int 0, .int 0, .int 0, .int 0, .int 0])) t.heap; rw [ht]; exact hy_12_2), (by show va_at (DG E) vwCl ((sz + 5), .inr (4, [.int 0, .int 0, .int 0, .int 0, .int 0, .int 0, .int 0, .int 0, .int 0, .int 0])) t.heap; rw [ht]; exact hy_12_3), (by show va_at (DG E) vwCl ((sz + 6), .inr (4, [.int 0, .int 0, .int 0, .int 0, .int 0, .int 0, .int 0, .int 0, .int 0, .int 0])) t.heap; rw [ht]; exact hy_12_4), (by show va_at (DG E) vwCl ((sz + 7), .inr (4, [.int 0, .int 0, .int 0, .int 0, .int 0, .int 0, .int 0, .int 0, .int 0, .int 0])) t.heap; rw [ht]; exact hy_12_5)⟩, hS.F ht⟩) hS.2.2 dX8_init_53
set_option maxHeartbeats 16000000 in
set_option maxRecDepth 100000 in
theorem e_X0_init (l : Launch) (E : EE) (z0 h0 sz : Nat)  (hz0 : z0 ≤ h0) (hz1 : z0 ≤ sz) (hlt : h0 < sz) : Met l yX0_init [Cond.code yX0_init cX0_init 2 none] ({ frames := 2, cells := 53, slots := 336, locals := 40 } : Room) (va_Pc [.ref h0] (fun U => (U.heap.size = sz ∧ va_at (DG E) vwCl (h0, .inr (0, [.null, .int 0, .null, .null])) U.heap) ∧ KS E z0 U)) (va_Qv (fun (_ : Unit) => True) (fun _ t => t.heap.size = sz + 53 ∧ va_at (DG E) vwCl (h0, .inr (0, [.ref (sz + 0), .int 0, .ref (sz + 1), .ref (sz + 3)])) t.heap ∧ va_at (DG E) vwCl ((sz + 0), .inl (E.2.2 7, 24, .inr (.inr (.inr (.inr (fun i => some ((sz + 5) + 2 * i))))))) t.heap ∧ PKB E (sz + 1) 26 t.heap) (AC h0 sz)) 53 336 (AC h0 sz) := by
  refine Met.ofW (cc := cX0_init) (maxL := 2) (ret := none) (by decide) rfl ?_
  intro p e s m args below meth c s₁ B hml hv
  obtain ⟨rfl, ⟨hsz, hr0⟩, hK⟩ := hv
  have hx := B.exec
  have hb := B.bytes
  have hr := B.returns
  have hts : ∀ w ∈ TS, w.before ([.ref h0] : List Value).toArray s = true := fun w hw => hK.2.1 w hw _
  have hown : s.vm.findClass RX0 = some m.cls := findClass_of_methodNamed B.named
  have hlocks := B.notSynchronized
  have hin : meth.name = "<init>" := (name_of_methodNamed B.named B.method).1
  have hS : va_S (AC h0 sz) s.heap s.heap [] := va_S.rf
  have hAz : ∀ q, AC h0 sz q → z0 ≤ q := fun q h => h.elim (fun e => by omega) (fun e => by omega)
  obtain ⟨H, eH⟩ : ∃ H, H = s.heap := ⟨_, rfl⟩
  rw [← eH] at hr0 hsz
  have hS : va_S (AC h0 sz) s.heap H [] := by rw [eH]; exact hS
  rw [← eH]
  have hsz : H.size = sz + 0 := hsz
  have hl := lv_entry ([.ref h0]) (n := 2) (Nat.le_of_ble_eq_true rfl)
  rw [lg_entry_eq]
  generalize (lg_sl ([.ref h0]) ++ List.replicate (2 - (lg_sl ([.ref h0])).length) Slot.unset).toArray = ls at hl ⊢
  have hl : lv_has ls 2 [(0, .ref h0)] := hl
  refine lv_aload_n hx hb dX0_init_0 rfl (lv_at hl 0 rfl) ?_
  refine W.objInit hx hb hown (hts _ ml_X0_3) (hts _ im_Object__init_) (hts _ co_Object__init_) rfl (by rw [hml]; exact hl.1) rfl dX0_init_1 (Nat.le_of_ble_eq_true rfl) (Nat.le_of_ble_eq_true rfl) ?_
  refine W.eq (g2 := F0 m 4 ls []) rfl ?_
  refine lv_aload_n hx hb dX0_init_4 rfl (lv_at hl 0 rfl) ?_
  refine lv_bipush (v := 24) hx hb dX0_init_5 (by decide) ?_
  refine rr_newq (D := DG E) (N' := 24) hx hb hown (hts _ cl_X0_9) (hts _ ao_X2) hK.1 7 rfl hS (by decide) (by decide) (by decide) (Nat.le_of_ble_eq_true rfl) (Nat.le_of_ble_eq_true rfl) dX0_init_7 (fun q_1 H hq hat hz ho hS => ?_)
  obtain rfl : sz + 0 = q_1 := (hq.trans hsz).symm
  have hr0 := hr0.kept (ho _ hr0.lt)
  have hsz : H.size = sz + 1 := by rw [hz, hsz]
  have hr_2 := hat
  refine rr_putF (D := DG E) (ci := 0) (v := .ref (sz + 0)) (ty := .array (.object "RemoteReach$Packet")) (C := RX0) (T := TX0) (N := 4) hx hb hts iw_X0 tyX0 tyX0_ok nmX0 hown hK.1 hr0 hS (Or.inl rfl) rfl 0 (by decide) (hts _ fl_X0_11) (fun _ h9 => h9) rfl hin rfl (by decide +kernel) rfl rfl (Nat.le_of_ble_eq_true rfl) dX0_init_10 (fun H locs hn ho hz hS => ?_)
  have hr_3 : va_at (DG E) vwCl (h0, .inr (0, [.ref (sz + 0), .int 0, .null, .null])) H := hn
  have hr_2 := hr_2.kept (ho _ (ne_h' hlt))
  have hsz : H.size = sz + 1 := hz.trans hsz
  refine lv_aload_n hx hb dX0_init_13 rfl (lv_at hl 0 rfl) ?_
  refine rr_new (ci := 2) (fs := [.int 0, .int 0, .int 0, .int 0, .int 0, .int 0, .int 0, .null]) (C := RX2) (T := TX2) (N := 8) hx hb hts iw_X2 tyX2 tyX2_ok hown (hts _ cl_X0_9) (hts _ ia_X2) (hts _ in_X2) hK.1 hS rfl (fun j hj => by rcases (show j = 0 ∨ j = 1 ∨ j = 2 ∨ j = 3 ∨ j = 4 ∨ j = 5 ∨ j = 6 ∨ j = 7 by omega) with rfl | rfl | rfl | rfl | rfl | rfl | rfl | rfl <;> rfl) (Nat.le_of_ble_eq_true rfl) (Nat.le_of_ble_eq_true rfl) dX0_init_14 (fun q_4 H hq hat hz ho hS => ?_)
  obtain rfl : sz + 1 = q_4 := (hq.trans hsz).symm
  have hr_3 := hr_3.kept (ho _ hr_3.lt)
  have hr_2 := hr_2.kept (ho _ hr_2.lt)
  have hsz : H.size = sz + 2 := by rw [hz, hsz]
  have hr_5 := hat
  refine lv_dup hx hb dX0_init_17 rfl ?_
  refine va_callv (rnIN (fun H => H.size = sz + 2 ∧ va_at (DG E) vwCl ((sz + 1), .inr (2, [.int 0, .int 0, .int 0, .int 0, .int 0, .int 0, .int 0, .null])) H) (As := []) (rest := [.ref (sz + 1), .ref h0]) ⟨hx, hb, hml, hown, hts⟩ (e_X2_init l E z0 (sz + 1) (sz + 2)  (Nat.le_trans hz1 (Nat.le_add_right sz 1)) (Nat.le_trans hz1 (Nat.le_add_right sz 2)) (Nat.add_lt_add_left (by decide) sz)) ⟨va_cnB (host := RX9) 0 hts (gd1 co_X2_init rfl) rfl rfl rfl (hK.2.1 _ mn_X0_17 #[]) (hts _ in_X2) (by decide +kernel) ⟨Nat.le_of_ble_eq_true rfl, Nat.le_of_ble_eq_true rfl⟩, rfl, hts _ im_X2_init⟩ ⟨hsz, hr_5⟩ (fun U hU hW => hK.go hW hS hAz hU) rfl rfl hl.1 rfl (lv_room (Nat.le_of_ble_eq_true rfl)) dX0_init_18 ⟨Nat.le_of_ble_eq_true rfl, Nat.le_of_ble_eq_true rfl⟩) hS (fun q _ => fun h => h.elim (fun e => by rw [e]; exact (Or.inr (Nat.le_add_right sz 1))) (fun h => Or.inr (Nat.le_trans (Nat.le_add_right sz 2) h))) (fun q => fun h => h.elim (fun e => by rw [e]; exact (Or.inr (Nat.le_add_right sz 1))) (fun h => Or.inr (Nat.le_trans (Nat.le_add_right sz 2) h))) (fun _ t H locs ht hvm hw hB hz hk hS => ?_)
  rw [ht] at hB
  have hr_3 := hr_3.kept (hk _ hr_3.lt (fun h => h.elim (ne_h hlt) (fun h => absurd h (Nat.not_le.mpr (Nat.lt_of_lt_of_le hlt (Nat.le_add_right sz 2))))))
  have hr_2 := hr_2.kept (hk _ hr_2.lt (fun h => h.elim (ne_o (by decide)) (fun h => absurd h (Nat.not_le.mpr (Nat.add_lt_add_left (by decide) sz)))))
  have hsz : H.size = sz + 3 := hB.1
  have hy_6_0 : va_at (DG E) vwCl ((sz + 1), .inr (2, [.int 0, .int 0, .int 0, .int 0, .int 0, .int 0, .int 0, .ref (sz + 2)])) H := hB.2.1
  have hy_6_1 : va_at (DG E) vwCl ((sz + 2), .inl (E.2.2 0, 4, .inl (fun _ => 0))) H := hB.2.2
  refine rr_put (D := DG E) (ci := 0) (v := .ref (sz + 1)) (ty := .object "RemoteReach$Packet") (C := RX0) (T := TX0) (N := 4) hx hb hts iw_X0 tyX0 tyX0_ok nmX0 hown hK.1 hr_3 hS (Or.inl rfl) rfl 2 (by decide) (hts _ fl_X0_18) (fun _ h9 => h9) rfl (by decide +kernel) rfl rfl (Nat.le_of_ble_eq_true rfl) dX0_init_21 (fun H locs hn ho hz hS => ?_)
  have hr_7 : va_at (DG E) vwCl (h0, .inr (0, [.ref (sz + 0), .int 0, .ref (sz + 1), .null])) H := hn
  have hr_2 := hr_2.kept (ho _ (ne_h' hlt))
  have hy_6_0 := hy_6_0.kept (ho _ (ne_h' hlt))
  have hy_6_1 := hy_6_1.kept (ho _ (ne_h' hlt))
  have hsz : H.size = sz + 3 := hz.trans hsz
  refine lv_aload_n hx hb dX0_init_24 rfl (lv_at hl 0 rfl) ?_
  refine rr_new (ci := 2) (fs := [.int 0, .int 0, .int 0, .int 0, .int 0, .int 0, .int 0, .null]) (C := RX2) (T := TX2) (N := 8) hx hb hts iw_X2 tyX2 tyX2_ok hown (hts _ cl_X0_9) (hts _ ia_X2) (hts _ in_X2) hK.1 hS rfl (fun j hj => by rcases (show j = 0 ∨ j = 1 ∨ j = 2 ∨ j = 3 ∨ j = 4 ∨ j = 5 ∨ j = 6 ∨ j = 7 by omega) with rfl | rfl | rfl | rfl | rfl | rfl | rfl | rfl <;> rfl) (Nat.le_of_ble_eq_true rfl) (Nat.le_of_ble_eq_true rfl) dX0_init_25 (fun q_8 H hq hat hz ho hS => ?_)
  obtain rfl : sz + 3 = q_8 := (hq.trans hsz).symm
  have hr_7 := hr_7.kept (ho _ hr_7.lt)
  have hr_2 := hr_2.kept (ho _ hr_2.lt)
  have hy_6_0 := hy_6_0.kept (ho _ hy_6_0.lt)
  have hy_6_1 := hy_6_1.kept (ho _ hy_6_1.lt)
  have hsz : H.size = sz + 4 := by rw [hz, hsz]
  have hr_9 := hat
  refine lv_dup hx hb dX0_init_28 rfl ?_
  refine va_callv (rnIN (fun H => H.size = sz + 4 ∧ va_at (DG E) vwCl ((sz + 3), .inr (2, [.int 0, .int 0, .int 0, .int 0, .int 0, .int 0, .int 0, .null])) H) (As := []) (rest := [.ref (sz + 3), .ref h0]) ⟨hx, hb, hml, hown, hts⟩ (e_X2_init l E z0 (sz + 3) (sz + 4)  (Nat.le_trans hz1 (Nat.le_add_right sz 3)) (Nat.le_trans hz1 (Nat.le_add_right sz 4)) (Nat.add_lt_add_left (by decide) sz)) ⟨va_cnB (host := RX9) 0 hts (gd1 co_X2_init rfl) rfl rfl rfl (hK.2.1 _ mn_X0_17 #[]) (hts _ in_X2) (by decide +kernel) ⟨Nat.le_of_ble_eq_true rfl, Nat.le_of_ble_eq_true rfl⟩, rfl, hts _ im_X2_init⟩ ⟨hsz, hr_9⟩ (fun U hU hW => hK.go hW hS hAz hU) rfl rfl hl.1 rfl (lv_room (Nat.le_of_ble_eq_true rfl)) dX0_init_29 ⟨Nat.le_of_ble_eq_true rfl, Nat.le_of_ble_eq_true rfl⟩) hS (fun q _ => fun h => h.elim (fun e => by rw [e]; exact (Or.inr (Nat.le_add_right sz 3))) (fun h => Or.inr (Nat.le_trans (Nat.le_add_right sz 4) h))) (fun q => fun h => h.elim (fun e => by rw [e]; exact (Or.inr (Nat.le_add_right sz 3))) (fun h => Or.inr (Nat.le_trans (Nat.le_add_right sz 4) h))) (fun _ t H locs ht hvm hw hB hz hk hS => ?_)
  rw [ht] at hB
  have hr_7 := hr_7.kept (hk _ hr_7.lt (fun h => h.elim (ne_h hlt) (fun h => absurd h (Nat.not_le.mpr (Nat.lt_of_lt_of_le hlt (Nat.le_add_right sz 4))))))
  have hr_2 := hr_2.kept (hk _ hr_2.lt (fun h => h.elim (ne_o (by decide)) (fun h => absurd h (Nat.not_le.mpr (Nat.add_lt_add_left (by decide) sz)))))
  have hy_6_0 := hy_6_0.kept (hk _ hy_6_0.lt (fun h => h.elim (ne_o (by decide)) (fun h => absurd h (Nat.not_le.mpr (Nat.add_lt_add_left (by decide) sz)))))
  have hy_6_1 := hy_6_1.kept (hk _ hy_6_1.lt (fun h => h.elim (ne_o (by decide)) (fun h => absurd h (Nat.not_le.mpr (Nat.add_lt_add_left (by decide) sz)))))
  have hsz : H.size = sz + 5 := hB.1
  have hy_10_0 : va_at (DG E) vwCl ((sz + 3), .inr (2, [.int 0, .int 0, .int 0, .int 0, .int 0, .int 0, .int 0, .ref (sz + 4)])) H := hB.2.1
  have hy_10_1 : va_at (DG E) vwCl ((sz + 4), .inl (E.2.2 0, 4, .inl (fun _ => 0))) H := hB.2.2
  refine rr_putF (D := DG E) (ci := 0) (v := .ref (sz + 3)) (ty := .object "RemoteReach$Packet") (C := RX0) (T := TX0) (N := 4) hx hb hts iw_X0 tyX0 tyX0_ok nmX0 hown hK.1 hr_7 hS (Or.inl rfl) rfl 3 (by decide) (hts _ fl_X0_22) (fun _ h9 => h9) rfl hin rfl (by decide +kernel) rfl rfl (Nat.le_of_ble_eq_true rfl) dX0_init_32 (fun H locs hn ho hz hS => ?_)
  have hr_11 : va_at (DG E) vwCl (h0, .inr (0, [.ref (sz + 0), .int 0, .ref (sz + 1), .ref (sz + 3)])) H := hn
  have hr_2 := hr_2.kept (ho _ (ne_h' hlt))
  have hy_6_0 := hy_6_0.kept (ho _ (ne_h' hlt))
  have hy_6_1 := hy_6_1.kept (ho _ (ne_h' hlt))
  have hy_10_0 := hy_10_0.kept (ho _ (ne_h' hlt))
  have hy_10_1 := hy_10_1.kept (ho _ (ne_h' hlt))
  have hsz : H.size = sz + 5 := hz.trans hsz
  refine lv_iconst (v := 0) hx hb dX0_init_35 (by decide) ?_
  refine lv_istore_n (lv' := [(1, .int 0), (0, .ref h0)]) hx hb dX0_init_36 rfl hl (by decide) rfl (fun ls hl => ?_)
  have hPK : PKB E (sz + 1) 2 H := fun p hp => by rcases (show p = 0 ∨ p = 1 by omega) with rfl | rfl; (exact ⟨hy_6_0, hy_6_1⟩); (exact ⟨hy_10_0, hy_10_1⟩)
  refine lp_k (fun n H locs ls C S => ∃ (i : Nat) (f : Nat → Option Nat), i ≤ 24 ∧ 24 - i = n ∧ C = 5 + 2 * i ∧ S = 48 + 12 * i ∧ H.size = sz + 5 + 2 * i ∧ va_at (DG E) vwCl (h0, .inr (0, [.ref (sz + 0), .int 0, .ref (sz + 1), .ref (sz + 3)])) H ∧ va_at (DG E) vwCl (sz + 0, .inl (E.2.2 7, 24, .inr (.inr (.inr (.inr f))))) H ∧ (∀ j, j < i → f j = some (sz + 5 + 2 * j)) ∧ PKB E (sz + 1) (2 + i) H ∧ va_S (AC h0 sz) s.heap H locs ∧ lv_has ls 2 [(1, .int (nI i)), (0, .ref h0)]) (fun n H locs ls C S ih hI => ?_) ⟨0, _, by omega, rfl, rfl, rfl, hsz, hr_11, hr_2, fun j hj => absurd hj (by omega), hPK, hS, hl⟩
  obtain ⟨i, f, hi, hn, rfl, rfl, hsz, hr9, hrr, hfi, hPK, hS, hl⟩ := hI
  have hiI : (nI i).toInt = (i : Int) := nI_toInt (by omega)
  refine lv_iload_n hx hb dX0_init_37 rfl (lv_at hl 0 rfl) ?_
  refine lv_bipush (v := 24) hx hb dX0_init_38 (by decide) ?_
  refine lv_icmp_ge (tgt := 62) hx hb dX0_init_40 (by decide) (fun c1 => ?_) (fun c1 => ?_)
  · simp only [le_I, hiI, i_24] at c1
    obtain rfl : i = 24 := by omega
    have hsz : H.size = sz + 53 := hsz
    have hrr := arr_cg (g := fun i => some ((sz + 5) + 2 * i)) hrr hfi
    refine W.widen (k := 53) (n := 336) (Nat.le_of_ble_eq_true rfl) (Nat.le_of_ble_eq_true rfl) ?_
    exact W.vret hx hb hr (fun t ht hW => ⟨⟨(), rfl, trivial, (by rw [ht]; exact hsz), (by show va_at (DG E) vwCl (h0, .inr (0, [.ref (sz + 0), .int 0, .ref (sz + 1), .ref (sz + 3)])) t.heap; rw [ht]; exact hr9), (by show va_at (DG E) vwCl ((sz + 0), .inl (E.2.2 7, 24, .inr (.inr (.inr (.inr (fun i => some ((sz + 5) + 2 * i))))))) t.heap; rw [ht]; exact hrr), (by show PKB E (sz + 1) 26 t.heap; rw [ht]; exact hPK)⟩, hS.F ht⟩) hS.2.2 dX0_init_62
  · simp only [le_I, hiI, i_24] at c1
    have hi24 : i < 24 := by omega
    refine lv_aload_n hx hb dX0_init_43 rfl (lv_at hl 1 rfl) ?_
    refine va_get (D := DG E) (ci := 0) (v := .ref (sz + 0)) (C := RX0) (T := TX0) (N := 4) hx hb hts iw_X0 hown hK.1 (va_one hr9) 0 rfl rfl 0 (by decide) (hts _ fl_X0_11) (fun _ h9 => h9) rfl dX0_init_44 ?_
    refine lv_iload_n hx hb dX0_init_47 rfl (lv_at hl 0 rfl) ?_
    refine rr_new (ci := 2) (fs := [.int 0, .int 0, .int 0, .int 0, .int 0, .int 0, .int 0, .null]) (C := RX2) (T := TX2) (N := 8) hx hb hts iw_X2 tyX2 tyX2_ok hown (hts _ cl_X0_9) (hts _ ia_X2) (hts _ in_X2) hK.1 hS rfl (fun j hj => by rcases (show j = 0 ∨ j = 1 ∨ j = 2 ∨ j = 3 ∨ j = 4 ∨ j = 5 ∨ j = 6 ∨ j = 7 by omega) with rfl | rfl | rfl | rfl | rfl | rfl | rfl | rfl <;> rfl) (show 5 + 2 * i + 1 ≤ 53 by omega) (show 48 + 12 * i + 8 ≤ 336 by omega) dX0_init_48 (fun q8 H8 hq hat hz ho hS8 => ?_)
    obtain rfl : sz + 5 + 2 * i = q8 := (hq.trans hsz).symm
    have hr9 := hr9.kept (ho _ hr9.lt)
    have hrr := hrr.kept (ho _ hrr.lt)
    have hPK := hPK.keptS ho
    have hsz8 : H8.size = sz + 6 + 2 * i := by omega
    refine lv_dup hx hb dX0_init_51 rfl ?_
    refine va_callv (rnIN (fun H => H.size = sz + 6 + 2 * i ∧ va_at (DG E) vwCl (sz + 5 + 2 * i, .inr (2, [.int 0, .int 0, .int 0, .int 0, .int 0, .int 0, .int 0, .null])) H) (As := []) (rest := [.ref (sz + 5 + 2 * i), .int (nI i), .ref (sz + 0)]) ⟨hx, hb, hml, hown, hts⟩ (e_X2_init l E z0 (sz + 5 + 2 * i) (sz + 6 + 2 * i) (by omega) (by omega) (by omega)) ⟨va_cnB (host := RX9) 0 hts (gd1 co_X2_init rfl) rfl rfl rfl (hK.2.1 _ mn_X0_17 #[]) (hts _ in_X2) (by decide +kernel) ⟨Nat.le_of_ble_eq_true rfl, Nat.le_of_ble_eq_true rfl⟩, rfl, hts _ im_X2_init⟩ ⟨hsz8, hat⟩ (fun U hU hW => hK.go hW hS8 hAz hU) rfl rfl hl.1 rfl (lv_room (Nat.le_of_ble_eq_true rfl)) dX0_init_52 ⟨(show 5 + 2 * i + 1 + 1 ≤ 53 by omega), (show 48 + 12 * i + 8 + 4 ≤ 336 by omega)⟩) hS8 (fun q _ h => h.elim (fun e => Or.inr (by omega)) (fun h => Or.inr (by omega))) (fun q h => h.elim (fun e => Or.inr (by omega)) (fun h => Or.inr (by omega))) (fun _ t H7 locs ht hvm hw hB hz7 hk hS7 => ?_)
    rw [ht] at hB
    obtain ⟨hsz7, hpk, hcl⟩ := hB
    have hr9 := hr9.kept (hk _ hr9.lt (fun h => h.elim (fun e => by have e : h0 = sz + 5 + 2 * i := e; omega) (fun e => by have e : sz + 6 + 2 * i ≤ h0 := e; omega)))
    have hrr := hrr.kept (hk _ hrr.lt (fun h => h.elim (fun e => by have e : sz + 0 = sz + 5 + 2 * i := e; omega) (fun e => by have e : sz + 6 + 2 * i ≤ sz + 0 := e; omega)))
    have hPK := hPK.keptC hk (by omega) (by omega)
    refine rr_aast (D := DG E) hx hb hK.1 7 2 hrr hS7 (Or.inr (Nat.le_add_right sz 0)) rfl hpk rfl (show vp_in (nI i) 24 from vp_in_nI (by omega) (by omega)) dX0_init_55 (fun H6 locs hn6 ho6 hz6 hS6 => ?_)
    rw [nI_clamp (by omega)] at hn6
    have hr9 := hr9.kept (ho6 _ (ne_h hlt))
    have hPK := hPK.keptW ho6 (by omega)
    have hpk := hpk.kept (ho6 _ (by show sz + 5 + 2 * i ≠ sz + 0; omega))
    have hcl := hcl.kept (ho6 _ (by show sz + 6 + 2 * i + 0 ≠ sz + 0; omega))
    have e1 : sz + 1 + 2 * (2 + i) = sz + 5 + 2 * i := by omega
    have e2 : sz + 1 + 2 * (2 + i) + 1 = sz + 6 + 2 * i + 0 := by omega
    have hPK := hPK.push (by rw [e2, e1]; exact hpk) (by rw [e2]; exact hcl)
    have h7 : (nI i + Int32.ofInt 1) = nI (i + 1) := by
      rw [eq_I, nI_toInt (by omega)]
      have h9 := s_add (x := nI i) (y := 1) (by rw [hiI, i_1]; omega) (by rw [hiI, i_1]; omega)
      rw [hiI, i_1] at h9
      exact h9
    have hf2 : ∀ j, j < i + 1 → va_up f i (some (sz + 5 + 2 * i)) j = some (sz + 5 + 2 * j) := fun j hj => by
      by_cases e : j = i
      · subst e; exact va_up_self _ _ _
      · rw [va_up_ne _ _ e]; exact hfi j (by omega)
    refine lv_iinc (v := nI (i + 1)) (lv' := [(1, .int (nI (i + 1))), (0, .ref h0)]) hx hb dX0_init_56 hl (k := 0) rfl h7 (by decide) rfl (fun ls hl => ?_)
    refine lv_goto (tgt := 37) hx hb dX0_init_59 (by decide) ?_
    exact ih _ (by omega) _ _ _ _ _ ⟨i + 1, _, by omega, rfl, by omega, by omega, by omega, hr9, hn6, hf2, hPK, hS6, hl⟩
set_option maxHeartbeats 4000000 in
set_option maxRecDepth 100000 in
theorem e_X9_within (l : Launch) (E : EE) (z0 n9 : Nat) (p0 p1 p2 : Int32) : Met l yX9_within [Cond.code yX9_within cX9_within 3 (some .int)] ({ frames := 1, cells := 0, slots := 0, locals := 21 } : Room) (va_Pc [.int p0, .int p1, .int p2] (fun U => U.heap.size = n9 ∧ KS E z0 U)) (va_Qi (fun (r : Int32) (_ : Unit) => r = wi p0 p1 p2) (fun _ t => t.heap.size = n9) (fun _ : Nat => False)) 0 0 (fun _ : Nat => False) := by
  refine Met.ofW (cc := cX9_within) (maxL := 3) (ret := (some .int)) (by decide) rfl ?_
  intro p e s m args below meth c s₁ B hml hv
  obtain ⟨rfl, hn9, hK⟩ := hv
  have hx := B.exec
  have hb := B.bytes
  have hr := B.returns
  have hts : ∀ w ∈ TS, w.before ([.int p0, .int p1, .int p2] : List Value).toArray s = true := fun w hw => hK.2.1 w hw _
  have hown : s.vm.findClass RX9 = some m.cls := findClass_of_methodNamed B.named
  have hlocks := B.notSynchronized
  have hS : va_S (fun _ : Nat => False) s.heap s.heap [] := va_S.rf
  have hl := lv_entry ([.int p0, .int p1, .int p2]) (n := 3) (Nat.le_of_ble_eq_true rfl)
  rw [lg_entry_eq]
  generalize (lg_sl ([.int p0, .int p1, .int p2]) ++ List.replicate (3 - (lg_sl ([.int p0, .int p1, .int p2])).length) Slot.unset).toArray = ls at hl ⊢
  have hl : lv_has ls 3 [(0, .int p0), (1, .int p1), (2, .int p2)] := hl
  refine lv_iload_n hx hb dX9_within_0 rfl (lv_at hl 1 rfl) ?_
  refine lv_iload_n hx hb dX9_within_1 rfl (lv_at hl 2 rfl) ?_
  refine lv_iload_n hx hb dX9_within_2 rfl (lv_at hl 0 rfl) ?_
  refine va_mmin hx hb (by rw [hml]; exact hl.1.symm) hown (hts _ ml_X9_194) (hts _ st_Math_min) (hts _ in_Math) (hts _ co_Math_min) (Nat.le_of_ble_eq_true rfl) (Nat.le_of_ble_eq_true rfl) (Nat.zero_le _) (Nat.zero_le _) dX9_within_3 ?_
  refine va_mmax hx hb (by rw [hml]; exact hl.1.symm) hown (hts _ ml_X9_200) (hts _ st_Math_max) (hts _ in_Math) (hts _ co_Math_max) (Nat.le_of_ble_eq_true rfl) (Nat.le_of_ble_eq_true rfl) (Nat.zero_le _) (Nat.zero_le _) dX9_within_6 ?_
  exact W.iret (v := wi p0 p1 p2) hx hb hr (fun t ht hW => ⟨⟨_, (), rfl, rfl, (by show t.heap.size = n9; rw [ht]; exact hn9)⟩, hS.F ht⟩) hS.2.2 dX9_within_9
set_option maxHeartbeats 16000000 in
set_option maxRecDepth 100000 in
theorem e_X9_init (l : Launch) (E : EE) (z0 h0 sz : Nat) (p0 : Int32) (p1 : Int32) (p2 : Int32) (hz0 : z0 ≤ h0) (hz1 : z0 ≤ sz) (hlt : h0 < sz) : Met l yX9_init [Cond.code yX9_init cX9_init 10 none] ({ frames := 4, cells := 144, slots := 1148, locals := 89 } : Room) (va_Pc [.ref h0, .int p0, .int p1, .int p2] (fun U => (U.heap.size = sz ∧ va_at (DG E) vwCl (h0, .inr (9, [.null, .null, .null])) U.heap) ∧ KS E z0 U)) (va_Qv (fun (_ : Unit) => True) (fun _ t => t.heap.size = sz + 144 ∧ va_at (DG E) vwCl (h0, .inr (9, [.ref (sz + 54), .ref (sz + 75), .ref (sz + 0)])) t.heap ∧ TB E sz (wi p0 2 20) (wi p1 0 7) (wi p2 0 7) 144 [] t.heap) (AC h0 sz)) 144 1148 (AC h0 sz) := by
  refine Met.ofW (cc := cX9_init) (maxL := 10) (ret := none) (by decide) rfl ?_
  intro p e s m args below meth c s₁ B hml hv
  obtain ⟨rfl, ⟨hsz, hr0⟩, hK⟩ := hv
  have hx := B.exec
  have hb := B.bytes
  have hr := B.returns
  have hts : ∀ w ∈ TS, w.before ([.ref h0, .int p0, .int p1, .int p2] : List Value).toArray s = true := fun w hw => hK.2.1 w hw _
  have hown : s.vm.findClass RX9 = some m.cls := findClass_of_methodNamed B.named
  have hlocks := B.notSynchronized
  have hin : meth.name = "<init>" := (name_of_methodNamed B.named B.method).1
  have hS : va_S (AC h0 sz) s.heap s.heap [] := va_S.rf
  have hAz : ∀ q, AC h0 sz q → z0 ≤ q := fun q h => h.elim (fun e => by omega) (fun e => by omega)
  obtain ⟨H, eH⟩ : ∃ H, H = s.heap := ⟨_, rfl⟩
  rw [← eH] at hr0 hsz
  have hS : va_S (AC h0 sz) s.heap H [] := by rw [eH]; exact hS
  rw [← eH]
  have hsz : H.size = sz + 0 := hsz
  have hTB : TB E sz (wi p0 2 20) (wi p1 0 7) (wi p2 0 7) 0 [] H := TB.nil
  have hl := lv_entry ([.ref h0, .int p0, .int p1, .int p2]) (n := 10) (Nat.le_of_ble_eq_true rfl)
  rw [lg_entry_eq]
  generalize (lg_sl ([.ref h0, .int p0, .int p1, .int p2]) ++ List.replicate (10 - (lg_sl ([.ref h0, .int p0, .int p1, .int p2])).length) Slot.unset).toArray = ls at hl ⊢
  have hl : lv_has ls 10 [(0, .ref h0), (1, .int p0), (2, .int p1), (3, .int p2)] := hl
  refine lv_aload_n hx hb dX9_init_0 rfl (lv_at hl 0 rfl) ?_
  refine W.objInit hx hb hown (hts _ ml_X9_3) (hts _ im_Object__init_) (hts _ co_Object__init_) rfl (by rw [hml]; exact hl.1) rfl dX9_init_1 (Nat.le_of_ble_eq_true rfl) (Nat.le_of_ble_eq_true rfl) ?_
  refine W.eq (g2 := F0 m 4 ls []) rfl ?_
  refine lv_iload_n hx hb dX9_init_4 rfl (lv_at hl 1 rfl) ?_
  refine lv_iconst (v := 2) hx hb dX9_init_5 (by decide) ?_
  refine lv_bipush (v := 20) hx hb dX9_init_6 (by decide) ?_
  refine va_calli (rnS (fun H => H.size = sz + 0) (As := [.int p0, .int 2, .int 20]) (rest := []) ⟨hx, hb, hml, hown, hts⟩ (e_X9_within l E z0 (sz + 0) p0 2 20) (cwS 3 hts (gdS ml_X9_9 st_X9_within in_X9 co_X9_within rfl) rfl rfl rfl (by decide +kernel) ⟨Nat.le_of_ble_eq_true rfl, Nat.le_of_ble_eq_true rfl⟩) hsz (fun U hU hW => hK.go hW hS hAz hU) rfl rfl hl.1 rfl (lv_room (Nat.le_of_ble_eq_true rfl)) dX9_init_8 ⟨Nat.le_of_ble_eq_true rfl, Nat.le_of_ble_eq_true rfl⟩) hS (fun q _ h => h.elim) (fun q h => h.elim) (fun r_1 _ t H locs ht hvm hw hB hz hk hS => ?_)
  subst hw
  rw [ht] at hB
  have hsz : H.size = sz + 0 := hB
  have hr0 := hr0.kept (hk _ hr0.lt (fun h => h))
  have hTB := hTB.keptN hk
  refine lv_istore (lv' := [(4, .int (wi p0 2 20)), (0, .ref h0), (1, .int p0), (2, .int p1), (3, .int p2)]) hx hb dX9_init_11 hl (by decide) rfl (fun ls hl => ?_)
  refine lv_iload_n hx hb dX9_init_13 rfl (lv_at hl 3 rfl) ?_
  refine lv_iconst (v := 0) hx hb dX9_init_14 (by decide) ?_
  refine lv_bipush (v := 7) hx hb dX9_init_15 (by decide) ?_
  refine va_calli (rnS (fun H => H.size = sz + 0) (As := [.int p1, .int 0, .int 7]) (rest := []) ⟨hx, hb, hml, hown, hts⟩ (e_X9_within l E z0 (sz + 0) p1 0 7) (cwS 3 hts (gdS ml_X9_9 st_X9_within in_X9 co_X9_within rfl) rfl rfl rfl (by decide +kernel) ⟨Nat.le_of_ble_eq_true rfl, Nat.le_of_ble_eq_true rfl⟩) hsz (fun U hU hW => hK.go hW hS hAz hU) rfl rfl hl.1 rfl (lv_room (Nat.le_of_ble_eq_true rfl)) dX9_init_17 ⟨Nat.le_of_ble_eq_true rfl, Nat.le_of_ble_eq_true rfl⟩) hS (fun q _ h => h.elim) (fun q h => h.elim) (fun r_2 _ t H locs ht hvm hw hB hz hk hS => ?_)
  subst hw
  rw [ht] at hB
  have hsz : H.size = sz + 0 := hB
  have hr0 := hr0.kept (hk _ hr0.lt (fun h => h))
  have hTB := hTB.keptN hk
  refine lv_istore (lv' := [(5, .int (wi p1 0 7)), (4, .int (wi p0 2 20)), (0, .ref h0), (1, .int p0), (2, .int p1), (3, .int p2)]) hx hb dX9_init_20 hl (by decide) rfl (fun ls hl => ?_)
  refine lv_iload_n hx hb dX9_init_22 rfl (lv_at hl 5 rfl) ?_
  refine lv_iconst (v := 0) hx hb dX9_init_23 (by decide) ?_
  refine lv_bipush (v := 7) hx hb dX9_init_24 (by decide) ?_
  refine va_calli (rnS (fun H => H.size = sz + 0) (As := [.int p2, .int 0, .int 7]) (rest := []) ⟨hx, hb, hml, hown, hts⟩ (e_X9_within l E z0 (sz + 0) p2 0 7) (cwS 3 hts (gdS ml_X9_9 st_X9_within in_X9 co_X9_within rfl) rfl rfl rfl (by decide +kernel) ⟨Nat.le_of_ble_eq_true rfl, Nat.le_of_ble_eq_true rfl⟩) hsz (fun U hU hW => hK.go hW hS hAz hU) rfl rfl hl.1 rfl (lv_room (Nat.le_of_ble_eq_true rfl)) dX9_init_26 ⟨Nat.le_of_ble_eq_true rfl, Nat.le_of_ble_eq_true rfl⟩) hS (fun q _ h => h.elim) (fun q h => h.elim) (fun r_3 _ t H locs ht hvm hw hB hz hk hS => ?_)
  subst hw
  rw [ht] at hB
  have hsz : H.size = sz + 0 := hB
  have hr0 := hr0.kept (hk _ hr0.lt (fun h => h))
  have hTB := hTB.keptN hk
  refine lv_istore (lv' := [(6, .int (wi p2 0 7)), (5, .int (wi p1 0 7)), (4, .int (wi p0 2 20)), (0, .ref h0), (1, .int p0), (2, .int p1), (3, .int p2)]) hx hb dX9_init_29 hl (by decide) rfl (fun ls hl => ?_)
  refine lv_aload_n hx hb dX9_init_31 rfl (lv_at hl 3 rfl) ?_
  refine rr_new (ci := 0) (fs := [.null, .int 0, .null, .null]) (C := RX0) (T := TX0) (N := 4) hx hb hts iw_X0 tyX0 tyX0_ok hown (hts _ cl_X9_13) (hts _ ia_X0) (hts _ in_X0) hK.1 hS rfl (fun j hj => by rcases (show j = 0 ∨ j = 1 ∨ j = 2 ∨ j = 3 by omega) with rfl | rfl | rfl | rfl <;> rfl) (Nat.le_of_ble_eq_true rfl) (Nat.le_of_ble_eq_true rfl) dX9_init_32 (fun q_4 H hq hat hz ho hS => ?_)
  obtain rfl : sz + 0 = q_4 := (hq.trans hsz).symm
  have hr0 := hr0.kept (ho _ hr0.lt)
  have hTB := hTB.keptS ho
  have hsz : H.size = sz + 1 := by rw [hz, hsz]
  have hr_5 := hat
  refine lv_dup hx hb dX9_init_35 rfl ?_
  refine va_callv (rnI (fun H => H.size = sz + 1 ∧ va_at (DG E) vwCl ((sz + 0), .inr (0, [.null, .int 0, .null, .null])) H) (As := []) (rest := [.ref (sz + 0), .ref h0]) ⟨hx, hb, hml, hown, hts⟩ (e_X0_init l E z0 (sz + 0) (sz + 1)  (Nat.le_trans hz1 (Nat.le_add_right sz 0)) (Nat.le_trans hz1 (Nat.le_add_right sz 1)) (Nat.add_lt_add_left (by decide) sz)) (cwI 0 hts (gd1 co_X0_init rfl) rfl rfl rfl (hts _ in_X0) (hts _ ml_X9_15) (hts _ im_X0_init) rfl (by decide +kernel) ⟨Nat.le_of_ble_eq_true rfl, Nat.le_of_ble_eq_true rfl⟩) ⟨hsz, hr_5⟩ (fun U hU hW => hK.go hW hS hAz hU) rfl rfl hl.1 rfl (lv_room (Nat.le_of_ble_eq_true rfl)) dX9_init_36 ⟨Nat.le_of_ble_eq_true rfl, Nat.le_of_ble_eq_true rfl⟩) hS (fun q _ => fun h => h.elim (fun e => by rw [e]; exact (Or.inr (Nat.le_add_right sz 0))) (fun h => Or.inr (Nat.le_trans (Nat.le_add_right sz 1) h))) (fun q => fun h => h.elim (fun e => by rw [e]; exact (Or.inr (Nat.le_add_right sz 0))) (fun h => Or.inr (Nat.le_trans (Nat.le_add_right sz 1) h))) (fun _ t H locs ht hvm hw hB hz hk hS => ?_)
  rw [ht] at hB
  have hr0 := hr0.kept (hk _ hr0.lt (fun h => h.elim (ne_h hlt) (fun h => absurd h (Nat.not_le.mpr (Nat.lt_of_lt_of_le hlt (Nat.le_add_right sz 1))))))
  have hTB := hTB.keptC (j := 0) (z := 1) hk (by decide) (by decide)
  have hsz : H.size = sz + 54 := hB.1
  have hy_6_0 : va_at (DG E) vwCl ((sz + 0), .inr (0, [.ref (sz + 1), .int 0, .ref (sz + 2), .ref (sz + 4)])) H := hB.2.1
  have hy_6_1 : va_at (DG E) vwCl ((sz + 1), .inl (E.2.2 7, 24, .inr (.inr (.inr (.inr (fun i => some ((sz + 6) + 2 * i))))))) H := hB.2.2.1
  have hPK : PKB E (sz + 2) 26 H := hB.2.2.2
  have hTB : TB E sz (wi p0 2 20) (wi p1 0 7) (wi p2 0 7) 54 [] H := hTB.grow (fun n hn hx => by
    rcases (show (n < 0 ∧ n ∉ ([] : List Nat)) ∨ n = 0 ∨ n = 1 ∨ (2 ≤ n ∧ n < 54) by simp only [List.mem_cons, List.not_mem_nil, or_false, not_or, not_false_eq_true, and_true] at hx ⊢; omega) with h | rfl | rfl | h
    · exact Or.inl h
    · exact Or.inr hy_6_0
    · exact Or.inr (arr_cg (g := fun i => some (sz + rs 1 i)) hy_6_1 (fun i _ => congrArg some (Nat.add_assoc sz 6 (2 * i))))
    · exact Or.inr (PKB.tb hPK h.1 h.2))
  refine rr_putF (D := DG E) (ci := 9) (v := .ref (sz + 0)) (ty := .object "RemoteReach$Fabric") (C := RX9) (T := TX9) (N := 3) hx hb hts iw_X9 tyX9 tyX9_ok nmX9 hown hK.1 hr0 hS (Or.inl rfl) rfl 2 (by decide) (hts _ fl_X9_16) (fun _ h9 => h9) rfl hin rfl (by decide +kernel) rfl rfl (Nat.le_of_ble_eq_true rfl) dX9_init_39 (fun H locs hn ho hz hS => ?_)
  have hr_7 : va_at (DG E) vwCl (h0, .inr (9, [.null, .null, .ref (sz + 0)])) H := hn
  have hy_6_0 := hy_6_0.kept (ho _ (ne_h' hlt))
  have hsz : H.size = sz + 54 := hz.trans hsz
  have hTB := hTB.keptH hlt ho
  refine lv_aload_n hx hb dX9_init_42 rfl (lv_at hl 3 rfl) ?_
  refine lv_iconst (v := 2) hx hb dX9_init_43 (by decide) ?_
  refine rr_newq (D := DG E) (N' := 2) hx hb hown (hts _ cl_X9_20) (hts _ ao_X1) hK.1 3 rfl hS (by decide) (by decide) (by decide) (Nat.le_of_ble_eq_true rfl) (Nat.le_of_ble_eq_true rfl) dX9_init_44 (fun q_8 H hq hat hz ho hS => ?_)
  obtain rfl : sz + 54 = q_8 := (hq.trans hsz).symm
  have hr_7 := hr_7.kept (ho _ hr_7.lt)
  have hy_6_0 := hy_6_0.kept (ho _ hy_6_0.lt)
  have hTB := hTB.keptS ho
  have hsz : H.size = sz + 55 := by rw [hz, hsz]
  have hr_9 := hat
  refine rr_putF (D := DG E) (ci := 9) (v := .ref (sz + 54)) (ty := .array (.object "RemoteReach$Node")) (C := RX9) (T := TX9) (N := 3) hx hb hts iw_X9 tyX9 tyX9_ok nmX9 hown hK.1 hr_7 hS (Or.inl rfl) rfl 0 (by decide) (hts _ fl_X9_22) (fun _ h9 => h9) rfl hin rfl (by decide +kernel) rfl rfl (Nat.le_of_ble_eq_true rfl) dX9_init_47 (fun H locs hn ho hz hS => ?_)
  have hr_10 : va_at (DG E) vwCl (h0, .inr (9, [.ref (sz + 54), .null, .ref (sz + 0)])) H := hn
  have hy_6_0 := hy_6_0.kept (ho _ (ne_h' hlt))
  have hr_9 := hr_9.kept (ho _ (ne_h' hlt))
  have hsz : H.size = sz + 55 := hz.trans hsz
  have hTB := hTB.keptH hlt ho
  refine lv_iconst (v := 0) hx hb dX9_init_50 (by decide) ?_
  refine lv_istore (lv' := [(7, .int 0), (6, .int (wi p2 0 7)), (5, .int (wi p1 0 7)), (4, .int (wi p0 2 20)), (0, .ref h0), (1, .int p0), (2, .int p1), (3, .int p2)]) hx hb dX9_init_51 hl (by decide) rfl (fun ls hl => ?_)
  refine lv_iload hx hb dX9_init_53 (lv_at hl 0 rfl) ?_
  refine lv_iconst (v := 2) hx hb dX9_init_55 (by decide) ?_
  refine lv_icmp_ge (tgt := 79) hx hb dX9_init_56 (by decide) (fun c_11 => absurd c_11 (by decide)) (fun c_11 => ?_)
  refine lv_aload_n hx hb dX9_init_59 rfl (lv_at hl 4 rfl) ?_
  refine va_get (D := DG E) (ci := 9) (v := .ref (sz + 54)) (C := RX9) (T := TX9) (N := 3) hx hb hts iw_X9 hown hK.1 (va_one hr_10) 0 rfl rfl 0 (by decide) (hts _ fl_X9_22) (fun _ h9 => h9) rfl dX9_init_60 ?_
  refine lv_iload hx hb dX9_init_63 (lv_at hl 0 rfl) ?_
  refine rr_new (ci := 1) (fs := [.null, .null, .null, .int 0, .int 0]) (C := RX1) (T := TX1) (N := 5) hx hb hts iw_X1 tyX1 tyX1_ok hown (hts _ cl_X9_20) (hts _ ia_X1) (hts _ in_X1) hK.1 hS rfl (fun j hj => by rcases (show j = 0 ∨ j = 1 ∨ j = 2 ∨ j = 3 ∨ j = 4 by omega) with rfl | rfl | rfl | rfl | rfl <;> rfl) (Nat.le_of_ble_eq_true rfl) (Nat.le_of_ble_eq_true rfl) dX9_init_65 (fun q_12 H hq hat hz ho hS => ?_)
  obtain rfl : sz + 55 = q_12 := (hq.trans hsz).symm
  have hr_10 := hr_10.kept (ho _ hr_10.lt)
  have hy_6_0 := hy_6_0.kept (ho _ hy_6_0.lt)
  have hr_9 := hr_9.kept (ho _ hr_9.lt)
  have hTB := hTB.keptS ho
  have hsz : H.size = sz + 56 := by rw [hz, hsz]
  have hr_13 := hat
  refine lv_dup hx hb dX9_init_68 rfl ?_
  refine va_callv (rnI (fun H => H.size = sz + 56 ∧ va_at (DG E) vwCl ((sz + 55), .inr (1, [.null, .null, .null, .int 0, .int 0])) H) (As := []) (rest := [.ref (sz + 55), .int 0, .ref (sz + 54)]) ⟨hx, hb, hml, hown, hts⟩ (e_X1_init l E z0 (sz + 55) (sz + 56)  (Nat.le_trans hz1 (Nat.le_add_right sz 55)) (Nat.le_trans hz1 (Nat.le_add_right sz 56)) (Nat.add_lt_add_left (by decide) sz)) (cwI 0 hts (gd1 co_X1_init rfl) rfl rfl rfl (hts _ in_X1) (hts _ ml_X9_26) (hts _ im_X1_init) rfl (by decide +kernel) ⟨Nat.le_of_ble_eq_true rfl, Nat.le_of_ble_eq_true rfl⟩) ⟨hsz, hr_13⟩ (fun U hU hW => hK.go hW hS hAz hU) rfl rfl hl.1 rfl (lv_room (Nat.le_of_ble_eq_true rfl)) dX9_init_69 ⟨Nat.le_of_ble_eq_true rfl, Nat.le_of_ble_eq_true rfl⟩) hS (fun q _ => fun h => h.elim (fun e => by rw [e]; exact (Or.inr (Nat.le_add_right sz 55))) (fun h => Or.inr (Nat.le_trans (Nat.le_add_right sz 56) h))) (fun q => fun h => h.elim (fun e => by rw [e]; exact (Or.inr (Nat.le_add_right sz 55))) (fun h => Or.inr (Nat.le_trans (Nat.le_add_right sz 56) h))) (fun _ t H locs ht hvm hw hB hz hk hS => ?_)
  rw [ht] at hB
  have hr_10 := hr_10.kept (hk _ hr_10.lt (fun h => h.elim (ne_h hlt) (fun h => absurd h (Nat.not_le.mpr (Nat.lt_of_lt_of_le hlt (Nat.le_add_right sz 56))))))
  have hr_9 := hr_9.kept (hk _ hr_9.lt (fun h => h.elim (ne_o (by decide)) (fun h => absurd h (Nat.not_le.mpr (Nat.add_lt_add_left (by decide) sz)))))
  have hTB := hTB.keptC (j := 55) (z := 56) hk (by decide) (by decide)
  have hsz : H.size = sz + 65 := hB.1
  have hy_14_0 : va_at (DG E) vwCl ((sz + 55), .inr (1, [.ref (sz + 56), .ref (sz + 57), .ref (sz + 58), .int 0, .int 0])) H := hB.2.1
  have hy_14_1 : va_at (DG E) vwCl ((sz + 56), .inl (E.2.2 0, 32, .inl (fun _ => 0))) H := hB.2.2.1
  have hy_14_2 : va_at (DG E) vwCl ((sz + 57), .inl (E.2.2 4, 6, .inr (.inr (.inr (.inr (fun i => some ((sz + 59) + i))))))) H := hB.2.2.2.1
  have hy_14_3 : va_at (DG E) vwCl ((sz + 58), .inl (E.2.2 0, 80, .inl (fun _ => 0))) H := hB.2.2.2.2.1
  have hy_14_4 : va_at (DG E) vwCl ((sz + 59), .inr (6, [.int 0, .int 0, .int 0])) H := hB.2.2.2.2.2.1
  have hy_14_5 : va_at (DG E) vwCl ((sz + 60), .inr (6, [.int 0, .int 0, .int 0])) H := hB.2.2.2.2.2.2.1
  have hy_14_6 : va_at (DG E) vwCl ((sz + 61), .inr (6, [.int 0, .int 0, .int 0])) H := hB.2.2.2.2.2.2.2.1
  have hy_14_7 : va_at (DG E) vwCl ((sz + 62), .inr (6, [.int 0, .int 0, .int 0])) H := hB.2.2.2.2.2.2.2.2.1
  have hy_14_8 : va_at (DG E) vwCl ((sz + 63), .inr (6, [.int 0, .int 0, .int 0])) H := hB.2.2.2.2.2.2.2.2.2.1
  have hy_14_9 : va_at (DG E) vwCl ((sz + 64), .inr (6, [.int 0, .int 0, .int 0])) H := hB.2.2.2.2.2.2.2.2.2.2
  have hTB : TB E sz (wi p0 2 20) (wi p1 0 7) (wi p2 0 7) 65 [54] H := hTB.grow (fun n hn hx => by
    rcases (show (n < 54 ∧ n ∉ ([] : List Nat)) ∨ n = 55 ∨ n = 56 ∨ n = 57 ∨ n = 58 ∨ n = 59 ∨ n = 60 ∨ n = 61 ∨ n = 62 ∨ n = 63 ∨ n = 64 by simp only [List.mem_cons, List.not_mem_nil, or_false, not_or, not_false_eq_true, and_true] at hx ⊢; omega) with h | rfl | rfl | rfl | rfl | rfl | rfl | rfl | rfl | rfl | rfl
    · exact Or.inl h
    · exact Or.inr hy_14_0
    · exact Or.inr hy_14_1
    · exact Or.inr (arr_cg (g := fun i => some (sz + rs 57 i)) hy_14_2 (fun i _ => congrArg some (Nat.add_assoc sz 59 (i))))
    · exact Or.inr hy_14_3
    · exact Or.inr hy_14_4
    · exact Or.inr hy_14_5
    · exact Or.inr hy_14_6
    · exact Or.inr hy_14_7
    · exact Or.inr hy_14_8
    · exact Or.inr hy_14_9)
  refine rr_aast (D := DG E) hx hb hK.1 3 1 hr_9 hS (Or.inr (Nat.le_add_right sz 54)) rfl hy_14_0 rfl (show vp_in (0) 2 from vp_in_iff.mpr ⟨by decide, by decide⟩) dX9_init_72 (fun H locs hn ho hz hS => ?_)
  have hr_15 : va_at (DG E) vwCl ((sz + 54), .inl (E.2.2 3, 2, .inr (.inr (.inr (.inr (va_up (fun _ => none) 0 (some (sz + 55)))))))) H := hn
  have hr_10 := hr_10.kept (ho _ (ne_h hlt))
  have hy_14_0 := hy_14_0.kept (ho _ (ne_o (by decide)))
  have hsz : H.size = sz + 65 := hz.trans hsz
  have hTB := hTB.keptW (j := 54) ho (by decide)
  refine lv_iinc (v := 1) (lv' := [(7, .int 1), (6, .int (wi p2 0 7)), (5, .int (wi p1 0 7)), (4, .int (wi p0 2 20)), (0, .ref h0), (1, .int p0), (2, .int p1), (3, .int p2)]) hx hb dX9_init_73 hl (k := 0) rfl (by decide) (by decide) rfl (fun ls hl => ?_)
  refine lv_goto (tgt := 53) hx hb dX9_init_76 (by decide) ?_
  refine lv_iload hx hb dX9_init_53 (lv_at hl 0 rfl) ?_
  refine lv_iconst (v := 2) hx hb dX9_init_55 (by decide) ?_
  refine lv_icmp_ge (tgt := 79) hx hb dX9_init_56 (by decide) (fun c_16 => absurd c_16 (by decide)) (fun c_16 => ?_)
  refine lv_aload_n hx hb dX9_init_59 rfl (lv_at hl 4 rfl) ?_
  refine va_get (D := DG E) (ci := 9) (v := .ref (sz + 54)) (C := RX9) (T := TX9) (N := 3) hx hb hts iw_X9 hown hK.1 (va_one hr_10) 0 rfl rfl 0 (by decide) (hts _ fl_X9_22) (fun _ h9 => h9) rfl dX9_init_60 ?_
  refine lv_iload hx hb dX9_init_63 (lv_at hl 0 rfl) ?_
  refine rr_new (ci := 1) (fs := [.null, .null, .null, .int 0, .int 0]) (C := RX1) (T := TX1) (N := 5) hx hb hts iw_X1 tyX1 tyX1_ok hown (hts _ cl_X9_20) (hts _ ia_X1) (hts _ in_X1) hK.1 hS rfl (fun j hj => by rcases (show j = 0 ∨ j = 1 ∨ j = 2 ∨ j = 3 ∨ j = 4 by omega) with rfl | rfl | rfl | rfl | rfl <;> rfl) (Nat.le_of_ble_eq_true rfl) (Nat.le_of_ble_eq_true rfl) dX9_init_65 (fun q_17 H hq hat hz ho hS => ?_)
  obtain rfl : sz + 65 = q_17 := (hq.trans hsz).symm
  have hr_10 := hr_10.kept (ho _ hr_10.lt)
  have hr_15 := hr_15.kept (ho _ hr_15.lt)
  have hy_14_0 := hy_14_0.kept (ho _ hy_14_0.lt)
  have hTB := hTB.keptS ho
  have hsz : H.size = sz + 66 := by rw [hz, hsz]
  have hr_18 := hat
  refine lv_dup hx hb dX9_init_68 rfl ?_
  refine va_callv (rnI (fun H => H.size = sz + 66 ∧ va_at (DG E) vwCl ((sz + 65), .inr (1, [.null, .null, .null, .int 0, .int 0])) H) (As := []) (rest := [.ref (sz + 65), .int 1, .ref (sz + 54)]) ⟨hx, hb, hml, hown, hts⟩ (e_X1_init l E z0 (sz + 65) (sz + 66)  (Nat.le_trans hz1 (Nat.le_add_right sz 65)) (Nat.le_trans hz1 (Nat.le_add_right sz 66)) (Nat.add_lt_add_left (by decide) sz)) (cwI 0 hts (gd1 co_X1_init rfl) rfl rfl rfl (hts _ in_X1) (hts _ ml_X9_26) (hts _ im_X1_init) rfl (by decide +kernel) ⟨Nat.le_of_ble_eq_true rfl, Nat.le_of_ble_eq_true rfl⟩) ⟨hsz, hr_18⟩ (fun U hU hW => hK.go hW hS hAz hU) rfl rfl hl.1 rfl (lv_room (Nat.le_of_ble_eq_true rfl)) dX9_init_69 ⟨Nat.le_of_ble_eq_true rfl, Nat.le_of_ble_eq_true rfl⟩) hS (fun q _ => fun h => h.elim (fun e => by rw [e]; exact (Or.inr (Nat.le_add_right sz 65))) (fun h => Or.inr (Nat.le_trans (Nat.le_add_right sz 66) h))) (fun q => fun h => h.elim (fun e => by rw [e]; exact (Or.inr (Nat.le_add_right sz 65))) (fun h => Or.inr (Nat.le_trans (Nat.le_add_right sz 66) h))) (fun _ t H locs ht hvm hw hB hz hk hS => ?_)
  rw [ht] at hB
  have hr_10 := hr_10.kept (hk _ hr_10.lt (fun h => h.elim (ne_h hlt) (fun h => absurd h (Nat.not_le.mpr (Nat.lt_of_lt_of_le hlt (Nat.le_add_right sz 66))))))
  have hr_15 := hr_15.kept (hk _ hr_15.lt (fun h => h.elim (ne_o (by decide)) (fun h => absurd h (Nat.not_le.mpr (Nat.add_lt_add_left (by decide) sz)))))
  have hTB := hTB.keptC (j := 65) (z := 66) hk (by decide) (by decide)
  have hsz : H.size = sz + 75 := hB.1
  have hy_19_0 : va_at (DG E) vwCl ((sz + 65), .inr (1, [.ref (sz + 66), .ref (sz + 67), .ref (sz + 68), .int 0, .int 0])) H := hB.2.1
  have hy_19_1 : va_at (DG E) vwCl ((sz + 66), .inl (E.2.2 0, 32, .inl (fun _ => 0))) H := hB.2.2.1
  have hy_19_2 : va_at (DG E) vwCl ((sz + 67), .inl (E.2.2 4, 6, .inr (.inr (.inr (.inr (fun i => some ((sz + 69) + i))))))) H := hB.2.2.2.1
  have hy_19_3 : va_at (DG E) vwCl ((sz + 68), .inl (E.2.2 0, 80, .inl (fun _ => 0))) H := hB.2.2.2.2.1
  have hy_19_4 : va_at (DG E) vwCl ((sz + 69), .inr (6, [.int 0, .int 0, .int 0])) H := hB.2.2.2.2.2.1
  have hy_19_5 : va_at (DG E) vwCl ((sz + 70), .inr (6, [.int 0, .int 0, .int 0])) H := hB.2.2.2.2.2.2.1
  have hy_19_6 : va_at (DG E) vwCl ((sz + 71), .inr (6, [.int 0, .int 0, .int 0])) H := hB.2.2.2.2.2.2.2.1
  have hy_19_7 : va_at (DG E) vwCl ((sz + 72), .inr (6, [.int 0, .int 0, .int 0])) H := hB.2.2.2.2.2.2.2.2.1
  have hy_19_8 : va_at (DG E) vwCl ((sz + 73), .inr (6, [.int 0, .int 0, .int 0])) H := hB.2.2.2.2.2.2.2.2.2.1
  have hy_19_9 : va_at (DG E) vwCl ((sz + 74), .inr (6, [.int 0, .int 0, .int 0])) H := hB.2.2.2.2.2.2.2.2.2.2
  have hTB : TB E sz (wi p0 2 20) (wi p1 0 7) (wi p2 0 7) 75 [54] H := hTB.grow (fun n hn hx => by
    rcases (show (n < 65 ∧ n ∉ ([54] : List Nat)) ∨ n = 65 ∨ n = 66 ∨ n = 67 ∨ n = 68 ∨ n = 69 ∨ n = 70 ∨ n = 71 ∨ n = 72 ∨ n = 73 ∨ n = 74 by simp only [List.mem_cons, List.not_mem_nil, or_false, not_or, not_false_eq_true, and_true] at hx ⊢; omega) with h | rfl | rfl | rfl | rfl | rfl | rfl | rfl | rfl | rfl | rfl
    · exact Or.inl h
    · exact Or.inr hy_19_0
    · exact Or.inr hy_19_1
    · exact Or.inr (arr_cg (g := fun i => some (sz + rs 67 i)) hy_19_2 (fun i _ => congrArg some (Nat.add_assoc sz 69 (i))))
    · exact Or.inr hy_19_3
    · exact Or.inr hy_19_4
    · exact Or.inr hy_19_5
    · exact Or.inr hy_19_6
    · exact Or.inr hy_19_7
    · exact Or.inr hy_19_8
    · exact Or.inr hy_19_9)
  refine rr_aast (D := DG E) hx hb hK.1 3 1 hr_15 hS (Or.inr (Nat.le_add_right sz 54)) rfl hy_19_0 rfl (show vp_in (1) 2 from vp_in_iff.mpr ⟨by decide, by decide⟩) dX9_init_72 (fun H locs hn ho hz hS => ?_)
  have hr_20 : va_at (DG E) vwCl ((sz + 54), .inl (E.2.2 3, 2, .inr (.inr (.inr (.inr (va_up (va_up (fun _ => none) 0 (some (sz + 55))) 1 (some (sz + 65)))))))) H := hn
  have hr_10 := hr_10.kept (ho _ (ne_h hlt))
  have hy_19_0 := hy_19_0.kept (ho _ (ne_o (by decide)))
  have hsz : H.size = sz + 75 := hz.trans hsz
  have hTB := hTB.keptW (j := 54) ho (by decide)
  refine lv_iinc (v := 2) (lv' := [(7, .int 2), (6, .int (wi p2 0 7)), (5, .int (wi p1 0 7)), (4, .int (wi p0 2 20)), (0, .ref h0), (1, .int p0), (2, .int p1), (3, .int p2)]) hx hb dX9_init_73 hl (k := 0) rfl (by decide) (by decide) rfl (fun ls hl => ?_)
  refine lv_goto (tgt := 53) hx hb dX9_init_76 (by decide) ?_
  refine lv_iload hx hb dX9_init_53 (lv_at hl 0 rfl) ?_
  refine lv_iconst (v := 2) hx hb dX9_init_55 (by decide) ?_
  refine lv_icmp_ge (tgt := 79) hx hb dX9_init_56 (by decide) (fun c_21 => ?_) (fun c_21 => absurd c_21 (by decide))
  refine lv_aload_n hx hb dX9_init_79 rfl (lv_at hl 4 rfl) ?_
  refine lv_iconst (v := 4) hx hb dX9_init_80 (by decide) ?_
  refine rr_newq (D := DG E) (N' := 4) hx hb hown (hts _ cl_X9_27) (hts _ ao_X3) hK.1 5 rfl hS (by decide) (by decide) (by decide) (Nat.le_of_ble_eq_true rfl) (Nat.le_of_ble_eq_true rfl) dX9_init_81 (fun q_22 H hq hat hz ho hS => ?_)
  obtain rfl : sz + 75 = q_22 := (hq.trans hsz).symm
  have hr_10 := hr_10.kept (ho _ hr_10.lt)
  have hr_20 := hr_20.kept (ho _ hr_20.lt)
  have hy_19_0 := hy_19_0.kept (ho _ hy_19_0.lt)
  have hTB := hTB.keptS ho
  have hsz : H.size = sz + 76 := by rw [hz, hsz]
  have hr_23 := hat
  refine rr_putF (D := DG E) (ci := 9) (v := .ref (sz + 75)) (ty := .array (.object "RemoteReach$Pair")) (C := RX9) (T := TX9) (N := 3) hx hb hts iw_X9 tyX9 tyX9_ok nmX9 hown hK.1 hr_10 hS (Or.inl rfl) rfl 1 (by decide) (hts _ fl_X9_29) (fun _ h9 => h9) rfl hin rfl (by decide +kernel) rfl rfl (Nat.le_of_ble_eq_true rfl) dX9_init_84 (fun H locs hn ho hz hS => ?_)
  have hr_24 : va_at (DG E) vwCl (h0, .inr (9, [.ref (sz + 54), .ref (sz + 75), .ref (sz + 0)])) H := hn
  have hr_20 := hr_20.kept (ho _ (ne_h' hlt))
  have hy_19_0 := hy_19_0.kept (ho _ (ne_h' hlt))
  have hr_23 := hr_23.kept (ho _ (ne_h' hlt))
  have hsz : H.size = sz + 76 := hz.trans hsz
  have hTB := hTB.keptH hlt ho
  refine lv_iconst (v := 0) hx hb dX9_init_87 (by decide) ?_
  refine lv_istore (lv' := [(7, .int 0), (6, .int (wi p2 0 7)), (5, .int (wi p1 0 7)), (4, .int (wi p0 2 20)), (0, .ref h0), (1, .int p0), (2, .int p1), (3, .int p2)]) hx hb dX9_init_88 hl (by decide) rfl (fun ls hl => ?_)
  refine lv_iload hx hb dX9_init_90 (lv_at hl 0 rfl) ?_
  refine lv_iconst (v := 4) hx hb dX9_init_92 (by decide) ?_
  refine lv_icmp_ge (tgt := 167) hx hb dX9_init_93 (by decide) (fun c_25 => absurd c_25 (by decide)) (fun c_25 => ?_)
  refine lv_aload_n hx hb dX9_init_96 rfl (lv_at hl 4 rfl) ?_
  refine va_get (D := DG E) (ci := 9) (v := .ref (sz + 54)) (C := RX9) (T := TX9) (N := 3) hx hb hts iw_X9 hown hK.1 (va_one hr_24) 0 rfl rfl 0 (by decide) (hts _ fl_X9_22) (fun _ h9 => h9) rfl dX9_init_97 ?_
  refine lv_iload hx hb dX9_init_100 (lv_at hl 0 rfl) ?_
  refine lv_iconst (v := 2) hx hb dX9_init_102 (by decide) ?_
  refine lv_irem hx hb dX9_init_103 (by decide) ?_
  refine W.eq (g2 := F0 m 104 ls [.int 0, .ref (sz + 54)]) (by rfl) ?_
  refine va_aldq (D := DG E) hx hb hK.1 (va_one hr_20) 0 3 rfl rfl (show vp_in (0) 2 from vp_in_iff.mpr ⟨by decide, by decide⟩) dX9_init_104 ?_
  refine W.eq (g2 := F0 m 105 ls [.ref (sz + 55)]) (by rfl) ?_
  refine lv_astore (lv' := [(8, .ref (sz + 55)), (7, .int 0), (6, .int (wi p2 0 7)), (5, .int (wi p1 0 7)), (4, .int (wi p0 2 20)), (0, .ref h0), (1, .int p0), (2, .int p1), (3, .int p2)]) hx hb dX9_init_105 hl (by decide) rfl (fun ls hl => ?_)
  refine rr_new (ci := 7) (fs := [.int 0, .null, .null, .int 0, .int 0, .int 0, .null, .int 0, .int 0, .int 0, .int 0, .int 0, .int 0, .int 0]) (C := RX7) (T := TX7) (N := 14) hx hb hts iw_X7 tyX7 tyX7_ok hown (hts _ cl_X9_33) (hts _ ia_X7) (hts _ in_X7) hK.1 hS rfl (fun j hj => by rcases (show j = 0 ∨ j = 1 ∨ j = 2 ∨ j = 3 ∨ j = 4 ∨ j = 5 ∨ j = 6 ∨ j = 7 ∨ j = 8 ∨ j = 9 ∨ j = 10 ∨ j = 11 ∨ j = 12 ∨ j = 13 by omega) with rfl | rfl | rfl | rfl | rfl | rfl | rfl | rfl | rfl | rfl | rfl | rfl | rfl | rfl <;> rfl) (Nat.le_of_ble_eq_true rfl) (Nat.le_of_ble_eq_true rfl) dX9_init_107 (fun q_26 H hq hat hz ho hS => ?_)
  obtain rfl : sz + 76 = q_26 := (hq.trans hsz).symm
  have hr_24 := hr_24.kept (ho _ hr_24.lt)
  have hr_20 := hr_20.kept (ho _ hr_20.lt)
  have hy_19_0 := hy_19_0.kept (ho _ hy_19_0.lt)
  have hr_23 := hr_23.kept (ho _ hr_23.lt)
  have hTB := hTB.keptS ho
  have hsz : H.size = sz + 77 := by rw [hz, hsz]
  have hr_27 := hat
  refine lv_dup hx hb dX9_init_110 rfl ?_
  refine lv_iload hx hb dX9_init_111 (lv_at hl 1 rfl) ?_
  refine lv_aload hx hb dX9_init_113 (lv_at hl 0 rfl) ?_
  refine lv_aload_n hx hb dX9_init_115 rfl (lv_at hl 5 rfl) ?_
  refine va_get (D := DG E) (ci := 9) (v := .ref (sz + 0)) (C := RX9) (T := TX9) (N := 3) hx hb hts iw_X9 hown hK.1 (va_one hr_24) 0 rfl rfl 2 (by decide) (hts _ fl_X9_16) (fun _ h9 => h9) rfl dX9_init_116 ?_
  refine lv_iload hx hb dX9_init_119 (lv_at hl 4 rfl) ?_
  refine lv_iload hx hb dX9_init_121 (lv_at hl 3 rfl) ?_
  refine lv_iload hx hb dX9_init_123 (lv_at hl 2 rfl) ?_
  refine va_callv (rnI (fun H => H.size = sz + 77 ∧ va_at (DG E) vwCl ((sz + 76), .inr (7, [.int 0, .null, .null, .int 0, .int 0, .int 0, .null, .int 0, .int 0, .int 0, .int 0, .int 0, .int 0, .int 0])) H) (As := [.int 0, .ref (sz + 55), .ref (sz + 0), .int (wi p0 2 20), .int (wi p1 0 7), .int (wi p2 0 7)]) (rest := [.ref (sz + 76)]) ⟨hx, hb, hml, hown, hts⟩ (e_X7_init l E z0 (sz + 76) (sz + 77) 0 (sz + 55) (sz + 0) (wi p0 2 20) (wi p1 0 7) (wi p2 0 7) (Nat.le_trans hz1 (Nat.le_add_right sz 76)) (Nat.le_trans hz1 (Nat.le_add_right sz 77)) (Nat.add_lt_add_left (by decide) sz)) (cwI 6 hts (gd1 co_X7_init rfl) rfl rfl rfl (hts _ in_X7) (hts _ ml_X9_35) (hts _ im_X7_init) rfl (by decide +kernel) ⟨Nat.le_of_ble_eq_true rfl, Nat.le_of_ble_eq_true rfl⟩) ⟨hsz, hr_27⟩ (fun U hU hW => hK.go hW hS hAz hU) rfl rfl hl.1 rfl (lv_room (Nat.le_of_ble_eq_true rfl)) dX9_init_125 ⟨Nat.le_of_ble_eq_true rfl, Nat.le_of_ble_eq_true rfl⟩) hS (fun q _ => fun h => h.elim (fun e => by rw [e]; exact (Or.inr (Nat.le_add_right sz 76))) (fun h => Or.inr (Nat.le_trans (Nat.le_add_right sz 77) h))) (fun q => fun h => h.elim (fun e => by rw [e]; exact (Or.inr (Nat.le_add_right sz 76))) (fun h => Or.inr (Nat.le_trans (Nat.le_add_right sz 77) h))) (fun _ t H locs ht hvm hw hB hz hk hS => ?_)
  rw [ht] at hB
  have hr_24 := hr_24.kept (hk _ hr_24.lt (fun h => h.elim (ne_h hlt) (fun h => absurd h (Nat.not_le.mpr (Nat.lt_of_lt_of_le hlt (Nat.le_add_right sz 77))))))
  have hr_20 := hr_20.kept (hk _ hr_20.lt (fun h => h.elim (ne_o (by decide)) (fun h => absurd h (Nat.not_le.mpr (Nat.add_lt_add_left (by decide) sz)))))
  have hr_23 := hr_23.kept (hk _ hr_23.lt (fun h => h.elim (ne_o (by decide)) (fun h => absurd h (Nat.not_le.mpr (Nat.add_lt_add_left (by decide) sz)))))
  have hTB := hTB.keptC (j := 76) (z := 77) hk (by decide) (by decide)
  have hsz : H.size = sz + 83 := hB.1
  have hy_28_0 : va_at (DG E) vwCl ((sz + 76), .inr (7, [.int (0 ^^^ 1), .ref (sz + 55), .ref (sz + 0), .int (wi p0 2 20), .int (wi p1 0 7), .int (wi p2 0 7), .ref (sz + 77), .int 0, .int 0, .int 0, .int 0, .int 0, .int 0, .int 0])) H := hB.2.1
  have hy_28_1 : va_at (DG E) vwCl ((sz + 77), .inr (5, [.int 0, .ref (sz + 55), .ref (sz + 78), .int 0, .int 0, .int 0])) H := hB.2.2.1
  have hy_28_2 : va_at (DG E) vwCl ((sz + 78), .inl (E.2.2 6, 4, .inr (.inr (.inr (.inr (fun i => some ((sz + 79) + i))))))) H := hB.2.2.2.1
  have hy_28_3 : va_at (DG E) vwCl ((sz + 79), .inr (4, [.int 0, .int 0, .int 0, .int 0, .int 0, .int 0, .int 0, .int 0, .int 0, .int 0])) H := hB.2.2.2.2.1
  have hy_28_4 : va_at (DG E) vwCl ((sz + 80), .inr (4, [.int 0, .int 0, .int 0, .int 0, .int 0, .int 0, .int 0, .int 0, .int 0, .int 0])) H := hB.2.2.2.2.2.1
  have hy_28_5 : va_at (DG E) vwCl ((sz + 81), .inr (4, [.int 0, .int 0, .int 0, .int 0, .int 0, .int 0, .int 0, .int 0, .int 0, .int 0])) H := hB.2.2.2.2.2.2.1
  have hy_28_6 : va_at (DG E) vwCl ((sz + 82), .inr (4, [.int 0, .int 0, .int 0, .int 0, .int 0, .int 0, .int 0, .int 0, .int 0, .int 0])) H := hB.2.2.2.2.2.2.2
  have hTB : TB E sz (wi p0 2 20) (wi p1 0 7) (wi p2 0 7) 83 [54, 75] H := hTB.grow (fun n hn hx => by
    rcases (show (n < 75 ∧ n ∉ ([54] : List Nat)) ∨ n = 76 ∨ n = 77 ∨ n = 78 ∨ n = 79 ∨ n = 80 ∨ n = 81 ∨ n = 82 by simp only [List.mem_cons, List.not_mem_nil, or_false, not_or, not_false_eq_true, and_true] at hx ⊢; omega) with h | rfl | rfl | rfl | rfl | rfl | rfl | rfl
    · exact Or.inl h
    · exact Or.inr hy_28_0
    · exact Or.inr hy_28_1
    · exact Or.inr (arr_cg (g := fun i => some (sz + rs 78 i)) hy_28_2 (fun i _ => congrArg some (Nat.add_assoc sz 79 (i))))
    · exact Or.inr hy_28_3
    · exact Or.inr hy_28_4
    · exact Or.inr hy_28_5
    · exact Or.inr hy_28_6)
  refine lv_astore (lv' := [(9, .ref (sz + 76)), (8, .ref (sz + 55)), (7, .int 0), (6, .int (wi p2 0 7)), (5, .int (wi p1 0 7)), (4, .int (wi p0 2 20)), (0, .ref h0), (1, .int p0), (2, .int p1), (3, .int p2)]) hx hb dX9_init_128 hl (by decide) rfl (fun ls hl => ?_)
  refine lv_aload_n hx hb dX9_init_130 rfl (lv_at hl 6 rfl) ?_
  refine va_get (D := DG E) (ci := 9) (v := .ref (sz + 75)) (C := RX9) (T := TX9) (N := 3) hx hb hts iw_X9 hown hK.1 (va_one hr_24) 0 rfl rfl 1 (by decide) (hts _ fl_X9_29) (fun _ h9 => h9) rfl dX9_init_131 ?_
  refine lv_iload hx hb dX9_init_134 (lv_at hl 2 rfl) ?_
  refine rr_new (ci := 3) (fs := [.null, .null, .int 0]) (C := RX3) (T := TX3) (N := 3) hx hb hts iw_X3 tyX3 tyX3_ok hown (hts _ cl_X9_27) (hts _ ia_X3) (hts _ in_X3) hK.1 hS rfl (fun j hj => by rcases (show j = 0 ∨ j = 1 ∨ j = 2 by omega) with rfl | rfl | rfl <;> rfl) (Nat.le_of_ble_eq_true rfl) (Nat.le_of_ble_eq_true rfl) dX9_init_136 (fun q_29 H hq hat hz ho hS => ?_)
  obtain rfl : sz + 83 = q_29 := (hq.trans hsz).symm
  have hr_24 := hr_24.kept (ho _ hr_24.lt)
  have hr_20 := hr_20.kept (ho _ hr_20.lt)
  have hr_23 := hr_23.kept (ho _ hr_23.lt)
  have hy_28_0 := hy_28_0.kept (ho _ hy_28_0.lt)
  have hTB := hTB.keptS ho
  have hsz : H.size = sz + 84 := by rw [hz, hsz]
  have hr_30 := hat
  refine lv_dup hx hb dX9_init_139 rfl ?_
  refine lv_aload hx hb dX9_init_140 (lv_at hl 0 rfl) ?_
  refine rr_new (ci := 8) (fs := [.int 0, .null, .null, .null, .int 0, .int 0, .int 0, .null, .null]) (C := RX8) (T := TX8) (N := 9) hx hb hts iw_X8 tyX8 tyX8_ok hown (hts _ cl_X9_38) (hts _ ia_X8) (hts _ in_X8) hK.1 hS rfl (fun j hj => by rcases (show j = 0 ∨ j = 1 ∨ j = 2 ∨ j = 3 ∨ j = 4 ∨ j = 5 ∨ j = 6 ∨ j = 7 ∨ j = 8 by omega) with rfl | rfl | rfl | rfl | rfl | rfl | rfl | rfl | rfl <;> rfl) (Nat.le_of_ble_eq_true rfl) (Nat.le_of_ble_eq_true rfl) dX9_init_142 (fun q_31 H hq hat hz ho hS => ?_)
  obtain rfl : sz + 84 = q_31 := (hq.trans hsz).symm
  have hr_24 := hr_24.kept (ho _ hr_24.lt)
  have hr_20 := hr_20.kept (ho _ hr_20.lt)
  have hr_23 := hr_23.kept (ho _ hr_23.lt)
  have hy_28_0 := hy_28_0.kept (ho _ hy_28_0.lt)
  have hr_30 := hr_30.kept (ho _ hr_30.lt)
  have hTB := hTB.keptS ho
  have hsz : H.size = sz + 85 := by rw [hz, hsz]
  have hr_32 := hat
  refine lv_dup hx hb dX9_init_145 rfl ?_
  refine lv_iload hx hb dX9_init_146 (lv_at hl 2 rfl) ?_
  refine lv_aload hx hb dX9_init_148 (lv_at hl 1 rfl) ?_
  refine lv_aload_n hx hb dX9_init_150 rfl (lv_at hl 6 rfl) ?_
  refine va_get (D := DG E) (ci := 9) (v := .ref (sz + 0)) (C := RX9) (T := TX9) (N := 3) hx hb hts iw_X9 hown hK.1 (va_one hr_24) 0 rfl rfl 2 (by decide) (hts _ fl_X9_16) (fun _ h9 => h9) rfl dX9_init_151 ?_
  refine va_callv (rnI (fun H => H.size = sz + 85 ∧ va_at (DG E) vwCl ((sz + 84), .inr (8, [.int 0, .null, .null, .null, .int 0, .int 0, .int 0, .null, .null])) H) (As := [.int 0, .ref (sz + 55), .ref (sz + 0)]) (rest := [.ref (sz + 84), .ref (sz + 76), .ref (sz + 83), .ref (sz + 83), .int 0, .ref (sz + 75)]) ⟨hx, hb, hml, hown, hts⟩ (e_X8_init l E z0 (sz + 84) (sz + 85) 0 (sz + 55) (sz + 0) (Nat.le_trans hz1 (Nat.le_add_right sz 84)) (Nat.le_trans hz1 (Nat.le_add_right sz 85)) (Nat.add_lt_add_left (by decide) sz)) (cwI 3 hts (gd1 co_X8_init rfl) rfl rfl rfl (hts _ in_X8) (hts _ ml_X9_40) (hts _ im_X8_init) rfl (by decide +kernel) ⟨Nat.le_of_ble_eq_true rfl, Nat.le_of_ble_eq_true rfl⟩) ⟨hsz, hr_32⟩ (fun U hU hW => hK.go hW hS hAz hU) rfl rfl hl.1 rfl (lv_room (Nat.le_of_ble_eq_true rfl)) dX9_init_154 ⟨Nat.le_of_ble_eq_true rfl, Nat.le_of_ble_eq_true rfl⟩) hS (fun q _ => fun h => h.elim (fun e => by rw [e]; exact (Or.inr (Nat.le_add_right sz 84))) (fun h => Or.inr (Nat.le_trans (Nat.le_add_right sz 85) h))) (fun q => fun h => h.elim (fun e => by rw [e]; exact (Or.inr (Nat.le_add_right sz 84))) (fun h => Or.inr (Nat.le_trans (Nat.le_add_right sz 85) h))) (fun _ t H locs ht hvm hw hB hz hk hS => ?_)
  rw [ht] at hB
  have hr_24 := hr_24.kept (hk _ hr_24.lt (fun h => h.elim (ne_h hlt) (fun h => absurd h (Nat.not_le.mpr (Nat.lt_of_lt_of_le hlt (Nat.le_add_right sz 85))))))
  have hr_20 := hr_20.kept (hk _ hr_20.lt (fun h => h.elim (ne_o (by decide)) (fun h => absurd h (Nat.not_le.mpr (Nat.add_lt_add_left (by decide) sz)))))
  have hr_23 := hr_23.kept (hk _ hr_23.lt (fun h => h.elim (ne_o (by decide)) (fun h => absurd h (Nat.not_le.mpr (Nat.add_lt_add_left (by decide) sz)))))
  have hr_30 := hr_30.kept (hk _ hr_30.lt (fun h => h.elim (ne_o (by decide)) (fun h => absurd h (Nat.not_le.mpr (Nat.add_lt_add_left (by decide) sz)))))
  have hTB := hTB.keptC (j := 84) (z := 85) hk (by decide) (by decide)
  have hsz : H.size = sz + 93 := hB.1
  have hy_33_0 : va_at (DG E) vwCl ((sz + 84), .inr (8, [.int (0 ^^^ 1), .ref (sz + 55), .ref (sz + 0), .ref (sz + 87), .int 0, .int 0, .int 0, .ref (sz + 85), .ref (sz + 86)])) H := hB.2.1
  have hy_33_1 : va_at (DG E) vwCl ((sz + 85), .inl (E.2.2 0, 2, .inl (fun _ => -1))) H := hB.2.2.1
  have hy_33_2 : va_at (DG E) vwCl ((sz + 86), .inl (E.2.2 0, 2, .inl (fun _ => 0))) H := hB.2.2.2.1
  have hy_33_3 : va_at (DG E) vwCl ((sz + 87), .inr (5, [.int 0, .ref (sz + 55), .ref (sz + 88), .int 0, .int 0, .int 0])) H := hB.2.2.2.2.1
  have hy_33_4 : va_at (DG E) vwCl ((sz + 88), .inl (E.2.2 6, 4, .inr (.inr (.inr (.inr (fun i => some ((sz + 89) + i))))))) H := hB.2.2.2.2.2.1
  have hy_33_5 : va_at (DG E) vwCl ((sz + 89), .inr (4, [.int 0, .int 0, .int 0, .int 0, .int 0, .int 0, .int 0, .int 0, .int 0, .int 0])) H := hB.2.2.2.2.2.2.1
  have hy_33_6 : va_at (DG E) vwCl ((sz + 90), .inr (4, [.int 0, .int 0, .int 0, .int 0, .int 0, .int 0, .int 0, .int 0, .int 0, .int 0])) H := hB.2.2.2.2.2.2.2.1
  have hy_33_7 : va_at (DG E) vwCl ((sz + 91), .inr (4, [.int 0, .int 0, .int 0, .int 0, .int 0, .int 0, .int 0, .int 0, .int 0, .int 0])) H := hB.2.2.2.2.2.2.2.2.1
  have hy_33_8 : va_at (DG E) vwCl ((sz + 92), .inr (4, [.int 0, .int 0, .int 0, .int 0, .int 0, .int 0, .int 0, .int 0, .int 0, .int 0])) H := hB.2.2.2.2.2.2.2.2.2
  have hTB : TB E sz (wi p0 2 20) (wi p1 0 7) (wi p2 0 7) 93 [54, 75, 83] H := hTB.grow (fun n hn hx => by
    rcases (show (n < 83 ∧ n ∉ ([54, 75] : List Nat)) ∨ n = 84 ∨ n = 85 ∨ n = 86 ∨ n = 87 ∨ n = 88 ∨ n = 89 ∨ n = 90 ∨ n = 91 ∨ n = 92 by simp only [List.mem_cons, List.not_mem_nil, or_false, not_or, not_false_eq_true, and_true] at hx ⊢; omega) with h | rfl | rfl | rfl | rfl | rfl | rfl | rfl | rfl | rfl
    · exact Or.inl h
    · exact Or.inr hy_33_0
    · exact Or.inr hy_33_1
    · exact Or.inr hy_33_2
    · exact Or.inr hy_33_3
    · exact Or.inr (arr_cg (g := fun i => some (sz + rs 88 i)) hy_33_4 (fun i _ => congrArg some (Nat.add_assoc sz 89 (i))))
    · exact Or.inr hy_33_5
    · exact Or.inr hy_33_6
    · exact Or.inr hy_33_7
    · exact Or.inr hy_33_8)
  refine va_callv (rnI (fun H => H.size = sz + 93 ∧ va_at (DG E) vwCl ((sz + 83), .inr (3, [.null, .null, .int 0])) H) (As := [.ref (sz + 76), .ref (sz + 84)]) (rest := [.ref (sz + 83), .int 0, .ref (sz + 75)]) ⟨hx, hb, hml, hown, hts⟩ (e_X3_init l E z0 (sz + 83) (sz + 93) (sz + 76) (sz + 84) (Nat.le_trans hz1 (Nat.le_add_right sz 83)) (Nat.le_trans hz1 (Nat.le_add_right sz 93)) (Nat.add_lt_add_left (by decide) sz)) (cwI 2 hts (gd1 co_X3_init rfl) rfl rfl rfl (hts _ in_X3) (hts _ ml_X9_43) (hts _ im_X3_init) rfl (by decide +kernel) ⟨Nat.le_of_ble_eq_true rfl, Nat.le_of_ble_eq_true rfl⟩) ⟨hsz, hr_30⟩ (fun U hU hW => hK.go hW hS hAz hU) rfl rfl hl.1 rfl (lv_room (Nat.le_of_ble_eq_true rfl)) dX9_init_157 ⟨Nat.le_of_ble_eq_true rfl, Nat.le_of_ble_eq_true rfl⟩) hS (fun q _ => fun h => h.elim (fun e => by rw [e]; exact (Or.inr (Nat.le_add_right sz 83))) (fun h => Or.inr (Nat.le_trans (Nat.le_add_right sz 93) h))) (fun q => fun h => h.elim (fun e => by rw [e]; exact (Or.inr (Nat.le_add_right sz 83))) (fun h => Or.inr (Nat.le_trans (Nat.le_add_right sz 93) h))) (fun _ t H locs ht hvm hw hB hz hk hS => ?_)
  rw [ht] at hB
  have hr_24 := hr_24.kept (hk _ hr_24.lt (fun h => h.elim (ne_h hlt) (fun h => absurd h (Nat.not_le.mpr (Nat.lt_of_lt_of_le hlt (Nat.le_add_right sz 93))))))
  have hr_20 := hr_20.kept (hk _ hr_20.lt (fun h => h.elim (ne_o (by decide)) (fun h => absurd h (Nat.not_le.mpr (Nat.add_lt_add_left (by decide) sz)))))
  have hr_23 := hr_23.kept (hk _ hr_23.lt (fun h => h.elim (ne_o (by decide)) (fun h => absurd h (Nat.not_le.mpr (Nat.add_lt_add_left (by decide) sz)))))
  have hTB := hTB.keptC (j := 83) (z := 93) hk (by decide) (by decide)
  have hsz : H.size = sz + 93 := hB.1
  have hy_34_0 : va_at (DG E) vwCl ((sz + 83), .inr (3, [.ref (sz + 76), .ref (sz + 84), .int 0])) H := hB.2
  have hTB : TB E sz (wi p0 2 20) (wi p1 0 7) (wi p2 0 7) 93 [54, 75] H := hTB.grow (fun n hn hx => by
    rcases (show (n < 93 ∧ n ∉ ([54, 75, 83] : List Nat)) ∨ n = 83 by simp only [List.mem_cons, List.not_mem_nil, or_false, not_or, not_false_eq_true, and_true] at hx ⊢; omega) with h | rfl
    · exact Or.inl h
    · exact Or.inr hy_34_0)
  refine rr_aast (D := DG E) hx hb hK.1 5 3 hr_23 hS (Or.inr (Nat.le_add_right sz 75)) rfl hy_34_0 rfl (show vp_in (0) 4 from vp_in_iff.mpr ⟨by decide, by decide⟩) dX9_init_160 (fun H locs hn ho hz hS => ?_)
  have hr_35 : va_at (DG E) vwCl ((sz + 75), .inl (E.2.2 5, 4, .inr (.inr (.inr (.inr (va_up (fun _ => none) 0 (some (sz + 83)))))))) H := hn
  have hr_24 := hr_24.kept (ho _ (ne_h hlt))
  have hr_20 := hr_20.kept (ho _ (ne_o (by decide)))
  have hy_34_0 := hy_34_0.kept (ho _ (ne_o (by decide)))
  have hsz : H.size = sz + 93 := hz.trans hsz
  have hTB := hTB.keptW (j := 75) ho (by decide)
  refine lv_iinc (v := 1) (lv' := [(7, .int 1), (9, .ref (sz + 76)), (8, .ref (sz + 55)), (6, .int (wi p2 0 7)), (5, .int (wi p1 0 7)), (4, .int (wi p0 2 20)), (0, .ref h0), (1, .int p0), (2, .int p1), (3, .int p2)]) hx hb dX9_init_161 hl (k := 2) rfl (by decide) (by decide) rfl (fun ls hl => ?_)
  refine lv_goto (tgt := 90) hx hb dX9_init_164 (by decide) ?_
  refine lv_iload hx hb dX9_init_90 (lv_at hl 0 rfl) ?_
  refine lv_iconst (v := 4) hx hb dX9_init_92 (by decide) ?_
  refine lv_icmp_ge (tgt := 167) hx hb dX9_init_93 (by decide) (fun c_36 => absurd c_36 (by decide)) (fun c_36 => ?_)
  refine lv_aload_n hx hb dX9_init_96 rfl (lv_at hl 6 rfl) ?_
  refine va_get (D := DG E) (ci := 9) (v := .ref (sz + 54)) (C := RX9) (T := TX9) (N := 3) hx hb hts iw_X9 hown hK.1 (va_one hr_24) 0 rfl rfl 0 (by decide) (hts _ fl_X9_22) (fun _ h9 => h9) rfl dX9_init_97 ?_
  refine lv_iload hx hb dX9_init_100 (lv_at hl 0 rfl) ?_
  refine lv_iconst (v := 2) hx hb dX9_init_102 (by decide) ?_
  refine lv_irem hx hb dX9_init_103 (by decide) ?_
  refine W.eq (g2 := F0 m 104 ls [.int 1, .ref (sz + 54)]) (by rfl) ?_
  refine va_aldq (D := DG E) hx hb hK.1 (va_one hr_20) 0 3 rfl rfl (show vp_in (1) 2 from vp_in_iff.mpr ⟨by decide, by decide⟩) dX9_init_104 ?_
  refine W.eq (g2 := F0 m 105 ls [.ref (sz + 65)]) (by rfl) ?_
  refine lv_astore (lv' := [(8, .ref (sz + 65)), (7, .int 1), (9, .ref (sz + 76)), (6, .int (wi p2 0 7)), (5, .int (wi p1 0 7)), (4, .int (wi p0 2 20)), (0, .ref h0), (1, .int p0), (2, .int p1), (3, .int p2)]) hx hb dX9_init_105 hl (by decide) rfl (fun ls hl => ?_)
  refine rr_new (ci := 7) (fs := [.int 0, .null, .null, .int 0, .int 0, .int 0, .null, .int 0, .int 0, .int 0, .int 0, .int 0, .int 0, .int 0]) (C := RX7) (T := TX7) (N := 14) hx hb hts iw_X7 tyX7 tyX7_ok hown (hts _ cl_X9_33) (hts _ ia_X7) (hts _ in_X7) hK.1 hS rfl (fun j hj => by rcases (show j = 0 ∨ j = 1 ∨ j = 2 ∨ j = 3 ∨ j = 4 ∨ j = 5 ∨ j = 6 ∨ j = 7 ∨ j = 8 ∨ j = 9 ∨ j = 10 ∨ j = 11 ∨ j = 12 ∨ j = 13 by omega) with rfl | rfl | rfl | rfl | rfl | rfl | rfl | rfl | rfl | rfl | rfl | rfl | rfl | rfl <;> rfl) (Nat.le_of_ble_eq_true rfl) (Nat.le_of_ble_eq_true rfl) dX9_init_107 (fun q_37 H hq hat hz ho hS => ?_)
  obtain rfl : sz + 93 = q_37 := (hq.trans hsz).symm
  have hr_24 := hr_24.kept (ho _ hr_24.lt)
  have hr_20 := hr_20.kept (ho _ hr_20.lt)
  have hr_35 := hr_35.kept (ho _ hr_35.lt)
  have hy_34_0 := hy_34_0.kept (ho _ hy_34_0.lt)
  have hTB := hTB.keptS ho
  have hsz : H.size = sz + 94 := by rw [hz, hsz]
  have hr_38 := hat
  refine lv_dup hx hb dX9_init_110 rfl ?_
  refine lv_iload hx hb dX9_init_111 (lv_at hl 1 rfl) ?_
  refine lv_aload hx hb dX9_init_113 (lv_at hl 0 rfl) ?_
  refine lv_aload_n hx hb dX9_init_115 rfl (lv_at hl 6 rfl) ?_
  refine va_get (D := DG E) (ci := 9) (v := .ref (sz + 0)) (C := RX9) (T := TX9) (N := 3) hx hb hts iw_X9 hown hK.1 (va_one hr_24) 0 rfl rfl 2 (by decide) (hts _ fl_X9_16) (fun _ h9 => h9) rfl dX9_init_116 ?_
  refine lv_iload hx hb dX9_init_119 (lv_at hl 5 rfl) ?_
  refine lv_iload hx hb dX9_init_121 (lv_at hl 4 rfl) ?_
  refine lv_iload hx hb dX9_init_123 (lv_at hl 3 rfl) ?_
  refine va_callv (rnI (fun H => H.size = sz + 94 ∧ va_at (DG E) vwCl ((sz + 93), .inr (7, [.int 0, .null, .null, .int 0, .int 0, .int 0, .null, .int 0, .int 0, .int 0, .int 0, .int 0, .int 0, .int 0])) H) (As := [.int 1, .ref (sz + 65), .ref (sz + 0), .int (wi p0 2 20), .int (wi p1 0 7), .int (wi p2 0 7)]) (rest := [.ref (sz + 93)]) ⟨hx, hb, hml, hown, hts⟩ (e_X7_init l E z0 (sz + 93) (sz + 94) 1 (sz + 65) (sz + 0) (wi p0 2 20) (wi p1 0 7) (wi p2 0 7) (Nat.le_trans hz1 (Nat.le_add_right sz 93)) (Nat.le_trans hz1 (Nat.le_add_right sz 94)) (Nat.add_lt_add_left (by decide) sz)) (cwI 6 hts (gd1 co_X7_init rfl) rfl rfl rfl (hts _ in_X7) (hts _ ml_X9_35) (hts _ im_X7_init) rfl (by decide +kernel) ⟨Nat.le_of_ble_eq_true rfl, Nat.le_of_ble_eq_true rfl⟩) ⟨hsz, hr_38⟩ (fun U hU hW => hK.go hW hS hAz hU) rfl rfl hl.1 rfl (lv_room (Nat.le_of_ble_eq_true rfl)) dX9_init_125 ⟨Nat.le_of_ble_eq_true rfl, Nat.le_of_ble_eq_true rfl⟩) hS (fun q _ => fun h => h.elim (fun e => by rw [e]; exact (Or.inr (Nat.le_add_right sz 93))) (fun h => Or.inr (Nat.le_trans (Nat.le_add_right sz 94) h))) (fun q => fun h => h.elim (fun e => by rw [e]; exact (Or.inr (Nat.le_add_right sz 93))) (fun h => Or.inr (Nat.le_trans (Nat.le_add_right sz 94) h))) (fun _ t H locs ht hvm hw hB hz hk hS => ?_)
  rw [ht] at hB
  have hr_24 := hr_24.kept (hk _ hr_24.lt (fun h => h.elim (ne_h hlt) (fun h => absurd h (Nat.not_le.mpr (Nat.lt_of_lt_of_le hlt (Nat.le_add_right sz 94))))))
  have hr_20 := hr_20.kept (hk _ hr_20.lt (fun h => h.elim (ne_o (by decide)) (fun h => absurd h (Nat.not_le.mpr (Nat.add_lt_add_left (by decide) sz)))))
  have hr_35 := hr_35.kept (hk _ hr_35.lt (fun h => h.elim (ne_o (by decide)) (fun h => absurd h (Nat.not_le.mpr (Nat.add_lt_add_left (by decide) sz)))))
  have hTB := hTB.keptC (j := 93) (z := 94) hk (by decide) (by decide)
  have hsz : H.size = sz + 100 := hB.1
  have hy_39_0 : va_at (DG E) vwCl ((sz + 93), .inr (7, [.int (1 ^^^ 1), .ref (sz + 65), .ref (sz + 0), .int (wi p0 2 20), .int (wi p1 0 7), .int (wi p2 0 7), .ref (sz + 94), .int 0, .int 0, .int 0, .int 0, .int 0, .int 0, .int 0])) H := hB.2.1
  have hy_39_1 : va_at (DG E) vwCl ((sz + 94), .inr (5, [.int 1, .ref (sz + 65), .ref (sz + 95), .int 0, .int 0, .int 0])) H := hB.2.2.1
  have hy_39_2 : va_at (DG E) vwCl ((sz + 95), .inl (E.2.2 6, 4, .inr (.inr (.inr (.inr (fun i => some ((sz + 96) + i))))))) H := hB.2.2.2.1
  have hy_39_3 : va_at (DG E) vwCl ((sz + 96), .inr (4, [.int 0, .int 0, .int 0, .int 0, .int 0, .int 0, .int 0, .int 0, .int 0, .int 0])) H := hB.2.2.2.2.1
  have hy_39_4 : va_at (DG E) vwCl ((sz + 97), .inr (4, [.int 0, .int 0, .int 0, .int 0, .int 0, .int 0, .int 0, .int 0, .int 0, .int 0])) H := hB.2.2.2.2.2.1
  have hy_39_5 : va_at (DG E) vwCl ((sz + 98), .inr (4, [.int 0, .int 0, .int 0, .int 0, .int 0, .int 0, .int 0, .int 0, .int 0, .int 0])) H := hB.2.2.2.2.2.2.1
  have hy_39_6 : va_at (DG E) vwCl ((sz + 99), .inr (4, [.int 0, .int 0, .int 0, .int 0, .int 0, .int 0, .int 0, .int 0, .int 0, .int 0])) H := hB.2.2.2.2.2.2.2
  have hTB : TB E sz (wi p0 2 20) (wi p1 0 7) (wi p2 0 7) 100 [54, 75] H := hTB.grow (fun n hn hx => by
    rcases (show (n < 93 ∧ n ∉ ([54, 75] : List Nat)) ∨ n = 93 ∨ n = 94 ∨ n = 95 ∨ n = 96 ∨ n = 97 ∨ n = 98 ∨ n = 99 by simp only [List.mem_cons, List.not_mem_nil, or_false, not_or, not_false_eq_true, and_true] at hx ⊢; omega) with h | rfl | rfl | rfl | rfl | rfl | rfl | rfl
    · exact Or.inl h
    · exact Or.inr hy_39_0
    · exact Or.inr hy_39_1
    · exact Or.inr (arr_cg (g := fun i => some (sz + rs 95 i)) hy_39_2 (fun i _ => congrArg some (Nat.add_assoc sz 96 (i))))
    · exact Or.inr hy_39_3
    · exact Or.inr hy_39_4
    · exact Or.inr hy_39_5
    · exact Or.inr hy_39_6)
  refine lv_astore (lv' := [(9, .ref (sz + 93)), (8, .ref (sz + 65)), (7, .int 1), (6, .int (wi p2 0 7)), (5, .int (wi p1 0 7)), (4, .int (wi p0 2 20)), (0, .ref h0), (1, .int p0), (2, .int p1), (3, .int p2)]) hx hb dX9_init_128 hl (by decide) rfl (fun ls hl => ?_)
  refine lv_aload_n hx hb dX9_init_130 rfl (lv_at hl 6 rfl) ?_
  refine va_get (D := DG E) (ci := 9) (v := .ref (sz + 75)) (C := RX9) (T := TX9) (N := 3) hx hb hts iw_X9 hown hK.1 (va_one hr_24) 0 rfl rfl 1 (by decide) (hts _ fl_X9_29) (fun _ h9 => h9) rfl dX9_init_131 ?_
  refine lv_iload hx hb dX9_init_134 (lv_at hl 2 rfl) ?_
  refine rr_new (ci := 3) (fs := [.null, .null, .int 0]) (C := RX3) (T := TX3) (N := 3) hx hb hts iw_X3 tyX3 tyX3_ok hown (hts _ cl_X9_27) (hts _ ia_X3) (hts _ in_X3) hK.1 hS rfl (fun j hj => by rcases (show j = 0 ∨ j = 1 ∨ j = 2 by omega) with rfl | rfl | rfl <;> rfl) (Nat.le_of_ble_eq_true rfl) (Nat.le_of_ble_eq_true rfl) dX9_init_136 (fun q_40 H hq hat hz ho hS => ?_)
  obtain rfl : sz + 100 = q_40 := (hq.trans hsz).symm
  have hr_24 := hr_24.kept (ho _ hr_24.lt)
  have hr_20 := hr_20.kept (ho _ hr_20.lt)
  have hr_35 := hr_35.kept (ho _ hr_35.lt)
  have hy_39_0 := hy_39_0.kept (ho _ hy_39_0.lt)
  have hTB := hTB.keptS ho
  have hsz : H.size = sz + 101 := by rw [hz, hsz]
  have hr_41 := hat
  refine lv_dup hx hb dX9_init_139 rfl ?_
  refine lv_aload hx hb dX9_init_140 (lv_at hl 0 rfl) ?_
  refine rr_new (ci := 8) (fs := [.int 0, .null, .null, .null, .int 0, .int 0, .int 0, .null, .null]) (C := RX8) (T := TX8) (N := 9) hx hb hts iw_X8 tyX8 tyX8_ok hown (hts _ cl_X9_38) (hts _ ia_X8) (hts _ in_X8) hK.1 hS rfl (fun j hj => by rcases (show j = 0 ∨ j = 1 ∨ j = 2 ∨ j = 3 ∨ j = 4 ∨ j = 5 ∨ j = 6 ∨ j = 7 ∨ j = 8 by omega) with rfl | rfl | rfl | rfl | rfl | rfl | rfl | rfl | rfl <;> rfl) (Nat.le_of_ble_eq_true rfl) (Nat.le_of_ble_eq_true rfl) dX9_init_142 (fun q_42 H hq hat hz ho hS => ?_)
  obtain rfl : sz + 101 = q_42 := (hq.trans hsz).symm
  have hr_24 := hr_24.kept (ho _ hr_24.lt)
  have hr_20 := hr_20.kept (ho _ hr_20.lt)
  have hr_35 := hr_35.kept (ho _ hr_35.lt)
  have hy_39_0 := hy_39_0.kept (ho _ hy_39_0.lt)
  have hr_41 := hr_41.kept (ho _ hr_41.lt)
  have hTB := hTB.keptS ho
  have hsz : H.size = sz + 102 := by rw [hz, hsz]
  have hr_43 := hat
  refine lv_dup hx hb dX9_init_145 rfl ?_
  refine lv_iload hx hb dX9_init_146 (lv_at hl 2 rfl) ?_
  refine lv_aload hx hb dX9_init_148 (lv_at hl 1 rfl) ?_
  refine lv_aload_n hx hb dX9_init_150 rfl (lv_at hl 6 rfl) ?_
  refine va_get (D := DG E) (ci := 9) (v := .ref (sz + 0)) (C := RX9) (T := TX9) (N := 3) hx hb hts iw_X9 hown hK.1 (va_one hr_24) 0 rfl rfl 2 (by decide) (hts _ fl_X9_16) (fun _ h9 => h9) rfl dX9_init_151 ?_
  refine va_callv (rnI (fun H => H.size = sz + 102 ∧ va_at (DG E) vwCl ((sz + 101), .inr (8, [.int 0, .null, .null, .null, .int 0, .int 0, .int 0, .null, .null])) H) (As := [.int 1, .ref (sz + 65), .ref (sz + 0)]) (rest := [.ref (sz + 101), .ref (sz + 93), .ref (sz + 100), .ref (sz + 100), .int 1, .ref (sz + 75)]) ⟨hx, hb, hml, hown, hts⟩ (e_X8_init l E z0 (sz + 101) (sz + 102) 1 (sz + 65) (sz + 0) (Nat.le_trans hz1 (Nat.le_add_right sz 101)) (Nat.le_trans hz1 (Nat.le_add_right sz 102)) (Nat.add_lt_add_left (by decide) sz)) (cwI 3 hts (gd1 co_X8_init rfl) rfl rfl rfl (hts _ in_X8) (hts _ ml_X9_40) (hts _ im_X8_init) rfl (by decide +kernel) ⟨Nat.le_of_ble_eq_true rfl, Nat.le_of_ble_eq_true rfl⟩) ⟨hsz, hr_43⟩ (fun U hU hW => hK.go hW hS hAz hU) rfl rfl hl.1 rfl (lv_room (Nat.le_of_ble_eq_true rfl)) dX9_init_154 ⟨Nat.le_of_ble_eq_true rfl, Nat.le_of_ble_eq_true rfl⟩) hS (fun q _ => fun h => h.elim (fun e => by rw [e]; exact (Or.inr (Nat.le_add_right sz 101))) (fun h => Or.inr (Nat.le_trans (Nat.le_add_right sz 102) h))) (fun q => fun h => h.elim (fun e => by rw [e]; exact (Or.inr (Nat.le_add_right sz 101))) (fun h => Or.inr (Nat.le_trans (Nat.le_add_right sz 102) h))) (fun _ t H locs ht hvm hw hB hz hk hS => ?_)
  rw [ht] at hB
  have hr_24 := hr_24.kept (hk _ hr_24.lt (fun h => h.elim (ne_h hlt) (fun h => absurd h (Nat.not_le.mpr (Nat.lt_of_lt_of_le hlt (Nat.le_add_right sz 102))))))
  have hr_20 := hr_20.kept (hk _ hr_20.lt (fun h => h.elim (ne_o (by decide)) (fun h => absurd h (Nat.not_le.mpr (Nat.add_lt_add_left (by decide) sz)))))
  have hr_35 := hr_35.kept (hk _ hr_35.lt (fun h => h.elim (ne_o (by decide)) (fun h => absurd h (Nat.not_le.mpr (Nat.add_lt_add_left (by decide) sz)))))
  have hr_41 := hr_41.kept (hk _ hr_41.lt (fun h => h.elim (ne_o (by decide)) (fun h => absurd h (Nat.not_le.mpr (Nat.add_lt_add_left (by decide) sz)))))
  have hTB := hTB.keptC (j := 101) (z := 102) hk (by decide) (by decide)
  have hsz : H.size = sz + 110 := hB.1
  have hy_44_0 : va_at (DG E) vwCl ((sz + 101), .inr (8, [.int (1 ^^^ 1), .ref (sz + 65), .ref (sz + 0), .ref (sz + 104), .int 0, .int 0, .int 0, .ref (sz + 102), .ref (sz + 103)])) H := hB.2.1
  have hy_44_1 : va_at (DG E) vwCl ((sz + 102), .inl (E.2.2 0, 2, .inl (fun _ => -1))) H := hB.2.2.1
  have hy_44_2 : va_at (DG E) vwCl ((sz + 103), .inl (E.2.2 0, 2, .inl (fun _ => 0))) H := hB.2.2.2.1
  have hy_44_3 : va_at (DG E) vwCl ((sz + 104), .inr (5, [.int 1, .ref (sz + 65), .ref (sz + 105), .int 0, .int 0, .int 0])) H := hB.2.2.2.2.1
  have hy_44_4 : va_at (DG E) vwCl ((sz + 105), .inl (E.2.2 6, 4, .inr (.inr (.inr (.inr (fun i => some ((sz + 106) + i))))))) H := hB.2.2.2.2.2.1
  have hy_44_5 : va_at (DG E) vwCl ((sz + 106), .inr (4, [.int 0, .int 0, .int 0, .int 0, .int 0, .int 0, .int 0, .int 0, .int 0, .int 0])) H := hB.2.2.2.2.2.2.1
  have hy_44_6 : va_at (DG E) vwCl ((sz + 107), .inr (4, [.int 0, .int 0, .int 0, .int 0, .int 0, .int 0, .int 0, .int 0, .int 0, .int 0])) H := hB.2.2.2.2.2.2.2.1
  have hy_44_7 : va_at (DG E) vwCl ((sz + 108), .inr (4, [.int 0, .int 0, .int 0, .int 0, .int 0, .int 0, .int 0, .int 0, .int 0, .int 0])) H := hB.2.2.2.2.2.2.2.2.1
  have hy_44_8 : va_at (DG E) vwCl ((sz + 109), .inr (4, [.int 0, .int 0, .int 0, .int 0, .int 0, .int 0, .int 0, .int 0, .int 0, .int 0])) H := hB.2.2.2.2.2.2.2.2.2
  have hTB : TB E sz (wi p0 2 20) (wi p1 0 7) (wi p2 0 7) 110 [54, 75, 100] H := hTB.grow (fun n hn hx => by
    rcases (show (n < 100 ∧ n ∉ ([54, 75] : List Nat)) ∨ n = 101 ∨ n = 102 ∨ n = 103 ∨ n = 104 ∨ n = 105 ∨ n = 106 ∨ n = 107 ∨ n = 108 ∨ n = 109 by simp only [List.mem_cons, List.not_mem_nil, or_false, not_or, not_false_eq_true, and_true] at hx ⊢; omega) with h | rfl | rfl | rfl | rfl | rfl | rfl | rfl | rfl | rfl
    · exact Or.inl h
    · exact Or.inr hy_44_0
    · exact Or.inr hy_44_1
    · exact Or.inr hy_44_2
    · exact Or.inr hy_44_3
    · exact Or.inr (arr_cg (g := fun i => some (sz + rs 105 i)) hy_44_4 (fun i _ => congrArg some (Nat.add_assoc sz 106 (i))))
    · exact Or.inr hy_44_5
    · exact Or.inr hy_44_6
    · exact Or.inr hy_44_7
    · exact Or.inr hy_44_8)
  refine va_callv (rnI (fun H => H.size = sz + 110 ∧ va_at (DG E) vwCl ((sz + 100), .inr (3, [.null, .null, .int 0])) H) (As := [.ref (sz + 93), .ref (sz + 101)]) (rest := [.ref (sz + 100), .int 1, .ref (sz + 75)]) ⟨hx, hb, hml, hown, hts⟩ (e_X3_init l E z0 (sz + 100) (sz + 110) (sz + 93) (sz + 101) (Nat.le_trans hz1 (Nat.le_add_right sz 100)) (Nat.le_trans hz1 (Nat.le_add_right sz 110)) (Nat.add_lt_add_left (by decide) sz)) (cwI 2 hts (gd1 co_X3_init rfl) rfl rfl rfl (hts _ in_X3) (hts _ ml_X9_43) (hts _ im_X3_init) rfl (by decide +kernel) ⟨Nat.le_of_ble_eq_true rfl, Nat.le_of_ble_eq_true rfl⟩) ⟨hsz, hr_41⟩ (fun U hU hW => hK.go hW hS hAz hU) rfl rfl hl.1 rfl (lv_room (Nat.le_of_ble_eq_true rfl)) dX9_init_157 ⟨Nat.le_of_ble_eq_true rfl, Nat.le_of_ble_eq_true rfl⟩) hS (fun q _ => fun h => h.elim (fun e => by rw [e]; exact (Or.inr (Nat.le_add_right sz 100))) (fun h => Or.inr (Nat.le_trans (Nat.le_add_right sz 110) h))) (fun q => fun h => h.elim (fun e => by rw [e]; exact (Or.inr (Nat.le_add_right sz 100))) (fun h => Or.inr (Nat.le_trans (Nat.le_add_right sz 110) h))) (fun _ t H locs ht hvm hw hB hz hk hS => ?_)
  rw [ht] at hB
  have hr_24 := hr_24.kept (hk _ hr_24.lt (fun h => h.elim (ne_h hlt) (fun h => absurd h (Nat.not_le.mpr (Nat.lt_of_lt_of_le hlt (Nat.le_add_right sz 110))))))
  have hr_20 := hr_20.kept (hk _ hr_20.lt (fun h => h.elim (ne_o (by decide)) (fun h => absurd h (Nat.not_le.mpr (Nat.add_lt_add_left (by decide) sz)))))
  have hr_35 := hr_35.kept (hk _ hr_35.lt (fun h => h.elim (ne_o (by decide)) (fun h => absurd h (Nat.not_le.mpr (Nat.add_lt_add_left (by decide) sz)))))
  have hTB := hTB.keptC (j := 100) (z := 110) hk (by decide) (by decide)
  have hsz : H.size = sz + 110 := hB.1
  have hy_45_0 : va_at (DG E) vwCl ((sz + 100), .inr (3, [.ref (sz + 93), .ref (sz + 101), .int 0])) H := hB.2
  have hTB : TB E sz (wi p0 2 20) (wi p1 0 7) (wi p2 0 7) 110 [54, 75] H := hTB.grow (fun n hn hx => by
    rcases (show (n < 110 ∧ n ∉ ([54, 75, 100] : List Nat)) ∨ n = 100 by simp only [List.mem_cons, List.not_mem_nil, or_false, not_or, not_false_eq_true, and_true] at hx ⊢; omega) with h | rfl
    · exact Or.inl h
    · exact Or.inr hy_45_0)
  refine rr_aast (D := DG E) hx hb hK.1 5 3 hr_35 hS (Or.inr (Nat.le_add_right sz 75)) rfl hy_45_0 rfl (show vp_in (1) 4 from vp_in_iff.mpr ⟨by decide, by decide⟩) dX9_init_160 (fun H locs hn ho hz hS => ?_)
  have hr_46 : va_at (DG E) vwCl ((sz + 75), .inl (E.2.2 5, 4, .inr (.inr (.inr (.inr (va_up (va_up (fun _ => none) 0 (some (sz + 83))) 1 (some (sz + 100)))))))) H := hn
  have hr_24 := hr_24.kept (ho _ (ne_h hlt))
  have hr_20 := hr_20.kept (ho _ (ne_o (by decide)))
  have hy_45_0 := hy_45_0.kept (ho _ (ne_o (by decide)))
  have hsz : H.size = sz + 110 := hz.trans hsz
  have hTB := hTB.keptW (j := 75) ho (by decide)
  refine lv_iinc (v := 2) (lv' := [(7, .int 2), (9, .ref (sz + 93)), (8, .ref (sz + 65)), (6, .int (wi p2 0 7)), (5, .int (wi p1 0 7)), (4, .int (wi p0 2 20)), (0, .ref h0), (1, .int p0), (2, .int p1), (3, .int p2)]) hx hb dX9_init_161 hl (k := 2) rfl (by decide) (by decide) rfl (fun ls hl => ?_)
  refine lv_goto (tgt := 90) hx hb dX9_init_164 (by decide) ?_
  refine lv_iload hx hb dX9_init_90 (lv_at hl 0 rfl) ?_
  refine lv_iconst (v := 4) hx hb dX9_init_92 (by decide) ?_
  refine lv_icmp_ge (tgt := 167) hx hb dX9_init_93 (by decide) (fun c_47 => absurd c_47 (by decide)) (fun c_47 => ?_)
  refine lv_aload_n hx hb dX9_init_96 rfl (lv_at hl 6 rfl) ?_
  refine va_get (D := DG E) (ci := 9) (v := .ref (sz + 54)) (C := RX9) (T := TX9) (N := 3) hx hb hts iw_X9 hown hK.1 (va_one hr_24) 0 rfl rfl 0 (by decide) (hts _ fl_X9_22) (fun _ h9 => h9) rfl dX9_init_97 ?_
  refine lv_iload hx hb dX9_init_100 (lv_at hl 0 rfl) ?_
  refine lv_iconst (v := 2) hx hb dX9_init_102 (by decide) ?_
  refine lv_irem hx hb dX9_init_103 (by decide) ?_
  refine W.eq (g2 := F0 m 104 ls [.int 0, .ref (sz + 54)]) (by rfl) ?_
  refine va_aldq (D := DG E) hx hb hK.1 (va_one hr_20) 0 3 rfl rfl (show vp_in (0) 2 from vp_in_iff.mpr ⟨by decide, by decide⟩) dX9_init_104 ?_
  refine W.eq (g2 := F0 m 105 ls [.ref (sz + 55)]) (by rfl) ?_
  refine lv_astore (lv' := [(8, .ref (sz + 55)), (7, .int 2), (9, .ref (sz + 93)), (6, .int (wi p2 0 7)), (5, .int (wi p1 0 7)), (4, .int (wi p0 2 20)), (0, .ref h0), (1, .int p0), (2, .int p1), (3, .int p2)]) hx hb dX9_init_105 hl (by decide) rfl (fun ls hl => ?_)
  refine rr_new (ci := 7) (fs := [.int 0, .null, .null, .int 0, .int 0, .int 0, .null, .int 0, .int 0, .int 0, .int 0, .int 0, .int 0, .int 0]) (C := RX7) (T := TX7) (N := 14) hx hb hts iw_X7 tyX7 tyX7_ok hown (hts _ cl_X9_33) (hts _ ia_X7) (hts _ in_X7) hK.1 hS rfl (fun j hj => by rcases (show j = 0 ∨ j = 1 ∨ j = 2 ∨ j = 3 ∨ j = 4 ∨ j = 5 ∨ j = 6 ∨ j = 7 ∨ j = 8 ∨ j = 9 ∨ j = 10 ∨ j = 11 ∨ j = 12 ∨ j = 13 by omega) with rfl | rfl | rfl | rfl | rfl | rfl | rfl | rfl | rfl | rfl | rfl | rfl | rfl | rfl <;> rfl) (Nat.le_of_ble_eq_true rfl) (Nat.le_of_ble_eq_true rfl) dX9_init_107 (fun q_48 H hq hat hz ho hS => ?_)
  obtain rfl : sz + 110 = q_48 := (hq.trans hsz).symm
  have hr_24 := hr_24.kept (ho _ hr_24.lt)
  have hr_20 := hr_20.kept (ho _ hr_20.lt)
  have hr_46 := hr_46.kept (ho _ hr_46.lt)
  have hy_45_0 := hy_45_0.kept (ho _ hy_45_0.lt)
  have hTB := hTB.keptS ho
  have hsz : H.size = sz + 111 := by rw [hz, hsz]
  have hr_49 := hat
  refine lv_dup hx hb dX9_init_110 rfl ?_
  refine lv_iload hx hb dX9_init_111 (lv_at hl 1 rfl) ?_
  refine lv_aload hx hb dX9_init_113 (lv_at hl 0 rfl) ?_
  refine lv_aload_n hx hb dX9_init_115 rfl (lv_at hl 6 rfl) ?_
  refine va_get (D := DG E) (ci := 9) (v := .ref (sz + 0)) (C := RX9) (T := TX9) (N := 3) hx hb hts iw_X9 hown hK.1 (va_one hr_24) 0 rfl rfl 2 (by decide) (hts _ fl_X9_16) (fun _ h9 => h9) rfl dX9_init_116 ?_
  refine lv_iload hx hb dX9_init_119 (lv_at hl 5 rfl) ?_
  refine lv_iload hx hb dX9_init_121 (lv_at hl 4 rfl) ?_
  refine lv_iload hx hb dX9_init_123 (lv_at hl 3 rfl) ?_
  refine va_callv (rnI (fun H => H.size = sz + 111 ∧ va_at (DG E) vwCl ((sz + 110), .inr (7, [.int 0, .null, .null, .int 0, .int 0, .int 0, .null, .int 0, .int 0, .int 0, .int 0, .int 0, .int 0, .int 0])) H) (As := [.int 2, .ref (sz + 55), .ref (sz + 0), .int (wi p0 2 20), .int (wi p1 0 7), .int (wi p2 0 7)]) (rest := [.ref (sz + 110)]) ⟨hx, hb, hml, hown, hts⟩ (e_X7_init l E z0 (sz + 110) (sz + 111) 2 (sz + 55) (sz + 0) (wi p0 2 20) (wi p1 0 7) (wi p2 0 7) (Nat.le_trans hz1 (Nat.le_add_right sz 110)) (Nat.le_trans hz1 (Nat.le_add_right sz 111)) (Nat.add_lt_add_left (by decide) sz)) (cwI 6 hts (gd1 co_X7_init rfl) rfl rfl rfl (hts _ in_X7) (hts _ ml_X9_35) (hts _ im_X7_init) rfl (by decide +kernel) ⟨Nat.le_of_ble_eq_true rfl, Nat.le_of_ble_eq_true rfl⟩) ⟨hsz, hr_49⟩ (fun U hU hW => hK.go hW hS hAz hU) rfl rfl hl.1 rfl (lv_room (Nat.le_of_ble_eq_true rfl)) dX9_init_125 ⟨Nat.le_of_ble_eq_true rfl, Nat.le_of_ble_eq_true rfl⟩) hS (fun q _ => fun h => h.elim (fun e => by rw [e]; exact (Or.inr (Nat.le_add_right sz 110))) (fun h => Or.inr (Nat.le_trans (Nat.le_add_right sz 111) h))) (fun q => fun h => h.elim (fun e => by rw [e]; exact (Or.inr (Nat.le_add_right sz 110))) (fun h => Or.inr (Nat.le_trans (Nat.le_add_right sz 111) h))) (fun _ t H locs ht hvm hw hB hz hk hS => ?_)
  rw [ht] at hB
  have hr_24 := hr_24.kept (hk _ hr_24.lt (fun h => h.elim (ne_h hlt) (fun h => absurd h (Nat.not_le.mpr (Nat.lt_of_lt_of_le hlt (Nat.le_add_right sz 111))))))
  have hr_20 := hr_20.kept (hk _ hr_20.lt (fun h => h.elim (ne_o (by decide)) (fun h => absurd h (Nat.not_le.mpr (Nat.add_lt_add_left (by decide) sz)))))
  have hr_46 := hr_46.kept (hk _ hr_46.lt (fun h => h.elim (ne_o (by decide)) (fun h => absurd h (Nat.not_le.mpr (Nat.add_lt_add_left (by decide) sz)))))
  have hTB := hTB.keptC (j := 110) (z := 111) hk (by decide) (by decide)
  have hsz : H.size = sz + 117 := hB.1
  have hy_50_0 : va_at (DG E) vwCl ((sz + 110), .inr (7, [.int (2 ^^^ 1), .ref (sz + 55), .ref (sz + 0), .int (wi p0 2 20), .int (wi p1 0 7), .int (wi p2 0 7), .ref (sz + 111), .int 0, .int 0, .int 0, .int 0, .int 0, .int 0, .int 0])) H := hB.2.1
  have hy_50_1 : va_at (DG E) vwCl ((sz + 111), .inr (5, [.int 2, .ref (sz + 55), .ref (sz + 112), .int 0, .int 0, .int 0])) H := hB.2.2.1
  have hy_50_2 : va_at (DG E) vwCl ((sz + 112), .inl (E.2.2 6, 4, .inr (.inr (.inr (.inr (fun i => some ((sz + 113) + i))))))) H := hB.2.2.2.1
  have hy_50_3 : va_at (DG E) vwCl ((sz + 113), .inr (4, [.int 0, .int 0, .int 0, .int 0, .int 0, .int 0, .int 0, .int 0, .int 0, .int 0])) H := hB.2.2.2.2.1
  have hy_50_4 : va_at (DG E) vwCl ((sz + 114), .inr (4, [.int 0, .int 0, .int 0, .int 0, .int 0, .int 0, .int 0, .int 0, .int 0, .int 0])) H := hB.2.2.2.2.2.1
  have hy_50_5 : va_at (DG E) vwCl ((sz + 115), .inr (4, [.int 0, .int 0, .int 0, .int 0, .int 0, .int 0, .int 0, .int 0, .int 0, .int 0])) H := hB.2.2.2.2.2.2.1
  have hy_50_6 : va_at (DG E) vwCl ((sz + 116), .inr (4, [.int 0, .int 0, .int 0, .int 0, .int 0, .int 0, .int 0, .int 0, .int 0, .int 0])) H := hB.2.2.2.2.2.2.2
  have hTB : TB E sz (wi p0 2 20) (wi p1 0 7) (wi p2 0 7) 117 [54, 75] H := hTB.grow (fun n hn hx => by
    rcases (show (n < 110 ∧ n ∉ ([54, 75] : List Nat)) ∨ n = 110 ∨ n = 111 ∨ n = 112 ∨ n = 113 ∨ n = 114 ∨ n = 115 ∨ n = 116 by simp only [List.mem_cons, List.not_mem_nil, or_false, not_or, not_false_eq_true, and_true] at hx ⊢; omega) with h | rfl | rfl | rfl | rfl | rfl | rfl | rfl
    · exact Or.inl h
    · exact Or.inr hy_50_0
    · exact Or.inr hy_50_1
    · exact Or.inr (arr_cg (g := fun i => some (sz + rs 112 i)) hy_50_2 (fun i _ => congrArg some (Nat.add_assoc sz 113 (i))))
    · exact Or.inr hy_50_3
    · exact Or.inr hy_50_4
    · exact Or.inr hy_50_5
    · exact Or.inr hy_50_6)
  refine lv_astore (lv' := [(9, .ref (sz + 110)), (8, .ref (sz + 55)), (7, .int 2), (6, .int (wi p2 0 7)), (5, .int (wi p1 0 7)), (4, .int (wi p0 2 20)), (0, .ref h0), (1, .int p0), (2, .int p1), (3, .int p2)]) hx hb dX9_init_128 hl (by decide) rfl (fun ls hl => ?_)
  refine lv_aload_n hx hb dX9_init_130 rfl (lv_at hl 6 rfl) ?_
  refine va_get (D := DG E) (ci := 9) (v := .ref (sz + 75)) (C := RX9) (T := TX9) (N := 3) hx hb hts iw_X9 hown hK.1 (va_one hr_24) 0 rfl rfl 1 (by decide) (hts _ fl_X9_29) (fun _ h9 => h9) rfl dX9_init_131 ?_
  refine lv_iload hx hb dX9_init_134 (lv_at hl 2 rfl) ?_
  refine rr_new (ci := 3) (fs := [.null, .null, .int 0]) (C := RX3) (T := TX3) (N := 3) hx hb hts iw_X3 tyX3 tyX3_ok hown (hts _ cl_X9_27) (hts _ ia_X3) (hts _ in_X3) hK.1 hS rfl (fun j hj => by rcases (show j = 0 ∨ j = 1 ∨ j = 2 by omega) with rfl | rfl | rfl <;> rfl) (Nat.le_of_ble_eq_true rfl) (Nat.le_of_ble_eq_true rfl) dX9_init_136 (fun q_51 H hq hat hz ho hS => ?_)
  obtain rfl : sz + 117 = q_51 := (hq.trans hsz).symm
  have hr_24 := hr_24.kept (ho _ hr_24.lt)
  have hr_20 := hr_20.kept (ho _ hr_20.lt)
  have hr_46 := hr_46.kept (ho _ hr_46.lt)
  have hy_50_0 := hy_50_0.kept (ho _ hy_50_0.lt)
  have hTB := hTB.keptS ho
  have hsz : H.size = sz + 118 := by rw [hz, hsz]
  have hr_52 := hat
  refine lv_dup hx hb dX9_init_139 rfl ?_
  refine lv_aload hx hb dX9_init_140 (lv_at hl 0 rfl) ?_
  refine rr_new (ci := 8) (fs := [.int 0, .null, .null, .null, .int 0, .int 0, .int 0, .null, .null]) (C := RX8) (T := TX8) (N := 9) hx hb hts iw_X8 tyX8 tyX8_ok hown (hts _ cl_X9_38) (hts _ ia_X8) (hts _ in_X8) hK.1 hS rfl (fun j hj => by rcases (show j = 0 ∨ j = 1 ∨ j = 2 ∨ j = 3 ∨ j = 4 ∨ j = 5 ∨ j = 6 ∨ j = 7 ∨ j = 8 by omega) with rfl | rfl | rfl | rfl | rfl | rfl | rfl | rfl | rfl <;> rfl) (Nat.le_of_ble_eq_true rfl) (Nat.le_of_ble_eq_true rfl) dX9_init_142 (fun q_53 H hq hat hz ho hS => ?_)
  obtain rfl : sz + 118 = q_53 := (hq.trans hsz).symm
  have hr_24 := hr_24.kept (ho _ hr_24.lt)
  have hr_20 := hr_20.kept (ho _ hr_20.lt)
  have hr_46 := hr_46.kept (ho _ hr_46.lt)
  have hy_50_0 := hy_50_0.kept (ho _ hy_50_0.lt)
  have hr_52 := hr_52.kept (ho _ hr_52.lt)
  have hTB := hTB.keptS ho
  have hsz : H.size = sz + 119 := by rw [hz, hsz]
  have hr_54 := hat
  refine lv_dup hx hb dX9_init_145 rfl ?_
  refine lv_iload hx hb dX9_init_146 (lv_at hl 2 rfl) ?_
  refine lv_aload hx hb dX9_init_148 (lv_at hl 1 rfl) ?_
  refine lv_aload_n hx hb dX9_init_150 rfl (lv_at hl 6 rfl) ?_
  refine va_get (D := DG E) (ci := 9) (v := .ref (sz + 0)) (C := RX9) (T := TX9) (N := 3) hx hb hts iw_X9 hown hK.1 (va_one hr_24) 0 rfl rfl 2 (by decide) (hts _ fl_X9_16) (fun _ h9 => h9) rfl dX9_init_151 ?_
  refine va_callv (rnI (fun H => H.size = sz + 119 ∧ va_at (DG E) vwCl ((sz + 118), .inr (8, [.int 0, .null, .null, .null, .int 0, .int 0, .int 0, .null, .null])) H) (As := [.int 2, .ref (sz + 55), .ref (sz + 0)]) (rest := [.ref (sz + 118), .ref (sz + 110), .ref (sz + 117), .ref (sz + 117), .int 2, .ref (sz + 75)]) ⟨hx, hb, hml, hown, hts⟩ (e_X8_init l E z0 (sz + 118) (sz + 119) 2 (sz + 55) (sz + 0) (Nat.le_trans hz1 (Nat.le_add_right sz 118)) (Nat.le_trans hz1 (Nat.le_add_right sz 119)) (Nat.add_lt_add_left (by decide) sz)) (cwI 3 hts (gd1 co_X8_init rfl) rfl rfl rfl (hts _ in_X8) (hts _ ml_X9_40) (hts _ im_X8_init) rfl (by decide +kernel) ⟨Nat.le_of_ble_eq_true rfl, Nat.le_of_ble_eq_true rfl⟩) ⟨hsz, hr_54⟩ (fun U hU hW => hK.go hW hS hAz hU) rfl rfl hl.1 rfl (lv_room (Nat.le_of_ble_eq_true rfl)) dX9_init_154 ⟨Nat.le_of_ble_eq_true rfl, Nat.le_of_ble_eq_true rfl⟩) hS (fun q _ => fun h => h.elim (fun e => by rw [e]; exact (Or.inr (Nat.le_add_right sz 118))) (fun h => Or.inr (Nat.le_trans (Nat.le_add_right sz 119) h))) (fun q => fun h => h.elim (fun e => by rw [e]; exact (Or.inr (Nat.le_add_right sz 118))) (fun h => Or.inr (Nat.le_trans (Nat.le_add_right sz 119) h))) (fun _ t H locs ht hvm hw hB hz hk hS => ?_)
  rw [ht] at hB
  have hr_24 := hr_24.kept (hk _ hr_24.lt (fun h => h.elim (ne_h hlt) (fun h => absurd h (Nat.not_le.mpr (Nat.lt_of_lt_of_le hlt (Nat.le_add_right sz 119))))))
  have hr_20 := hr_20.kept (hk _ hr_20.lt (fun h => h.elim (ne_o (by decide)) (fun h => absurd h (Nat.not_le.mpr (Nat.add_lt_add_left (by decide) sz)))))
  have hr_46 := hr_46.kept (hk _ hr_46.lt (fun h => h.elim (ne_o (by decide)) (fun h => absurd h (Nat.not_le.mpr (Nat.add_lt_add_left (by decide) sz)))))
  have hr_52 := hr_52.kept (hk _ hr_52.lt (fun h => h.elim (ne_o (by decide)) (fun h => absurd h (Nat.not_le.mpr (Nat.add_lt_add_left (by decide) sz)))))
  have hTB := hTB.keptC (j := 118) (z := 119) hk (by decide) (by decide)
  have hsz : H.size = sz + 127 := hB.1
  have hy_55_0 : va_at (DG E) vwCl ((sz + 118), .inr (8, [.int (2 ^^^ 1), .ref (sz + 55), .ref (sz + 0), .ref (sz + 121), .int 0, .int 0, .int 0, .ref (sz + 119), .ref (sz + 120)])) H := hB.2.1
  have hy_55_1 : va_at (DG E) vwCl ((sz + 119), .inl (E.2.2 0, 2, .inl (fun _ => -1))) H := hB.2.2.1
  have hy_55_2 : va_at (DG E) vwCl ((sz + 120), .inl (E.2.2 0, 2, .inl (fun _ => 0))) H := hB.2.2.2.1
  have hy_55_3 : va_at (DG E) vwCl ((sz + 121), .inr (5, [.int 2, .ref (sz + 55), .ref (sz + 122), .int 0, .int 0, .int 0])) H := hB.2.2.2.2.1
  have hy_55_4 : va_at (DG E) vwCl ((sz + 122), .inl (E.2.2 6, 4, .inr (.inr (.inr (.inr (fun i => some ((sz + 123) + i))))))) H := hB.2.2.2.2.2.1
  have hy_55_5 : va_at (DG E) vwCl ((sz + 123), .inr (4, [.int 0, .int 0, .int 0, .int 0, .int 0, .int 0, .int 0, .int 0, .int 0, .int 0])) H := hB.2.2.2.2.2.2.1
  have hy_55_6 : va_at (DG E) vwCl ((sz + 124), .inr (4, [.int 0, .int 0, .int 0, .int 0, .int 0, .int 0, .int 0, .int 0, .int 0, .int 0])) H := hB.2.2.2.2.2.2.2.1
  have hy_55_7 : va_at (DG E) vwCl ((sz + 125), .inr (4, [.int 0, .int 0, .int 0, .int 0, .int 0, .int 0, .int 0, .int 0, .int 0, .int 0])) H := hB.2.2.2.2.2.2.2.2.1
  have hy_55_8 : va_at (DG E) vwCl ((sz + 126), .inr (4, [.int 0, .int 0, .int 0, .int 0, .int 0, .int 0, .int 0, .int 0, .int 0, .int 0])) H := hB.2.2.2.2.2.2.2.2.2
  have hTB : TB E sz (wi p0 2 20) (wi p1 0 7) (wi p2 0 7) 127 [54, 75, 117] H := hTB.grow (fun n hn hx => by
    rcases (show (n < 117 ∧ n ∉ ([54, 75] : List Nat)) ∨ n = 118 ∨ n = 119 ∨ n = 120 ∨ n = 121 ∨ n = 122 ∨ n = 123 ∨ n = 124 ∨ n = 125 ∨ n = 126 by simp only [List.mem_cons, List.not_mem_nil, or_false, not_or, not_false_eq_true, and_true] at hx ⊢; omega) with h | rfl | rfl | rfl | rfl | rfl | rfl | rfl | rfl | rfl
    · exact Or.inl h
    · exact Or.inr hy_55_0
    · exact Or.inr hy_55_1
    · exact Or.inr hy_55_2
    · exact Or.inr hy_55_3
    · exact Or.inr (arr_cg (g := fun i => some (sz + rs 122 i)) hy_55_4 (fun i _ => congrArg some (Nat.add_assoc sz 123 (i))))
    · exact Or.inr hy_55_5
    · exact Or.inr hy_55_6
    · exact Or.inr hy_55_7
    · exact Or.inr hy_55_8)
  refine va_callv (rnI (fun H => H.size = sz + 127 ∧ va_at (DG E) vwCl ((sz + 117), .inr (3, [.null, .null, .int 0])) H) (As := [.ref (sz + 110), .ref (sz + 118)]) (rest := [.ref (sz + 117), .int 2, .ref (sz + 75)]) ⟨hx, hb, hml, hown, hts⟩ (e_X3_init l E z0 (sz + 117) (sz + 127) (sz + 110) (sz + 118) (Nat.le_trans hz1 (Nat.le_add_right sz 117)) (Nat.le_trans hz1 (Nat.le_add_right sz 127)) (Nat.add_lt_add_left (by decide) sz)) (cwI 2 hts (gd1 co_X3_init rfl) rfl rfl rfl (hts _ in_X3) (hts _ ml_X9_43) (hts _ im_X3_init) rfl (by decide +kernel) ⟨Nat.le_of_ble_eq_true rfl, Nat.le_of_ble_eq_true rfl⟩) ⟨hsz, hr_52⟩ (fun U hU hW => hK.go hW hS hAz hU) rfl rfl hl.1 rfl (lv_room (Nat.le_of_ble_eq_true rfl)) dX9_init_157 ⟨Nat.le_of_ble_eq_true rfl, Nat.le_of_ble_eq_true rfl⟩) hS (fun q _ => fun h => h.elim (fun e => by rw [e]; exact (Or.inr (Nat.le_add_right sz 117))) (fun h => Or.inr (Nat.le_trans (Nat.le_add_right sz 127) h))) (fun q => fun h => h.elim (fun e => by rw [e]; exact (Or.inr (Nat.le_add_right sz 117))) (fun h => Or.inr (Nat.le_trans (Nat.le_add_right sz 127) h))) (fun _ t H locs ht hvm hw hB hz hk hS => ?_)
  rw [ht] at hB
  have hr_24 := hr_24.kept (hk _ hr_24.lt (fun h => h.elim (ne_h hlt) (fun h => absurd h (Nat.not_le.mpr (Nat.lt_of_lt_of_le hlt (Nat.le_add_right sz 127))))))
  have hr_20 := hr_20.kept (hk _ hr_20.lt (fun h => h.elim (ne_o (by decide)) (fun h => absurd h (Nat.not_le.mpr (Nat.add_lt_add_left (by decide) sz)))))
  have hr_46 := hr_46.kept (hk _ hr_46.lt (fun h => h.elim (ne_o (by decide)) (fun h => absurd h (Nat.not_le.mpr (Nat.add_lt_add_left (by decide) sz)))))
  have hTB := hTB.keptC (j := 117) (z := 127) hk (by decide) (by decide)
  have hsz : H.size = sz + 127 := hB.1
  have hy_56_0 : va_at (DG E) vwCl ((sz + 117), .inr (3, [.ref (sz + 110), .ref (sz + 118), .int 0])) H := hB.2
  have hTB : TB E sz (wi p0 2 20) (wi p1 0 7) (wi p2 0 7) 127 [54, 75] H := hTB.grow (fun n hn hx => by
    rcases (show (n < 127 ∧ n ∉ ([54, 75, 117] : List Nat)) ∨ n = 117 by simp only [List.mem_cons, List.not_mem_nil, or_false, not_or, not_false_eq_true, and_true] at hx ⊢; omega) with h | rfl
    · exact Or.inl h
    · exact Or.inr hy_56_0)
  refine rr_aast (D := DG E) hx hb hK.1 5 3 hr_46 hS (Or.inr (Nat.le_add_right sz 75)) rfl hy_56_0 rfl (show vp_in (2) 4 from vp_in_iff.mpr ⟨by decide, by decide⟩) dX9_init_160 (fun H locs hn ho hz hS => ?_)
  have hr_57 : va_at (DG E) vwCl ((sz + 75), .inl (E.2.2 5, 4, .inr (.inr (.inr (.inr (va_up (va_up (va_up (fun _ => none) 0 (some (sz + 83))) 1 (some (sz + 100))) 2 (some (sz + 117)))))))) H := hn
  have hr_24 := hr_24.kept (ho _ (ne_h hlt))
  have hr_20 := hr_20.kept (ho _ (ne_o (by decide)))
  have hy_56_0 := hy_56_0.kept (ho _ (ne_o (by decide)))
  have hsz : H.size = sz + 127 := hz.trans hsz
  have hTB := hTB.keptW (j := 75) ho (by decide)
  refine lv_iinc (v := 3) (lv' := [(7, .int 3), (9, .ref (sz + 110)), (8, .ref (sz + 55)), (6, .int (wi p2 0 7)), (5, .int (wi p1 0 7)), (4, .int (wi p0 2 20)), (0, .ref h0), (1, .int p0), (2, .int p1), (3, .int p2)]) hx hb dX9_init_161 hl (k := 2) rfl (by decide) (by decide) rfl (fun ls hl => ?_)
  refine lv_goto (tgt := 90) hx hb dX9_init_164 (by decide) ?_
  refine lv_iload hx hb dX9_init_90 (lv_at hl 0 rfl) ?_
  refine lv_iconst (v := 4) hx hb dX9_init_92 (by decide) ?_
  refine lv_icmp_ge (tgt := 167) hx hb dX9_init_93 (by decide) (fun c_58 => absurd c_58 (by decide)) (fun c_58 => ?_)
  refine lv_aload_n hx hb dX9_init_96 rfl (lv_at hl 6 rfl) ?_
  refine va_get (D := DG E) (ci := 9) (v := .ref (sz + 54)) (C := RX9) (T := TX9) (N := 3) hx hb hts iw_X9 hown hK.1 (va_one hr_24) 0 rfl rfl 0 (by decide) (hts _ fl_X9_22) (fun _ h9 => h9) rfl dX9_init_97 ?_
  refine lv_iload hx hb dX9_init_100 (lv_at hl 0 rfl) ?_
  refine lv_iconst (v := 2) hx hb dX9_init_102 (by decide) ?_
  refine lv_irem hx hb dX9_init_103 (by decide) ?_
  refine W.eq (g2 := F0 m 104 ls [.int 1, .ref (sz + 54)]) (by rfl) ?_
  refine va_aldq (D := DG E) hx hb hK.1 (va_one hr_20) 0 3 rfl rfl (show vp_in (1) 2 from vp_in_iff.mpr ⟨by decide, by decide⟩) dX9_init_104 ?_
  refine W.eq (g2 := F0 m 105 ls [.ref (sz + 65)]) (by rfl) ?_
  refine lv_astore (lv' := [(8, .ref (sz + 65)), (7, .int 3), (9, .ref (sz + 110)), (6, .int (wi p2 0 7)), (5, .int (wi p1 0 7)), (4, .int (wi p0 2 20)), (0, .ref h0), (1, .int p0), (2, .int p1), (3, .int p2)]) hx hb dX9_init_105 hl (by decide) rfl (fun ls hl => ?_)
  refine rr_new (ci := 7) (fs := [.int 0, .null, .null, .int 0, .int 0, .int 0, .null, .int 0, .int 0, .int 0, .int 0, .int 0, .int 0, .int 0]) (C := RX7) (T := TX7) (N := 14) hx hb hts iw_X7 tyX7 tyX7_ok hown (hts _ cl_X9_33) (hts _ ia_X7) (hts _ in_X7) hK.1 hS rfl (fun j hj => by rcases (show j = 0 ∨ j = 1 ∨ j = 2 ∨ j = 3 ∨ j = 4 ∨ j = 5 ∨ j = 6 ∨ j = 7 ∨ j = 8 ∨ j = 9 ∨ j = 10 ∨ j = 11 ∨ j = 12 ∨ j = 13 by omega) with rfl | rfl | rfl | rfl | rfl | rfl | rfl | rfl | rfl | rfl | rfl | rfl | rfl | rfl <;> rfl) (Nat.le_of_ble_eq_true rfl) (Nat.le_of_ble_eq_true rfl) dX9_init_107 (fun q_59 H hq hat hz ho hS => ?_)
  obtain rfl : sz + 127 = q_59 := (hq.trans hsz).symm
  have hr_24 := hr_24.kept (ho _ hr_24.lt)
  have hr_20 := hr_20.kept (ho _ hr_20.lt)
  have hr_57 := hr_57.kept (ho _ hr_57.lt)
  have hy_56_0 := hy_56_0.kept (ho _ hy_56_0.lt)
  have hTB := hTB.keptS ho
  have hsz : H.size = sz + 128 := by rw [hz, hsz]
  have hr_60 := hat
  refine lv_dup hx hb dX9_init_110 rfl ?_
  refine lv_iload hx hb dX9_init_111 (lv_at hl 1 rfl) ?_
  refine lv_aload hx hb dX9_init_113 (lv_at hl 0 rfl) ?_
  refine lv_aload_n hx hb dX9_init_115 rfl (lv_at hl 6 rfl) ?_
  refine va_get (D := DG E) (ci := 9) (v := .ref (sz + 0)) (C := RX9) (T := TX9) (N := 3) hx hb hts iw_X9 hown hK.1 (va_one hr_24) 0 rfl rfl 2 (by decide) (hts _ fl_X9_16) (fun _ h9 => h9) rfl dX9_init_116 ?_
  refine lv_iload hx hb dX9_init_119 (lv_at hl 5 rfl) ?_
  refine lv_iload hx hb dX9_init_121 (lv_at hl 4 rfl) ?_
  refine lv_iload hx hb dX9_init_123 (lv_at hl 3 rfl) ?_
  refine va_callv (rnI (fun H => H.size = sz + 128 ∧ va_at (DG E) vwCl ((sz + 127), .inr (7, [.int 0, .null, .null, .int 0, .int 0, .int 0, .null, .int 0, .int 0, .int 0, .int 0, .int 0, .int 0, .int 0])) H) (As := [.int 3, .ref (sz + 65), .ref (sz + 0), .int (wi p0 2 20), .int (wi p1 0 7), .int (wi p2 0 7)]) (rest := [.ref (sz + 127)]) ⟨hx, hb, hml, hown, hts⟩ (e_X7_init l E z0 (sz + 127) (sz + 128) 3 (sz + 65) (sz + 0) (wi p0 2 20) (wi p1 0 7) (wi p2 0 7) (Nat.le_trans hz1 (Nat.le_add_right sz 127)) (Nat.le_trans hz1 (Nat.le_add_right sz 128)) (Nat.add_lt_add_left (by decide) sz)) (cwI 6 hts (gd1 co_X7_init rfl) rfl rfl rfl (hts _ in_X7) (hts _ ml_X9_35) (hts _ im_X7_init) rfl (by decide +kernel) ⟨Nat.le_of_ble_eq_true rfl, Nat.le_of_ble_eq_true rfl⟩) ⟨hsz, hr_60⟩ (fun U hU hW => hK.go hW hS hAz hU) rfl rfl hl.1 rfl (lv_room (Nat.le_of_ble_eq_true rfl)) dX9_init_125 ⟨Nat.le_of_ble_eq_true rfl, Nat.le_of_ble_eq_true rfl⟩) hS (fun q _ => fun h => h.elim (fun e => by rw [e]; exact (Or.inr (Nat.le_add_right sz 127))) (fun h => Or.inr (Nat.le_trans (Nat.le_add_right sz 128) h))) (fun q => fun h => h.elim (fun e => by rw [e]; exact (Or.inr (Nat.le_add_right sz 127))) (fun h => Or.inr (Nat.le_trans (Nat.le_add_right sz 128) h))) (fun _ t H locs ht hvm hw hB hz hk hS => ?_)
  rw [ht] at hB
  have hr_24 := hr_24.kept (hk _ hr_24.lt (fun h => h.elim (ne_h hlt) (fun h => absurd h (Nat.not_le.mpr (Nat.lt_of_lt_of_le hlt (Nat.le_add_right sz 128))))))
  have hr_20 := hr_20.kept (hk _ hr_20.lt (fun h => h.elim (ne_o (by decide)) (fun h => absurd h (Nat.not_le.mpr (Nat.add_lt_add_left (by decide) sz)))))
  have hr_57 := hr_57.kept (hk _ hr_57.lt (fun h => h.elim (ne_o (by decide)) (fun h => absurd h (Nat.not_le.mpr (Nat.add_lt_add_left (by decide) sz)))))
  have hTB := hTB.keptC (j := 127) (z := 128) hk (by decide) (by decide)
  have hsz : H.size = sz + 134 := hB.1
  have hy_61_0 : va_at (DG E) vwCl ((sz + 127), .inr (7, [.int (3 ^^^ 1), .ref (sz + 65), .ref (sz + 0), .int (wi p0 2 20), .int (wi p1 0 7), .int (wi p2 0 7), .ref (sz + 128), .int 0, .int 0, .int 0, .int 0, .int 0, .int 0, .int 0])) H := hB.2.1
  have hy_61_1 : va_at (DG E) vwCl ((sz + 128), .inr (5, [.int 3, .ref (sz + 65), .ref (sz + 129), .int 0, .int 0, .int 0])) H := hB.2.2.1
  have hy_61_2 : va_at (DG E) vwCl ((sz + 129), .inl (E.2.2 6, 4, .inr (.inr (.inr (.inr (fun i => some ((sz + 130) + i))))))) H := hB.2.2.2.1
  have hy_61_3 : va_at (DG E) vwCl ((sz + 130), .inr (4, [.int 0, .int 0, .int 0, .int 0, .int 0, .int 0, .int 0, .int 0, .int 0, .int 0])) H := hB.2.2.2.2.1
  have hy_61_4 : va_at (DG E) vwCl ((sz + 131), .inr (4, [.int 0, .int 0, .int 0, .int 0, .int 0, .int 0, .int 0, .int 0, .int 0, .int 0])) H := hB.2.2.2.2.2.1
  have hy_61_5 : va_at (DG E) vwCl ((sz + 132), .inr (4, [.int 0, .int 0, .int 0, .int 0, .int 0, .int 0, .int 0, .int 0, .int 0, .int 0])) H := hB.2.2.2.2.2.2.1
  have hy_61_6 : va_at (DG E) vwCl ((sz + 133), .inr (4, [.int 0, .int 0, .int 0, .int 0, .int 0, .int 0, .int 0, .int 0, .int 0, .int 0])) H := hB.2.2.2.2.2.2.2
  have hTB : TB E sz (wi p0 2 20) (wi p1 0 7) (wi p2 0 7) 134 [54, 75] H := hTB.grow (fun n hn hx => by
    rcases (show (n < 127 ∧ n ∉ ([54, 75] : List Nat)) ∨ n = 127 ∨ n = 128 ∨ n = 129 ∨ n = 130 ∨ n = 131 ∨ n = 132 ∨ n = 133 by simp only [List.mem_cons, List.not_mem_nil, or_false, not_or, not_false_eq_true, and_true] at hx ⊢; omega) with h | rfl | rfl | rfl | rfl | rfl | rfl | rfl
    · exact Or.inl h
    · exact Or.inr hy_61_0
    · exact Or.inr hy_61_1
    · exact Or.inr (arr_cg (g := fun i => some (sz + rs 129 i)) hy_61_2 (fun i _ => congrArg some (Nat.add_assoc sz 130 (i))))
    · exact Or.inr hy_61_3
    · exact Or.inr hy_61_4
    · exact Or.inr hy_61_5
    · exact Or.inr hy_61_6)
  refine lv_astore (lv' := [(9, .ref (sz + 127)), (8, .ref (sz + 65)), (7, .int 3), (6, .int (wi p2 0 7)), (5, .int (wi p1 0 7)), (4, .int (wi p0 2 20)), (0, .ref h0), (1, .int p0), (2, .int p1), (3, .int p2)]) hx hb dX9_init_128 hl (by decide) rfl (fun ls hl => ?_)
  refine lv_aload_n hx hb dX9_init_130 rfl (lv_at hl 6 rfl) ?_
  refine va_get (D := DG E) (ci := 9) (v := .ref (sz + 75)) (C := RX9) (T := TX9) (N := 3) hx hb hts iw_X9 hown hK.1 (va_one hr_24) 0 rfl rfl 1 (by decide) (hts _ fl_X9_29) (fun _ h9 => h9) rfl dX9_init_131 ?_
  refine lv_iload hx hb dX9_init_134 (lv_at hl 2 rfl) ?_
  refine rr_new (ci := 3) (fs := [.null, .null, .int 0]) (C := RX3) (T := TX3) (N := 3) hx hb hts iw_X3 tyX3 tyX3_ok hown (hts _ cl_X9_27) (hts _ ia_X3) (hts _ in_X3) hK.1 hS rfl (fun j hj => by rcases (show j = 0 ∨ j = 1 ∨ j = 2 by omega) with rfl | rfl | rfl <;> rfl) (Nat.le_of_ble_eq_true rfl) (Nat.le_of_ble_eq_true rfl) dX9_init_136 (fun q_62 H hq hat hz ho hS => ?_)
  obtain rfl : sz + 134 = q_62 := (hq.trans hsz).symm
  have hr_24 := hr_24.kept (ho _ hr_24.lt)
  have hr_20 := hr_20.kept (ho _ hr_20.lt)
  have hr_57 := hr_57.kept (ho _ hr_57.lt)
  have hy_61_0 := hy_61_0.kept (ho _ hy_61_0.lt)
  have hTB := hTB.keptS ho
  have hsz : H.size = sz + 135 := by rw [hz, hsz]
  have hr_63 := hat
  refine lv_dup hx hb dX9_init_139 rfl ?_
  refine lv_aload hx hb dX9_init_140 (lv_at hl 0 rfl) ?_
  refine rr_new (ci := 8) (fs := [.int 0, .null, .null, .null, .int 0, .int 0, .int 0, .null, .null]) (C := RX8) (T := TX8) (N := 9) hx hb hts iw_X8 tyX8 tyX8_ok hown (hts _ cl_X9_38) (hts _ ia_X8) (hts _ in_X8) hK.1 hS rfl (fun j hj => by rcases (show j = 0 ∨ j = 1 ∨ j = 2 ∨ j = 3 ∨ j = 4 ∨ j = 5 ∨ j = 6 ∨ j = 7 ∨ j = 8 by omega) with rfl | rfl | rfl | rfl | rfl | rfl | rfl | rfl | rfl <;> rfl) (Nat.le_of_ble_eq_true rfl) (Nat.le_of_ble_eq_true rfl) dX9_init_142 (fun q_64 H hq hat hz ho hS => ?_)
  obtain rfl : sz + 135 = q_64 := (hq.trans hsz).symm
  have hr_24 := hr_24.kept (ho _ hr_24.lt)
  have hr_20 := hr_20.kept (ho _ hr_20.lt)
  have hr_57 := hr_57.kept (ho _ hr_57.lt)
  have hy_61_0 := hy_61_0.kept (ho _ hy_61_0.lt)
  have hr_63 := hr_63.kept (ho _ hr_63.lt)
  have hTB := hTB.keptS ho
  have hsz : H.size = sz + 136 := by rw [hz, hsz]
  have hr_65 := hat
  refine lv_dup hx hb dX9_init_145 rfl ?_
  refine lv_iload hx hb dX9_init_146 (lv_at hl 2 rfl) ?_
  refine lv_aload hx hb dX9_init_148 (lv_at hl 1 rfl) ?_
  refine lv_aload_n hx hb dX9_init_150 rfl (lv_at hl 6 rfl) ?_
  refine va_get (D := DG E) (ci := 9) (v := .ref (sz + 0)) (C := RX9) (T := TX9) (N := 3) hx hb hts iw_X9 hown hK.1 (va_one hr_24) 0 rfl rfl 2 (by decide) (hts _ fl_X9_16) (fun _ h9 => h9) rfl dX9_init_151 ?_
  refine va_callv (rnI (fun H => H.size = sz + 136 ∧ va_at (DG E) vwCl ((sz + 135), .inr (8, [.int 0, .null, .null, .null, .int 0, .int 0, .int 0, .null, .null])) H) (As := [.int 3, .ref (sz + 65), .ref (sz + 0)]) (rest := [.ref (sz + 135), .ref (sz + 127), .ref (sz + 134), .ref (sz + 134), .int 3, .ref (sz + 75)]) ⟨hx, hb, hml, hown, hts⟩ (e_X8_init l E z0 (sz + 135) (sz + 136) 3 (sz + 65) (sz + 0) (Nat.le_trans hz1 (Nat.le_add_right sz 135)) (Nat.le_trans hz1 (Nat.le_add_right sz 136)) (Nat.add_lt_add_left (by decide) sz)) (cwI 3 hts (gd1 co_X8_init rfl) rfl rfl rfl (hts _ in_X8) (hts _ ml_X9_40) (hts _ im_X8_init) rfl (by decide +kernel) ⟨Nat.le_of_ble_eq_true rfl, Nat.le_of_ble_eq_true rfl⟩) ⟨hsz, hr_65⟩ (fun U hU hW => hK.go hW hS hAz hU) rfl rfl hl.1 rfl (lv_room (Nat.le_of_ble_eq_true rfl)) dX9_init_154 ⟨Nat.le_of_ble_eq_true rfl, Nat.le_of_ble_eq_true rfl⟩) hS (fun q _ => fun h => h.elim (fun e => by rw [e]; exact (Or.inr (Nat.le_add_right sz 135))) (fun h => Or.inr (Nat.le_trans (Nat.le_add_right sz 136) h))) (fun q => fun h => h.elim (fun e => by rw [e]; exact (Or.inr (Nat.le_add_right sz 135))) (fun h => Or.inr (Nat.le_trans (Nat.le_add_right sz 136) h))) (fun _ t H locs ht hvm hw hB hz hk hS => ?_)
  rw [ht] at hB
  have hr_24 := hr_24.kept (hk _ hr_24.lt (fun h => h.elim (ne_h hlt) (fun h => absurd h (Nat.not_le.mpr (Nat.lt_of_lt_of_le hlt (Nat.le_add_right sz 136))))))
  have hr_20 := hr_20.kept (hk _ hr_20.lt (fun h => h.elim (ne_o (by decide)) (fun h => absurd h (Nat.not_le.mpr (Nat.add_lt_add_left (by decide) sz)))))
  have hr_57 := hr_57.kept (hk _ hr_57.lt (fun h => h.elim (ne_o (by decide)) (fun h => absurd h (Nat.not_le.mpr (Nat.add_lt_add_left (by decide) sz)))))
  have hr_63 := hr_63.kept (hk _ hr_63.lt (fun h => h.elim (ne_o (by decide)) (fun h => absurd h (Nat.not_le.mpr (Nat.add_lt_add_left (by decide) sz)))))
  have hTB := hTB.keptC (j := 135) (z := 136) hk (by decide) (by decide)
  have hsz : H.size = sz + 144 := hB.1
  have hy_66_0 : va_at (DG E) vwCl ((sz + 135), .inr (8, [.int (3 ^^^ 1), .ref (sz + 65), .ref (sz + 0), .ref (sz + 138), .int 0, .int 0, .int 0, .ref (sz + 136), .ref (sz + 137)])) H := hB.2.1
  have hy_66_1 : va_at (DG E) vwCl ((sz + 136), .inl (E.2.2 0, 2, .inl (fun _ => -1))) H := hB.2.2.1
  have hy_66_2 : va_at (DG E) vwCl ((sz + 137), .inl (E.2.2 0, 2, .inl (fun _ => 0))) H := hB.2.2.2.1
  have hy_66_3 : va_at (DG E) vwCl ((sz + 138), .inr (5, [.int 3, .ref (sz + 65), .ref (sz + 139), .int 0, .int 0, .int 0])) H := hB.2.2.2.2.1
  have hy_66_4 : va_at (DG E) vwCl ((sz + 139), .inl (E.2.2 6, 4, .inr (.inr (.inr (.inr (fun i => some ((sz + 140) + i))))))) H := hB.2.2.2.2.2.1
  have hy_66_5 : va_at (DG E) vwCl ((sz + 140), .inr (4, [.int 0, .int 0, .int 0, .int 0, .int 0, .int 0, .int 0, .int 0, .int 0, .int 0])) H := hB.2.2.2.2.2.2.1
  have hy_66_6 : va_at (DG E) vwCl ((sz + 141), .inr (4, [.int 0, .int 0, .int 0, .int 0, .int 0, .int 0, .int 0, .int 0, .int 0, .int 0])) H := hB.2.2.2.2.2.2.2.1
  have hy_66_7 : va_at (DG E) vwCl ((sz + 142), .inr (4, [.int 0, .int 0, .int 0, .int 0, .int 0, .int 0, .int 0, .int 0, .int 0, .int 0])) H := hB.2.2.2.2.2.2.2.2.1
  have hy_66_8 : va_at (DG E) vwCl ((sz + 143), .inr (4, [.int 0, .int 0, .int 0, .int 0, .int 0, .int 0, .int 0, .int 0, .int 0, .int 0])) H := hB.2.2.2.2.2.2.2.2.2
  have hTB : TB E sz (wi p0 2 20) (wi p1 0 7) (wi p2 0 7) 144 [54, 75, 134] H := hTB.grow (fun n hn hx => by
    rcases (show (n < 134 ∧ n ∉ ([54, 75] : List Nat)) ∨ n = 135 ∨ n = 136 ∨ n = 137 ∨ n = 138 ∨ n = 139 ∨ n = 140 ∨ n = 141 ∨ n = 142 ∨ n = 143 by simp only [List.mem_cons, List.not_mem_nil, or_false, not_or, not_false_eq_true, and_true] at hx ⊢; omega) with h | rfl | rfl | rfl | rfl | rfl | rfl | rfl | rfl | rfl
    · exact Or.inl h
    · exact Or.inr hy_66_0
    · exact Or.inr hy_66_1
    · exact Or.inr hy_66_2
    · exact Or.inr hy_66_3
    · exact Or.inr (arr_cg (g := fun i => some (sz + rs 139 i)) hy_66_4 (fun i _ => congrArg some (Nat.add_assoc sz 140 (i))))
    · exact Or.inr hy_66_5
    · exact Or.inr hy_66_6
    · exact Or.inr hy_66_7
    · exact Or.inr hy_66_8)
  refine va_callv (rnI (fun H => H.size = sz + 144 ∧ va_at (DG E) vwCl ((sz + 134), .inr (3, [.null, .null, .int 0])) H) (As := [.ref (sz + 127), .ref (sz + 135)]) (rest := [.ref (sz + 134), .int 3, .ref (sz + 75)]) ⟨hx, hb, hml, hown, hts⟩ (e_X3_init l E z0 (sz + 134) (sz + 144) (sz + 127) (sz + 135) (Nat.le_trans hz1 (Nat.le_add_right sz 134)) (Nat.le_trans hz1 (Nat.le_add_right sz 144)) (Nat.add_lt_add_left (by decide) sz)) (cwI 2 hts (gd1 co_X3_init rfl) rfl rfl rfl (hts _ in_X3) (hts _ ml_X9_43) (hts _ im_X3_init) rfl (by decide +kernel) ⟨Nat.le_of_ble_eq_true rfl, Nat.le_of_ble_eq_true rfl⟩) ⟨hsz, hr_63⟩ (fun U hU hW => hK.go hW hS hAz hU) rfl rfl hl.1 rfl (lv_room (Nat.le_of_ble_eq_true rfl)) dX9_init_157 ⟨Nat.le_of_ble_eq_true rfl, Nat.le_of_ble_eq_true rfl⟩) hS (fun q _ => fun h => h.elim (fun e => by rw [e]; exact (Or.inr (Nat.le_add_right sz 134))) (fun h => Or.inr (Nat.le_trans (Nat.le_add_right sz 144) h))) (fun q => fun h => h.elim (fun e => by rw [e]; exact (Or.inr (Nat.le_add_right sz 134))) (fun h => Or.inr (Nat.le_trans (Nat.le_add_right sz 144) h))) (fun _ t H locs ht hvm hw hB hz hk hS => ?_)
  rw [ht] at hB
  have hr_24 := hr_24.kept (hk _ hr_24.lt (fun h => h.elim (ne_h hlt) (fun h => absurd h (Nat.not_le.mpr (Nat.lt_of_lt_of_le hlt (Nat.le_add_right sz 144))))))
  have hr_20 := hr_20.kept (hk _ hr_20.lt (fun h => h.elim (ne_o (by decide)) (fun h => absurd h (Nat.not_le.mpr (Nat.add_lt_add_left (by decide) sz)))))
  have hr_57 := hr_57.kept (hk _ hr_57.lt (fun h => h.elim (ne_o (by decide)) (fun h => absurd h (Nat.not_le.mpr (Nat.add_lt_add_left (by decide) sz)))))
  have hTB := hTB.keptC (j := 134) (z := 144) hk (by decide) (by decide)
  have hsz : H.size = sz + 144 := hB.1
  have hy_67_0 : va_at (DG E) vwCl ((sz + 134), .inr (3, [.ref (sz + 127), .ref (sz + 135), .int 0])) H := hB.2
  have hTB : TB E sz (wi p0 2 20) (wi p1 0 7) (wi p2 0 7) 144 [54, 75] H := hTB.grow (fun n hn hx => by
    rcases (show (n < 144 ∧ n ∉ ([54, 75, 134] : List Nat)) ∨ n = 134 by simp only [List.mem_cons, List.not_mem_nil, or_false, not_or, not_false_eq_true, and_true] at hx ⊢; omega) with h | rfl
    · exact Or.inl h
    · exact Or.inr hy_67_0)
  refine rr_aast (D := DG E) hx hb hK.1 5 3 hr_57 hS (Or.inr (Nat.le_add_right sz 75)) rfl hy_67_0 rfl (show vp_in (3) 4 from vp_in_iff.mpr ⟨by decide, by decide⟩) dX9_init_160 (fun H locs hn ho hz hS => ?_)
  have hr_68 : va_at (DG E) vwCl ((sz + 75), .inl (E.2.2 5, 4, .inr (.inr (.inr (.inr (va_up (va_up (va_up (va_up (fun _ => none) 0 (some (sz + 83))) 1 (some (sz + 100))) 2 (some (sz + 117))) 3 (some (sz + 134)))))))) H := hn
  have hr_24 := hr_24.kept (ho _ (ne_h hlt))
  have hr_20 := hr_20.kept (ho _ (ne_o (by decide)))
  have hy_67_0 := hy_67_0.kept (ho _ (ne_o (by decide)))
  have hsz : H.size = sz + 144 := hz.trans hsz
  have hTB := hTB.keptW (j := 75) ho (by decide)
  refine lv_iinc (v := 4) (lv' := [(7, .int 4), (9, .ref (sz + 127)), (8, .ref (sz + 65)), (6, .int (wi p2 0 7)), (5, .int (wi p1 0 7)), (4, .int (wi p0 2 20)), (0, .ref h0), (1, .int p0), (2, .int p1), (3, .int p2)]) hx hb dX9_init_161 hl (k := 2) rfl (by decide) (by decide) rfl (fun ls hl => ?_)
  refine lv_goto (tgt := 90) hx hb dX9_init_164 (by decide) ?_
  refine lv_iload hx hb dX9_init_90 (lv_at hl 0 rfl) ?_
  refine lv_iconst (v := 4) hx hb dX9_init_92 (by decide) ?_
  refine lv_icmp_ge (tgt := 167) hx hb dX9_init_93 (by decide) (fun c_69 => ?_) (fun c_69 => absurd c_69 (by decide))
  have hg54 := arr_cg (g := fun i => some (sz + rs 54 i)) hr_20 (fun i hi => by rcases (show i = 0 ∨ i = 1 by omega) with rfl | rfl <;> rfl)
  have hg75 := arr_cg (g := fun i => some (sz + rs 75 i)) hr_68 (fun i hi => by rcases (show i = 0 ∨ i = 1 ∨ i = 2 ∨ i = 3 by omega) with rfl | rfl | rfl | rfl <;> rfl)
  have hTB : TB E sz (wi p0 2 20) (wi p1 0 7) (wi p2 0 7) 144 [] H := hTB.grow (fun n hn hx => by
    rcases (show (n < 144 ∧ n ∉ ([54, 75] : List Nat)) ∨ n = 54 ∨ n = 75 by simp only [List.mem_cons, List.not_mem_nil, or_false, not_or, not_false_eq_true, and_true] at hx ⊢; omega) with h | rfl | rfl
    · exact Or.inl h
    · exact Or.inr hg54
    · exact Or.inr hg75)
  refine W.widen (k := 144) (n := 1148) (Nat.le_of_ble_eq_true rfl) (Nat.le_of_ble_eq_true rfl) ?_
  exact W.vret hx hb hr (fun t ht hW => ⟨⟨(), rfl, trivial, (by rw [ht]; exact hsz), (by show va_at (DG E) vwCl (h0, .inr (9, [.ref (sz + 54), .ref (sz + 75), .ref (sz + 0)])) t.heap; rw [ht]; exact hr_24), (by show TB E sz (wi p0 2 20) (wi p1 0 7) (wi p2 0 7) 144 [] t.heap; rw [ht]; exact hTB)⟩, hS.F ht⟩) hS.2.2 dX9_init_167
end
