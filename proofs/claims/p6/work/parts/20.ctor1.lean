theorem dX4_init_0 : decode cX4_init 0 = .ok (.aload_n 0, 1) := by decide +kernel
theorem dX4_init_1 : decode cX4_init 1 = .ok (.invokespecial 3, 3) := by decide +kernel
theorem dX4_init_4 : decode cX4_init 4 = .ok (.return_, 1) := by decide +kernel
set_option maxHeartbeats 16000000 in
set_option maxRecDepth 100000 in
theorem c_X4_init (l : Launch) (E : EE) (z0 : Nat) (G : Nat → Nat) (h0 sz : Nat)  (hG0 : G h0 = 0) (hz0 : z0 ≤ h0) (hz1 : z0 ≤ sz)  : Met l yX4_init [Cond.code yX4_init cX4_init 1 none] ({ frames := 1, cells := 0, slots := 0, locals := 20 } : Room) (va_Pc [.ref h0] (fun U => (U.heap.size = sz ∧ va_at (DG E) vwCl (h0, .inr (4, [.int 0, .int 0, .int 0, .int 0, .int 0, .int 0, .int 0, .int 0, .int 0, .int 0])) U.heap ∧ TH E (T0 E) G [] U.heap) ∧ KS E z0 U)) (va_Qv (fun (G1 : Nat → Nat) => GX G G1 h0 13 sz) (fun G1 t => TH E (T0 E) G1 [] t.heap) (AC h0 sz)) 0 0 (AC h0 sz) := by
  refine Met.ofW (cc := cX4_init) (maxL := 1) (ret := none) (by decide) rfl ?_
  intro p e s m args below meth c s₁ B hml hv
  obtain ⟨rfl, ⟨hsz, hr0, hT⟩, hK⟩ := hv
  have hx := B.exec
  have hb := B.bytes
  have hr := B.returns
  have hts : ∀ w ∈ TS, w.before ([.ref h0] : List Value).toArray s = true := fun w hw => hK.2.1 w hw _
  have hown : s.vm.findClass RX4 = some m.cls := findClass_of_methodNamed B.named
  have hlocks := B.notSynchronized
  have hin : meth.name = "<init>" := (name_of_methodNamed B.named B.method).1
  have hS : va_S (AC h0 sz) s.heap s.heap [] := va_S.rf
  have hAz : ∀ q, AC h0 sz q → z0 ≤ q := fun q h => h.elim (fun e => by omega) (fun e => by omega)
  have hE : GE G G h0 sz := GE.rf
  have hlt0 : h0 < sz := by have h9 := hr0.lt; have h8 : h0 < _ := h9; omega
  obtain ⟨H, eH⟩ : ∃ H, H = s.heap := ⟨_, rfl⟩
  rw [← eH] at hr0 hT
  have hS : va_S (AC h0 sz) s.heap H [] := by rw [eH]; exact hS
  rw [← eH]
  have hsz : s.heap.size = sz := hsz
  have hl := lv_entry ([.ref h0]) (n := 1) (Nat.le_of_ble_eq_true rfl)
  rw [lg_entry_eq]
  generalize (lg_sl ([.ref h0]) ++ List.replicate (1 - (lg_sl ([.ref h0])).length) Slot.unset).toArray = ls at hl ⊢
  have hl : lv_has ls 1 [(0, .ref h0)] := hl
  refine lv_aload_n hx hb dX4_init_0 rfl (lv_at hl 0 rfl) ?_
  refine W.objInit hx hb hown (hts _ ml_X4_3) (hts _ im_Object__init_) (hts _ co_Object__init_) rfl (by rw [hml]; exact hl.1) rfl dX4_init_1 (Nat.le_of_ble_eq_true rfl) (Nat.le_of_ble_eq_true rfl) ?_
  refine W.eq (g2 := F0 m 4 ls []) rfl ?_
  have hT := hT.add (g := 13) hG0 (show T0 E (va_up G h0 13) 13 _ from rfl) hr0
  refine W.widen (k := 0) (n := 0) (Nat.le_of_ble_eq_true rfl) (Nat.le_of_ble_eq_true rfl) ?_
  exact W.vret hx hb hr (fun t ht hW => ⟨⟨_, rfl, hE.fin hG0, by show TH _ _ _ _ t.heap; rw [ht]; exact hT⟩, hS.F ht⟩) hS.2.2 dX4_init_4
theorem dX6_init_0 : decode cX6_init 0 = .ok (.aload_n 0, 1) := by decide +kernel
theorem dX6_init_1 : decode cX6_init 1 = .ok (.invokespecial 1, 3) := by decide +kernel
theorem dX6_init_4 : decode cX6_init 4 = .ok (.return_, 1) := by decide +kernel
set_option maxHeartbeats 16000000 in
set_option maxRecDepth 100000 in
theorem c_X6_init (l : Launch) (E : EE) (z0 : Nat) (G : Nat → Nat) (h0 sz : Nat)  (hG0 : G h0 = 0) (hz0 : z0 ≤ h0) (hz1 : z0 ≤ sz)  : Met l yX6_init [Cond.code yX6_init cX6_init 1 none] ({ frames := 1, cells := 0, slots := 0, locals := 20 } : Room) (va_Pc [.ref h0] (fun U => (U.heap.size = sz ∧ va_at (DG E) vwCl (h0, .inr (6, [.int 0, .int 0, .int 0])) U.heap ∧ TH E (T0 E) G [] U.heap) ∧ KS E z0 U)) (va_Qv (fun (G1 : Nat → Nat) => GX G G1 h0 7 sz) (fun G1 t => TH E (T0 E) G1 [] t.heap) (AC h0 sz)) 0 0 (AC h0 sz) := by
  refine Met.ofW (cc := cX6_init) (maxL := 1) (ret := none) (by decide) rfl ?_
  intro p e s m args below meth c s₁ B hml hv
  obtain ⟨rfl, ⟨hsz, hr0, hT⟩, hK⟩ := hv
  have hx := B.exec
  have hb := B.bytes
  have hr := B.returns
  have hts : ∀ w ∈ TS, w.before ([.ref h0] : List Value).toArray s = true := fun w hw => hK.2.1 w hw _
  have hown : s.vm.findClass RX6 = some m.cls := findClass_of_methodNamed B.named
  have hlocks := B.notSynchronized
  have hin : meth.name = "<init>" := (name_of_methodNamed B.named B.method).1
  have hS : va_S (AC h0 sz) s.heap s.heap [] := va_S.rf
  have hAz : ∀ q, AC h0 sz q → z0 ≤ q := fun q h => h.elim (fun e => by omega) (fun e => by omega)
  have hE : GE G G h0 sz := GE.rf
  have hlt0 : h0 < sz := by have h9 := hr0.lt; have h8 : h0 < _ := h9; omega
  obtain ⟨H, eH⟩ : ∃ H, H = s.heap := ⟨_, rfl⟩
  rw [← eH] at hr0 hT
  have hS : va_S (AC h0 sz) s.heap H [] := by rw [eH]; exact hS
  rw [← eH]
  have hsz : s.heap.size = sz := hsz
  have hl := lv_entry ([.ref h0]) (n := 1) (Nat.le_of_ble_eq_true rfl)
  rw [lg_entry_eq]
  generalize (lg_sl ([.ref h0]) ++ List.replicate (1 - (lg_sl ([.ref h0])).length) Slot.unset).toArray = ls at hl ⊢
  have hl : lv_has ls 1 [(0, .ref h0)] := hl
  refine lv_aload_n hx hb dX6_init_0 rfl (lv_at hl 0 rfl) ?_
  refine W.objInit hx hb hown (hts _ ml_X6_1) (hts _ im_Object__init_) (hts _ co_Object__init_) rfl (by rw [hml]; exact hl.1) rfl dX6_init_1 (Nat.le_of_ble_eq_true rfl) (Nat.le_of_ble_eq_true rfl) ?_
  refine W.eq (g2 := F0 m 4 ls []) rfl ?_
  have hT := hT.add (g := 7) hG0 (show T0 E (va_up G h0 7) 7 _ from rfl) hr0
  refine W.widen (k := 0) (n := 0) (Nat.le_of_ble_eq_true rfl) (Nat.le_of_ble_eq_true rfl) ?_
  exact W.vret hx hb hr (fun t ht hW => ⟨⟨_, rfl, hE.fin hG0, by show TH _ _ _ _ t.heap; rw [ht]; exact hT⟩, hS.F ht⟩) hS.2.2 dX6_init_4
theorem dX2_init_0 : decode cX2_init 0 = .ok (.aload_n 0, 1) := by decide +kernel
theorem dX2_init_1 : decode cX2_init 1 = .ok (.invokespecial 3, 3) := by decide +kernel
theorem dX2_init_4 : decode cX2_init 4 = .ok (.aload_n 0, 1) := by decide +kernel
theorem dX2_init_5 : decode cX2_init 5 = .ok (.iconst 4, 1) := by decide +kernel
theorem dX2_init_6 : decode cX2_init 6 = .ok (.newarray .int, 2) := by decide +kernel
theorem dX2_init_8 : decode cX2_init 8 = .ok (.putfield 9, 3) := by decide +kernel
theorem dX2_init_11 : decode cX2_init 11 = .ok (.return_, 1) := by decide +kernel
set_option maxHeartbeats 16000000 in
set_option maxRecDepth 100000 in
theorem c_X2_init (l : Launch) (E : EE) (z0 : Nat) (G : Nat → Nat) (h0 sz : Nat)  (hG0 : G h0 = 0) (hz0 : z0 ≤ h0) (hz1 : z0 ≤ sz)  : Met l yX2_init [Cond.code yX2_init cX2_init 1 none] ({ frames := 1, cells := 1, slots := 4, locals := 20 } : Room) (va_Pc [.ref h0] (fun U => (U.heap.size = sz ∧ va_at (DG E) vwCl (h0, .inr (2, [.int 0, .int 0, .int 0, .int 0, .int 0, .int 0, .int 0, .null])) U.heap ∧ TH E (T0 E) G [] U.heap) ∧ KS E z0 U)) (va_Qv (fun (G1 : Nat → Nat) => GX G G1 h0 31 sz) (fun G1 t => TH E (T0 E) G1 [] t.heap) (AC h0 sz)) 1 4 (AC h0 sz) := by
  refine Met.ofW (cc := cX2_init) (maxL := 1) (ret := none) (by decide) rfl ?_
  intro p e s m args below meth c s₁ B hml hv
  obtain ⟨rfl, ⟨hsz, hr0, hT⟩, hK⟩ := hv
  have hx := B.exec
  have hb := B.bytes
  have hr := B.returns
  have hts : ∀ w ∈ TS, w.before ([.ref h0] : List Value).toArray s = true := fun w hw => hK.2.1 w hw _
  have hown : s.vm.findClass RX2 = some m.cls := findClass_of_methodNamed B.named
  have hlocks := B.notSynchronized
  have hin : meth.name = "<init>" := (name_of_methodNamed B.named B.method).1
  have hS : va_S (AC h0 sz) s.heap s.heap [] := va_S.rf
  have hAz : ∀ q, AC h0 sz q → z0 ≤ q := fun q h => h.elim (fun e => by omega) (fun e => by omega)
  have hE : GE G G h0 sz := GE.rf
  have hlt0 : h0 < sz := by have h9 := hr0.lt; have h8 : h0 < _ := h9; omega
  obtain ⟨H, eH⟩ : ∃ H, H = s.heap := ⟨_, rfl⟩
  rw [← eH] at hr0 hT
  have hS : va_S (AC h0 sz) s.heap H [] := by rw [eH]; exact hS
  rw [← eH]
  have hsz : s.heap.size = sz := hsz
  have hl := lv_entry ([.ref h0]) (n := 1) (Nat.le_of_ble_eq_true rfl)
  rw [lg_entry_eq]
  generalize (lg_sl ([.ref h0]) ++ List.replicate (1 - (lg_sl ([.ref h0])).length) Slot.unset).toArray = ls at hl ⊢
  have hl : lv_has ls 1 [(0, .ref h0)] := hl
  refine lv_aload_n hx hb dX2_init_0 rfl (lv_at hl 0 rfl) ?_
  refine W.objInit hx hb hown (hts _ ml_X2_3) (hts _ im_Object__init_) (hts _ co_Object__init_) rfl (by rw [hml]; exact hl.1) rfl dX2_init_1 (Nat.le_of_ble_eq_true rfl) (Nat.le_of_ble_eq_true rfl) ?_
  refine W.eq (g2 := F0 m 4 ls []) rfl ?_
  refine lv_aload_n hx hb dX2_init_4 rfl (lv_at hl 0 rfl) ?_
  refine lv_iconst (v := 4) hx hb dX2_init_5 (by decide) ?_
  have hSo : s.heap.size ≤ _ := hS.1
  refine rr_newa (D := DG E) (atype := .int) (N' := 4) (a0 := (4, .inl (fun _ => 0))) hx hb (hts _ ac_int) hK.1 0 rfl hS rfl (by decide) (by decide) (by decide) (Nat.le_of_ble_eq_true rfl) (Nat.le_of_ble_eq_true rfl) dX2_init_6 (fun q_1 H hq hat hz ho hS => ?_)
  have hr_2 := hat
  have zq_1 := hT.fresh hq
  have neq_1_h0 : h0 ≠ q_1 := ne_q hr0.lt hq
  have hr0 := hr0.kept (ho _ hr0.lt)
  have szq_1 : sz ≤ q_1 := le_q hsz hSo hq
  have hT := hT.kept ho
  refine rr_putF (D := DG E) (ci := 2) (v := .ref q_1) (ty := .array .int) (C := RX2) (T := TX2) (N := 8) hx hb hts iw_X2 tyX2 tyX2_ok nmX2 hown hK.1 hr0 hS (Or.inl rfl) rfl 7 (by decide) (hts _ fl_X2_9) (fun _ h9 => h9) rfl hin rfl (by decide +kernel) rfl rfl (Nat.le_of_ble_eq_true rfl) dX2_init_8 (fun H locs hn ho hz hS => ?_)
  have hr_3 : va_at (DG E) vwCl (h0, .inr (2, [.int 0, .int 0, .int 0, .int 0, .int 0, .int 0, .int 0, .ref q_1])) H := hn
  have hr_2 := hr_2.kept (ho _ (Ne.symm neq_1_h0))
  have hT := hT.off hG0 ho
  have hT := hT.add (g := 32) zq_1 (show T0 E (va_up G q_1 32) 32 _ from rfl) hr_2
  have hE := hE.add (g := 32) zq_1 szq_1
  have hG0 := (va_up_ne G 32 neq_1_h0).trans hG0
  have gq_5 := va_up_self G q_1 32
  obtain ⟨G_4, eG_4⟩ : ∃ z, z = va_up G q_1 32 := ⟨_, rfl⟩
  rw [← eG_4] at hT hE gq_5 hG0
  have hT := hT.add (g := 31) hG0 (show T0 E (va_up G_4 h0 31) 31 _ from ⟨q_1, rfl, up_k gq_5 hG0 (by decide)⟩) hr_3
  refine W.widen (k := 1) (n := 4) (Nat.le_of_ble_eq_true rfl) (Nat.le_of_ble_eq_true rfl) ?_
  exact W.vret hx hb hr (fun t ht hW => ⟨⟨_, rfl, hE.fin hG0, by show TH _ _ _ _ t.heap; rw [ht]; exact hT⟩, hS.F ht⟩) hS.2.2 dX2_init_11
theorem dX5_init_0 : decode cX5_init 0 = .ok (.aload_n 0, 1) := by decide +kernel
theorem dX5_init_1 : decode cX5_init 1 = .ok (.invokespecial 3, 3) := by decide +kernel
theorem dX5_init_4 : decode cX5_init 4 = .ok (.aload_n 0, 1) := by decide +kernel
theorem dX5_init_5 : decode cX5_init 5 = .ok (.iconst 4, 1) := by decide +kernel
theorem dX5_init_6 : decode cX5_init 6 = .ok (.anewarray 9, 3) := by decide +kernel
theorem dX5_init_9 : decode cX5_init 9 = .ok (.putfield 11, 3) := by decide +kernel
theorem dX5_init_12 : decode cX5_init 12 = .ok (.aload_n 0, 1) := by decide +kernel
theorem dX5_init_13 : decode cX5_init 13 = .ok (.iload_n 1, 1) := by decide +kernel
theorem dX5_init_14 : decode cX5_init 14 = .ok (.putfield 17, 3) := by decide +kernel
theorem dX5_init_17 : decode cX5_init 17 = .ok (.aload_n 0, 1) := by decide +kernel
theorem dX5_init_18 : decode cX5_init 18 = .ok (.aload_n 2, 1) := by decide +kernel
theorem dX5_init_19 : decode cX5_init 19 = .ok (.putfield 21, 3) := by decide +kernel
theorem dX5_init_22 : decode cX5_init 22 = .ok (.iconst 0, 1) := by decide +kernel
theorem dX5_init_23 : decode cX5_init 23 = .ok (.istore_n 3, 1) := by decide +kernel
theorem dX5_init_24 : decode cX5_init 24 = .ok (.iload_n 3, 1) := by decide +kernel
theorem dX5_init_25 : decode cX5_init 25 = .ok (.iconst 4, 1) := by decide +kernel
theorem dX5_init_26 : decode cX5_init 26 = .ok (.if_icmp .ge 22, 3) := by decide +kernel
theorem dX5_init_29 : decode cX5_init 29 = .ok (.aload_n 0, 1) := by decide +kernel
theorem dX5_init_30 : decode cX5_init 30 = .ok (.getfield 11, 3) := by decide +kernel
theorem dX5_init_33 : decode cX5_init 33 = .ok (.iload_n 3, 1) := by decide +kernel
theorem dX5_init_34 : decode cX5_init 34 = .ok (.new 9, 3) := by decide +kernel
theorem dX5_init_37 : decode cX5_init 37 = .ok (.dup, 1) := by decide +kernel
theorem dX5_init_38 : decode cX5_init 38 = .ok (.invokespecial 25, 3) := by decide +kernel
theorem dX5_init_41 : decode cX5_init 41 = .ok (.aastore, 1) := by decide +kernel
theorem dX5_init_42 : decode cX5_init 42 = .ok (.iinc 3 1, 3) := by decide +kernel
theorem dX5_init_45 : decode cX5_init 45 = .ok (.goto (-21), 3) := by decide +kernel
theorem dX5_init_48 : decode cX5_init 48 = .ok (.return_, 1) := by decide +kernel
set_option maxHeartbeats 16000000 in
set_option maxRecDepth 100000 in
theorem c_X5_init (l : Launch) (E : EE) (z0 : Nat) (G : Nat → Nat) (h0 sz : Nat) (p0 : Int32) (a0 : Nat) (hG0 : G h0 = 0) (hz0 : z0 ≤ h0) (hz1 : z0 ≤ sz) (ha0 : G a0 = 5) : Met l yX5_init [Cond.code yX5_init cX5_init 4 none] ({ frames := 2, cells := 5, slots := 44, locals := 40 } : Room) (va_Pc [.ref h0, .int p0, .ref a0] (fun U => (U.heap.size = sz ∧ va_at (DG E) vwCl (h0, .inr (5, [.int 0, .null, .null, .int 0, .int 0, .int 0])) U.heap ∧ TH E (T0 E) G [] U.heap) ∧ KS E z0 U)) (va_Qv (fun (G1 : Nat → Nat) => GX G G1 h0 11 sz) (fun G1 t => TH E (T0 E) G1 [] t.heap) (AC h0 sz)) 5 44 (AC h0 sz) := by
  refine Met.ofW (cc := cX5_init) (maxL := 4) (ret := none) (by decide) rfl ?_
  intro p e s m args below meth c s₁ B hml hv
  obtain ⟨rfl, ⟨hsz, hr0, hT⟩, hK⟩ := hv
  have hx := B.exec
  have hb := B.bytes
  have hr := B.returns
  have hts : ∀ w ∈ TS, w.before ([.ref h0, .int p0, .ref a0] : List Value).toArray s = true := fun w hw => hK.2.1 w hw _
  have hown : s.vm.findClass RX5 = some m.cls := findClass_of_methodNamed B.named
  have hlocks := B.notSynchronized
  have hin : meth.name = "<init>" := (name_of_methodNamed B.named B.method).1
  have hS : va_S (AC h0 sz) s.heap s.heap [] := va_S.rf
  have hAz : ∀ q, AC h0 sz q → z0 ≤ q := fun q h => h.elim (fun e => by omega) (fun e => by omega)
  have hE : GE G G h0 sz := GE.rf
  have hlt0 : h0 < sz := by have h9 := hr0.lt; have h8 : h0 < _ := h9; omega
  obtain ⟨H, eH⟩ : ∃ H, H = s.heap := ⟨_, rfl⟩
  rw [← eH] at hr0 hT
  have hS : va_S (AC h0 sz) s.heap H [] := by rw [eH]; exact hS
  rw [← eH]
  have hsz : s.heap.size = sz := hsz
  have hl := lv_entry ([.ref h0, .int p0, .ref a0]) (n := 4) (Nat.le_of_ble_eq_true rfl)
  rw [lg_entry_eq]
  generalize (lg_sl ([.ref h0, .int p0, .ref a0]) ++ List.replicate (4 - (lg_sl ([.ref h0, .int p0, .ref a0])).length) Slot.unset).toArray = ls at hl ⊢
  have hl : lv_has ls 4 [(0, .ref h0), (1, .int p0), (2, .ref a0)] := hl
  refine lv_aload_n hx hb dX5_init_0 rfl (lv_at hl 0 rfl) ?_
  refine W.objInit hx hb hown (hts _ ml_X5_3) (hts _ im_Object__init_) (hts _ co_Object__init_) rfl (by rw [hml]; exact hl.1) rfl dX5_init_1 (Nat.le_of_ble_eq_true rfl) (Nat.le_of_ble_eq_true rfl) ?_
  refine W.eq (g2 := F0 m 4 ls []) rfl ?_
  refine lv_aload_n hx hb dX5_init_4 rfl (lv_at hl 0 rfl) ?_
  refine lv_iconst (v := 4) hx hb dX5_init_5 (by decide) ?_
  have hSo : s.heap.size ≤ _ := hS.1
  refine rr_newq (D := DG E) (N' := 4) hx hb hown (hts _ cl_X5_9) (hts _ ao_X4) hK.1 6 rfl hS (by decide) (by decide) (by decide) (Nat.le_of_ble_eq_true rfl) (Nat.le_of_ble_eq_true rfl) dX5_init_6 (fun q_1 H hq hat hz ho hS => ?_)
  have hr_2 := hat
  have zq_1 := hT.fresh hq
  have neq_1_h0 : h0 ≠ q_1 := ne_q hr0.lt hq
  have hr0 := hr0.kept (ho _ hr0.lt)
  have szq_1 : sz ≤ q_1 := le_q hsz hSo hq
  have hT := hT.kept ho
  have hf_3 : ∀ j, j < 0 → ∃ b, (fun _ : Nat => (none : Option Nat)) j = some b ∧ G b = 13 := af_0
  refine rr_putF (D := DG E) (ci := 5) (v := .ref q_1) (ty := .array (.object "RemoteReach$Posted")) (C := RX5) (T := TX5) (N := 6) hx hb hts iw_X5 tyX5 tyX5_ok nmX5 hown hK.1 hr0 hS (Or.inl rfl) rfl 2 (by decide) (hts _ fl_X5_11) (fun _ h9 => h9) rfl hin rfl (by decide +kernel) rfl rfl (Nat.le_of_ble_eq_true rfl) dX5_init_9 (fun H locs hn ho hz hS => ?_)
  have hr_4 : va_at (DG E) vwCl (h0, .inr (5, [.int 0, .null, .ref q_1, .int 0, .int 0, .int 0])) H := hn
  have hr_2 := hr_2.kept (ho _ (Ne.symm neq_1_h0))
  have hT := hT.off hG0 ho
  refine lv_aload_n hx hb dX5_init_12 rfl (lv_at hl 0 rfl) ?_
  refine lv_iload_n hx hb dX5_init_13 rfl (lv_at hl 1 rfl) ?_
  refine rr_putF (D := DG E) (ci := 5) (v := .int p0) (ty := .int) (C := RX5) (T := TX5) (N := 6) hx hb hts iw_X5 tyX5 tyX5_ok nmX5 hown hK.1 hr_4 hS (Or.inl rfl) rfl 0 (by decide) (hts _ fl_X5_17) (fun _ h9 => h9) rfl hin rfl (by decide +kernel) rfl rfl (Nat.le_of_ble_eq_true rfl) dX5_init_14 (fun H locs hn ho hz hS => ?_)
  have hr_5 : va_at (DG E) vwCl (h0, .inr (5, [.int p0, .null, .ref q_1, .int 0, .int 0, .int 0])) H := hn
  have hr_2 := hr_2.kept (ho _ (Ne.symm neq_1_h0))
  have hT := hT.off hG0 ho
  refine lv_aload_n hx hb dX5_init_17 rfl (lv_at hl 0 rfl) ?_
  refine lv_aload_n hx hb dX5_init_18 rfl (lv_at hl 2 rfl) ?_
  refine rr_putF (D := DG E) (ci := 5) (v := .ref a0) (ty := .object "RemoteReach$Node") (C := RX5) (T := TX5) (N := 6) hx hb hts iw_X5 tyX5 tyX5_ok nmX5 hown hK.1 hr_5 hS (Or.inl rfl) rfl 1 (by decide) (hts _ fl_X5_21) (fun _ h9 => h9) rfl hin rfl (by decide +kernel) rfl rfl (Nat.le_of_ble_eq_true rfl) dX5_init_19 (fun H locs hn ho hz hS => ?_)
  have hr_6 : va_at (DG E) vwCl (h0, .inr (5, [.int p0, .ref a0, .ref q_1, .int 0, .int 0, .int 0])) H := hn
  have hr_2 := hr_2.kept (ho _ (Ne.symm neq_1_h0))
  have hT := hT.off hG0 ho
  refine lv_iconst (v := 0) hx hb dX5_init_22 (by decide) ?_
  refine lv_istore_n (lv' := [(3, .int 0), (0, .ref h0), (1, .int p0), (2, .ref a0)]) hx hb dX5_init_23 rfl hl (by decide) rfl (fun ls hl => ?_)
  refine lv_iload_n hx hb dX5_init_24 rfl (lv_at hl 0 rfl) ?_
  refine lv_iconst (v := 4) hx hb dX5_init_25 (by decide) ?_
  refine lv_icmp_ge (tgt := 48) hx hb dX5_init_26 (by decide) (fun c_7 => absurd c_7 (by decide)) (fun c_7 => ?_)
  refine lv_aload_n hx hb dX5_init_29 rfl (lv_at hl 1 rfl) ?_
  refine va_get (D := DG E) (ci := 5) (v := .ref q_1) (C := RX5) (T := TX5) (N := 6) hx hb hts iw_X5 hown hK.1 (va_one hr_6) 0 rfl rfl 2 (by decide) (hts _ fl_X5_11) (fun _ h9 => h9) rfl dX5_init_30 ?_
  refine lv_iload_n hx hb dX5_init_33 rfl (lv_at hl 0 rfl) ?_
  have hSo : s.heap.size ≤ _ := hS.1
  refine rr_new (ci := 4) (fs := [.int 0, .int 0, .int 0, .int 0, .int 0, .int 0, .int 0, .int 0, .int 0, .int 0]) (C := RX4) (T := TX4) (N := 10) hx hb hts iw_X4 tyX4 tyX4_ok hown (hts _ cl_X5_9) (hts _ ia_X4) (hts _ in_X4) hK.1 hS rfl (fun j hj => by rcases (show j = 0 ∨ j = 1 ∨ j = 2 ∨ j = 3 ∨ j = 4 ∨ j = 5 ∨ j = 6 ∨ j = 7 ∨ j = 8 ∨ j = 9 by omega) with rfl | rfl | rfl | rfl | rfl | rfl | rfl | rfl | rfl | rfl <;> rfl) (Nat.le_of_ble_eq_true rfl) (Nat.le_of_ble_eq_true rfl) dX5_init_34 (fun q_8 H hq hat hz ho hS => ?_)
  have hr_9 := hat
  have zq_8 := hT.fresh hq
  have neq_8_h0 : h0 ≠ q_8 := ne_q hr_6.lt hq
  have hr_6 := hr_6.kept (ho _ hr_6.lt)
  have neq_8_q_1 : q_1 ≠ q_8 := ne_q hr_2.lt hq
  have hr_2 := hr_2.kept (ho _ hr_2.lt)
  have szq_8 : sz ≤ q_8 := le_q hsz hSo hq
  have hT := hT.kept ho
  refine lv_dup hx hb dX5_init_37 rfl ?_
  obtain ⟨sz_hs_10, hs_10⟩ : ∃ z, z = H.size := ⟨_, rfl⟩
  have szshs_10 : sz ≤ sz_hs_10 := le_q hsz hS.1 hs_10
  refine va_callv (rnIN (fun H => H.size = sz_hs_10 ∧ va_at (DG E) vwCl (q_8, .inr (4, [.int 0, .int 0, .int 0, .int 0, .int 0, .int 0, .int 0, .int 0, .int 0, .int 0])) H ∧ TH E (T0 E) G [] H) (As := []) (rest := [.ref q_8, .int 0, .ref q_1]) ⟨hx, hb, hml, hown, hts⟩ (c_X4_init l E z0 G q_8 sz_hs_10  zq_8 (Nat.le_trans hz1 szq_8) (Nat.le_trans hz1 szshs_10) ) ⟨va_cnB (host := RX9) 0 hts (gd1 co_X4_init rfl) rfl rfl rfl (hK.2.1 _ mn_X5_25 #[]) (hts _ in_X4) (by decide +kernel) ⟨Nat.le_of_ble_eq_true rfl, Nat.le_of_ble_eq_true rfl⟩, rfl, hts _ im_X4_init⟩ ⟨hs_10.symm, hr_9, hT⟩ (fun U hU hW => hK.go hW hS hAz hU) rfl rfl hl.1 rfl (lv_room (Nat.le_of_ble_eq_true rfl)) dX5_init_38 ⟨Nat.le_of_ble_eq_true rfl, Nat.le_of_ble_eq_true rfl⟩) hS (fun q _ h => h.elim (fun e => by rw [e]; exact (Or.inr szq_8)) (fun h => Or.inr (Nat.le_trans szshs_10 h))) (fun q h => h.elim (fun e => by rw [e]; exact (Or.inr szq_8)) (fun h => Or.inr (Nat.le_trans szshs_10 h))) (fun G_11 t H locs ht hvm hw hB hz hk hS => ?_)
  have hw_12 := hw
  rw [ht] at hB
  have lth0 : h0 < sz_hs_10 := ltz_s hr_6.lt hs_10
  have hr_6 := hr_6.kept (hk _ hr_6.lt (fun h => h.elim neq_8_h0 (fun h => absurd h (Nat.not_le.mpr lth0))))
  have hG0 : G_11 h0 = 0 := gx_0 hw_12 hG0 neq_8_h0 lth0
  have ltq_1 : q_1 < sz_hs_10 := ltz_s hr_2.lt hs_10
  have hr_2 := hr_2.kept (hk _ hr_2.lt (fun h => h.elim neq_8_q_1 (fun h => absurd h (Nat.not_le.mpr ltq_1))))
  have zq_1 : G_11 q_1 = 0 := gx_0 hw_12 zq_1 neq_8_q_1 ltq_1
  have hf_3 := af_x hw_12 (by decide) hf_3
  have gp_13 : G_11 a0 = 5 := gx_k hw_12 ha0 (by decide)
  have gq_14 : G_11 q_8 = 13 := hw_12.2
  have hE := hE.step hw_12 szq_8 szshs_10
  have hT : TH E (T0 E) G_11 [] H := hB
  have ha_15 := tg_13 hT gq_14 nx_0
  refine rr_aast (D := DG E) hx hb hK.1 6 4 hr_2 hS (Or.inr szq_1) rfl ha_15 rfl (show vp_in (0) 4 from vp_in_iff.mpr ⟨by decide, by decide⟩) dX5_init_41 (fun H locs hn ho hz hS => ?_)
  have hr_16 : va_at (DG E) vwCl (q_1, .inl (E.2.2 6, 4, .inr (.inr (.inr (.inr (va_up (fun _ => none) 0 (some q_8))))))) H := hn
  have hf_3 := af_push hf_3 gq_14
  have hr_6 := hr_6.kept (ho _ neq_1_h0)
  have hT := hT.off zq_1 ho
  refine lv_iinc (v := 1) (lv' := [(3, .int 1), (0, .ref h0), (1, .int p0), (2, .ref a0)]) hx hb dX5_init_42 hl (k := 0) rfl (by decide) (by decide) rfl (fun ls hl => ?_)
  refine lv_goto (tgt := 24) hx hb dX5_init_45 (by decide) ?_
  refine lv_iload_n hx hb dX5_init_24 rfl (lv_at hl 0 rfl) ?_
  refine lv_iconst (v := 4) hx hb dX5_init_25 (by decide) ?_
  refine lv_icmp_ge (tgt := 48) hx hb dX5_init_26 (by decide) (fun c_17 => absurd c_17 (by decide)) (fun c_17 => ?_)
  refine lv_aload_n hx hb dX5_init_29 rfl (lv_at hl 1 rfl) ?_
  refine va_get (D := DG E) (ci := 5) (v := .ref q_1) (C := RX5) (T := TX5) (N := 6) hx hb hts iw_X5 hown hK.1 (va_one hr_6) 0 rfl rfl 2 (by decide) (hts _ fl_X5_11) (fun _ h9 => h9) rfl dX5_init_30 ?_
  refine lv_iload_n hx hb dX5_init_33 rfl (lv_at hl 0 rfl) ?_
  have hSo : s.heap.size ≤ _ := hS.1
  refine rr_new (ci := 4) (fs := [.int 0, .int 0, .int 0, .int 0, .int 0, .int 0, .int 0, .int 0, .int 0, .int 0]) (C := RX4) (T := TX4) (N := 10) hx hb hts iw_X4 tyX4 tyX4_ok hown (hts _ cl_X5_9) (hts _ ia_X4) (hts _ in_X4) hK.1 hS rfl (fun j hj => by rcases (show j = 0 ∨ j = 1 ∨ j = 2 ∨ j = 3 ∨ j = 4 ∨ j = 5 ∨ j = 6 ∨ j = 7 ∨ j = 8 ∨ j = 9 by omega) with rfl | rfl | rfl | rfl | rfl | rfl | rfl | rfl | rfl | rfl <;> rfl) (Nat.le_of_ble_eq_true rfl) (Nat.le_of_ble_eq_true rfl) dX5_init_34 (fun q_18 H hq hat hz ho hS => ?_)
  have hr_19 := hat
  have zq_18 := hT.fresh hq
  have neq_18_h0 : h0 ≠ q_18 := ne_q hr_6.lt hq
  have hr_6 := hr_6.kept (ho _ hr_6.lt)
  have neq_18_q_1 : q_1 ≠ q_18 := ne_q hr_16.lt hq
  have hr_16 := hr_16.kept (ho _ hr_16.lt)
  have szq_18 : sz ≤ q_18 := le_q hsz hSo hq
  have hT := hT.kept ho
  refine lv_dup hx hb dX5_init_37 rfl ?_
  obtain ⟨sz_hs_20, hs_20⟩ : ∃ z, z = H.size := ⟨_, rfl⟩
  have szshs_20 : sz ≤ sz_hs_20 := le_q hsz hS.1 hs_20
  refine va_callv (rnIN (fun H => H.size = sz_hs_20 ∧ va_at (DG E) vwCl (q_18, .inr (4, [.int 0, .int 0, .int 0, .int 0, .int 0, .int 0, .int 0, .int 0, .int 0, .int 0])) H ∧ TH E (T0 E) G_11 [] H) (As := []) (rest := [.ref q_18, .int 1, .ref q_1]) ⟨hx, hb, hml, hown, hts⟩ (c_X4_init l E z0 G_11 q_18 sz_hs_20  zq_18 (Nat.le_trans hz1 szq_18) (Nat.le_trans hz1 szshs_20) ) ⟨va_cnB (host := RX9) 0 hts (gd1 co_X4_init rfl) rfl rfl rfl (hK.2.1 _ mn_X5_25 #[]) (hts _ in_X4) (by decide +kernel) ⟨Nat.le_of_ble_eq_true rfl, Nat.le_of_ble_eq_true rfl⟩, rfl, hts _ im_X4_init⟩ ⟨hs_20.symm, hr_19, hT⟩ (fun U hU hW => hK.go hW hS hAz hU) rfl rfl hl.1 rfl (lv_room (Nat.le_of_ble_eq_true rfl)) dX5_init_38 ⟨Nat.le_of_ble_eq_true rfl, Nat.le_of_ble_eq_true rfl⟩) hS (fun q _ h => h.elim (fun e => by rw [e]; exact (Or.inr szq_18)) (fun h => Or.inr (Nat.le_trans szshs_20 h))) (fun q h => h.elim (fun e => by rw [e]; exact (Or.inr szq_18)) (fun h => Or.inr (Nat.le_trans szshs_20 h))) (fun G_21 t H locs ht hvm hw hB hz hk hS => ?_)
  have hw_22 := hw
  rw [ht] at hB
  have lth0 : h0 < sz_hs_20 := ltz_s hr_6.lt hs_20
  have hr_6 := hr_6.kept (hk _ hr_6.lt (fun h => h.elim neq_18_h0 (fun h => absurd h (Nat.not_le.mpr lth0))))
  have hG0 : G_21 h0 = 0 := gx_0 hw_22 hG0 neq_18_h0 lth0
  have ltq_1 : q_1 < sz_hs_20 := ltz_s hr_16.lt hs_20
  have hr_16 := hr_16.kept (hk _ hr_16.lt (fun h => h.elim neq_18_q_1 (fun h => absurd h (Nat.not_le.mpr ltq_1))))
  have zq_1 : G_21 q_1 = 0 := gx_0 hw_22 zq_1 neq_18_q_1 ltq_1
  have hf_3 := af_x hw_22 (by decide) hf_3
  have gp_23 : G_21 a0 = 5 := gx_k hw_22 gp_13 (by decide)
  have gq_24 : G_21 q_18 = 13 := hw_22.2
  have hE := hE.step hw_22 szq_18 szshs_20
  have hT : TH E (T0 E) G_21 [] H := hB
  have ha_25 := tg_13 hT gq_24 nx_0
  refine rr_aast (D := DG E) hx hb hK.1 6 4 hr_16 hS (Or.inr szq_1) rfl ha_25 rfl (show vp_in (1) 4 from vp_in_iff.mpr ⟨by decide, by decide⟩) dX5_init_41 (fun H locs hn ho hz hS => ?_)
  have hr_26 : va_at (DG E) vwCl (q_1, .inl (E.2.2 6, 4, .inr (.inr (.inr (.inr (va_up (va_up (fun _ => none) 0 (some q_8)) 1 (some q_18))))))) H := hn
  have hf_3 := af_push hf_3 gq_24
  have hr_6 := hr_6.kept (ho _ neq_1_h0)
  have hT := hT.off zq_1 ho
  refine lv_iinc (v := 2) (lv' := [(3, .int 2), (0, .ref h0), (1, .int p0), (2, .ref a0)]) hx hb dX5_init_42 hl (k := 0) rfl (by decide) (by decide) rfl (fun ls hl => ?_)
  refine lv_goto (tgt := 24) hx hb dX5_init_45 (by decide) ?_
  refine lv_iload_n hx hb dX5_init_24 rfl (lv_at hl 0 rfl) ?_
  refine lv_iconst (v := 4) hx hb dX5_init_25 (by decide) ?_
  refine lv_icmp_ge (tgt := 48) hx hb dX5_init_26 (by decide) (fun c_27 => absurd c_27 (by decide)) (fun c_27 => ?_)
  refine lv_aload_n hx hb dX5_init_29 rfl (lv_at hl 1 rfl) ?_
  refine va_get (D := DG E) (ci := 5) (v := .ref q_1) (C := RX5) (T := TX5) (N := 6) hx hb hts iw_X5 hown hK.1 (va_one hr_6) 0 rfl rfl 2 (by decide) (hts _ fl_X5_11) (fun _ h9 => h9) rfl dX5_init_30 ?_
  refine lv_iload_n hx hb dX5_init_33 rfl (lv_at hl 0 rfl) ?_
  have hSo : s.heap.size ≤ _ := hS.1
  refine rr_new (ci := 4) (fs := [.int 0, .int 0, .int 0, .int 0, .int 0, .int 0, .int 0, .int 0, .int 0, .int 0]) (C := RX4) (T := TX4) (N := 10) hx hb hts iw_X4 tyX4 tyX4_ok hown (hts _ cl_X5_9) (hts _ ia_X4) (hts _ in_X4) hK.1 hS rfl (fun j hj => by rcases (show j = 0 ∨ j = 1 ∨ j = 2 ∨ j = 3 ∨ j = 4 ∨ j = 5 ∨ j = 6 ∨ j = 7 ∨ j = 8 ∨ j = 9 by omega) with rfl | rfl | rfl | rfl | rfl | rfl | rfl | rfl | rfl | rfl <;> rfl) (Nat.le_of_ble_eq_true rfl) (Nat.le_of_ble_eq_true rfl) dX5_init_34 (fun q_28 H hq hat hz ho hS => ?_)
  have hr_29 := hat
  have zq_28 := hT.fresh hq
  have neq_28_h0 : h0 ≠ q_28 := ne_q hr_6.lt hq
  have hr_6 := hr_6.kept (ho _ hr_6.lt)
  have neq_28_q_1 : q_1 ≠ q_28 := ne_q hr_26.lt hq
  have hr_26 := hr_26.kept (ho _ hr_26.lt)
  have szq_28 : sz ≤ q_28 := le_q hsz hSo hq
  have hT := hT.kept ho
  refine lv_dup hx hb dX5_init_37 rfl ?_
  obtain ⟨sz_hs_30, hs_30⟩ : ∃ z, z = H.size := ⟨_, rfl⟩
  have szshs_30 : sz ≤ sz_hs_30 := le_q hsz hS.1 hs_30
  refine va_callv (rnIN (fun H => H.size = sz_hs_30 ∧ va_at (DG E) vwCl (q_28, .inr (4, [.int 0, .int 0, .int 0, .int 0, .int 0, .int 0, .int 0, .int 0, .int 0, .int 0])) H ∧ TH E (T0 E) G_21 [] H) (As := []) (rest := [.ref q_28, .int 2, .ref q_1]) ⟨hx, hb, hml, hown, hts⟩ (c_X4_init l E z0 G_21 q_28 sz_hs_30  zq_28 (Nat.le_trans hz1 szq_28) (Nat.le_trans hz1 szshs_30) ) ⟨va_cnB (host := RX9) 0 hts (gd1 co_X4_init rfl) rfl rfl rfl (hK.2.1 _ mn_X5_25 #[]) (hts _ in_X4) (by decide +kernel) ⟨Nat.le_of_ble_eq_true rfl, Nat.le_of_ble_eq_true rfl⟩, rfl, hts _ im_X4_init⟩ ⟨hs_30.symm, hr_29, hT⟩ (fun U hU hW => hK.go hW hS hAz hU) rfl rfl hl.1 rfl (lv_room (Nat.le_of_ble_eq_true rfl)) dX5_init_38 ⟨Nat.le_of_ble_eq_true rfl, Nat.le_of_ble_eq_true rfl⟩) hS (fun q _ h => h.elim (fun e => by rw [e]; exact (Or.inr szq_28)) (fun h => Or.inr (Nat.le_trans szshs_30 h))) (fun q h => h.elim (fun e => by rw [e]; exact (Or.inr szq_28)) (fun h => Or.inr (Nat.le_trans szshs_30 h))) (fun G_31 t H locs ht hvm hw hB hz hk hS => ?_)
  have hw_32 := hw
  rw [ht] at hB
  have lth0 : h0 < sz_hs_30 := ltz_s hr_6.lt hs_30
  have hr_6 := hr_6.kept (hk _ hr_6.lt (fun h => h.elim neq_28_h0 (fun h => absurd h (Nat.not_le.mpr lth0))))
  have hG0 : G_31 h0 = 0 := gx_0 hw_32 hG0 neq_28_h0 lth0
  have ltq_1 : q_1 < sz_hs_30 := ltz_s hr_26.lt hs_30
  have hr_26 := hr_26.kept (hk _ hr_26.lt (fun h => h.elim neq_28_q_1 (fun h => absurd h (Nat.not_le.mpr ltq_1))))
  have zq_1 : G_31 q_1 = 0 := gx_0 hw_32 zq_1 neq_28_q_1 ltq_1
  have hf_3 := af_x hw_32 (by decide) hf_3
  have gp_33 : G_31 a0 = 5 := gx_k hw_32 gp_23 (by decide)
  have gq_34 : G_31 q_28 = 13 := hw_32.2
  have hE := hE.step hw_32 szq_28 szshs_30
  have hT : TH E (T0 E) G_31 [] H := hB
  have ha_35 := tg_13 hT gq_34 nx_0
  refine rr_aast (D := DG E) hx hb hK.1 6 4 hr_26 hS (Or.inr szq_1) rfl ha_35 rfl (show vp_in (2) 4 from vp_in_iff.mpr ⟨by decide, by decide⟩) dX5_init_41 (fun H locs hn ho hz hS => ?_)
  have hr_36 : va_at (DG E) vwCl (q_1, .inl (E.2.2 6, 4, .inr (.inr (.inr (.inr (va_up (va_up (va_up (fun _ => none) 0 (some q_8)) 1 (some q_18)) 2 (some q_28))))))) H := hn
  have hf_3 := af_push hf_3 gq_34
  have hr_6 := hr_6.kept (ho _ neq_1_h0)
  have hT := hT.off zq_1 ho
  refine lv_iinc (v := 3) (lv' := [(3, .int 3), (0, .ref h0), (1, .int p0), (2, .ref a0)]) hx hb dX5_init_42 hl (k := 0) rfl (by decide) (by decide) rfl (fun ls hl => ?_)
  refine lv_goto (tgt := 24) hx hb dX5_init_45 (by decide) ?_
  refine lv_iload_n hx hb dX5_init_24 rfl (lv_at hl 0 rfl) ?_
  refine lv_iconst (v := 4) hx hb dX5_init_25 (by decide) ?_
  refine lv_icmp_ge (tgt := 48) hx hb dX5_init_26 (by decide) (fun c_37 => absurd c_37 (by decide)) (fun c_37 => ?_)
  refine lv_aload_n hx hb dX5_init_29 rfl (lv_at hl 1 rfl) ?_
  refine va_get (D := DG E) (ci := 5) (v := .ref q_1) (C := RX5) (T := TX5) (N := 6) hx hb hts iw_X5 hown hK.1 (va_one hr_6) 0 rfl rfl 2 (by decide) (hts _ fl_X5_11) (fun _ h9 => h9) rfl dX5_init_30 ?_
  refine lv_iload_n hx hb dX5_init_33 rfl (lv_at hl 0 rfl) ?_
  have hSo : s.heap.size ≤ _ := hS.1
  refine rr_new (ci := 4) (fs := [.int 0, .int 0, .int 0, .int 0, .int 0, .int 0, .int 0, .int 0, .int 0, .int 0]) (C := RX4) (T := TX4) (N := 10) hx hb hts iw_X4 tyX4 tyX4_ok hown (hts _ cl_X5_9) (hts _ ia_X4) (hts _ in_X4) hK.1 hS rfl (fun j hj => by rcases (show j = 0 ∨ j = 1 ∨ j = 2 ∨ j = 3 ∨ j = 4 ∨ j = 5 ∨ j = 6 ∨ j = 7 ∨ j = 8 ∨ j = 9 by omega) with rfl | rfl | rfl | rfl | rfl | rfl | rfl | rfl | rfl | rfl <;> rfl) (Nat.le_of_ble_eq_true rfl) (Nat.le_of_ble_eq_true rfl) dX5_init_34 (fun q_38 H hq hat hz ho hS => ?_)
  have hr_39 := hat
  have zq_38 := hT.fresh hq
  have neq_38_h0 : h0 ≠ q_38 := ne_q hr_6.lt hq
  have hr_6 := hr_6.kept (ho _ hr_6.lt)
  have neq_38_q_1 : q_1 ≠ q_38 := ne_q hr_36.lt hq
  have hr_36 := hr_36.kept (ho _ hr_36.lt)
  have szq_38 : sz ≤ q_38 := le_q hsz hSo hq
  have hT := hT.kept ho
  refine lv_dup hx hb dX5_init_37 rfl ?_
  obtain ⟨sz_hs_40, hs_40⟩ : ∃ z, z = H.size := ⟨_, rfl⟩
  have szshs_40 : sz ≤ sz_hs_40 := le_q hsz hS.1 hs_40
  refine va_callv (rnIN (fun H => H.size = sz_hs_40 ∧ va_at (DG E) vwCl (q_38, .inr (4, [.int 0, .int 0, .int 0, .int 0, .int 0, .int 0, .int 0, .int 0, .int 0, .int 0])) H ∧ TH E (T0 E) G_31 [] H) (As := []) (rest := [.ref q_38, .int 3, .ref q_1]) ⟨hx, hb, hml, hown, hts⟩ (c_X4_init l E z0 G_31 q_38 sz_hs_40  zq_38 (Nat.le_trans hz1 szq_38) (Nat.le_trans hz1 szshs_40) ) ⟨va_cnB (host := RX9) 0 hts (gd1 co_X4_init rfl) rfl rfl rfl (hK.2.1 _ mn_X5_25 #[]) (hts _ in_X4) (by decide +kernel) ⟨Nat.le_of_ble_eq_true rfl, Nat.le_of_ble_eq_true rfl⟩, rfl, hts _ im_X4_init⟩ ⟨hs_40.symm, hr_39, hT⟩ (fun U hU hW => hK.go hW hS hAz hU) rfl rfl hl.1 rfl (lv_room (Nat.le_of_ble_eq_true rfl)) dX5_init_38 ⟨Nat.le_of_ble_eq_true rfl, Nat.le_of_ble_eq_true rfl⟩) hS (fun q _ h => h.elim (fun e => by rw [e]; exact (Or.inr szq_38)) (fun h => Or.inr (Nat.le_trans szshs_40 h))) (fun q h => h.elim (fun e => by rw [e]; exact (Or.inr szq_38)) (fun h => Or.inr (Nat.le_trans szshs_40 h))) (fun G_41 t H locs ht hvm hw hB hz hk hS => ?_)
  have hw_42 := hw
  rw [ht] at hB
  have lth0 : h0 < sz_hs_40 := ltz_s hr_6.lt hs_40
  have hr_6 := hr_6.kept (hk _ hr_6.lt (fun h => h.elim neq_38_h0 (fun h => absurd h (Nat.not_le.mpr lth0))))
  have hG0 : G_41 h0 = 0 := gx_0 hw_42 hG0 neq_38_h0 lth0
  have ltq_1 : q_1 < sz_hs_40 := ltz_s hr_36.lt hs_40
  have hr_36 := hr_36.kept (hk _ hr_36.lt (fun h => h.elim neq_38_q_1 (fun h => absurd h (Nat.not_le.mpr ltq_1))))
  have zq_1 : G_41 q_1 = 0 := gx_0 hw_42 zq_1 neq_38_q_1 ltq_1
  have hf_3 := af_x hw_42 (by decide) hf_3
  have gp_43 : G_41 a0 = 5 := gx_k hw_42 gp_33 (by decide)
  have gq_44 : G_41 q_38 = 13 := hw_42.2
  have hE := hE.step hw_42 szq_38 szshs_40
  have hT : TH E (T0 E) G_41 [] H := hB
  have ha_45 := tg_13 hT gq_44 nx_0
  refine rr_aast (D := DG E) hx hb hK.1 6 4 hr_36 hS (Or.inr szq_1) rfl ha_45 rfl (show vp_in (3) 4 from vp_in_iff.mpr ⟨by decide, by decide⟩) dX5_init_41 (fun H locs hn ho hz hS => ?_)
  have hr_46 : va_at (DG E) vwCl (q_1, .inl (E.2.2 6, 4, .inr (.inr (.inr (.inr (va_up (va_up (va_up (va_up (fun _ => none) 0 (some q_8)) 1 (some q_18)) 2 (some q_28)) 3 (some q_38))))))) H := hn
  have hf_3 := af_push hf_3 gq_44
  have hr_6 := hr_6.kept (ho _ neq_1_h0)
  have hT := hT.off zq_1 ho
  refine lv_iinc (v := 4) (lv' := [(3, .int 4), (0, .ref h0), (1, .int p0), (2, .ref a0)]) hx hb dX5_init_42 hl (k := 0) rfl (by decide) (by decide) rfl (fun ls hl => ?_)
  refine lv_goto (tgt := 24) hx hb dX5_init_45 (by decide) ?_
  refine lv_iload_n hx hb dX5_init_24 rfl (lv_at hl 0 rfl) ?_
  refine lv_iconst (v := 4) hx hb dX5_init_25 (by decide) ?_
  refine lv_icmp_ge (tgt := 48) hx hb dX5_init_26 (by decide) (fun c_47 => ?_) (fun c_47 => absurd c_47 (by decide))
  have hT := hT.add (g := 12) zq_1 (show T0 E (va_up G_41 q_1 12) 12 _ from ⟨_, rfl, af_up zq_1 (by decide) hf_3⟩) hr_46
  have hE := hE.add (g := 12) zq_1 szq_1
  have gp_49 := up_k (g := 12) gp_43 zq_1 (by decide)
  have hG0 := (va_up_ne G_41 12 neq_1_h0).trans hG0
  have gq_50 := va_up_self G_41 q_1 12
  obtain ⟨G_48, eG_48⟩ : ∃ z, z = va_up G_41 q_1 12 := ⟨_, rfl⟩
  rw [← eG_48] at hT hE gq_50 gp_49 hG0
  have hT := hT.add (g := 11) hG0 (show T0 E (va_up G_48 h0 11) 11 _ from ⟨p0, a0, q_1, rfl, up_k gp_49 hG0 (by decide), up_k gq_50 hG0 (by decide)⟩) hr_6
  refine W.widen (k := 5) (n := 44) (Nat.le_of_ble_eq_true rfl) (Nat.le_of_ble_eq_true rfl) ?_
  exact W.vret hx hb hr (fun t ht hW => ⟨⟨_, rfl, hE.fin hG0, by show TH _ _ _ _ t.heap; rw [ht]; exact hT⟩, hS.F ht⟩) hS.2.2 dX5_init_48
