theorem dX6_become_0 : decode cX6_become 0 = .ok (.aload_n 0, 1) := by decide +kernel
theorem dX6_become_1 : decode cX6_become 1 = .ok (.iload_n 1, 1) := by decide +kernel
theorem dX6_become_2 : decode cX6_become 2 = .ok (.putfield 7, 3) := by decide +kernel
theorem dX6_become_5 : decode cX6_become 5 = .ok (.aload_n 0, 1) := by decide +kernel
theorem dX6_become_6 : decode cX6_become 6 = .ok (.iload_n 2, 1) := by decide +kernel
theorem dX6_become_7 : decode cX6_become 7 = .ok (.putfield 13, 3) := by decide +kernel
theorem dX6_become_10 : decode cX6_become 10 = .ok (.aload_n 0, 1) := by decide +kernel
theorem dX6_become_11 : decode cX6_become 11 = .ok (.iload_n 3, 1) := by decide +kernel
theorem dX6_become_12 : decode cX6_become 12 = .ok (.putfield 16, 3) := by decide +kernel
theorem dX6_become_15 : decode cX6_become 15 = .ok (.return_, 1) := by decide +kernel
set_option maxHeartbeats 4000000 in
set_option maxRecDepth 100000 in
theorem c_X6_become (l : Launch) (E : EE) (z0 : Nat) (G : Nat → Nat) (hGz : ∀ q, G q ≠ 0 → z0 ≤ q) (h0 : Nat) (p0 p1 p2 : Int32) (hG : G h0 = 7) : Met l yX6_become [Cond.code yX6_become cX6_become 4 none] ({ frames := 0, cells := 0, slots := 0, locals := 0 } : Room) (va_Pc [.ref h0, .int p0, .int p1, .int p2] (fun U => TH E (T0 E) G [] U.heap ∧ KS E z0 U)) (va_Qv (fun (_ : Unit) => True) (fun _ _ => True) (fun q : Nat => G q ≠ 0)) 0 0 (fun q : Nat => G q ≠ 0) := by
  refine Met.ofW (cc := cX6_become) (maxL := 4) (ret := none) (by decide) rfl ?_
  intro p e s m args below meth c s₁ B hml hv
  obtain ⟨rfl, hT, hK⟩ := hv
  have hx := B.exec
  have hb := B.bytes
  have hr := B.returns
  have hts : ∀ w ∈ TS, w.before ([.ref h0, .int p0, .int p1, .int p2] : List Value).toArray s = true := fun w hw => hK.2.1 w hw _
  have hown : s.vm.findClass RX6 = some m.cls := findClass_of_methodNamed B.named
  have hlocks := B.notSynchronized
  have hS : va_S (fun q : Nat => G q ≠ 0) s.heap s.heap [] := va_S.rf
  have hAz : ∀ q, (fun q : Nat => G q ≠ 0) q → z0 ≤ q := hGz
  have hl := lv_entry ([.ref h0, .int p0, .int p1, .int p2]) (n := 4) (Nat.le_of_ble_eq_true rfl)
  rw [lg_entry_eq]
  generalize (lg_sl ([.ref h0, .int p0, .int p1, .int p2]) ++ List.replicate (4 - (lg_sl ([.ref h0, .int p0, .int p1, .int p2])).length) Slot.unset).toArray = ls at hl ⊢
  have hl : lv_has ls 4 [(0, .ref h0), (1, .int p0), (2, .int p1), (3, .int p2)] := hl
  refine lv_aload_n hx hb dX6_become_0 rfl (lv_at hl 0 rfl) ?_
  refine lv_iload_n hx hb dX6_become_1 rfl (lv_at hl 1 rfl) ?_
  have ha_1 := tg_7 hT hG nx_0
  refine rr_put (D := DG E) (ci := 6) (v := .int p0) (ty := .int) (C := RX6) (T := TX6) (N := 3) hx hb hts iw_X6 tyX6 tyX6_ok nmX6 hown hK.1 ha_1 hS (by show G h0 ≠ 0; rw [hG]; decide) rfl 0 (by decide) (hts _ fl_X6_7) (fun _ h9 => h9) rfl (by decide +kernel) rfl rfl (Nat.le_of_ble_eq_true rfl) dX6_become_2 (fun H locs hn ho hz hS => ?_)
  have hr_2 : va_at (DG E) vwCl (h0, .inr (6, [.int p0, .int 0, .int 0])) H := hn
  have hT : TH E (T0 E) G [h0] H := hT.keptx (fun q hq => List.mem_append_left [h0] hq) (fun q _ hq => ho q (fun e => hq (by rw [e]; simp)))
  refine lv_aload_n hx hb dX6_become_5 rfl (lv_at hl 0 rfl) ?_
  refine lv_iload_n hx hb dX6_become_6 rfl (lv_at hl 2 rfl) ?_
  refine rr_put (D := DG E) (ci := 6) (v := .int p1) (ty := .int) (C := RX6) (T := TX6) (N := 3) hx hb hts iw_X6 tyX6 tyX6_ok nmX6 hown hK.1 hr_2 hS (by show G h0 ≠ 0; rw [hG]; decide) rfl 1 (by decide) (hts _ fl_X6_13) (fun _ h9 => h9) rfl (by decide +kernel) rfl rfl (Nat.le_of_ble_eq_true rfl) dX6_become_7 (fun H locs hn ho hz hS => ?_)
  have hr_3 : va_at (DG E) vwCl (h0, .inr (6, [.int p0, .int p1, .int 0])) H := hn
  have hT : TH E (T0 E) G [h0] H := hT.keptx (fun q hq => hq) (fun q _ hq => ho q (fun e => hq (by rw [e]; simp)))
  refine lv_aload_n hx hb dX6_become_10 rfl (lv_at hl 0 rfl) ?_
  refine lv_iload_n hx hb dX6_become_11 rfl (lv_at hl 3 rfl) ?_
  refine rr_put (D := DG E) (ci := 6) (v := .int p2) (ty := .int) (C := RX6) (T := TX6) (N := 3) hx hb hts iw_X6 tyX6 tyX6_ok nmX6 hown hK.1 hr_3 hS (by show G h0 ≠ 0; rw [hG]; decide) rfl 2 (by decide) (hts _ fl_X6_16) (fun _ h9 => h9) rfl (by decide +kernel) rfl rfl (Nat.le_of_ble_eq_true rfl) dX6_become_12 (fun H locs hn ho hz hS => ?_)
  have hr_4 : va_at (DG E) vwCl (h0, .inr (6, [.int p0, .int p1, .int p2])) H := hn
  have hT : TH E (T0 E) G [h0] H := hT.keptx (fun q hq => hq) (fun q _ hq => ho q (fun e => hq (by rw [e]; simp)))
  exact W.vret hx hb hr (fun t ht hW => ⟨⟨(), rfl, trivial, trivial⟩, hS.F ht⟩) hS.2.2 dX6_become_15
theorem dX1_at_0 : decode cX1_at 0 = .ok (.iload_n 1, 1) := by decide +kernel
theorem dX1_at_1 : decode cX1_at 1 = .ok (.invokestatic 25, 3) := by decide +kernel
theorem dX1_at_4 : decode cX1_at 4 = .ok (.ifCond .eq 12, 3) := by decide +kernel
theorem dX1_at_7 : decode cX1_at 7 = .ok (.aload_n 0, 1) := by decide +kernel
theorem dX1_at_8 : decode cX1_at 8 = .ok (.getfield 9, 3) := by decide +kernel
theorem dX1_at_11 : decode cX1_at 11 = .ok (.iload_n 1, 1) := by decide +kernel
theorem dX1_at_12 : decode cX1_at 12 = .ok (.iaload, 1) := by decide +kernel
theorem dX1_at_13 : decode cX1_at 13 = .ok (.goto 4, 3) := by decide +kernel
theorem dX1_at_16 : decode cX1_at 16 = .ok (.iconst 0, 1) := by decide +kernel
theorem dX1_at_17 : decode cX1_at 17 = .ok (.ireturn, 1) := by decide +kernel
set_option maxHeartbeats 4000000 in
set_option maxRecDepth 100000 in
theorem c_X1_at (l : Launch) (E : EE) (z0 : Nat) (G : Nat → Nat) (hGz : ∀ q, G q ≠ 0 → z0 ≤ q) (h0 : Nat) (p0 : Int32) (hG : G h0 = 5) : Met l yX1_at [Cond.code yX1_at cX1_at 2 (some .int)] ({ frames := 1, cells := 0, slots := 0, locals := 20 } : Room) (va_Pc [.ref h0, .int p0] (fun U => TH E (T0 E) G [] U.heap ∧ KS E z0 U)) (va_Qi (fun (r : Int32) (_ : Unit) => r = 0) (fun _ _ => True) (fun _ : Nat => False)) 0 0 (fun _ : Nat => False) := by
  refine Met.ofW (cc := cX1_at) (maxL := 2) (ret := (some .int)) (by decide) rfl ?_
  intro p e s m args below meth c s₁ B hml hv
  obtain ⟨rfl, hT, hK⟩ := hv
  have hx := B.exec
  have hb := B.bytes
  have hr := B.returns
  have hts : ∀ w ∈ TS, w.before ([.ref h0, .int p0] : List Value).toArray s = true := fun w hw => hK.2.1 w hw _
  have hown : s.vm.findClass RX1 = some m.cls := findClass_of_methodNamed B.named
  have hlocks := B.notSynchronized
  have hS : va_S (fun _ : Nat => False) s.heap s.heap [] := va_S.rf
  have hAz : ∀ q, (fun _ : Nat => False) q → z0 ≤ q := fun _ h => h.elim
  have hl := lv_entry ([.ref h0, .int p0]) (n := 2) (Nat.le_of_ble_eq_true rfl)
  rw [lg_entry_eq]
  generalize (lg_sl ([.ref h0, .int p0]) ++ List.replicate (2 - (lg_sl ([.ref h0, .int p0])).length) Slot.unset).toArray = ls at hl ⊢
  have hl : lv_has ls 2 [(0, .ref h0), (1, .int p0)] := hl
  refine lv_iload_n hx hb dX1_at_0 rfl (lv_at hl 1 rfl) ?_
  refine rnSN (As := [.int p0]) (rest := []) ⟨hx, hb, hml, hown, hts⟩ (c_X9_isCell l p0) ⟨va_cnB (host := RX9) 1 hts (gd1 co_X9_isCell rfl) rfl rfl rfl (hK.2.1 _ mn_X1_25 #[]) (hts _ in_X9) (by decide +kernel) ⟨Nat.le_of_ble_eq_true rfl, Nat.le_of_ble_eq_true rfl⟩, hts _ st_X9_isCell, trivial⟩ rfl rfl hl.1 rfl (lv_room (Nat.le_of_ble_eq_true rfl)) dX1_at_1 ⟨Nat.le_of_ble_eq_true rfl, Nat.le_of_ble_eq_true rfl⟩ ?_
  refine W.eq (g2 := F0 m 4 ls [.int (bI (0 ≤ p0.toInt ∧ p0.toInt < 32))]) (by rfl) ?_
  refine lv_if_eq (tgt := 16) hx hb dX1_at_4 (by decide) (fun c_1 => ?_) (fun c_1 => ?_)
  · have c_1 := bI_0 c_1
    refine lv_iconst (v := 0) hx hb dX1_at_16 (by decide) ?_
    exact W.iret (v := 0) hx hb hr (fun t ht hW => ⟨⟨0, (), rfl, rfl, trivial⟩, hS.F ht⟩) hS.2.2 dX1_at_17
  · have c_1 := bI_n c_1
    refine lv_aload_n hx hb dX1_at_7 rfl (lv_at hl 0 rfl) ?_
    obtain ⟨cs_2, rg_2, rn_2, ha_2, hg_2_0, hg_2_1, hg_2_2⟩ := tg_5 hT hG nx_0
    refine va_get (D := DG E) (ci := 1) (v := .ref cs_2) (C := RX1) (T := TX1) (N := 5) hx hb hts iw_X1 hown hK.1 (va_one ha_2) 0 rfl rfl 0 (by decide) (hts _ fl_X1_9) (fun _ h9 => h9) rfl dX1_at_8 ?_
    refine lv_iload_n hx hb dX1_at_11 rfl (lv_at hl 1 rfl) ?_
    have ha_3 := tg_14 hT hg_2_0 nx_0
    refine va_iald (D := DG E) hx hb hK.1 (va_one ha_3) 0 0 rfl rfl (show vp_in p0 32 from vp_in_iff.mpr (by omega)) dX1_at_12 ?_
    refine W.eq (g2 := F0 m 13 ls [.int 0]) (by rfl) ?_
    refine lv_goto (tgt := 17) hx hb dX1_at_13 (by decide) ?_
    exact W.iret (v := 0) hx hb hr (fun t ht hW => ⟨⟨0, (), rfl, rfl, trivial⟩, hS.F ht⟩) hS.2.2 dX1_at_17
theorem dX1_put_0 : decode cX1_put 0 = .ok (.iload_n 1, 1) := by decide +kernel
theorem dX1_put_1 : decode cX1_put 1 = .ok (.invokestatic 25, 3) := by decide +kernel
theorem dX1_put_4 : decode cX1_put 4 = .ok (.ifCond .eq 10, 3) := by decide +kernel
theorem dX1_put_7 : decode cX1_put 7 = .ok (.aload_n 0, 1) := by decide +kernel
theorem dX1_put_8 : decode cX1_put 8 = .ok (.getfield 9, 3) := by decide +kernel
theorem dX1_put_11 : decode cX1_put 11 = .ok (.iload_n 1, 1) := by decide +kernel
theorem dX1_put_12 : decode cX1_put 12 = .ok (.iload_n 2, 1) := by decide +kernel
theorem dX1_put_13 : decode cX1_put 13 = .ok (.iastore, 1) := by decide +kernel
theorem dX1_put_14 : decode cX1_put 14 = .ok (.return_, 1) := by decide +kernel
set_option maxHeartbeats 4000000 in
set_option maxRecDepth 100000 in
theorem c_X1_put (l : Launch) (E : EE) (z0 : Nat) (G : Nat → Nat) (hGz : ∀ q, G q ≠ 0 → z0 ≤ q) (h0 : Nat) (p0 p1 : Int32) (hG : G h0 = 5) : Met l yX1_put [Cond.code yX1_put cX1_put 3 none] ({ frames := 1, cells := 0, slots := 0, locals := 20 } : Room) (va_Pc [.ref h0, .int p0, .int p1] (fun U => TH E (T0 E) G [] U.heap ∧ KS E z0 U)) (va_Qv (fun (_ : Unit) => True) (fun _ _ => True) (fun q : Nat => G q ≠ 0)) 0 0 (fun q : Nat => G q ≠ 0) := by
  refine Met.ofW (cc := cX1_put) (maxL := 3) (ret := none) (by decide) rfl ?_
  intro p e s m args below meth c s₁ B hml hv
  obtain ⟨rfl, hT, hK⟩ := hv
  have hx := B.exec
  have hb := B.bytes
  have hr := B.returns
  have hts : ∀ w ∈ TS, w.before ([.ref h0, .int p0, .int p1] : List Value).toArray s = true := fun w hw => hK.2.1 w hw _
  have hown : s.vm.findClass RX1 = some m.cls := findClass_of_methodNamed B.named
  have hlocks := B.notSynchronized
  have hS : va_S (fun q : Nat => G q ≠ 0) s.heap s.heap [] := va_S.rf
  have hAz : ∀ q, (fun q : Nat => G q ≠ 0) q → z0 ≤ q := hGz
  have hl := lv_entry ([.ref h0, .int p0, .int p1]) (n := 3) (Nat.le_of_ble_eq_true rfl)
  rw [lg_entry_eq]
  generalize (lg_sl ([.ref h0, .int p0, .int p1]) ++ List.replicate (3 - (lg_sl ([.ref h0, .int p0, .int p1])).length) Slot.unset).toArray = ls at hl ⊢
  have hl : lv_has ls 3 [(0, .ref h0), (1, .int p0), (2, .int p1)] := hl
  refine lv_iload_n hx hb dX1_put_0 rfl (lv_at hl 1 rfl) ?_
  refine rnSN (As := [.int p0]) (rest := []) ⟨hx, hb, hml, hown, hts⟩ (c_X9_isCell l p0) ⟨va_cnB (host := RX9) 1 hts (gd1 co_X9_isCell rfl) rfl rfl rfl (hK.2.1 _ mn_X1_25 #[]) (hts _ in_X9) (by decide +kernel) ⟨Nat.le_of_ble_eq_true rfl, Nat.le_of_ble_eq_true rfl⟩, hts _ st_X9_isCell, trivial⟩ rfl rfl hl.1 rfl (lv_room (Nat.le_of_ble_eq_true rfl)) dX1_put_1 ⟨Nat.le_of_ble_eq_true rfl, Nat.le_of_ble_eq_true rfl⟩ ?_
  refine W.eq (g2 := F0 m 4 ls [.int (bI (0 ≤ p0.toInt ∧ p0.toInt < 32))]) (by rfl) ?_
  refine lv_if_eq (tgt := 14) hx hb dX1_put_4 (by decide) (fun c_1 => ?_) (fun c_1 => ?_)
  · have c_1 := bI_0 c_1
    exact W.vret hx hb hr (fun t ht hW => ⟨⟨(), rfl, trivial, trivial⟩, hS.F ht⟩) hS.2.2 dX1_put_14
  · have c_1 := bI_n c_1
    refine lv_aload_n hx hb dX1_put_7 rfl (lv_at hl 0 rfl) ?_
    obtain ⟨cs_2, rg_2, rn_2, ha_2, hg_2_0, hg_2_1, hg_2_2⟩ := tg_5 hT hG nx_0
    refine va_get (D := DG E) (ci := 1) (v := .ref cs_2) (C := RX1) (T := TX1) (N := 5) hx hb hts iw_X1 hown hK.1 (va_one ha_2) 0 rfl rfl 0 (by decide) (hts _ fl_X1_9) (fun _ h9 => h9) rfl dX1_put_8 ?_
    refine lv_iload_n hx hb dX1_put_11 rfl (lv_at hl 1 rfl) ?_
    refine lv_iload_n hx hb dX1_put_12 rfl (lv_at hl 2 rfl) ?_
    have ha_3 := tg_14 hT hg_2_0 nx_0
    refine rr_iast (D := DG E) hx hb hK.1 0 ha_3 hS (by show G cs_2 ≠ 0; rw [hg_2_0]; decide) rfl (show vp_in p0 32 from vp_in_iff.mpr (by omega)) dX1_put_13 (fun H locs hn ho hz hS => ?_)
    have hr_4 : va_at (DG E) vwCl (cs_2, .inl (E.2.2 0, 32, .inl (upd (fun _ => 0) (p0 : Int32).toNatClampNeg p1))) H := hn
    have hT : TH E (T0 E) G [cs_2] H := hT.keptx (fun q hq => List.mem_append_left [cs_2] hq) (fun q _ hq => ho q (fun e => hq (by rw [e]; simp)))
    exact W.vret hx hb hr (fun t ht hW => ⟨⟨(), rfl, trivial, trivial⟩, hS.F ht⟩) hS.2.2 dX1_put_14
theorem dX7_start_0 : decode cX7_start 0 = .ok (.aload_n 0, 1) := by decide +kernel
theorem dX7_start_1 : decode cX7_start 1 = .ok (.iload_n 1, 1) := by decide +kernel
theorem dX7_start_2 : decode cX7_start 2 = .ok (.putfield 65, 3) := by decide +kernel
theorem dX7_start_5 : decode cX7_start 5 = .ok (.aload_n 0, 1) := by decide +kernel
theorem dX7_start_6 : decode cX7_start 6 = .ok (.iload_n 1, 1) := by decide +kernel
theorem dX7_start_7 : decode cX7_start 7 = .ok (.putfield 68, 3) := by decide +kernel
theorem dX7_start_10 : decode cX7_start 10 = .ok (.aload_n 0, 1) := by decide +kernel
theorem dX7_start_11 : decode cX7_start 11 = .ok (.iload_n 1, 1) := by decide +kernel
theorem dX7_start_12 : decode cX7_start 12 = .ok (.putfield 71, 3) := by decide +kernel
theorem dX7_start_15 : decode cX7_start 15 = .ok (.return_, 1) := by decide +kernel
set_option maxHeartbeats 4000000 in
set_option maxRecDepth 100000 in
theorem c_X7_start (l : Launch) (E : EE) (z0 : Nat) (G : Nat → Nat) (hGz : ∀ q, G q ≠ 0 → z0 ≤ q) (h0 : Nat) (p0 : Int32) (hG : G h0 = 9) (x0 : Nat) (hx0 : G x0 = 8) : Met l yX7_start [Cond.code yX7_start cX7_start 2 none] ({ frames := 0, cells := 0, slots := 0, locals := 0 } : Room) (va_Pc [.ref h0, .int p0] (fun U => TH E (T0 E) G [x0] U.heap ∧ KS E z0 U)) (va_Qv (fun (_ : Unit) => True) (fun _ _ => True) (fun q : Nat => q = h0)) 0 0 (fun q : Nat => q = h0) := by
  refine Met.ofW (cc := cX7_start) (maxL := 2) (ret := none) (by decide) rfl ?_
  intro p e s m args below meth c s₁ B hml hv
  obtain ⟨rfl, hT, hK⟩ := hv
  have hx := B.exec
  have hb := B.bytes
  have hr := B.returns
  have hts : ∀ w ∈ TS, w.before ([.ref h0, .int p0] : List Value).toArray s = true := fun w hw => hK.2.1 w hw _
  have hown : s.vm.findClass RX7 = some m.cls := findClass_of_methodNamed B.named
  have hlocks := B.notSynchronized
  have hS : va_S (fun q : Nat => q = h0) s.heap s.heap [] := va_S.rf
  have hAz : ∀ q, (fun q : Nat => q = h0) q → z0 ≤ q := fun q h => by rw [h]; exact hGz _ (by rw [hG]; decide)
  have hl := lv_entry ([.ref h0, .int p0]) (n := 2) (Nat.le_of_ble_eq_true rfl)
  rw [lg_entry_eq]
  generalize (lg_sl ([.ref h0, .int p0]) ++ List.replicate (2 - (lg_sl ([.ref h0, .int p0])).length) Slot.unset).toArray = ls at hl ⊢
  have hl : lv_has ls 2 [(0, .ref h0), (1, .int p0)] := hl
  refine lv_aload_n hx hb dX7_start_0 rfl (lv_at hl 0 rfl) ?_
  refine lv_iload_n hx hb dX7_start_1 rfl (lv_at hl 1 rfl) ?_
  obtain ⟨pe_1, nd_1, fa_1, to_1, mt_1, mr_1, rq_1, ha_1, hg_1_0, hg_1_1, hg_1_2⟩ := tg_9 hT hG (nx_1 (ne_G hG hx0 (by decide)) nx_0)
  refine rr_put (D := DG E) (ci := 7) (v := .int p0) (ty := .int) (C := RX7) (T := TX7) (N := 14) hx hb hts iw_X7 tyX7 tyX7_ok nmX7 hown hK.1 ha_1 hS rfl rfl 7 (by decide) (hts _ fl_X7_65) (fun _ h9 => h9) rfl (by decide +kernel) rfl rfl (Nat.le_of_ble_eq_true rfl) dX7_start_2 (fun H locs hn ho hz hS => ?_)
  have hr_2 : va_at (DG E) vwCl (h0, .inr (7, [.int pe_1, .ref nd_1, .ref fa_1, .int to_1, .int mt_1, .int mr_1, .ref rq_1, .int p0, .int 0, .int 0, .int 0, .int 0, .int 0, .int 0])) H := hn
  have hT : TH E (T0 E) G [x0, h0] H := hT.keptx (fun q hq => List.mem_append_left [h0] hq) (fun q _ hq => ho q (fun e => hq (by rw [e]; simp)))
  refine lv_aload_n hx hb dX7_start_5 rfl (lv_at hl 0 rfl) ?_
  refine lv_iload_n hx hb dX7_start_6 rfl (lv_at hl 1 rfl) ?_
  refine rr_put (D := DG E) (ci := 7) (v := .int p0) (ty := .int) (C := RX7) (T := TX7) (N := 14) hx hb hts iw_X7 tyX7 tyX7_ok nmX7 hown hK.1 hr_2 hS rfl rfl 8 (by decide) (hts _ fl_X7_68) (fun _ h9 => h9) rfl (by decide +kernel) rfl rfl (Nat.le_of_ble_eq_true rfl) dX7_start_7 (fun H locs hn ho hz hS => ?_)
  have hr_3 : va_at (DG E) vwCl (h0, .inr (7, [.int pe_1, .ref nd_1, .ref fa_1, .int to_1, .int mt_1, .int mr_1, .ref rq_1, .int p0, .int p0, .int 0, .int 0, .int 0, .int 0, .int 0])) H := hn
  have hT : TH E (T0 E) G [x0, h0] H := hT.keptx (fun q hq => hq) (fun q _ hq => ho q (fun e => hq (by rw [e]; simp)))
  refine lv_aload_n hx hb dX7_start_10 rfl (lv_at hl 0 rfl) ?_
  refine lv_iload_n hx hb dX7_start_11 rfl (lv_at hl 1 rfl) ?_
  refine rr_put (D := DG E) (ci := 7) (v := .int p0) (ty := .int) (C := RX7) (T := TX7) (N := 14) hx hb hts iw_X7 tyX7 tyX7_ok nmX7 hown hK.1 hr_3 hS rfl rfl 9 (by decide) (hts _ fl_X7_71) (fun _ h9 => h9) rfl (by decide +kernel) rfl rfl (Nat.le_of_ble_eq_true rfl) dX7_start_12 (fun H locs hn ho hz hS => ?_)
  have hr_4 : va_at (DG E) vwCl (h0, .inr (7, [.int pe_1, .ref nd_1, .ref fa_1, .int to_1, .int mt_1, .int mr_1, .ref rq_1, .int p0, .int p0, .int p0, .int 0, .int 0, .int 0, .int 0])) H := hn
  have hT : TH E (T0 E) G [x0, h0] H := hT.keptx (fun q hq => hq) (fun q _ hq => ho q (fun e => hq (by rw [e]; simp)))
  exact W.vret hx hb hr (fun t ht hW => ⟨⟨(), rfl, trivial, trivial⟩, hS.F ht⟩) hS.2.2 dX7_start_15
theorem dX3_takesRequests_0 : decode cX3_takesRequests 0 = .ok (.aload_n 0, 1) := by decide +kernel
theorem dX3_takesRequests_1 : decode cX3_takesRequests 1 = .ok (.getfield 19, 3) := by decide +kernel
theorem dX3_takesRequests_4 : decode cX3_takesRequests 4 = .ok (.iconst 1, 1) := by decide +kernel
theorem dX3_takesRequests_5 : decode cX3_takesRequests 5 = .ok (.if_icmp .ne 20, 3) := by decide +kernel
theorem dX3_takesRequests_8 : decode cX3_takesRequests 8 = .ok (.aload_n 0, 1) := by decide +kernel
theorem dX3_takesRequests_9 : decode cX3_takesRequests 9 = .ok (.getfield 9, 3) := by decide +kernel
theorem dX3_takesRequests_12 : decode cX3_takesRequests 12 = .ok (.getfield 38, 3) := by decide +kernel
theorem dX3_takesRequests_15 : decode cX3_takesRequests 15 = .ok (.invokevirtual 42, 3) := by decide +kernel
theorem dX3_takesRequests_18 : decode cX3_takesRequests 18 = .ok (.ifCond .ne 7, 3) := by decide +kernel
theorem dX3_takesRequests_21 : decode cX3_takesRequests 21 = .ok (.iconst 1, 1) := by decide +kernel
theorem dX3_takesRequests_22 : decode cX3_takesRequests 22 = .ok (.goto 4, 3) := by decide +kernel
theorem dX3_takesRequests_25 : decode cX3_takesRequests 25 = .ok (.iconst 0, 1) := by decide +kernel
theorem dX3_takesRequests_26 : decode cX3_takesRequests 26 = .ok (.ireturn, 1) := by decide +kernel
set_option maxHeartbeats 4000000 in
set_option maxRecDepth 100000 in
theorem c_X3_takesRequests (l : Launch) (E : EE) (z0 : Nat) (G : Nat → Nat) (hGz : ∀ q, G q ≠ 0 → z0 ≤ q) (h0 : Nat) (hG : G h0 = 8) : Met l yX3_takesRequests [Cond.code yX3_takesRequests cX3_takesRequests 1 (some .boolean)] ({ frames := 0, cells := 0, slots := 0, locals := 0 } : Room) (va_Pc [.ref h0] (fun U => TH E (T0 E) G [] U.heap ∧ KS E z0 U)) (va_Qi (fun (r : Int32) (_ : Unit) => r = 0) (fun _ _ => True) (fun _ : Nat => False)) 0 0 (fun _ : Nat => False) := by
  refine Met.ofW (cc := cX3_takesRequests) (maxL := 1) (ret := (some .boolean)) (by decide) rfl ?_
  intro p e s m args below meth c s₁ B hml hv
  obtain ⟨rfl, hT, hK⟩ := hv
  have hx := B.exec
  have hb := B.bytes
  have hr := B.returns
  have hts : ∀ w ∈ TS, w.before ([.ref h0] : List Value).toArray s = true := fun w hw => hK.2.1 w hw _
  have hown : s.vm.findClass RX3 = some m.cls := findClass_of_methodNamed B.named
  have hlocks := B.notSynchronized
  have hS : va_S (fun _ : Nat => False) s.heap s.heap [] := va_S.rf
  have hAz : ∀ q, (fun _ : Nat => False) q → z0 ≤ q := fun _ h => h.elim
  have hl := lv_entry ([.ref h0]) (n := 1) (Nat.le_of_ble_eq_true rfl)
  rw [lg_entry_eq]
  generalize (lg_sl ([.ref h0]) ++ List.replicate (1 - (lg_sl ([.ref h0])).length) Slot.unset).toArray = ls at hl ⊢
  have hl : lv_has ls 1 [(0, .ref h0)] := hl
  refine lv_aload_n hx hb dX3_takesRequests_0 rfl (lv_at hl 0 rfl) ?_
  obtain ⟨rq_1, rs_1, ha_1, hg_1_0, hg_1_1⟩ := tg_8 hT hG nx_0
  refine va_get (D := DG E) (ci := 3) (v := .int 0) (C := RX3) (T := TX3) (N := 3) hx hb hts iw_X3 hown hK.1 (va_one ha_1) 0 rfl rfl 2 (by decide) (hts _ fl_X3_19) (fun _ h9 => h9) rfl dX3_takesRequests_1 ?_
  refine lv_iconst (v := 1) hx hb dX3_takesRequests_4 (by decide) ?_
  refine lv_icmp_ne (tgt := 25) hx hb dX3_takesRequests_5 (by decide) (fun c_2 => ?_) (fun c_2 => absurd c_2 (by decide))
  refine lv_iconst (v := 0) hx hb dX3_takesRequests_25 (by decide) ?_
  exact W.zret (v := 0) (ty := .boolean) hx hb hr rfl (fun t ht hW => ⟨⟨0, (), rfl, rfl, trivial⟩, hS.F ht⟩) hS.2.2 dX3_takesRequests_26
theorem dX5_isFull_0 : decode cX5_isFull 0 = .ok (.aload_n 0, 1) := by decide +kernel
theorem dX5_isFull_1 : decode cX5_isFull 1 = .ok (.getfield 29, 3) := by decide +kernel
theorem dX5_isFull_4 : decode cX5_isFull 4 = .ok (.iconst 4, 1) := by decide +kernel
theorem dX5_isFull_5 : decode cX5_isFull 5 = .ok (.if_icmp .ne 7, 3) := by decide +kernel
theorem dX5_isFull_8 : decode cX5_isFull 8 = .ok (.iconst 1, 1) := by decide +kernel
theorem dX5_isFull_9 : decode cX5_isFull 9 = .ok (.goto 4, 3) := by decide +kernel
theorem dX5_isFull_12 : decode cX5_isFull 12 = .ok (.iconst 0, 1) := by decide +kernel
theorem dX5_isFull_13 : decode cX5_isFull 13 = .ok (.ireturn, 1) := by decide +kernel
set_option maxHeartbeats 4000000 in
set_option maxRecDepth 100000 in
theorem c_X5_isFull (l : Launch) (E : EE) (z0 : Nat) (G : Nat → Nat) (hGz : ∀ q, G q ≠ 0 → z0 ≤ q) (h0 : Nat) (hG : G h0 = 11) : Met l yX5_isFull [Cond.code yX5_isFull cX5_isFull 1 (some .boolean)] ({ frames := 0, cells := 0, slots := 0, locals := 0 } : Room) (va_Pc [.ref h0] (fun U => TH E (T0 E) G [] U.heap ∧ KS E z0 U)) (va_Qi (fun (r : Int32) (_ : Unit) => r = 0) (fun _ _ => True) (fun _ : Nat => False)) 0 0 (fun _ : Nat => False) := by
  refine Met.ofW (cc := cX5_isFull) (maxL := 1) (ret := (some .boolean)) (by decide) rfl ?_
  intro p e s m args below meth c s₁ B hml hv
  obtain ⟨rfl, hT, hK⟩ := hv
  have hx := B.exec
  have hb := B.bytes
  have hr := B.returns
  have hts : ∀ w ∈ TS, w.before ([.ref h0] : List Value).toArray s = true := fun w hw => hK.2.1 w hw _
  have hown : s.vm.findClass RX5 = some m.cls := findClass_of_methodNamed B.named
  have hlocks := B.notSynchronized
  have hS : va_S (fun _ : Nat => False) s.heap s.heap [] := va_S.rf
  have hAz : ∀ q, (fun _ : Nat => False) q → z0 ≤ q := fun _ h => h.elim
  have hl := lv_entry ([.ref h0]) (n := 1) (Nat.le_of_ble_eq_true rfl)
  rw [lg_entry_eq]
  generalize (lg_sl ([.ref h0]) ++ List.replicate (1 - (lg_sl ([.ref h0])).length) Slot.unset).toArray = ls at hl ⊢
  have hl : lv_has ls 1 [(0, .ref h0)] := hl
  refine lv_aload_n hx hb dX5_isFull_0 rfl (lv_at hl 0 rfl) ?_
  obtain ⟨pr_1, nd_1, rw_1, ha_1, hg_1_0, hg_1_1⟩ := tg_11 hT hG nx_0
  refine va_get (D := DG E) (ci := 5) (v := .int 0) (C := RX5) (T := TX5) (N := 6) hx hb hts iw_X5 hown hK.1 (va_one ha_1) 0 rfl rfl 4 (by decide) (hts _ fl_X5_29) (fun _ h9 => h9) rfl dX5_isFull_1 ?_
  refine lv_iconst (v := 4) hx hb dX5_isFull_4 (by decide) ?_
  refine lv_icmp_ne (tgt := 12) hx hb dX5_isFull_5 (by decide) (fun c_2 => ?_) (fun c_2 => absurd c_2 (by decide))
  refine lv_iconst (v := 0) hx hb dX5_isFull_12 (by decide) ?_
  exact W.zret (v := 0) (ty := .boolean) hx hb hr rfl (fun t ht hW => ⟨⟨0, (), rfl, rfl, trivial⟩, hS.F ht⟩) hS.2.2 dX5_isFull_13
theorem dX3_takesReceives_0 : decode cX3_takesReceives 0 = .ok (.aload_n 0, 1) := by decide +kernel
theorem dX3_takesReceives_1 : decode cX3_takesReceives 1 = .ok (.getfield 19, 3) := by decide +kernel
theorem dX3_takesReceives_4 : decode cX3_takesReceives 4 = .ok (.iconst 2, 1) := by decide +kernel
theorem dX3_takesReceives_5 : decode cX3_takesReceives 5 = .ok (.if_icmp .eq 20, 3) := by decide +kernel
theorem dX3_takesReceives_8 : decode cX3_takesReceives 8 = .ok (.aload_n 0, 1) := by decide +kernel
theorem dX3_takesReceives_9 : decode cX3_takesReceives 9 = .ok (.getfield 15, 3) := by decide +kernel
theorem dX3_takesReceives_12 : decode cX3_takesReceives 12 = .ok (.getfield 48, 3) := by decide +kernel
theorem dX3_takesReceives_15 : decode cX3_takesReceives 15 = .ok (.invokevirtual 42, 3) := by decide +kernel
theorem dX3_takesReceives_18 : decode cX3_takesReceives 18 = .ok (.ifCond .ne 7, 3) := by decide +kernel
theorem dX3_takesReceives_21 : decode cX3_takesReceives 21 = .ok (.iconst 1, 1) := by decide +kernel
theorem dX3_takesReceives_22 : decode cX3_takesReceives 22 = .ok (.goto 4, 3) := by decide +kernel
theorem dX3_takesReceives_25 : decode cX3_takesReceives 25 = .ok (.iconst 0, 1) := by decide +kernel
theorem dX3_takesReceives_26 : decode cX3_takesReceives 26 = .ok (.ireturn, 1) := by decide +kernel
set_option maxHeartbeats 4000000 in
set_option maxRecDepth 100000 in
theorem c_X3_takesReceives (l : Launch) (E : EE) (z0 : Nat) (G : Nat → Nat) (hGz : ∀ q, G q ≠ 0 → z0 ≤ q) (h0 : Nat) (hG : G h0 = 8) : Met l yX3_takesReceives [Cond.code yX3_takesReceives cX3_takesReceives 1 (some .boolean)] ({ frames := 1, cells := 0, slots := 0, locals := 20 } : Room) (va_Pc [.ref h0] (fun U => TH E (T0 E) G [] U.heap ∧ KS E z0 U)) (va_Qi (fun (r : Int32) (_ : Unit) => r = 1) (fun _ _ => True) (fun _ : Nat => False)) 0 0 (fun _ : Nat => False) := by
  refine Met.ofW (cc := cX3_takesReceives) (maxL := 1) (ret := (some .boolean)) (by decide) rfl ?_
  intro p e s m args below meth c s₁ B hml hv
  obtain ⟨rfl, hT, hK⟩ := hv
  have hx := B.exec
  have hb := B.bytes
  have hr := B.returns
  have hts : ∀ w ∈ TS, w.before ([.ref h0] : List Value).toArray s = true := fun w hw => hK.2.1 w hw _
  have hown : s.vm.findClass RX3 = some m.cls := findClass_of_methodNamed B.named
  have hlocks := B.notSynchronized
  have hS : va_S (fun _ : Nat => False) s.heap s.heap [] := va_S.rf
  have hAz : ∀ q, (fun _ : Nat => False) q → z0 ≤ q := fun _ h => h.elim
  have hl := lv_entry ([.ref h0]) (n := 1) (Nat.le_of_ble_eq_true rfl)
  rw [lg_entry_eq]
  generalize (lg_sl ([.ref h0]) ++ List.replicate (1 - (lg_sl ([.ref h0])).length) Slot.unset).toArray = ls at hl ⊢
  have hl : lv_has ls 1 [(0, .ref h0)] := hl
  refine lv_aload_n hx hb dX3_takesReceives_0 rfl (lv_at hl 0 rfl) ?_
  obtain ⟨rq_1, rs_1, ha_1, hg_1_0, hg_1_1⟩ := tg_8 hT hG nx_0
  refine va_get (D := DG E) (ci := 3) (v := .int 0) (C := RX3) (T := TX3) (N := 3) hx hb hts iw_X3 hown hK.1 (va_one ha_1) 0 rfl rfl 2 (by decide) (hts _ fl_X3_19) (fun _ h9 => h9) rfl dX3_takesReceives_1 ?_
  refine lv_iconst (v := 2) hx hb dX3_takesReceives_4 (by decide) ?_
  refine lv_icmp_eq (tgt := 25) hx hb dX3_takesReceives_5 (by decide) (fun c_2 => absurd c_2 (by decide)) (fun c_2 => ?_)
  refine lv_aload_n hx hb dX3_takesReceives_8 rfl (lv_at hl 0 rfl) ?_
  obtain ⟨rq_3, rs_3, ha_3, hg_3_0, hg_3_1⟩ := tg_8 hT hG nx_0
  refine va_get (D := DG E) (ci := 3) (v := .ref rs_3) (C := RX3) (T := TX3) (N := 3) hx hb hts iw_X3 hown hK.1 (va_one ha_3) 0 rfl rfl 1 (by decide) (hts _ fl_X3_15) (fun _ h9 => h9) rfl dX3_takesReceives_9 ?_
  obtain ⟨pe_4, nd_4, fa_4, rc_4, an_4, ar_4, ha_4, hg_4_0, hg_4_1, hg_4_2, hg_4_3, hg_4_4⟩ := tg_10 hT hg_3_1 nx_0
  refine va_get (D := DG E) (ci := 8) (v := .ref rc_4) (C := RX8) (T := TX8) (N := 9) hx hb hts iw_X8 hown hK.1 (va_one ha_4) 0 rfl rfl 3 (by decide) (hts _ fl_X3_48) (fun _ h9 => h9) rfl dX3_takesReceives_12 ?_
  obtain ⟨pr_5, nd_5, rw_5, ha_5, hg_5_0, hg_5_1⟩ := tg_11 hT hg_4_2 nx_0
  refine va_calli (rnV (fun H => TH E (T0 E) G [] H) (As := []) (rest := []) ⟨hx, hb, hml, hown, hts⟩ (c_X5_isFull l E z0 G hGz rc_4  hg_4_2) (cwV 0 hts (gdV ml_X3_42 im_X5_isFull se_X5_X5_isFull in_X5 co_X5_isFull rfl) rfl rfl rfl (by decide +kernel) ⟨Nat.le_of_ble_eq_true rfl, Nat.le_of_ble_eq_true rfl⟩) hT (fun U hU hW => hK.go hW hS hAz hU) (va_recv hK.1 (va_one ha_5) (ci := 5) (q0 := 0) rfl rfl) rfl rfl hl.1 rfl (lv_room (Nat.le_of_ble_eq_true rfl)) dX3_takesReceives_15 ⟨Nat.le_of_ble_eq_true rfl, Nat.le_of_ble_eq_true rfl⟩) hS (fun q _ h => h.elim) (fun q h => h.elim) (fun r_6 _ t H locs ht hvm hw hB hz hk hS => ?_)
  have hT : TH E (T0 E) G [] H := hT.kept (fun q hq => hk q hq (fun h => h))
  obtain rfl : r_6 = 0 := hw
  refine lv_if_ne (tgt := 25) hx hb dX3_takesReceives_18 (by decide) (fun c_7 => absurd c_7 (by decide)) (fun c_7 => ?_)
  refine lv_iconst (v := 1) hx hb dX3_takesReceives_21 (by decide) ?_
  refine lv_goto (tgt := 26) hx hb dX3_takesReceives_22 (by decide) ?_
  exact W.zret (v := 1) (ty := .boolean) hx hb hr rfl (fun t ht hW => ⟨⟨1, (), rfl, rfl, trivial⟩, hS.F ht⟩) hS.2.2 dX3_takesReceives_26
theorem dX0_has_0 : decode cX0_has 0 = .ok (.iload_n 1, 1) := by decide +kernel
theorem dX0_has_1 : decode cX0_has 1 = .ok (.ifCond .lt 15, 3) := by decide +kernel
theorem dX0_has_4 : decode cX0_has 4 = .ok (.iload_n 1, 1) := by decide +kernel
theorem dX0_has_5 : decode cX0_has 5 = .ok (.aload_n 0, 1) := by decide +kernel
theorem dX0_has_6 : decode cX0_has 6 = .ok (.getfield 25, 3) := by decide +kernel
theorem dX0_has_9 : decode cX0_has 9 = .ok (.if_icmp .ge 7, 3) := by decide +kernel
theorem dX0_has_12 : decode cX0_has 12 = .ok (.iconst 1, 1) := by decide +kernel
theorem dX0_has_13 : decode cX0_has 13 = .ok (.goto 4, 3) := by decide +kernel
theorem dX0_has_16 : decode cX0_has 16 = .ok (.iconst 0, 1) := by decide +kernel
theorem dX0_has_17 : decode cX0_has 17 = .ok (.ireturn, 1) := by decide +kernel
set_option maxHeartbeats 4000000 in
set_option maxRecDepth 100000 in
theorem c_X0_has (l : Launch) (E : EE) (z0 : Nat) (G : Nat → Nat) (hGz : ∀ q, G q ≠ 0 → z0 ≤ q) (h0 : Nat) (p0 : Int32) (hG : G h0 = 4) : Met l yX0_has [Cond.code yX0_has cX0_has 2 (some .boolean)] ({ frames := 0, cells := 0, slots := 0, locals := 0 } : Room) (va_Pc [.ref h0, .int p0] (fun U => TH E (T0 E) G [] U.heap ∧ KS E z0 U)) (va_Qi (fun (r : Int32) (_ : Unit) => r = 0) (fun _ _ => True) (fun _ : Nat => False)) 0 0 (fun _ : Nat => False) := by
  refine Met.ofW (cc := cX0_has) (maxL := 2) (ret := (some .boolean)) (by decide) rfl ?_
  intro p e s m args below meth c s₁ B hml hv
  obtain ⟨rfl, hT, hK⟩ := hv
  have hx := B.exec
  have hb := B.bytes
  have hr := B.returns
  have hts : ∀ w ∈ TS, w.before ([.ref h0, .int p0] : List Value).toArray s = true := fun w hw => hK.2.1 w hw _
  have hown : s.vm.findClass RX0 = some m.cls := findClass_of_methodNamed B.named
  have hlocks := B.notSynchronized
  have hS : va_S (fun _ : Nat => False) s.heap s.heap [] := va_S.rf
  have hAz : ∀ q, (fun _ : Nat => False) q → z0 ≤ q := fun _ h => h.elim
  have hl := lv_entry ([.ref h0, .int p0]) (n := 2) (Nat.le_of_ble_eq_true rfl)
  rw [lg_entry_eq]
  generalize (lg_sl ([.ref h0, .int p0]) ++ List.replicate (2 - (lg_sl ([.ref h0, .int p0])).length) Slot.unset).toArray = ls at hl ⊢
  have hl : lv_has ls 2 [(0, .ref h0), (1, .int p0)] := hl
  refine lv_iload_n hx hb dX0_has_0 rfl (lv_at hl 1 rfl) ?_
  refine lv_if_lt (tgt := 16) hx hb dX0_has_1 (by decide) (fun c_1 => ?_) (fun c_1 => ?_)
  · simp only [lt_I, le_I, eq_I, i_0, i_1, i_2, i_3, i_4, i_5, i_6, i_7, i_8, i_10, i_12, i_16, i_20, i_23, i_24, i_31, i_32, i_63, i_64, i_m1] at c_1
    refine lv_iconst (v := 0) hx hb dX0_has_16 (by decide) ?_
    exact W.zret (v := 0) (ty := .boolean) hx hb hr rfl (fun t ht hW => ⟨⟨0, (), rfl, rfl, trivial⟩, hS.F ht⟩) hS.2.2 dX0_has_17
  · simp only [lt_I, le_I, eq_I, i_0, i_1, i_2, i_3, i_4, i_5, i_6, i_7, i_8, i_10, i_12, i_16, i_20, i_23, i_24, i_31, i_32, i_63, i_64, i_m1] at c_1
    refine lv_iload_n hx hb dX0_has_4 rfl (lv_at hl 1 rfl) ?_
    refine lv_aload_n hx hb dX0_has_5 rfl (lv_at hl 0 rfl) ?_
    obtain ⟨r_2, t_2, o_2, ha_2, hg_2_0, hg_2_1, hg_2_2⟩ := tg_4 hT hG nx_0
    refine va_get (D := DG E) (ci := 0) (v := .int 0) (C := RX0) (T := TX0) (N := 4) hx hb hts iw_X0 hown hK.1 (va_one ha_2) 0 rfl rfl 1 (by decide) (hts _ fl_X0_25) (fun _ h9 => h9) rfl dX0_has_6 ?_
    refine lv_icmp_ge (tgt := 16) hx hb dX0_has_9 (by decide) (fun c_3 => ?_) (fun c_3 => ?_)
    · simp only [lt_I, le_I, eq_I, i_0, i_1, i_2, i_3, i_4, i_5, i_6, i_7, i_8, i_10, i_12, i_16, i_20, i_23, i_24, i_31, i_32, i_63, i_64, i_m1] at c_3
      refine lv_iconst (v := 0) hx hb dX0_has_16 (by decide) ?_
      exact W.zret (v := 0) (ty := .boolean) hx hb hr rfl (fun t ht hW => ⟨⟨0, (), rfl, rfl, trivial⟩, hS.F ht⟩) hS.2.2 dX0_has_17
    · simp only [lt_I, le_I, eq_I, i_0, i_1, i_2, i_3, i_4, i_5, i_6, i_7, i_8, i_10, i_12, i_16, i_20, i_23, i_24, i_31, i_32, i_63, i_64, i_m1] at c_3
      refine lv_iconst (v := 1) hx hb dX0_has_12 (by decide) ?_
      refine lv_goto (tgt := 17) hx hb dX0_has_13 (by decide) ?_
      exact W.zret (v := 1) (ty := .boolean) hx hb hr rfl (fun t ht hW => ⟨⟨1, (), rfl, (by exfalso; omega), trivial⟩, hS.F ht⟩) hS.2.2 dX0_has_17
theorem dX3_failsByTime_0 : decode cX3_failsByTime 0 = .ok (.aload_n 0, 1) := by decide +kernel
theorem dX3_failsByTime_1 : decode cX3_failsByTime 1 = .ok (.getfield 19, 3) := by decide +kernel
theorem dX3_failsByTime_4 : decode cX3_failsByTime 4 = .ok (.iconst 1, 1) := by decide +kernel
theorem dX3_failsByTime_5 : decode cX3_failsByTime 5 = .ok (.if_icmp .ne 13, 3) := by decide +kernel
theorem dX3_failsByTime_8 : decode cX3_failsByTime 8 = .ok (.aload_n 0, 1) := by decide +kernel
theorem dX3_failsByTime_9 : decode cX3_failsByTime 9 = .ok (.getfield 9, 3) := by decide +kernel
theorem dX3_failsByTime_12 : decode cX3_failsByTime 12 = .ok (.invokevirtual 81, 3) := by decide +kernel
theorem dX3_failsByTime_15 : decode cX3_failsByTime 15 = .ok (.ifCond .ne 5, 3) := by decide +kernel
theorem dX3_failsByTime_18 : decode cX3_failsByTime 18 = .ok (.iconst 0, 1) := by decide +kernel
theorem dX3_failsByTime_19 : decode cX3_failsByTime 19 = .ok (.ireturn, 1) := by decide +kernel
theorem dX3_failsByTime_20 : decode cX3_failsByTime 20 = .ok (.aload_n 0, 1) := by decide +kernel
theorem dX3_failsByTime_21 : decode cX3_failsByTime 21 = .ok (.iconst 1, 1) := by decide +kernel
theorem dX3_failsByTime_22 : decode cX3_failsByTime 22 = .ok (.iconst 5, 1) := by decide +kernel
theorem dX3_failsByTime_23 : decode cX3_failsByTime 23 = .ok (.invokevirtual 60, 3) := by decide +kernel
theorem dX3_failsByTime_26 : decode cX3_failsByTime 26 = .ok (.iconst 1, 1) := by decide +kernel
theorem dX3_failsByTime_27 : decode cX3_failsByTime 27 = .ok (.ireturn, 1) := by decide +kernel
set_option maxHeartbeats 4000000 in
set_option maxRecDepth 100000 in
theorem c_X3_failsByTime (l : Launch) (E : EE) (z0 : Nat) (G : Nat → Nat) (hGz : ∀ q, G q ≠ 0 → z0 ≤ q) (h0 : Nat) (hG : G h0 = 8) : Met l yX3_failsByTime [Cond.code yX3_failsByTime cX3_failsByTime 1 (some .boolean)] ({ frames := 0, cells := 0, slots := 0, locals := 0 } : Room) (va_Pc [.ref h0] (fun U => TH E (T0 E) G [] U.heap ∧ KS E z0 U)) (va_Qi (fun (r : Int32) (_ : Unit) => r = 0) (fun _ _ => True) (fun _ : Nat => False)) 0 0 (fun _ : Nat => False) := by
  refine Met.ofW (cc := cX3_failsByTime) (maxL := 1) (ret := (some .boolean)) (by decide) rfl ?_
  intro p e s m args below meth c s₁ B hml hv
  obtain ⟨rfl, hT, hK⟩ := hv
  have hx := B.exec
  have hb := B.bytes
  have hr := B.returns
  have hts : ∀ w ∈ TS, w.before ([.ref h0] : List Value).toArray s = true := fun w hw => hK.2.1 w hw _
  have hown : s.vm.findClass RX3 = some m.cls := findClass_of_methodNamed B.named
  have hlocks := B.notSynchronized
  have hS : va_S (fun _ : Nat => False) s.heap s.heap [] := va_S.rf
  have hAz : ∀ q, (fun _ : Nat => False) q → z0 ≤ q := fun _ h => h.elim
  have hl := lv_entry ([.ref h0]) (n := 1) (Nat.le_of_ble_eq_true rfl)
  rw [lg_entry_eq]
  generalize (lg_sl ([.ref h0]) ++ List.replicate (1 - (lg_sl ([.ref h0])).length) Slot.unset).toArray = ls at hl ⊢
  have hl : lv_has ls 1 [(0, .ref h0)] := hl
  refine lv_aload_n hx hb dX3_failsByTime_0 rfl (lv_at hl 0 rfl) ?_
  obtain ⟨rq_1, rs_1, ha_1, hg_1_0, hg_1_1⟩ := tg_8 hT hG nx_0
  refine va_get (D := DG E) (ci := 3) (v := .int 0) (C := RX3) (T := TX3) (N := 3) hx hb hts iw_X3 hown hK.1 (va_one ha_1) 0 rfl rfl 2 (by decide) (hts _ fl_X3_19) (fun _ h9 => h9) rfl dX3_failsByTime_1 ?_
  refine lv_iconst (v := 1) hx hb dX3_failsByTime_4 (by decide) ?_
  refine lv_icmp_ne (tgt := 18) hx hb dX3_failsByTime_5 (by decide) (fun c_2 => ?_) (fun c_2 => absurd c_2 (by decide))
  refine lv_iconst (v := 0) hx hb dX3_failsByTime_18 (by decide) ?_
  exact W.zret (v := 0) (ty := .boolean) hx hb hr rfl (fun t ht hW => ⟨⟨0, (), rfl, rfl, trivial⟩, hS.F ht⟩) hS.2.2 dX3_failsByTime_19
theorem dX3_tell_0 : decode cX3_tell 0 = .ok (.iload_n 1, 1) := by decide +kernel
theorem dX3_tell_1 : decode cX3_tell 1 = .ok (.iconst 1, 1) := by decide +kernel
theorem dX3_tell_2 : decode cX3_tell 2 = .ok (.if_icmp .lt 18, 3) := by decide +kernel
theorem dX3_tell_5 : decode cX3_tell 5 = .ok (.iload_n 1, 1) := by decide +kernel
theorem dX3_tell_6 : decode cX3_tell 6 = .ok (.iconst 4, 1) := by decide +kernel
theorem dX3_tell_7 : decode cX3_tell 7 = .ok (.if_icmp .gt 13, 3) := by decide +kernel
theorem dX3_tell_10 : decode cX3_tell 10 = .ok (.aload_n 0, 1) := by decide +kernel
theorem dX3_tell_11 : decode cX3_tell 11 = .ok (.getfield 19, 3) := by decide +kernel
theorem dX3_tell_14 : decode cX3_tell 14 = .ok (.iconst 1, 1) := by decide +kernel
theorem dX3_tell_15 : decode cX3_tell 15 = .ok (.if_icmp .eq 5, 3) := by decide +kernel
theorem dX3_tell_18 : decode cX3_tell 18 = .ok (.iconst (-1), 1) := by decide +kernel
theorem dX3_tell_19 : decode cX3_tell 19 = .ok (.ireturn, 1) := by decide +kernel
theorem dX3_tell_20 : decode cX3_tell 20 = .ok (.iload_n 1, 1) := by decide +kernel
theorem dX3_tell_21 : decode cX3_tell 21 = .ok (.tableswitch 122 0 7 #[47, 52, 60, 68, 76, 84, 95, 106], 47) := by decide +kernel
theorem dX3_tell_68 : decode cX3_tell 68 = .ok (.aload_n 0, 1) := by decide +kernel
theorem dX3_tell_69 : decode cX3_tell 69 = .ok (.getfield 19, 3) := by decide +kernel
theorem dX3_tell_72 : decode cX3_tell 72 = .ok (.ireturn, 1) := by decide +kernel
theorem dX3_tell_73 : decode cX3_tell 73 = .ok (.aload_n 0, 1) := by decide +kernel
theorem dX3_tell_74 : decode cX3_tell 74 = .ok (.getfield 9, 3) := by decide +kernel
theorem dX3_tell_77 : decode cX3_tell 77 = .ok (.getfield 88, 3) := by decide +kernel
theorem dX3_tell_80 : decode cX3_tell 80 = .ok (.ireturn, 1) := by decide +kernel
theorem dX3_tell_81 : decode cX3_tell 81 = .ok (.aload_n 0, 1) := by decide +kernel
theorem dX3_tell_82 : decode cX3_tell 82 = .ok (.getfield 9, 3) := by decide +kernel
theorem dX3_tell_85 : decode cX3_tell 85 = .ok (.getfield 91, 3) := by decide +kernel
theorem dX3_tell_88 : decode cX3_tell 88 = .ok (.ireturn, 1) := by decide +kernel
theorem dX3_tell_89 : decode cX3_tell 89 = .ok (.aload_n 0, 1) := by decide +kernel
theorem dX3_tell_90 : decode cX3_tell 90 = .ok (.getfield 9, 3) := by decide +kernel
theorem dX3_tell_93 : decode cX3_tell 93 = .ok (.getfield 94, 3) := by decide +kernel
theorem dX3_tell_96 : decode cX3_tell 96 = .ok (.ireturn, 1) := by decide +kernel
theorem dX3_tell_97 : decode cX3_tell 97 = .ok (.aload_n 0, 1) := by decide +kernel
theorem dX3_tell_98 : decode cX3_tell 98 = .ok (.getfield 15, 3) := by decide +kernel
theorem dX3_tell_101 : decode cX3_tell 101 = .ok (.getfield 35, 3) := by decide +kernel
theorem dX3_tell_104 : decode cX3_tell 104 = .ok (.ireturn, 1) := by decide +kernel
theorem dX3_tell_105 : decode cX3_tell 105 = .ok (.aload_n 0, 1) := by decide +kernel
theorem dX3_tell_106 : decode cX3_tell 106 = .ok (.getfield 9, 3) := by decide +kernel
theorem dX3_tell_109 : decode cX3_tell 109 = .ok (.getfield 38, 3) := by decide +kernel
theorem dX3_tell_112 : decode cX3_tell 112 = .ok (.getfield 97, 3) := by decide +kernel
theorem dX3_tell_115 : decode cX3_tell 115 = .ok (.ireturn, 1) := by decide +kernel
theorem dX3_tell_116 : decode cX3_tell 116 = .ok (.aload_n 0, 1) := by decide +kernel
theorem dX3_tell_117 : decode cX3_tell 117 = .ok (.getfield 15, 3) := by decide +kernel
theorem dX3_tell_120 : decode cX3_tell 120 = .ok (.getfield 48, 3) := by decide +kernel
theorem dX3_tell_123 : decode cX3_tell 123 = .ok (.getfield 97, 3) := by decide +kernel
theorem dX3_tell_126 : decode cX3_tell 126 = .ok (.ireturn, 1) := by decide +kernel
theorem dX3_tell_127 : decode cX3_tell 127 = .ok (.aload_n 0, 1) := by decide +kernel
theorem dX3_tell_128 : decode cX3_tell 128 = .ok (.getfield 9, 3) := by decide +kernel
theorem dX3_tell_131 : decode cX3_tell 131 = .ok (.getfield 100, 3) := by decide +kernel
theorem dX3_tell_134 : decode cX3_tell 134 = .ok (.ifCond .eq 7, 3) := by decide +kernel
theorem dX3_tell_137 : decode cX3_tell 137 = .ok (.iconst 1, 1) := by decide +kernel
theorem dX3_tell_138 : decode cX3_tell 138 = .ok (.goto 4, 3) := by decide +kernel
theorem dX3_tell_141 : decode cX3_tell 141 = .ok (.iconst 0, 1) := by decide +kernel
theorem dX3_tell_142 : decode cX3_tell 142 = .ok (.ireturn, 1) := by decide +kernel
theorem dX3_tell_143 : decode cX3_tell 143 = .ok (.iconst (-1), 1) := by decide +kernel
theorem dX3_tell_144 : decode cX3_tell 144 = .ok (.ireturn, 1) := by decide +kernel
set_option maxHeartbeats 4000000 in
set_option maxRecDepth 100000 in
theorem c_X3_tell (l : Launch) (E : EE) (z0 : Nat) (G : Nat → Nat) (hGz : ∀ q, G q ≠ 0 → z0 ≤ q) (h0 : Nat) (p0 : Int32) (hG : G h0 = 8) : Met l yX3_tell [Cond.code yX3_tell cX3_tell 2 (some .int)] ({ frames := 0, cells := 0, slots := 0, locals := 0 } : Room) (va_Pc [.ref h0, .int p0] (fun U => TH E (T0 E) G [] U.heap ∧ KS E z0 U)) (va_Qi (fun (r : Int32) (_ : Unit) => r = if p0.toInt = 0 ∨ (5 ≤ p0.toInt ∧ p0.toInt ≤ 7) then 0 else -1) (fun _ _ => True) (fun _ : Nat => False)) 0 0 (fun _ : Nat => False) := by
  refine Met.ofW (cc := cX3_tell) (maxL := 2) (ret := (some .int)) (by decide) rfl ?_
  intro p e s m args below meth c s₁ B hml hv
  obtain ⟨rfl, hT, hK⟩ := hv
  have hx := B.exec
  have hb := B.bytes
  have hr := B.returns
  have hts : ∀ w ∈ TS, w.before ([.ref h0, .int p0] : List Value).toArray s = true := fun w hw => hK.2.1 w hw _
  have hown : s.vm.findClass RX3 = some m.cls := findClass_of_methodNamed B.named
  have hlocks := B.notSynchronized
  have hS : va_S (fun _ : Nat => False) s.heap s.heap [] := va_S.rf
  have hAz : ∀ q, (fun _ : Nat => False) q → z0 ≤ q := fun _ h => h.elim
  have hl := lv_entry ([.ref h0, .int p0]) (n := 2) (Nat.le_of_ble_eq_true rfl)
  rw [lg_entry_eq]
  generalize (lg_sl ([.ref h0, .int p0]) ++ List.replicate (2 - (lg_sl ([.ref h0, .int p0])).length) Slot.unset).toArray = ls at hl ⊢
  have hl : lv_has ls 2 [(0, .ref h0), (1, .int p0)] := hl
  refine lv_iload_n hx hb dX3_tell_0 rfl (lv_at hl 1 rfl) ?_
  refine lv_iconst (v := 1) hx hb dX3_tell_1 (by decide) ?_
  refine lv_icmp_lt (tgt := 20) hx hb dX3_tell_2 (by decide) (fun c_1 => ?_) (fun c_1 => ?_)
  · simp only [lt_I, le_I, eq_I, i_0, i_1, i_2, i_3, i_4, i_5, i_6, i_7, i_8, i_10, i_12, i_16, i_20, i_23, i_24, i_31, i_32, i_63, i_64, i_m1] at c_1
    refine lv_iload_n hx hb dX3_tell_20 rfl (lv_at hl 1 rfl) ?_
    rcases (show p0.toInt = 0 ∨ p0.toInt = 1 ∨ p0.toInt = 2 ∨ p0.toInt = 3 ∨ p0.toInt = 4 ∨ p0.toInt = 5 ∨ p0.toInt = 6 ∨ p0.toInt = 7 ∨ (p0.toInt < 0 ∨ 7 < p0.toInt) by omega) with c_2 | c_2 | c_2 | c_2 | c_2 | c_2 | c_2 | c_2 | c_2
    · refine lv_tableIn (tgt := 68) (off := 47) hx hb dX3_tell_21 (by omega) (by omega) (by rw [c_2]; rfl) (by decide) ?_
      refine lv_aload_n hx hb dX3_tell_68 rfl (lv_at hl 0 rfl) ?_
      obtain ⟨rq_3, rs_3, ha_3, hg_3_0, hg_3_1⟩ := tg_8 hT hG nx_0
      refine va_get (D := DG E) (ci := 3) (v := .int 0) (C := RX3) (T := TX3) (N := 3) hx hb hts iw_X3 hown hK.1 (va_one ha_3) 0 rfl rfl 2 (by decide) (hts _ fl_X3_19) (fun _ h9 => h9) rfl dX3_tell_69 ?_
      exact W.iret (v := 0) hx hb hr (fun t ht hW => ⟨⟨0, (), rfl, (by first | rw [if_pos (by omega)] | rw [if_neg (by omega)]), trivial⟩, hS.F ht⟩) hS.2.2 dX3_tell_72
    · refine lv_tableIn (tgt := 73) (off := 52) hx hb dX3_tell_21 (by omega) (by omega) (by rw [c_2]; rfl) (by decide) ?_
      refine lv_aload_n hx hb dX3_tell_73 rfl (lv_at hl 0 rfl) ?_
      obtain ⟨rq_4, rs_4, ha_4, hg_4_0, hg_4_1⟩ := tg_8 hT hG nx_0
      refine va_get (D := DG E) (ci := 3) (v := .ref rq_4) (C := RX3) (T := TX3) (N := 3) hx hb hts iw_X3 hown hK.1 (va_one ha_4) 0 rfl rfl 0 (by decide) (hts _ fl_X3_9) (fun _ h9 => h9) rfl dX3_tell_74 ?_
      obtain ⟨pe_5, nd_5, fa_5, to_5, mt_5, mr_5, rq_5, ha_5, hg_5_0, hg_5_1, hg_5_2⟩ := tg_9 hT hg_4_0 nx_0
      refine va_get (D := DG E) (ci := 7) (v := .int 0) (C := RX7) (T := TX7) (N := 14) hx hb hts iw_X7 hown hK.1 (va_one ha_5) 0 rfl rfl 7 (by decide) (hts _ fl_X3_88) (fun _ h9 => h9) rfl dX3_tell_77 ?_
      exact W.iret (v := 0) hx hb hr (fun t ht hW => ⟨⟨0, (), rfl, (by first | rw [if_pos (by omega)] | rw [if_neg (by omega)]), trivial⟩, hS.F ht⟩) hS.2.2 dX3_tell_80
    · refine lv_tableIn (tgt := 81) (off := 60) hx hb dX3_tell_21 (by omega) (by omega) (by rw [c_2]; rfl) (by decide) ?_
      refine lv_aload_n hx hb dX3_tell_81 rfl (lv_at hl 0 rfl) ?_
      obtain ⟨rq_6, rs_6, ha_6, hg_6_0, hg_6_1⟩ := tg_8 hT hG nx_0
      refine va_get (D := DG E) (ci := 3) (v := .ref rq_6) (C := RX3) (T := TX3) (N := 3) hx hb hts iw_X3 hown hK.1 (va_one ha_6) 0 rfl rfl 0 (by decide) (hts _ fl_X3_9) (fun _ h9 => h9) rfl dX3_tell_82 ?_
      obtain ⟨pe_7, nd_7, fa_7, to_7, mt_7, mr_7, rq_7, ha_7, hg_7_0, hg_7_1, hg_7_2⟩ := tg_9 hT hg_6_0 nx_0
      refine va_get (D := DG E) (ci := 7) (v := .int 0) (C := RX7) (T := TX7) (N := 14) hx hb hts iw_X7 hown hK.1 (va_one ha_7) 0 rfl rfl 8 (by decide) (hts _ fl_X3_91) (fun _ h9 => h9) rfl dX3_tell_85 ?_
      exact W.iret (v := 0) hx hb hr (fun t ht hW => ⟨⟨0, (), rfl, (by first | rw [if_pos (by omega)] | rw [if_neg (by omega)]), trivial⟩, hS.F ht⟩) hS.2.2 dX3_tell_88
    · refine lv_tableIn (tgt := 89) (off := 68) hx hb dX3_tell_21 (by omega) (by omega) (by rw [c_2]; rfl) (by decide) ?_
      refine lv_aload_n hx hb dX3_tell_89 rfl (lv_at hl 0 rfl) ?_
      obtain ⟨rq_8, rs_8, ha_8, hg_8_0, hg_8_1⟩ := tg_8 hT hG nx_0
      refine va_get (D := DG E) (ci := 3) (v := .ref rq_8) (C := RX3) (T := TX3) (N := 3) hx hb hts iw_X3 hown hK.1 (va_one ha_8) 0 rfl rfl 0 (by decide) (hts _ fl_X3_9) (fun _ h9 => h9) rfl dX3_tell_90 ?_
      obtain ⟨pe_9, nd_9, fa_9, to_9, mt_9, mr_9, rq_9, ha_9, hg_9_0, hg_9_1, hg_9_2⟩ := tg_9 hT hg_8_0 nx_0
      refine va_get (D := DG E) (ci := 7) (v := .int 0) (C := RX7) (T := TX7) (N := 14) hx hb hts iw_X7 hown hK.1 (va_one ha_9) 0 rfl rfl 9 (by decide) (hts _ fl_X3_94) (fun _ h9 => h9) rfl dX3_tell_93 ?_
      exact W.iret (v := 0) hx hb hr (fun t ht hW => ⟨⟨0, (), rfl, (by first | rw [if_pos (by omega)] | rw [if_neg (by omega)]), trivial⟩, hS.F ht⟩) hS.2.2 dX3_tell_96
    · refine lv_tableIn (tgt := 97) (off := 76) hx hb dX3_tell_21 (by omega) (by omega) (by rw [c_2]; rfl) (by decide) ?_
      refine lv_aload_n hx hb dX3_tell_97 rfl (lv_at hl 0 rfl) ?_
      obtain ⟨rq_10, rs_10, ha_10, hg_10_0, hg_10_1⟩ := tg_8 hT hG nx_0
      refine va_get (D := DG E) (ci := 3) (v := .ref rs_10) (C := RX3) (T := TX3) (N := 3) hx hb hts iw_X3 hown hK.1 (va_one ha_10) 0 rfl rfl 1 (by decide) (hts _ fl_X3_15) (fun _ h9 => h9) rfl dX3_tell_98 ?_
      obtain ⟨pe_11, nd_11, fa_11, rc_11, an_11, ar_11, ha_11, hg_11_0, hg_11_1, hg_11_2, hg_11_3, hg_11_4⟩ := tg_10 hT hg_10_1 nx_0
      refine va_get (D := DG E) (ci := 8) (v := .int 0) (C := RX8) (T := TX8) (N := 9) hx hb hts iw_X8 hown hK.1 (va_one ha_11) 0 rfl rfl 4 (by decide) (hts _ fl_X3_35) (fun _ h9 => h9) rfl dX3_tell_101 ?_
      exact W.iret (v := 0) hx hb hr (fun t ht hW => ⟨⟨0, (), rfl, (by first | rw [if_pos (by omega)] | rw [if_neg (by omega)]), trivial⟩, hS.F ht⟩) hS.2.2 dX3_tell_104
    · refine lv_tableIn (tgt := 105) (off := 84) hx hb dX3_tell_21 (by omega) (by omega) (by rw [c_2]; rfl) (by decide) ?_
      refine lv_aload_n hx hb dX3_tell_105 rfl (lv_at hl 0 rfl) ?_
      obtain ⟨rq_12, rs_12, ha_12, hg_12_0, hg_12_1⟩ := tg_8 hT hG nx_0
      refine va_get (D := DG E) (ci := 3) (v := .ref rq_12) (C := RX3) (T := TX3) (N := 3) hx hb hts iw_X3 hown hK.1 (va_one ha_12) 0 rfl rfl 0 (by decide) (hts _ fl_X3_9) (fun _ h9 => h9) rfl dX3_tell_106 ?_
      obtain ⟨pe_13, nd_13, fa_13, to_13, mt_13, mr_13, rq_13, ha_13, hg_13_0, hg_13_1, hg_13_2⟩ := tg_9 hT hg_12_0 nx_0
      refine va_get (D := DG E) (ci := 7) (v := .ref rq_13) (C := RX7) (T := TX7) (N := 14) hx hb hts iw_X7 hown hK.1 (va_one ha_13) 0 rfl rfl 6 (by decide) (hts _ fl_X3_38) (fun _ h9 => h9) rfl dX3_tell_109 ?_
      obtain ⟨pr_14, nd_14, rw_14, ha_14, hg_14_0, hg_14_1⟩ := tg_11 hT hg_13_2 nx_0
      refine va_get (D := DG E) (ci := 5) (v := .int 0) (C := RX5) (T := TX5) (N := 6) hx hb hts iw_X5 hown hK.1 (va_one ha_14) 0 rfl rfl 4 (by decide) (hts _ fl_X3_97) (fun _ h9 => h9) rfl dX3_tell_112 ?_
      exact W.iret (v := 0) hx hb hr (fun t ht hW => ⟨⟨0, (), rfl, (by first | rw [if_pos (by omega)] | rw [if_neg (by omega)]), trivial⟩, hS.F ht⟩) hS.2.2 dX3_tell_115
    · refine lv_tableIn (tgt := 116) (off := 95) hx hb dX3_tell_21 (by omega) (by omega) (by rw [c_2]; rfl) (by decide) ?_
      refine lv_aload_n hx hb dX3_tell_116 rfl (lv_at hl 0 rfl) ?_
      obtain ⟨rq_15, rs_15, ha_15, hg_15_0, hg_15_1⟩ := tg_8 hT hG nx_0
      refine va_get (D := DG E) (ci := 3) (v := .ref rs_15) (C := RX3) (T := TX3) (N := 3) hx hb hts iw_X3 hown hK.1 (va_one ha_15) 0 rfl rfl 1 (by decide) (hts _ fl_X3_15) (fun _ h9 => h9) rfl dX3_tell_117 ?_
      obtain ⟨pe_16, nd_16, fa_16, rc_16, an_16, ar_16, ha_16, hg_16_0, hg_16_1, hg_16_2, hg_16_3, hg_16_4⟩ := tg_10 hT hg_15_1 nx_0
      refine va_get (D := DG E) (ci := 8) (v := .ref rc_16) (C := RX8) (T := TX8) (N := 9) hx hb hts iw_X8 hown hK.1 (va_one ha_16) 0 rfl rfl 3 (by decide) (hts _ fl_X3_48) (fun _ h9 => h9) rfl dX3_tell_120 ?_
      obtain ⟨pr_17, nd_17, rw_17, ha_17, hg_17_0, hg_17_1⟩ := tg_11 hT hg_16_2 nx_0
      refine va_get (D := DG E) (ci := 5) (v := .int 0) (C := RX5) (T := TX5) (N := 6) hx hb hts iw_X5 hown hK.1 (va_one ha_17) 0 rfl rfl 4 (by decide) (hts _ fl_X3_97) (fun _ h9 => h9) rfl dX3_tell_123 ?_
      exact W.iret (v := 0) hx hb hr (fun t ht hW => ⟨⟨0, (), rfl, (by first | rw [if_pos (by omega)] | rw [if_neg (by omega)]), trivial⟩, hS.F ht⟩) hS.2.2 dX3_tell_126
    · refine lv_tableIn (tgt := 127) (off := 106) hx hb dX3_tell_21 (by omega) (by omega) (by rw [c_2]; rfl) (by decide) ?_
      refine lv_aload_n hx hb dX3_tell_127 rfl (lv_at hl 0 rfl) ?_
      obtain ⟨rq_18, rs_18, ha_18, hg_18_0, hg_18_1⟩ := tg_8 hT hG nx_0
      refine va_get (D := DG E) (ci := 3) (v := .ref rq_18) (C := RX3) (T := TX3) (N := 3) hx hb hts iw_X3 hown hK.1 (va_one ha_18) 0 rfl rfl 0 (by decide) (hts _ fl_X3_9) (fun _ h9 => h9) rfl dX3_tell_128 ?_
      obtain ⟨pe_19, nd_19, fa_19, to_19, mt_19, mr_19, rq_19, ha_19, hg_19_0, hg_19_1, hg_19_2⟩ := tg_9 hT hg_18_0 nx_0
      refine va_get (D := DG E) (ci := 7) (v := .int 0) (C := RX7) (T := TX7) (N := 14) hx hb hts iw_X7 hown hK.1 (va_one ha_19) 0 rfl rfl 13 (by decide) (hts _ fl_X3_100) (fun _ h9 => h9) rfl dX3_tell_131 ?_
      refine lv_if_eq (tgt := 141) hx hb dX3_tell_134 (by decide) (fun c_20 => ?_) (fun c_20 => absurd c_20 (by decide))
      refine lv_iconst (v := 0) hx hb dX3_tell_141 (by decide) ?_
      exact W.iret (v := 0) hx hb hr (fun t ht hW => ⟨⟨0, (), rfl, (by first | rw [if_pos (by omega)] | rw [if_neg (by omega)]), trivial⟩, hS.F ht⟩) hS.2.2 dX3_tell_142
    · refine lv_tableOut (tgt := 143) hx hb dX3_tell_21 c_2 (by decide) ?_
      refine lv_iconst (v := (-1)) hx hb dX3_tell_143 (by decide) ?_
      exact W.iret (v := (-1)) hx hb hr (fun t ht hW => ⟨⟨(-1), (), rfl, (by first | rw [if_pos (by omega)] | rw [if_neg (by omega)]), trivial⟩, hS.F ht⟩) hS.2.2 dX3_tell_144
  · simp only [lt_I, le_I, eq_I, i_0, i_1, i_2, i_3, i_4, i_5, i_6, i_7, i_8, i_10, i_12, i_16, i_20, i_23, i_24, i_31, i_32, i_63, i_64, i_m1] at c_1
    refine lv_iload_n hx hb dX3_tell_5 rfl (lv_at hl 1 rfl) ?_
    refine lv_iconst (v := 4) hx hb dX3_tell_6 (by decide) ?_
    refine lv_icmp_gt (tgt := 20) hx hb dX3_tell_7 (by decide) (fun c_21 => ?_) (fun c_21 => ?_)
    · simp only [lt_I, le_I, eq_I, i_0, i_1, i_2, i_3, i_4, i_5, i_6, i_7, i_8, i_10, i_12, i_16, i_20, i_23, i_24, i_31, i_32, i_63, i_64, i_m1] at c_21
      refine lv_iload_n hx hb dX3_tell_20 rfl (lv_at hl 1 rfl) ?_
      rcases (show p0.toInt = 0 ∨ p0.toInt = 1 ∨ p0.toInt = 2 ∨ p0.toInt = 3 ∨ p0.toInt = 4 ∨ p0.toInt = 5 ∨ p0.toInt = 6 ∨ p0.toInt = 7 ∨ (p0.toInt < 0 ∨ 7 < p0.toInt) by omega) with c_22 | c_22 | c_22 | c_22 | c_22 | c_22 | c_22 | c_22 | c_22
      · refine lv_tableIn (tgt := 68) (off := 47) hx hb dX3_tell_21 (by omega) (by omega) (by rw [c_22]; rfl) (by decide) ?_
        refine lv_aload_n hx hb dX3_tell_68 rfl (lv_at hl 0 rfl) ?_
        obtain ⟨rq_23, rs_23, ha_23, hg_23_0, hg_23_1⟩ := tg_8 hT hG nx_0
        refine va_get (D := DG E) (ci := 3) (v := .int 0) (C := RX3) (T := TX3) (N := 3) hx hb hts iw_X3 hown hK.1 (va_one ha_23) 0 rfl rfl 2 (by decide) (hts _ fl_X3_19) (fun _ h9 => h9) rfl dX3_tell_69 ?_
        exact W.iret (v := 0) hx hb hr (fun t ht hW => ⟨⟨0, (), rfl, (by first | rw [if_pos (by omega)] | rw [if_neg (by omega)]), trivial⟩, hS.F ht⟩) hS.2.2 dX3_tell_72
      · refine lv_tableIn (tgt := 73) (off := 52) hx hb dX3_tell_21 (by omega) (by omega) (by rw [c_22]; rfl) (by decide) ?_
        refine lv_aload_n hx hb dX3_tell_73 rfl (lv_at hl 0 rfl) ?_
        obtain ⟨rq_24, rs_24, ha_24, hg_24_0, hg_24_1⟩ := tg_8 hT hG nx_0
        refine va_get (D := DG E) (ci := 3) (v := .ref rq_24) (C := RX3) (T := TX3) (N := 3) hx hb hts iw_X3 hown hK.1 (va_one ha_24) 0 rfl rfl 0 (by decide) (hts _ fl_X3_9) (fun _ h9 => h9) rfl dX3_tell_74 ?_
        obtain ⟨pe_25, nd_25, fa_25, to_25, mt_25, mr_25, rq_25, ha_25, hg_25_0, hg_25_1, hg_25_2⟩ := tg_9 hT hg_24_0 nx_0
        refine va_get (D := DG E) (ci := 7) (v := .int 0) (C := RX7) (T := TX7) (N := 14) hx hb hts iw_X7 hown hK.1 (va_one ha_25) 0 rfl rfl 7 (by decide) (hts _ fl_X3_88) (fun _ h9 => h9) rfl dX3_tell_77 ?_
        exact W.iret (v := 0) hx hb hr (fun t ht hW => ⟨⟨0, (), rfl, (by first | rw [if_pos (by omega)] | rw [if_neg (by omega)]), trivial⟩, hS.F ht⟩) hS.2.2 dX3_tell_80
      · refine lv_tableIn (tgt := 81) (off := 60) hx hb dX3_tell_21 (by omega) (by omega) (by rw [c_22]; rfl) (by decide) ?_
        refine lv_aload_n hx hb dX3_tell_81 rfl (lv_at hl 0 rfl) ?_
        obtain ⟨rq_26, rs_26, ha_26, hg_26_0, hg_26_1⟩ := tg_8 hT hG nx_0
        refine va_get (D := DG E) (ci := 3) (v := .ref rq_26) (C := RX3) (T := TX3) (N := 3) hx hb hts iw_X3 hown hK.1 (va_one ha_26) 0 rfl rfl 0 (by decide) (hts _ fl_X3_9) (fun _ h9 => h9) rfl dX3_tell_82 ?_
        obtain ⟨pe_27, nd_27, fa_27, to_27, mt_27, mr_27, rq_27, ha_27, hg_27_0, hg_27_1, hg_27_2⟩ := tg_9 hT hg_26_0 nx_0
        refine va_get (D := DG E) (ci := 7) (v := .int 0) (C := RX7) (T := TX7) (N := 14) hx hb hts iw_X7 hown hK.1 (va_one ha_27) 0 rfl rfl 8 (by decide) (hts _ fl_X3_91) (fun _ h9 => h9) rfl dX3_tell_85 ?_
        exact W.iret (v := 0) hx hb hr (fun t ht hW => ⟨⟨0, (), rfl, (by first | rw [if_pos (by omega)] | rw [if_neg (by omega)]), trivial⟩, hS.F ht⟩) hS.2.2 dX3_tell_88
      · refine lv_tableIn (tgt := 89) (off := 68) hx hb dX3_tell_21 (by omega) (by omega) (by rw [c_22]; rfl) (by decide) ?_
        refine lv_aload_n hx hb dX3_tell_89 rfl (lv_at hl 0 rfl) ?_
        obtain ⟨rq_28, rs_28, ha_28, hg_28_0, hg_28_1⟩ := tg_8 hT hG nx_0
        refine va_get (D := DG E) (ci := 3) (v := .ref rq_28) (C := RX3) (T := TX3) (N := 3) hx hb hts iw_X3 hown hK.1 (va_one ha_28) 0 rfl rfl 0 (by decide) (hts _ fl_X3_9) (fun _ h9 => h9) rfl dX3_tell_90 ?_
        obtain ⟨pe_29, nd_29, fa_29, to_29, mt_29, mr_29, rq_29, ha_29, hg_29_0, hg_29_1, hg_29_2⟩ := tg_9 hT hg_28_0 nx_0
        refine va_get (D := DG E) (ci := 7) (v := .int 0) (C := RX7) (T := TX7) (N := 14) hx hb hts iw_X7 hown hK.1 (va_one ha_29) 0 rfl rfl 9 (by decide) (hts _ fl_X3_94) (fun _ h9 => h9) rfl dX3_tell_93 ?_
        exact W.iret (v := 0) hx hb hr (fun t ht hW => ⟨⟨0, (), rfl, (by first | rw [if_pos (by omega)] | rw [if_neg (by omega)]), trivial⟩, hS.F ht⟩) hS.2.2 dX3_tell_96
      · refine lv_tableIn (tgt := 97) (off := 76) hx hb dX3_tell_21 (by omega) (by omega) (by rw [c_22]; rfl) (by decide) ?_
        refine lv_aload_n hx hb dX3_tell_97 rfl (lv_at hl 0 rfl) ?_
        obtain ⟨rq_30, rs_30, ha_30, hg_30_0, hg_30_1⟩ := tg_8 hT hG nx_0
        refine va_get (D := DG E) (ci := 3) (v := .ref rs_30) (C := RX3) (T := TX3) (N := 3) hx hb hts iw_X3 hown hK.1 (va_one ha_30) 0 rfl rfl 1 (by decide) (hts _ fl_X3_15) (fun _ h9 => h9) rfl dX3_tell_98 ?_
        obtain ⟨pe_31, nd_31, fa_31, rc_31, an_31, ar_31, ha_31, hg_31_0, hg_31_1, hg_31_2, hg_31_3, hg_31_4⟩ := tg_10 hT hg_30_1 nx_0
        refine va_get (D := DG E) (ci := 8) (v := .int 0) (C := RX8) (T := TX8) (N := 9) hx hb hts iw_X8 hown hK.1 (va_one ha_31) 0 rfl rfl 4 (by decide) (hts _ fl_X3_35) (fun _ h9 => h9) rfl dX3_tell_101 ?_
        exact W.iret (v := 0) hx hb hr (fun t ht hW => ⟨⟨0, (), rfl, (by first | rw [if_pos (by omega)] | rw [if_neg (by omega)]), trivial⟩, hS.F ht⟩) hS.2.2 dX3_tell_104
      · refine lv_tableIn (tgt := 105) (off := 84) hx hb dX3_tell_21 (by omega) (by omega) (by rw [c_22]; rfl) (by decide) ?_
        refine lv_aload_n hx hb dX3_tell_105 rfl (lv_at hl 0 rfl) ?_
        obtain ⟨rq_32, rs_32, ha_32, hg_32_0, hg_32_1⟩ := tg_8 hT hG nx_0
        refine va_get (D := DG E) (ci := 3) (v := .ref rq_32) (C := RX3) (T := TX3) (N := 3) hx hb hts iw_X3 hown hK.1 (va_one ha_32) 0 rfl rfl 0 (by decide) (hts _ fl_X3_9) (fun _ h9 => h9) rfl dX3_tell_106 ?_
        obtain ⟨pe_33, nd_33, fa_33, to_33, mt_33, mr_33, rq_33, ha_33, hg_33_0, hg_33_1, hg_33_2⟩ := tg_9 hT hg_32_0 nx_0
        refine va_get (D := DG E) (ci := 7) (v := .ref rq_33) (C := RX7) (T := TX7) (N := 14) hx hb hts iw_X7 hown hK.1 (va_one ha_33) 0 rfl rfl 6 (by decide) (hts _ fl_X3_38) (fun _ h9 => h9) rfl dX3_tell_109 ?_
        obtain ⟨pr_34, nd_34, rw_34, ha_34, hg_34_0, hg_34_1⟩ := tg_11 hT hg_33_2 nx_0
        refine va_get (D := DG E) (ci := 5) (v := .int 0) (C := RX5) (T := TX5) (N := 6) hx hb hts iw_X5 hown hK.1 (va_one ha_34) 0 rfl rfl 4 (by decide) (hts _ fl_X3_97) (fun _ h9 => h9) rfl dX3_tell_112 ?_
        exact W.iret (v := 0) hx hb hr (fun t ht hW => ⟨⟨0, (), rfl, (by first | rw [if_pos (by omega)] | rw [if_neg (by omega)]), trivial⟩, hS.F ht⟩) hS.2.2 dX3_tell_115
      · refine lv_tableIn (tgt := 116) (off := 95) hx hb dX3_tell_21 (by omega) (by omega) (by rw [c_22]; rfl) (by decide) ?_
        refine lv_aload_n hx hb dX3_tell_116 rfl (lv_at hl 0 rfl) ?_
        obtain ⟨rq_35, rs_35, ha_35, hg_35_0, hg_35_1⟩ := tg_8 hT hG nx_0
        refine va_get (D := DG E) (ci := 3) (v := .ref rs_35) (C := RX3) (T := TX3) (N := 3) hx hb hts iw_X3 hown hK.1 (va_one ha_35) 0 rfl rfl 1 (by decide) (hts _ fl_X3_15) (fun _ h9 => h9) rfl dX3_tell_117 ?_
        obtain ⟨pe_36, nd_36, fa_36, rc_36, an_36, ar_36, ha_36, hg_36_0, hg_36_1, hg_36_2, hg_36_3, hg_36_4⟩ := tg_10 hT hg_35_1 nx_0
        refine va_get (D := DG E) (ci := 8) (v := .ref rc_36) (C := RX8) (T := TX8) (N := 9) hx hb hts iw_X8 hown hK.1 (va_one ha_36) 0 rfl rfl 3 (by decide) (hts _ fl_X3_48) (fun _ h9 => h9) rfl dX3_tell_120 ?_
        obtain ⟨pr_37, nd_37, rw_37, ha_37, hg_37_0, hg_37_1⟩ := tg_11 hT hg_36_2 nx_0
        refine va_get (D := DG E) (ci := 5) (v := .int 0) (C := RX5) (T := TX5) (N := 6) hx hb hts iw_X5 hown hK.1 (va_one ha_37) 0 rfl rfl 4 (by decide) (hts _ fl_X3_97) (fun _ h9 => h9) rfl dX3_tell_123 ?_
        exact W.iret (v := 0) hx hb hr (fun t ht hW => ⟨⟨0, (), rfl, (by first | rw [if_pos (by omega)] | rw [if_neg (by omega)]), trivial⟩, hS.F ht⟩) hS.2.2 dX3_tell_126
      · refine lv_tableIn (tgt := 127) (off := 106) hx hb dX3_tell_21 (by omega) (by omega) (by rw [c_22]; rfl) (by decide) ?_
        refine lv_aload_n hx hb dX3_tell_127 rfl (lv_at hl 0 rfl) ?_
        obtain ⟨rq_38, rs_38, ha_38, hg_38_0, hg_38_1⟩ := tg_8 hT hG nx_0
        refine va_get (D := DG E) (ci := 3) (v := .ref rq_38) (C := RX3) (T := TX3) (N := 3) hx hb hts iw_X3 hown hK.1 (va_one ha_38) 0 rfl rfl 0 (by decide) (hts _ fl_X3_9) (fun _ h9 => h9) rfl dX3_tell_128 ?_
        obtain ⟨pe_39, nd_39, fa_39, to_39, mt_39, mr_39, rq_39, ha_39, hg_39_0, hg_39_1, hg_39_2⟩ := tg_9 hT hg_38_0 nx_0
        refine va_get (D := DG E) (ci := 7) (v := .int 0) (C := RX7) (T := TX7) (N := 14) hx hb hts iw_X7 hown hK.1 (va_one ha_39) 0 rfl rfl 13 (by decide) (hts _ fl_X3_100) (fun _ h9 => h9) rfl dX3_tell_131 ?_
        refine lv_if_eq (tgt := 141) hx hb dX3_tell_134 (by decide) (fun c_40 => ?_) (fun c_40 => absurd c_40 (by decide))
        refine lv_iconst (v := 0) hx hb dX3_tell_141 (by decide) ?_
        exact W.iret (v := 0) hx hb hr (fun t ht hW => ⟨⟨0, (), rfl, (by first | rw [if_pos (by omega)] | rw [if_neg (by omega)]), trivial⟩, hS.F ht⟩) hS.2.2 dX3_tell_142
      · refine lv_tableOut (tgt := 143) hx hb dX3_tell_21 c_22 (by decide) ?_
        refine lv_iconst (v := (-1)) hx hb dX3_tell_143 (by decide) ?_
        exact W.iret (v := (-1)) hx hb hr (fun t ht hW => ⟨⟨(-1), (), rfl, (by first | rw [if_pos (by omega)] | rw [if_neg (by omega)]), trivial⟩, hS.F ht⟩) hS.2.2 dX3_tell_144
    · simp only [lt_I, le_I, eq_I, i_0, i_1, i_2, i_3, i_4, i_5, i_6, i_7, i_8, i_10, i_12, i_16, i_20, i_23, i_24, i_31, i_32, i_63, i_64, i_m1] at c_21
      refine lv_aload_n hx hb dX3_tell_10 rfl (lv_at hl 0 rfl) ?_
      obtain ⟨rq_41, rs_41, ha_41, hg_41_0, hg_41_1⟩ := tg_8 hT hG nx_0
      refine va_get (D := DG E) (ci := 3) (v := .int 0) (C := RX3) (T := TX3) (N := 3) hx hb hts iw_X3 hown hK.1 (va_one ha_41) 0 rfl rfl 2 (by decide) (hts _ fl_X3_19) (fun _ h9 => h9) rfl dX3_tell_11 ?_
      refine lv_iconst (v := 1) hx hb dX3_tell_14 (by decide) ?_
      refine lv_icmp_eq (tgt := 20) hx hb dX3_tell_15 (by decide) (fun c_42 => absurd c_42 (by decide)) (fun c_42 => ?_)
      refine lv_iconst (v := (-1)) hx hb dX3_tell_18 (by decide) ?_
      exact W.iret (v := (-1)) hx hb hr (fun t ht hW => ⟨⟨(-1), (), rfl, (by first | rw [if_pos (by omega)] | rw [if_neg (by omega)]), trivial⟩, hS.F ht⟩) hS.2.2 dX3_tell_19
