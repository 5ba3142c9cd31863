theorem dX0_has_0 : decode cX0_has 0 = .ok (.iload_n 1, 1) := by decide +kernel
theorem dX0_has_1 : decode cX0_has 1 = .ok (.ifCond .lt 15, 3) := by decide +kernel
theorem dX0_has_4 : decode cX0_has 4 = .ok (.iload_n 1, 1) := by decide +kernel
theorem dX0_has_5 : decode cX0_has 5 = .ok (.aload_n 0, 1) := by decide +kernel
theorem dX0_has_6 : decode cX0_has 6 = .ok (.getfield 25, 3) := by decide +kernel
theorem dX0_has_9 : decode cX0_has 9 = .ok (.if_icmp .ge 7, 3) := by decide +kernel
theorem dX0_has_12 : decode cX0_has 12 = .ok (.iconst 1, 1) := by decide +kernel
theorem dX0_has_13 : decode cX0_has 13 = .ok (.goto 4, 3) := by decide +kernel
theorem dX0_has_16 : decode cX0_has 16 = .ok (.iconst 0, 1) := by decide +kernel
theorem dX0_has_17 : decode cX0_has 17 = .ok (.ireturn, 1) := by decide +kernel
set_option maxHeartbeats 8000000 in
set_option maxRecDepth 100000 in
theorem t_X0_has (l : Launch) (E : EE) (z0 : Nat) (G : Nat → Nat) (hGz : ∀ q, G q ≠ 0 → z0 ≤ q) (h0 : Nat) (p0 : Int32) (hG : G h0 = 4) (e0 : Nat) (e1 : Int32) (e2 : Nat) (e3 : Nat) (ge0 : G e0 = 30) (ge2 : G e2 = 31) (ge3 : G e3 = 31) (be1 : (0 ≤ e1.toInt ∧ e1.toInt ≤ 24)) : Met l yX0_has [Cond.code yX0_has cX0_has 2 (some .boolean)] ({ frames := 0, cells := 0, slots := 0, locals := 0 } : Room) (va_Pc [.ref h0, .int p0] (fun U => (TH E (T1 E) G [] U.heap ∧ va_at (DG E) vwCl (h0, .inr (0, [.ref e0, .int e1, .ref e2, .ref e3])) U.heap) ∧ KS E z0 U)) (va_Qi (fun (r : Int32) (_ : Unit) => (r = 0 ∨ r = 1) ∧ (r.toInt = 0 ∨ (0 ≤ p0.toInt ∧ p0.toInt < e1.toInt))) (fun _ t => True) (fun _ : Nat => False)) 0 0 (fun _ : Nat => False) := by
  refine Met.ofW (cc := cX0_has) (maxL := 2) (ret := (some .boolean)) (by decide) rfl ?_
  intro p e s m args below meth c s₁ B hml hv
  obtain ⟨rfl, ⟨hT, hx0⟩, hK⟩ := hv
  have hx := B.exec
  have hb := B.bytes
  have hr := B.returns
  have hts : ∀ w ∈ TS, w.before ([.ref h0, .int p0] : List Value).toArray s = true := fun w hw => hK.2.1 w hw _
  have hown : s.vm.findClass RX0 = some m.cls := findClass_of_methodNamed B.named
  have hlocks := B.notSynchronized
  have hS : va_S (fun _ : Nat => False) s.heap s.heap [] := va_S.rf
  have hAz : ∀ q, (fun _ : Nat => False) q → z0 ≤ q := fun _ h => h.elim
  have hl := lv_entry ([.ref h0, .int p0]) (n := 2) (Nat.le_of_ble_eq_true rfl)
  rw [lg_entry_eq]
  generalize (lg_sl ([.ref h0, .int p0]) ++ List.replicate (2 - (lg_sl ([.ref h0, .int p0])).length) Slot.unset).toArray = ls at hl ⊢
  have hl : lv_has ls 2 [(0, .ref h0), (1, .int p0)] := hl
  refine lv_iload_n hx hb dX0_has_0 rfl (lv_at hl 1 rfl) ?_
  refine lv_if_lt (tgt := 16) hx hb dX0_has_1 (by decide) (fun c_1 => ?_) (fun c_1 => ?_)
  · simp only [lt_I, le_I, eq_I, i_0, i_1, i_2, i_3, i_4, i_5, i_6, i_7, i_8, i_10, i_12, i_16, i_20, i_23, i_24, i_31, i_32, i_63, i_64, i_m1] at c_1
    refine lv_iconst (v := 0) hx hb dX0_has_16 (by decide) ?_
    exact W.zret (v := 0) (ty := .boolean) hx hb hr rfl (fun t ht hW => ⟨⟨0, (), rfl, ⟨by decide, by have h9 := i_0; omega⟩, trivial⟩, hS.F ht⟩) hS.2.2 dX0_has_17
  · simp only [lt_I, le_I, eq_I, i_0, i_1, i_2, i_3, i_4, i_5, i_6, i_7, i_8, i_10, i_12, i_16, i_20, i_23, i_24, i_31, i_32, i_63, i_64, i_m1] at c_1
    refine lv_iload_n hx hb dX0_has_4 rfl (lv_at hl 1 rfl) ?_
    refine lv_aload_n hx hb dX0_has_5 rfl (lv_at hl 0 rfl) ?_
    refine va_get (D := DG E) (ci := 0) (v := .int e1) (C := RX0) (T := TX0) (N := 4) hx hb hts iw_X0 hown hK.1 (va_one hx0) 0 rfl rfl 1 (by decide) (hts _ fl_X0_25) (fun _ h9 => h9) rfl dX0_has_6 ?_
    refine lv_icmp_ge (tgt := 16) hx hb dX0_has_9 (by decide) (fun c_2 => ?_) (fun c_2 => ?_)
    · simp only [lt_I, le_I, eq_I, i_0, i_1, i_2, i_3, i_4, i_5, i_6, i_7, i_8, i_10, i_12, i_16, i_20, i_23, i_24, i_31, i_32, i_63, i_64, i_m1] at c_2
      refine lv_iconst (v := 0) hx hb dX0_has_16 (by decide) ?_
      exact W.zret (v := 0) (ty := .boolean) hx hb hr rfl (fun t ht hW => ⟨⟨0, (), rfl, ⟨by decide, by have h9 := i_0; omega⟩, trivial⟩, hS.F ht⟩) hS.2.2 dX0_has_17
    · simp only [lt_I, le_I, eq_I, i_0, i_1, i_2, i_3, i_4, i_5, i_6, i_7, i_8, i_10, i_12, i_16, i_20, i_23, i_24, i_31, i_32, i_63, i_64, i_m1] at c_2
      refine lv_iconst (v := 1) hx hb dX0_has_12 (by decide) ?_
      refine lv_goto (tgt := 17) hx hb dX0_has_13 (by decide) ?_
      exact W.zret (v := 1) (ty := .boolean) hx hb hr rfl (fun t ht hW => ⟨⟨1, (), rfl, ⟨by decide, by have h9 := i_1; omega⟩, trivial⟩, hS.F ht⟩) hS.2.2 dX0_has_17
theorem dX0_isFull_0 : decode cX0_isFull 0 = .ok (.aload_n 0, 1) := by decide +kernel
theorem dX0_isFull_1 : decode cX0_isFull 1 = .ok (.getfield 25, 3) := by decide +kernel
theorem dX0_isFull_4 : decode cX0_isFull 4 = .ok (.bipush 24, 2) := by decide +kernel
theorem dX0_isFull_6 : decode cX0_isFull 6 = .ok (.if_icmp .ne 7, 3) := by decide +kernel
theorem dX0_isFull_9 : decode cX0_isFull 9 = .ok (.iconst 1, 1) := by decide +kernel
theorem dX0_isFull_10 : decode cX0_isFull 10 = .ok (.goto 4, 3) := by decide +kernel
theorem dX0_isFull_13 : decode cX0_isFull 13 = .ok (.iconst 0, 1) := by decide +kernel
theorem dX0_isFull_14 : decode cX0_isFull 14 = .ok (.ireturn, 1) := by decide +kernel
set_option maxHeartbeats 8000000 in
set_option maxRecDepth 100000 in
theorem t_X0_isFull (l : Launch) (E : EE) (z0 : Nat) (G : Nat → Nat) (hGz : ∀ q, G q ≠ 0 → z0 ≤ q) (h0 : Nat) (hG : G h0 = 4) (e0 : Nat) (e1 : Int32) (e2 : Nat) (e3 : Nat) (ge0 : G e0 = 30) (ge2 : G e2 = 31) (ge3 : G e3 = 31) (be1 : (0 ≤ e1.toInt ∧ e1.toInt ≤ 24)) : Met l yX0_isFull [Cond.code yX0_isFull cX0_isFull 1 (some .boolean)] ({ frames := 0, cells := 0, slots := 0, locals := 0 } : Room) (va_Pc [.ref h0] (fun U => (TH E (T1 E) G [] U.heap ∧ va_at (DG E) vwCl (h0, .inr (0, [.ref e0, .int e1, .ref e2, .ref e3])) U.heap) ∧ KS E z0 U)) (va_Qi (fun (r : Int32) (_ : Unit) => (r = 0 ∨ r = 1) ∧ (r.toInt = 1 ∨ e1.toInt ≤ 23)) (fun _ t => True) (fun _ : Nat => False)) 0 0 (fun _ : Nat => False) := by
  refine Met.ofW (cc := cX0_isFull) (maxL := 1) (ret := (some .boolean)) (by decide) rfl ?_
  intro p e s m args below meth c s₁ B hml hv
  obtain ⟨rfl, ⟨hT, hx0⟩, hK⟩ := hv
  have hx := B.exec
  have hb := B.bytes
  have hr := B.returns
  have hts : ∀ w ∈ TS, w.before ([.ref h0] : List Value).toArray s = true := fun w hw => hK.2.1 w hw _
  have hown : s.vm.findClass RX0 = some m.cls := findClass_of_methodNamed B.named
  have hlocks := B.notSynchronized
  have hS : va_S (fun _ : Nat => False) s.heap s.heap [] := va_S.rf
  have hAz : ∀ q, (fun _ : Nat => False) q → z0 ≤ q := fun _ h => h.elim
  have hl := lv_entry ([.ref h0]) (n := 1) (Nat.le_of_ble_eq_true rfl)
  rw [lg_entry_eq]
  generalize (lg_sl ([.ref h0]) ++ List.replicate (1 - (lg_sl ([.ref h0])).length) Slot.unset).toArray = ls at hl ⊢
  have hl : lv_has ls 1 [(0, .ref h0)] := hl
  refine lv_aload_n hx hb dX0_isFull_0 rfl (lv_at hl 0 rfl) ?_
  refine va_get (D := DG E) (ci := 0) (v := .int e1) (C := RX0) (T := TX0) (N := 4) hx hb hts iw_X0 hown hK.1 (va_one hx0) 0 rfl rfl 1 (by decide) (hts _ fl_X0_25) (fun _ h9 => h9) rfl dX0_isFull_1 ?_
  refine lv_bipush (v := 24) hx hb dX0_isFull_4 (by decide) ?_
  refine lv_icmp_ne (tgt := 13) hx hb dX0_isFull_6 (by decide) (fun c_1 => ?_) (fun c_1 => ?_)
  · simp only [lt_I, le_I, eq_I, i_0, i_1, i_2, i_3, i_4, i_5, i_6, i_7, i_8, i_10, i_12, i_16, i_20, i_23, i_24, i_31, i_32, i_63, i_64, i_m1] at c_1
    refine lv_iconst (v := 0) hx hb dX0_isFull_13 (by decide) ?_
    exact W.zret (v := 0) (ty := .boolean) hx hb hr rfl (fun t ht hW => ⟨⟨0, (), rfl, ⟨by decide, by have h9 := i_0; omega⟩, trivial⟩, hS.F ht⟩) hS.2.2 dX0_isFull_14
  · simp only [lt_I, le_I, eq_I, i_0, i_1, i_2, i_3, i_4, i_5, i_6, i_7, i_8, i_10, i_12, i_16, i_20, i_23, i_24, i_31, i_32, i_63, i_64, i_m1] at c_1
    refine lv_iconst (v := 1) hx hb dX0_isFull_9 (by decide) ?_
    refine lv_goto (tgt := 14) hx hb dX0_isFull_10 (by decide) ?_
    exact W.zret (v := 1) (ty := .boolean) hx hb hr rfl (fun t ht hW => ⟨⟨1, (), rfl, ⟨by decide, by have h9 := i_1; omega⟩, trivial⟩, hS.F ht⟩) hS.2.2 dX0_isFull_14
theorem dX0_carry_0 : decode cX0_carry 0 = .ok (.aload_n 0, 1) := by decide +kernel
theorem dX0_carry_1 : decode cX0_carry 1 = .ok (.invokevirtual 29, 3) := by decide +kernel
theorem dX0_carry_4 : decode cX0_carry 4 = .ok (.ifCond .eq 10, 3) := by decide +kernel
theorem dX0_carry_7 : decode cX0_carry 7 = .ok (.aload_n 0, 1) := by decide +kernel
theorem dX0_carry_8 : decode cX0_carry 8 = .ok (.getfield 22, 3) := by decide +kernel
theorem dX0_carry_11 : decode cX0_carry 11 = .ok (.goto 19, 3) := by decide +kernel
theorem dX0_carry_14 : decode cX0_carry 14 = .ok (.aload_n 0, 1) := by decide +kernel
theorem dX0_carry_15 : decode cX0_carry 15 = .ok (.getfield 11, 3) := by decide +kernel
theorem dX0_carry_18 : decode cX0_carry 18 = .ok (.aload_n 0, 1) := by decide +kernel
theorem dX0_carry_19 : decode cX0_carry 19 = .ok (.dup, 1) := by decide +kernel
theorem dX0_carry_20 : decode cX0_carry 20 = .ok (.getfield 25, 3) := by decide +kernel
theorem dX0_carry_23 : decode cX0_carry 23 = .ok (.dup_x1, 1) := by decide +kernel
theorem dX0_carry_24 : decode cX0_carry 24 = .ok (.iconst 1, 1) := by decide +kernel
theorem dX0_carry_25 : decode cX0_carry 25 = .ok (.iadd, 1) := by decide +kernel
theorem dX0_carry_26 : decode cX0_carry 26 = .ok (.putfield 25, 3) := by decide +kernel
theorem dX0_carry_29 : decode cX0_carry 29 = .ok (.aaload, 1) := by decide +kernel
theorem dX0_carry_30 : decode cX0_carry 30 = .ok (.astore 4, 2) := by decide +kernel
theorem dX0_carry_32 : decode cX0_carry 32 = .ok (.aload 4, 2) := by decide +kernel
theorem dX0_carry_34 : decode cX0_carry 34 = .ok (.iload_n 1, 1) := by decide +kernel
theorem dX0_carry_35 : decode cX0_carry 35 = .ok (.iload_n 2, 1) := by decide +kernel
theorem dX0_carry_36 : decode cX0_carry 36 = .ok (.iload_n 3, 1) := by decide +kernel
theorem dX0_carry_37 : decode cX0_carry 37 = .ok (.invokevirtual 33, 3) := by decide +kernel
theorem dX0_carry_40 : decode cX0_carry 40 = .ok (.aload 4, 2) := by decide +kernel
theorem dX0_carry_42 : decode cX0_carry 42 = .ok (.areturn, 1) := by decide +kernel
set_option maxHeartbeats 8000000 in
set_option maxRecDepth 100000 in
theorem t_X0_carry (l : Launch) (E : EE) (z0 : Nat) (G : Nat → Nat) (hGz : ∀ q, G q ≠ 0 → z0 ≤ q) (h0 : Nat) (p0 : Int32) (p1 : Int32) (p2 : Int32) (hG : G h0 = 4) (hy0 : 0 ≤ p0.toInt ∧ p0.toInt ≤ 3) : Met l yX0_carry [Cond.code yX0_carry cX0_carry 5 (some (.object "RemoteReach$Packet"))] ({ frames := 1, cells := 0, slots := 0, locals := 23 } : Room) (va_Pc [.ref h0, .int p0, .int p1, .int p2] (fun U => (TH E (T1 E) G [] U.heap) ∧ KS E z0 U)) (va_Qr (fun (_ : Unit) => True) (fun _ ra t => G ra = 31 ∧ TH E (T1 E) G [] t.heap) (fun q : Nat => G q ∈ ([4, 31] : List Nat))) 0 0 (fun q : Nat => G q ∈ ([4, 31] : List Nat)) := by
  refine Met.ofW (cc := cX0_carry) (maxL := 5) (ret := (some (.object "RemoteReach$Packet"))) (by decide) rfl ?_
  intro p e s m args below meth c s₁ B hml hv
  obtain ⟨rfl, hT, hK⟩ := hv
  have hx := B.exec
  have hb := B.bytes
  have hr := B.returns
  have hts : ∀ w ∈ TS, w.before ([.ref h0, .int p0, .int p1, .int p2] : List Value).toArray s = true := fun w hw => hK.2.1 w hw _
  have hown : s.vm.findClass RX0 = some m.cls := findClass_of_methodNamed B.named
  have hlocks := B.notSynchronized
  have hS : va_S (fun q : Nat => G q ∈ ([4, 31] : List Nat)) s.heap s.heap [] := va_S.rf
  have hAz : ∀ q, (fun q : Nat => G q ∈ ([4, 31] : List Nat)) q → z0 ≤ q := zL hGz (by decide)
  have hl := lv_entry ([.ref h0, .int p0, .int p1, .int p2]) (n := 5) (Nat.le_of_ble_eq_true rfl)
  rw [lg_entry_eq]
  generalize (lg_sl ([.ref h0, .int p0, .int p1, .int p2]) ++ List.replicate (5 - (lg_sl ([.ref h0, .int p0, .int p1, .int p2])).length) Slot.unset).toArray = ls at hl ⊢
  have hl : lv_has ls 5 [(0, .ref h0), (1, .int p0), (2, .int p1), (3, .int p2)] := hl
  refine lv_aload_n hx hb dX0_carry_0 rfl (lv_at hl 0 rfl) ?_
  obtain ⟨v0_1, v1_1, v2_1, v3_1, ha_1, hg0_1, hb1_1, hg2_1, hg3_1⟩ := tr_4 hT hG
  refine va_calli (rnV (fun H => TH E (T1 E) G [] H ∧ va_at (DG E) vwCl (h0, .inr (0, [.ref v0_1, .int v1_1, .ref v2_1, .ref v3_1])) H) (As := []) (rest := []) ⟨hx, hb, hml, hown, hts⟩ (t_X0_isFull l E z0 G hGz h0 hG v0_1 v1_1 v2_1 v3_1 hg0_1 hg2_1 hg3_1 (by omega)) (cwV 0 hts (gdV ml_X0_29 im_X0_isFull se_X0_X0_isFull in_X0 co_X0_isFull rfl) rfl rfl rfl (by decide +kernel) ⟨Nat.le_of_ble_eq_true rfl, Nat.le_of_ble_eq_true rfl⟩) ⟨hT, ha_1⟩ (fun U hU hW => hK.go hW hS hAz hU) (va_recv hK.1 (va_one ha_1) (ci := 0) (q0 := 0) rfl rfl) rfl rfl hl.1 rfl (lv_room (Nat.le_of_ble_eq_true rfl)) dX0_carry_1 ⟨Nat.le_of_ble_eq_true rfl, Nat.le_of_ble_eq_true rfl⟩) hS (fun q _ h => h.elim) (fun q h => h.elim) (fun r_2 _ t H locs ht hvm hwr_2 hB hz hk hS => ?_)
  have hT : TH E (T1 E) G [] H := hT.kept (fun q hq => hk q hq (fun h => h))
  have ha_1 := ha_1.kept (hk _ ha_1.lt (fun h => h))
  have hzr_2 := s_rng hwr_2.1
  refine lv_if_eq (tgt := 14) hx hb dX0_carry_4 (by decide) (fun c_3 => ?_) (fun c_3 => ?_)
  · simp only [lt_I, le_I, eq_I, i_0, i_1, i_2, i_3, i_4, i_5, i_6, i_7, i_8, i_10, i_12, i_16, i_20, i_23, i_24, i_31, i_32, i_63, i_64, i_m1] at c_3
    refine lv_aload_n hx hb dX0_carry_14 rfl (lv_at hl 0 rfl) ?_
    refine va_get (D := DG E) (ci := 0) (v := .ref v0_1) (C := RX0) (T := TX0) (N := 4) hx hb hts iw_X0 hown hK.1 (va_one ha_1) 0 rfl rfl 0 (by decide) (hts _ fl_X0_11) (fun _ h9 => h9) rfl dX0_carry_15 ?_
    refine lv_aload_n hx hb dX0_carry_18 rfl (lv_at hl 0 rfl) ?_
    refine lv_dup hx hb dX0_carry_19 rfl ?_
    refine va_get (D := DG E) (ci := 0) (v := .int v1_1) (C := RX0) (T := TX0) (N := 4) hx hb hts iw_X0 hown hK.1 (va_one ha_1) 0 rfl rfl 1 (by decide) (hts _ fl_X0_25) (fun _ h9 => h9) rfl dX0_carry_20 ?_
    refine lv_dup_x1 hx hb dX0_carry_23 rfl rfl ?_
    refine lv_iconst (v := 1) hx hb dX0_carry_24 (by decide) ?_
    refine lv_iadd hx hb dX0_carry_25 ?_
    refine lv_topi (fun x_4 ex_4 => ?_)
    have fx_4 : x_4.toInt = v1_1.toInt + 1 := by have h9 := s_add (x := v1_1) (y := 1) (by rw [i_1]; omega) (by rw [i_1]; omega); rw [i_1] at h9; rw [ex_4]; exact h9
    refine rr_put (D := DG E) (ci := 0) (v := .int x_4) (ty := .int) (C := RX0) (T := TX0) (N := 4) hx hb hts iw_X0 tyX0 tyX0_ok nmX0 hown hK.1 ha_1 hS (by show G h0 ∈ ([4, 31] : List Nat); rw [hG]; decide) rfl 1 (by decide) (hts _ fl_X0_25) (fun _ h9 => h9) rfl (by decide +kernel) rfl rfl (Nat.le_of_ble_eq_true rfl) dX0_carry_26 (fun H locs hn ho hz hS => ?_)
    have hr_5 : va_at (DG E) vwCl (h0, .inr (0, [.ref v0_1, .int x_4, .ref v2_1, .ref v3_1])) H := hn
    have hT : TH E (T1 E) G [] H := hT.set hG (show T1 E G 4 _ from ⟨v0_1, x_4, v2_1, v3_1, rfl, hg0_1, (by omega), hg2_1, hg3_1⟩) hr_5 ho
    obtain ⟨f_6, ha_6, he_6⟩ := tr_30 hT hg0_1
    obtain ⟨j_7, hj_7, ej_7⟩ := vp_in_of (show vp_in v1_1 24 from vp_in_iff.mpr (by omega)) (by decide)
    obtain ⟨b_7, eb_7, gb_7⟩ := he_6 j_7 hj_7
    have cj_7 : f_6 (v1_1 : Int32).toNatClampNeg = some b_7 := by rw [ej_7, nI_clamp (by omega)]; exact eb_7
    refine va_aldq (D := DG E) hx hb hK.1 (va_one ha_6) 0 7 rfl rfl (show vp_in v1_1 24 from vp_in_iff.mpr (by omega)) dX0_carry_29 ?_
    rw [cj_7]
    refine W.eq (g2 := F0 m 30 ls [.ref b_7]) (by rfl) ?_
    refine lv_astore (lv' := [(4, .ref b_7), (0, .ref h0), (1, .int p0), (2, .int p1), (3, .int p2)]) hx hb dX0_carry_30 hl (by decide) rfl (fun ls hl => ?_)
    refine lv_aload hx hb dX0_carry_32 (lv_at hl 0 rfl) ?_
    refine lv_iload_n hx hb dX0_carry_34 rfl (lv_at hl 2 rfl) ?_
    refine lv_iload_n hx hb dX0_carry_35 rfl (lv_at hl 3 rfl) ?_
    refine lv_iload_n hx hb dX0_carry_36 rfl (lv_at hl 4 rfl) ?_
    obtain ⟨v0_8, v1_8, v2_8, v3_8, v4_8, v5_8, v6_8, v7_8, ha_8, hb0_8, hb3_8, hg7_8⟩ := tr_31 hT gb_7
    refine va_callv (rnV (fun H => TH E (T1 E) G [] H) (As := [.int p0, .int p1, .int p2]) (rest := []) ⟨hx, hb, hml, hown, hts⟩ (t_X2_become l E z0 G hGz b_7 p0 p1 p2 gb_7 (by first | omega | decide)) (cwV 3 hts (gdV ml_X0_33 im_X2_become se_X2_X2_become in_X2 co_X2_become rfl) rfl rfl rfl (by decide +kernel) ⟨Nat.le_of_ble_eq_true rfl, Nat.le_of_ble_eq_true rfl⟩) hT (fun U hU hW => hK.go hW hS hAz hU) (va_recv hK.1 (va_one ha_8) (ci := 2) (q0 := 0) rfl rfl) rfl rfl hl.1 rfl (lv_room (Nat.le_of_ble_eq_true rfl)) dX0_carry_37 ⟨Nat.le_of_ble_eq_true rfl, Nat.le_of_ble_eq_true rfl⟩) hS (fun q _ h => mL (L' := [31]) (L := [4, 31]) (by decide) h) (fun q h => mL (L' := [31]) (L := [4, 31]) (by decide) h) (fun _ t H locs ht hvm hwr_9 hB hz hk hS => ?_)
    have hT : TH E (T1 E) G [] H := by rw [ht] at hB; exact hB
    have hr_5 := hr_5.kept (hk _ hr_5.lt (nL hG (by decide)))
    have ha_6 := ha_6.kept (hk _ ha_6.lt (nL hg0_1 (by decide)))
    refine lv_aload hx hb dX0_carry_40 (lv_at hl 0 rfl) ?_
    exact W.aret (v := .ref b_7) hx hb hr (Or.inl ⟨_, rfl⟩) (Or.inr ⟨_, rfl⟩) (fun t ht hW => ⟨⟨(), b_7, rfl, trivial, ⟨gb_7, (by show TH E (T1 E) G [] t.heap; rw [ht]; exact hT)⟩⟩, hS.F ht⟩) hS.2.2 dX0_carry_42
  · simp only [lt_I, le_I, eq_I, i_0, i_1, i_2, i_3, i_4, i_5, i_6, i_7, i_8, i_10, i_12, i_16, i_20, i_23, i_24, i_31, i_32, i_63, i_64, i_m1] at c_3
    refine lv_aload_n hx hb dX0_carry_7 rfl (lv_at hl 0 rfl) ?_
    refine va_get (D := DG E) (ci := 0) (v := .ref v3_1) (C := RX0) (T := TX0) (N := 4) hx hb hts iw_X0 hown hK.1 (va_one ha_1) 0 rfl rfl 3 (by decide) (hts _ fl_X0_22) (fun _ h9 => h9) rfl dX0_carry_8 ?_
    refine lv_goto (tgt := 30) hx hb dX0_carry_11 (by decide) ?_
    refine lv_astore (lv' := [(4, .ref v3_1), (0, .ref h0), (1, .int p0), (2, .int p1), (3, .int p2)]) hx hb dX0_carry_30 hl (by decide) rfl (fun ls hl => ?_)
    refine lv_aload hx hb dX0_carry_32 (lv_at hl 0 rfl) ?_
    refine lv_iload_n hx hb dX0_carry_34 rfl (lv_at hl 2 rfl) ?_
    refine lv_iload_n hx hb dX0_carry_35 rfl (lv_at hl 3 rfl) ?_
    refine lv_iload_n hx hb dX0_carry_36 rfl (lv_at hl 4 rfl) ?_
    obtain ⟨v0_10, v1_10, v2_10, v3_10, v4_10, v5_10, v6_10, v7_10, ha_10, hb0_10, hb3_10, hg7_10⟩ := tr_31 hT hg3_1
    refine va_callv (rnV (fun H => TH E (T1 E) G [] H) (As := [.int p0, .int p1, .int p2]) (rest := []) ⟨hx, hb, hml, hown, hts⟩ (t_X2_become l E z0 G hGz v3_1 p0 p1 p2 hg3_1 (by first | omega | decide)) (cwV 3 hts (gdV ml_X0_33 im_X2_become se_X2_X2_become in_X2 co_X2_become rfl) rfl rfl rfl (by decide +kernel) ⟨Nat.le_of_ble_eq_true rfl, Nat.le_of_ble_eq_true rfl⟩) hT (fun U hU hW => hK.go hW hS hAz hU) (va_recv hK.1 (va_one ha_10) (ci := 2) (q0 := 0) rfl rfl) rfl rfl hl.1 rfl (lv_room (Nat.le_of_ble_eq_true rfl)) dX0_carry_37 ⟨Nat.le_of_ble_eq_true rfl, Nat.le_of_ble_eq_true rfl⟩) hS (fun q _ h => mL (L' := [31]) (L := [4, 31]) (by decide) h) (fun q h => mL (L' := [31]) (L := [4, 31]) (by decide) h) (fun _ t H locs ht hvm hwr_11 hB hz hk hS => ?_)
    have hT : TH E (T1 E) G [] H := by rw [ht] at hB; exact hB
    have ha_1 := ha_1.kept (hk _ ha_1.lt (nL hG (by decide)))
    refine lv_aload hx hb dX0_carry_40 (lv_at hl 0 rfl) ?_
    exact W.aret (v := .ref v3_1) hx hb hr (Or.inl ⟨_, rfl⟩) (Or.inr ⟨_, rfl⟩) (fun t ht hW => ⟨⟨(), v3_1, rfl, trivial, ⟨hg3_1, (by show TH E (T1 E) G [] t.heap; rw [ht]; exact hT)⟩⟩, hS.F ht⟩) hS.2.2 dX0_carry_42
theorem dX0_takeOut_0 : decode cX0_takeOut 0 = .ok (.aload_n 0, 1) := by decide +kernel
theorem dX0_takeOut_1 : decode cX0_takeOut 1 = .ok (.getfield 11, 3) := by decide +kernel
theorem dX0_takeOut_4 : decode cX0_takeOut 4 = .ok (.iload_n 1, 1) := by decide +kernel
theorem dX0_takeOut_5 : decode cX0_takeOut 5 = .ok (.aaload, 1) := by decide +kernel
theorem dX0_takeOut_6 : decode cX0_takeOut 6 = .ok (.astore_n 2, 1) := by decide +kernel
theorem dX0_takeOut_7 : decode cX0_takeOut 7 = .ok (.iload_n 1, 1) := by decide +kernel
theorem dX0_takeOut_8 : decode cX0_takeOut 8 = .ok (.iconst 1, 1) := by decide +kernel
theorem dX0_takeOut_9 : decode cX0_takeOut 9 = .ok (.iadd, 1) := by decide +kernel
theorem dX0_takeOut_10 : decode cX0_takeOut 10 = .ok (.istore_n 3, 1) := by decide +kernel
theorem dX0_takeOut_11 : decode cX0_takeOut 11 = .ok (.iload_n 3, 1) := by decide +kernel
theorem dX0_takeOut_12 : decode cX0_takeOut 12 = .ok (.aload_n 0, 1) := by decide +kernel
theorem dX0_takeOut_13 : decode cX0_takeOut 13 = .ok (.getfield 25, 3) := by decide +kernel
theorem dX0_takeOut_16 : decode cX0_takeOut 16 = .ok (.if_icmp .ge 23, 3) := by decide +kernel
theorem dX0_takeOut_19 : decode cX0_takeOut 19 = .ok (.aload_n 0, 1) := by decide +kernel
theorem dX0_takeOut_20 : decode cX0_takeOut 20 = .ok (.getfield 11, 3) := by decide +kernel
theorem dX0_takeOut_23 : decode cX0_takeOut 23 = .ok (.iload_n 3, 1) := by decide +kernel
theorem dX0_takeOut_24 : decode cX0_takeOut 24 = .ok (.iconst 1, 1) := by decide +kernel
theorem dX0_takeOut_25 : decode cX0_takeOut 25 = .ok (.isub, 1) := by decide +kernel
theorem dX0_takeOut_26 : decode cX0_takeOut 26 = .ok (.aload_n 0, 1) := by decide +kernel
theorem dX0_takeOut_27 : decode cX0_takeOut 27 = .ok (.getfield 11, 3) := by decide +kernel
theorem dX0_takeOut_30 : decode cX0_takeOut 30 = .ok (.iload_n 3, 1) := by decide +kernel
theorem dX0_takeOut_31 : decode cX0_takeOut 31 = .ok (.aaload, 1) := by decide +kernel
theorem dX0_takeOut_32 : decode cX0_takeOut 32 = .ok (.aastore, 1) := by decide +kernel
theorem dX0_takeOut_33 : decode cX0_takeOut 33 = .ok (.iinc 3 1, 3) := by decide +kernel
theorem dX0_takeOut_36 : decode cX0_takeOut 36 = .ok (.goto (-25), 3) := by decide +kernel
theorem dX0_takeOut_39 : decode cX0_takeOut 39 = .ok (.aload_n 0, 1) := by decide +kernel
theorem dX0_takeOut_40 : decode cX0_takeOut 40 = .ok (.dup, 1) := by decide +kernel
theorem dX0_takeOut_41 : decode cX0_takeOut 41 = .ok (.getfield 25, 3) := by decide +kernel
theorem dX0_takeOut_44 : decode cX0_takeOut 44 = .ok (.iconst 1, 1) := by decide +kernel
theorem dX0_takeOut_45 : decode cX0_takeOut 45 = .ok (.isub, 1) := by decide +kernel
theorem dX0_takeOut_46 : decode cX0_takeOut 46 = .ok (.putfield 25, 3) := by decide +kernel
theorem dX0_takeOut_49 : decode cX0_takeOut 49 = .ok (.aload_n 0, 1) := by decide +kernel
theorem dX0_takeOut_50 : decode cX0_takeOut 50 = .ok (.getfield 11, 3) := by decide +kernel
theorem dX0_takeOut_53 : decode cX0_takeOut 53 = .ok (.aload_n 0, 1) := by decide +kernel
theorem dX0_takeOut_54 : decode cX0_takeOut 54 = .ok (.getfield 25, 3) := by decide +kernel
theorem dX0_takeOut_57 : decode cX0_takeOut 57 = .ok (.aload_n 0, 1) := by decide +kernel
theorem dX0_takeOut_58 : decode cX0_takeOut 58 = .ok (.getfield 18, 3) := by decide +kernel
theorem dX0_takeOut_61 : decode cX0_takeOut 61 = .ok (.aastore, 1) := by decide +kernel
theorem dX0_takeOut_62 : decode cX0_takeOut 62 = .ok (.aload_n 0, 1) := by decide +kernel
theorem dX0_takeOut_63 : decode cX0_takeOut 63 = .ok (.aload_n 2, 1) := by decide +kernel
theorem dX0_takeOut_64 : decode cX0_takeOut 64 = .ok (.putfield 18, 3) := by decide +kernel
theorem dX0_takeOut_67 : decode cX0_takeOut 67 = .ok (.aload_n 2, 1) := by decide +kernel
theorem dX0_takeOut_68 : decode cX0_takeOut 68 = .ok (.areturn, 1) := by decide +kernel
set_option maxHeartbeats 8000000 in
set_option maxRecDepth 100000 in
theorem t_X0_takeOut (l : Launch) (E : EE) (z0 : Nat) (G : Nat → Nat) (hGz : ∀ q, G q ≠ 0 → z0 ≤ q) (h0 : Nat) (p0 : Int32) (hG : G h0 = 4) (e0 : Nat) (e1 : Int32) (e2 : Nat) (e3 : Nat) (ge0 : G e0 = 30) (ge2 : G e2 = 31) (ge3 : G e3 = 31) (be1 : (0 ≤ e1.toInt ∧ e1.toInt ≤ 24)) (hy0 : 0 ≤ p0.toInt ∧ p0.toInt ≤ 23) (hy1 : p0.toInt < e1.toInt) : Met l yX0_takeOut [Cond.code yX0_takeOut cX0_takeOut 4 (some (.object "RemoteReach$Packet"))] ({ frames := 0, cells := 0, slots := 0, locals := 0 } : Room) (va_Pc [.ref h0, .int p0] (fun U => (TH E (T1 E) G [] U.heap ∧ va_at (DG E) vwCl (h0, .inr (0, [.ref e0, .int e1, .ref e2, .ref e3])) U.heap) ∧ KS E z0 U)) (va_Qr (fun (_ : Unit) => True) (fun _ ra t => G ra = 31 ∧ TH E (T1 E) G [] t.heap) (fun q : Nat => G q ∈ ([4, 30] : List Nat))) 0 0 (fun q : Nat => G q ∈ ([4, 30] : List Nat)) := by
  refine Met.ofW (cc := cX0_takeOut) (maxL := 4) (ret := (some (.object "RemoteReach$Packet"))) (by decide) rfl ?_
  intro p e s m args below meth c s₁ B hml hv
  obtain ⟨rfl, ⟨hT, hx0⟩, hK⟩ := hv
  have hx := B.exec
  have hb := B.bytes
  have hr := B.returns
  have hts : ∀ w ∈ TS, w.before ([.ref h0, .int p0] : List Value).toArray s = true := fun w hw => hK.2.1 w hw _
  have hown : s.vm.findClass RX0 = some m.cls := findClass_of_methodNamed B.named
  have hlocks := B.notSynchronized
  have hS : va_S (fun q : Nat => G q ∈ ([4, 30] : List Nat)) s.heap s.heap [] := va_S.rf
  have hAz : ∀ q, (fun q : Nat => G q ∈ ([4, 30] : List Nat)) q → z0 ≤ q := zL hGz (by decide)
  have hl := lv_entry ([.ref h0, .int p0]) (n := 4) (Nat.le_of_ble_eq_true rfl)
  rw [lg_entry_eq]
  generalize (lg_sl ([.ref h0, .int p0]) ++ List.replicate (4 - (lg_sl ([.ref h0, .int p0])).length) Slot.unset).toArray = ls at hl ⊢
  have hl : lv_has ls 4 [(0, .ref h0), (1, .int p0)] := hl
  refine lv_aload_n hx hb dX0_takeOut_0 rfl (lv_at hl 0 rfl) ?_
  refine va_get (D := DG E) (ci := 0) (v := .ref e0) (C := RX0) (T := TX0) (N := 4) hx hb hts iw_X0 hown hK.1 (va_one hx0) 0 rfl rfl 0 (by decide) (hts _ fl_X0_11) (fun _ h9 => h9) rfl dX0_takeOut_1 ?_
  refine lv_iload_n hx hb dX0_takeOut_4 rfl (lv_at hl 1 rfl) ?_
  obtain ⟨f_1, ha_1, he_1⟩ := tr_30 hT ge0
  obtain ⟨j_2, hj_2, ej_2⟩ := vp_in_of (show vp_in p0 24 from vp_in_iff.mpr (by omega)) (by decide)
  obtain ⟨b_2, eb_2, gb_2⟩ := he_1 j_2 hj_2
  have cj_2 : f_1 (p0 : Int32).toNatClampNeg = some b_2 := by rw [ej_2, nI_clamp (by omega)]; exact eb_2
  refine va_aldq (D := DG E) hx hb hK.1 (va_one ha_1) 0 7 rfl rfl (show vp_in p0 24 from vp_in_iff.mpr (by omega)) dX0_takeOut_5 ?_
  rw [cj_2]
  refine W.eq (g2 := F0 m 6 ls [.ref b_2]) (by rfl) ?_
  refine lv_astore_n (lv' := [(2, .ref b_2), (0, .ref h0), (1, .int p0)]) hx hb dX0_takeOut_6 rfl hl (by decide) rfl (fun ls hl => ?_)
  refine lv_iload_n hx hb dX0_takeOut_7 rfl (lv_at hl 2 rfl) ?_
  refine lv_iconst (v := 1) hx hb dX0_takeOut_8 (by decide) ?_
  refine lv_iadd hx hb dX0_takeOut_9 ?_
  refine lv_topi (fun x_3 ex_3 => ?_)
  have fx_3 : x_3.toInt = p0.toInt + 1 := by have h9 := s_add (x := p0) (y := 1) (by rw [i_1]; omega) (by rw [i_1]; omega); rw [i_1] at h9; rw [ex_3]; exact h9
  refine lv_istore_n (lv' := [(3, .int x_3), (2, .ref b_2), (0, .ref h0), (1, .int p0)]) hx hb dX0_takeOut_10 rfl hl (by decide) rfl (fun ls hl => ?_)
  refine lp_nat (fun n H locs ls => ∃ i9 : Int32, (1 ≤ i9.toInt ∧ i9.toInt ≤ 24) ∧ (e1.toInt + 1 - i9.toInt).toNat = n ∧ TH E (T1 E) G [] H ∧ va_S (fun q : Nat => G q ∈ ([4, 30] : List Nat)) s.heap H locs ∧ va_at (DG E) vwCl (h0, .inr (0, [.ref e0, .int e1, .ref e2, .ref e3])) H ∧ lv_has ls 4 [(3, .int i9), (2, .ref b_2), (0, .ref h0), (1, .int p0)]) (fun n H locs ls ih hI => ?_) ⟨x_3, by omega, rfl, hT, hS, hx0, hl⟩
  obtain ⟨i9, hi9, hn9, hT, hS, hx0, hl⟩ := hI
  refine lv_iload_n hx hb dX0_takeOut_11 rfl (lv_at hl 0 rfl) ?_
  refine lv_aload_n hx hb dX0_takeOut_12 rfl (lv_at hl 2 rfl) ?_
  refine va_get (D := DG E) (ci := 0) (v := .int e1) (C := RX0) (T := TX0) (N := 4) hx hb hts iw_X0 hown hK.1 (va_one hx0) 0 rfl rfl 1 (by decide) (hts _ fl_X0_25) (fun _ h9 => h9) rfl dX0_takeOut_13 ?_
  refine lv_icmp_ge (tgt := 39) hx hb dX0_takeOut_16 (by decide) (fun c_4 => ?_) (fun c_4 => ?_)
  · simp only [lt_I, le_I, eq_I, i_0, i_1, i_2, i_3, i_4, i_5, i_6, i_7, i_8, i_10, i_12, i_16, i_20, i_23, i_24, i_31, i_32, i_63, i_64, i_m1] at c_4
    refine lv_aload_n hx hb dX0_takeOut_39 rfl (lv_at hl 2 rfl) ?_
    refine lv_dup hx hb dX0_takeOut_40 rfl ?_
    refine va_get (D := DG E) (ci := 0) (v := .int e1) (C := RX0) (T := TX0) (N := 4) hx hb hts iw_X0 hown hK.1 (va_one hx0) 0 rfl rfl 1 (by decide) (hts _ fl_X0_25) (fun _ h9 => h9) rfl dX0_takeOut_41 ?_
    refine lv_iconst (v := 1) hx hb dX0_takeOut_44 (by decide) ?_
    refine lv_isub hx hb dX0_takeOut_45 ?_
    refine lv_topi (fun x_5 ex_5 => ?_)
    have fx_5 : x_5.toInt = e1.toInt - 1 := by have h9 := s_sub (x := e1) (y := 1) (by rw [i_1]; omega) (by rw [i_1]; omega); rw [i_1] at h9; rw [ex_5]; exact h9
    refine rr_put (D := DG E) (ci := 0) (v := .int x_5) (ty := .int) (C := RX0) (T := TX0) (N := 4) hx hb hts iw_X0 tyX0 tyX0_ok nmX0 hown hK.1 hx0 hS (by show G h0 ∈ ([4, 30] : List Nat); rw [hG]; decide) rfl 1 (by decide) (hts _ fl_X0_25) (fun _ h9 => h9) rfl (by decide +kernel) rfl rfl (Nat.le_of_ble_eq_true rfl) dX0_takeOut_46 (fun H locs hn ho hz hS => ?_)
    have hr_6 : va_at (DG E) vwCl (h0, .inr (0, [.ref e0, .int x_5, .ref e2, .ref e3])) H := hn
    have hT : TH E (T1 E) G [] H := hT.set hG (show T1 E G 4 _ from ⟨e0, x_5, e2, e3, rfl, ge0, (by omega), ge2, ge3⟩) hr_6 ho
    refine lv_aload_n hx hb dX0_takeOut_49 rfl (lv_at hl 2 rfl) ?_
    refine va_get (D := DG E) (ci := 0) (v := .ref e0) (C := RX0) (T := TX0) (N := 4) hx hb hts iw_X0 hown hK.1 (va_one hr_6) 0 rfl rfl 0 (by decide) (hts _ fl_X0_11) (fun _ h9 => h9) rfl dX0_takeOut_50 ?_
    refine lv_aload_n hx hb dX0_takeOut_53 rfl (lv_at hl 2 rfl) ?_
    refine va_get (D := DG E) (ci := 0) (v := .int x_5) (C := RX0) (T := TX0) (N := 4) hx hb hts iw_X0 hown hK.1 (va_one hr_6) 0 rfl rfl 1 (by decide) (hts _ fl_X0_25) (fun _ h9 => h9) rfl dX0_takeOut_54 ?_
    refine lv_aload_n hx hb dX0_takeOut_57 rfl (lv_at hl 2 rfl) ?_
    refine va_get (D := DG E) (ci := 0) (v := .ref e2) (C := RX0) (T := TX0) (N := 4) hx hb hts iw_X0 hown hK.1 (va_one hr_6) 0 rfl rfl 2 (by decide) (hts _ fl_X0_18) (fun _ h9 => h9) rfl dX0_takeOut_58 ?_
    obtain ⟨f_7, ha_7, he_7⟩ := tr_30 hT ge0
    obtain ⟨v0_8, v1_8, v2_8, v3_8, v4_8, v5_8, v6_8, v7_8, ha_8, hb0_8, hb3_8, hg7_8⟩ := tr_31 hT ge2
    refine rr_aast (D := DG E) hx hb hK.1 7 2 ha_7 hS (by show G e0 ∈ ([4, 30] : List Nat); rw [ge0]; decide) rfl ha_8 rfl (show vp_in x_5 24 from vp_in_iff.mpr (by omega)) dX0_takeOut_61 (fun H locs hn ho hz hS => ?_)
    have hT : TH E (T1 E) G [] H := hT.set ge0 (show T1 E G 30 _ from ⟨_, rfl, af_upd he_7 ge2⟩) hn ho
    have hr_6 := hr_6.kept (ho _ (ne_G hG ge0 (by decide)))
    have ha_8 := ha_8.kept (ho _ (ne_G ge2 ge0 (by decide)))
    refine lv_aload_n hx hb dX0_takeOut_62 rfl (lv_at hl 2 rfl) ?_
    refine lv_aload_n hx hb dX0_takeOut_63 rfl (lv_at hl 1 rfl) ?_
    refine rr_put (D := DG E) (ci := 0) (v := .ref b_2) (ty := .object "RemoteReach$Packet") (C := RX0) (T := TX0) (N := 4) hx hb hts iw_X0 tyX0 tyX0_ok nmX0 hown hK.1 hr_6 hS (by show G h0 ∈ ([4, 30] : List Nat); rw [hG]; decide) rfl 2 (by decide) (hts _ fl_X0_18) (fun _ h9 => h9) rfl (by decide +kernel) rfl rfl (Nat.le_of_ble_eq_true rfl) dX0_takeOut_64 (fun H locs hn ho hz hS => ?_)
    have hr_9 : va_at (DG E) vwCl (h0, .inr (0, [.ref e0, .int x_5, .ref b_2, .ref e3])) H := hn
    have hT : TH E (T1 E) G [] H := hT.set hG (show T1 E G 4 _ from ⟨e0, x_5, b_2, e3, rfl, ge0, (by omega), gb_2, ge3⟩) hr_9 ho
    have ha_8 := ha_8.kept (ho _ (ne_G ge2 hG (by decide)))
    refine lv_aload_n hx hb dX0_takeOut_67 rfl (lv_at hl 1 rfl) ?_
    exact W.aret (v := .ref b_2) hx hb hr (Or.inl ⟨_, rfl⟩) (Or.inr ⟨_, rfl⟩) (fun t ht hW => ⟨⟨(), b_2, rfl, trivial, ⟨gb_2, (by show TH E (T1 E) G [] t.heap; rw [ht]; exact hT)⟩⟩, hS.F ht⟩) hS.2.2 dX0_takeOut_68
  · simp only [lt_I, le_I, eq_I, i_0, i_1, i_2, i_3, i_4, i_5, i_6, i_7, i_8, i_10, i_12, i_16, i_20, i_23, i_24, i_31, i_32, i_63, i_64, i_m1] at c_4
    refine lv_aload_n hx hb dX0_takeOut_19 rfl (lv_at hl 2 rfl) ?_
    refine va_get (D := DG E) (ci := 0) (v := .ref e0) (C := RX0) (T := TX0) (N := 4) hx hb hts iw_X0 hown hK.1 (va_one hx0) 0 rfl rfl 0 (by decide) (hts _ fl_X0_11) (fun _ h9 => h9) rfl dX0_takeOut_20 ?_
    refine lv_iload_n hx hb dX0_takeOut_23 rfl (lv_at hl 0 rfl) ?_
    refine lv_iconst (v := 1) hx hb dX0_takeOut_24 (by decide) ?_
    refine lv_isub hx hb dX0_takeOut_25 ?_
    refine lv_topi (fun x_10 ex_10 => ?_)
    have fx_10 : x_10.toInt = i9.toInt - 1 := by have h9 := s_sub (x := i9) (y := 1) (by rw [i_1]; omega) (by rw [i_1]; omega); rw [i_1] at h9; rw [ex_10]; exact h9
    refine lv_aload_n hx hb dX0_takeOut_26 rfl (lv_at hl 2 rfl) ?_
    refine va_get (D := DG E) (ci := 0) (v := .ref e0) (C := RX0) (T := TX0) (N := 4) hx hb hts iw_X0 hown hK.1 (va_one hx0) 0 rfl rfl 0 (by decide) (hts _ fl_X0_11) (fun _ h9 => h9) rfl dX0_takeOut_27 ?_
    refine lv_iload_n hx hb dX0_takeOut_30 rfl (lv_at hl 0 rfl) ?_
    obtain ⟨f_11, ha_11, he_11⟩ := tr_30 hT ge0
    obtain ⟨j_12, hj_12, ej_12⟩ := vp_in_of (show vp_in i9 24 from vp_in_iff.mpr (by omega)) (by decide)
    obtain ⟨b_12, eb_12, gb_12⟩ := he_11 j_12 hj_12
    have cj_12 : f_11 (i9 : Int32).toNatClampNeg = some b_12 := by rw [ej_12, nI_clamp (by omega)]; exact eb_12
    refine va_aldq (D := DG E) hx hb hK.1 (va_one ha_11) 0 7 rfl rfl (show vp_in i9 24 from vp_in_iff.mpr (by omega)) dX0_takeOut_31 ?_
    rw [cj_12]
    refine W.eq (g2 := F0 m 32 ls [.ref b_12, .int x_10, .ref e0]) (by rfl) ?_
    obtain ⟨v0_13, v1_13, v2_13, v3_13, v4_13, v5_13, v6_13, v7_13, ha_13, hb0_13, hb3_13, hg7_13⟩ := tr_31 hT gb_12
    refine rr_aast (D := DG E) hx hb hK.1 7 2 ha_11 hS (by show G e0 ∈ ([4, 30] : List Nat); rw [ge0]; decide) rfl ha_13 rfl (show vp_in x_10 24 from vp_in_iff.mpr (by omega)) dX0_takeOut_32 (fun H locs hn ho hz hS => ?_)
    have hT : TH E (T1 E) G [] H := hT.set ge0 (show T1 E G 30 _ from ⟨_, rfl, af_upd he_11 gb_12⟩) hn ho
    have hx0 := hx0.kept (ho _ (ne_G hG ge0 (by decide)))
    have ha_13 := ha_13.kept (ho _ (ne_G gb_12 ge0 (by decide)))
    obtain ⟨x_14, ex_14⟩ : ∃ z : Int32, i9 + Int32.ofInt 1 = z := ⟨_, rfl⟩
    have fx_14 : x_14.toInt = i9.toInt + 1 := by have h9 := s_add (x := i9) (y := 1) (by rw [i_1]; omega) (by rw [i_1]; omega); rw [i_1] at h9; rw [← ex_14]; exact h9
    refine lv_iinc (v := x_14) (lv' := [(3, .int x_14), (2, .ref b_2), (0, .ref h0), (1, .int p0)]) hx hb dX0_takeOut_33 hl (k := 0) rfl ex_14 (by decide) rfl (fun ls hl => ?_)
    refine lv_goto (tgt := 11) hx hb dX0_takeOut_36 (by decide) ?_
    exact ih _ (by omega) _ _ _ ⟨x_14, by omega, rfl, hT, hS, hx0, hl⟩
theorem dX0_copyToEnd_0 : decode cX0_copyToEnd 0 = .ok (.aload_n 0, 1) := by decide +kernel
theorem dX0_copyToEnd_1 : decode cX0_copyToEnd 1 = .ok (.getfield 11, 3) := by decide +kernel
theorem dX0_copyToEnd_4 : decode cX0_copyToEnd 4 = .ok (.aload_n 0, 1) := by decide +kernel
theorem dX0_copyToEnd_5 : decode cX0_copyToEnd 5 = .ok (.getfield 25, 3) := by decide +kernel
theorem dX0_copyToEnd_8 : decode cX0_copyToEnd 8 = .ok (.aaload, 1) := by decide +kernel
theorem dX0_copyToEnd_9 : decode cX0_copyToEnd 9 = .ok (.aload_n 0, 1) := by decide +kernel
theorem dX0_copyToEnd_10 : decode cX0_copyToEnd 10 = .ok (.getfield 11, 3) := by decide +kernel
theorem dX0_copyToEnd_13 : decode cX0_copyToEnd 13 = .ok (.iload_n 1, 1) := by decide +kernel
theorem dX0_copyToEnd_14 : decode cX0_copyToEnd 14 = .ok (.aaload, 1) := by decide +kernel
theorem dX0_copyToEnd_15 : decode cX0_copyToEnd 15 = .ok (.invokevirtual 37, 3) := by decide +kernel
theorem dX0_copyToEnd_18 : decode cX0_copyToEnd 18 = .ok (.aload_n 0, 1) := by decide +kernel
theorem dX0_copyToEnd_19 : decode cX0_copyToEnd 19 = .ok (.dup, 1) := by decide +kernel
theorem dX0_copyToEnd_20 : decode cX0_copyToEnd 20 = .ok (.getfield 25, 3) := by decide +kernel
theorem dX0_copyToEnd_23 : decode cX0_copyToEnd 23 = .ok (.iconst 1, 1) := by decide +kernel
theorem dX0_copyToEnd_24 : decode cX0_copyToEnd 24 = .ok (.iadd, 1) := by decide +kernel
theorem dX0_copyToEnd_25 : decode cX0_copyToEnd 25 = .ok (.putfield 25, 3) := by decide +kernel
theorem dX0_copyToEnd_28 : decode cX0_copyToEnd 28 = .ok (.return_, 1) := by decide +kernel
set_option maxHeartbeats 8000000 in
set_option maxRecDepth 100000 in
theorem t_X0_copyToEnd (l : Launch) (E : EE) (z0 : Nat) (G : Nat → Nat) (hGz : ∀ q, G q ≠ 0 → z0 ≤ q) (h0 : Nat) (p0 : Int32) (hG : G h0 = 4) (e0 : Nat) (e1 : Int32) (e2 : Nat) (e3 : Nat) (ge0 : G e0 = 30) (ge2 : G e2 = 31) (ge3 : G e3 = 31) (be1 : (0 ≤ e1.toInt ∧ e1.toInt ≤ 24)) (hy0 : 0 ≤ p0.toInt ∧ p0.toInt ≤ 23) (hy1 : e1.toInt ≤ 23) : Met l yX0_copyToEnd [Cond.code yX0_copyToEnd cX0_copyToEnd 2 none] ({ frames := 2, cells := 0, slots := 0, locals := 45 } : Room) (va_Pc [.ref h0, .int p0] (fun U => (TH E (T1 E) G [] U.heap ∧ va_at (DG E) vwCl (h0, .inr (0, [.ref e0, .int e1, .ref e2, .ref e3])) U.heap) ∧ KS E z0 U)) (va_Qv (fun (_ : Unit) => True) (fun _ t => TH E (T1 E) G [] t.heap) (fun q : Nat => G q ∈ ([4, 31, 32] : List Nat))) 0 0 (fun q : Nat => G q ∈ ([4, 31, 32] : List Nat)) := by
  refine Met.ofW (cc := cX0_copyToEnd) (maxL := 2) (ret := none) (by decide) rfl ?_
  intro p e s m args below meth c s₁ B hml hv
  obtain ⟨rfl, ⟨hT, hx0⟩, hK⟩ := hv
  have hx := B.exec
  have hb := B.bytes
  have hr := B.returns
  have hts : ∀ w ∈ TS, w.before ([.ref h0, .int p0] : List Value).toArray s = true := fun w hw => hK.2.1 w hw _
  have hown : s.vm.findClass RX0 = some m.cls := findClass_of_methodNamed B.named
  have hlocks := B.notSynchronized
  have hS : va_S (fun q : Nat => G q ∈ ([4, 31, 32] : List Nat)) s.heap s.heap [] := va_S.rf
  have hAz : ∀ q, (fun q : Nat => G q ∈ ([4, 31, 32] : List Nat)) q → z0 ≤ q := zL hGz (by decide)
  have hl := lv_entry ([.ref h0, .int p0]) (n := 2) (Nat.le_of_ble_eq_true rfl)
  rw [lg_entry_eq]
  generalize (lg_sl ([.ref h0, .int p0]) ++ List.replicate (2 - (lg_sl ([.ref h0, .int p0])).length) Slot.unset).toArray = ls at hl ⊢
  have hl : lv_has ls 2 [(0, .ref h0), (1, .int p0)] := hl
  refine lv_aload_n hx hb dX0_copyToEnd_0 rfl (lv_at hl 0 rfl) ?_
  refine va_get (D := DG E) (ci := 0) (v := .ref e0) (C := RX0) (T := TX0) (N := 4) hx hb hts iw_X0 hown hK.1 (va_one hx0) 0 rfl rfl 0 (by decide) (hts _ fl_X0_11) (fun _ h9 => h9) rfl dX0_copyToEnd_1 ?_
  refine lv_aload_n hx hb dX0_copyToEnd_4 rfl (lv_at hl 0 rfl) ?_
  refine va_get (D := DG E) (ci := 0) (v := .int e1) (C := RX0) (T := TX0) (N := 4) hx hb hts iw_X0 hown hK.1 (va_one hx0) 0 rfl rfl 1 (by decide) (hts _ fl_X0_25) (fun _ h9 => h9) rfl dX0_copyToEnd_5 ?_
  obtain ⟨f_1, ha_1, he_1⟩ := tr_30 hT ge0
  obtain ⟨j_2, hj_2, ej_2⟩ := vp_in_of (show vp_in e1 24 from vp_in_iff.mpr (by omega)) (by decide)
  obtain ⟨b_2, eb_2, gb_2⟩ := he_1 j_2 hj_2
  have cj_2 : f_1 (e1 : Int32).toNatClampNeg = some b_2 := by rw [ej_2, nI_clamp (by omega)]; exact eb_2
  refine va_aldq (D := DG E) hx hb hK.1 (va_one ha_1) 0 7 rfl rfl (show vp_in e1 24 from vp_in_iff.mpr (by omega)) dX0_copyToEnd_8 ?_
  rw [cj_2]
  refine W.eq (g2 := F0 m 9 ls [.ref b_2]) (by rfl) ?_
  refine lv_aload_n hx hb dX0_copyToEnd_9 rfl (lv_at hl 0 rfl) ?_
  refine va_get (D := DG E) (ci := 0) (v := .ref e0) (C := RX0) (T := TX0) (N := 4) hx hb hts iw_X0 hown hK.1 (va_one hx0) 0 rfl rfl 0 (by decide) (hts _ fl_X0_11) (fun _ h9 => h9) rfl dX0_copyToEnd_10 ?_
  refine lv_iload_n hx hb dX0_copyToEnd_13 rfl (lv_at hl 1 rfl) ?_
  obtain ⟨j_3, hj_3, ej_3⟩ := vp_in_of (show vp_in p0 24 from vp_in_iff.mpr (by omega)) (by decide)
  obtain ⟨b_3, eb_3, gb_3⟩ := he_1 j_3 hj_3
  have cj_3 : f_1 (p0 : Int32).toNatClampNeg = some b_3 := by rw [ej_3, nI_clamp (by omega)]; exact eb_3
  refine va_aldq (D := DG E) hx hb hK.1 (va_one ha_1) 0 7 rfl rfl (show vp_in p0 24 from vp_in_iff.mpr (by omega)) dX0_copyToEnd_14 ?_
  rw [cj_3]
  refine W.eq (g2 := F0 m 15 ls [.ref b_3, .ref b_2]) (by rfl) ?_
  obtain ⟨v0_4, v1_4, v2_4, v3_4, v4_4, v5_4, v6_4, v7_4, ha_4, hb0_4, hb3_4, hg7_4⟩ := tr_31 hT gb_2
  refine va_callv (rnV (fun H => TH E (T1 E) G [] H) (As := [.ref b_3]) (rest := []) ⟨hx, hb, hml, hown, hts⟩ (t_X2_becomeLike l E z0 G hGz b_2 b_3 gb_2 gb_3) (cwV 1 hts (gdV ml_X0_37 im_X2_becomeLike se_X2_X2_becomeLike in_X2 co_X2_becomeLike rfl) rfl rfl rfl (by decide +kernel) ⟨Nat.le_of_ble_eq_true rfl, Nat.le_of_ble_eq_true rfl⟩) hT (fun U hU hW => hK.go hW hS hAz hU) (va_recv hK.1 (va_one ha_4) (ci := 2) (q0 := 0) rfl rfl) rfl rfl hl.1 rfl (lv_room (Nat.le_of_ble_eq_true rfl)) dX0_copyToEnd_15 ⟨Nat.le_of_ble_eq_true rfl, Nat.le_of_ble_eq_true rfl⟩) hS (fun q _ h => mL (L' := [31, 32]) (L := [4, 31, 32]) (by decide) h) (fun q h => mL (L' := [31, 32]) (L := [4, 31, 32]) (by decide) h) (fun _ t H locs ht hvm hwr_5 hB hz hk hS => ?_)
  have hT : TH E (T1 E) G [] H := by rw [ht] at hB; exact hB
  have hx0 := hx0.kept (hk _ hx0.lt (nL hG (by decide)))
  have ha_1 := ha_1.kept (hk _ ha_1.lt (nL ge0 (by decide)))
  refine lv_aload_n hx hb dX0_copyToEnd_18 rfl (lv_at hl 0 rfl) ?_
  refine lv_dup hx hb dX0_copyToEnd_19 rfl ?_
  refine va_get (D := DG E) (ci := 0) (v := .int e1) (C := RX0) (T := TX0) (N := 4) hx hb hts iw_X0 hown hK.1 (va_one hx0) 0 rfl rfl 1 (by decide) (hts _ fl_X0_25) (fun _ h9 => h9) rfl dX0_copyToEnd_20 ?_
  refine lv_iconst (v := 1) hx hb dX0_copyToEnd_23 (by decide) ?_
  refine lv_iadd hx hb dX0_copyToEnd_24 ?_
  refine lv_topi (fun x_6 ex_6 => ?_)
  have fx_6 : x_6.toInt = e1.toInt + 1 := by have h9 := s_add (x := e1) (y := 1) (by rw [i_1]; omega) (by rw [i_1]; omega); rw [i_1] at h9; rw [ex_6]; exact h9
  refine rr_put (D := DG E) (ci := 0) (v := .int x_6) (ty := .int) (C := RX0) (T := TX0) (N := 4) hx hb hts iw_X0 tyX0 tyX0_ok nmX0 hown hK.1 hx0 hS (by show G h0 ∈ ([4, 31, 32] : List Nat); rw [hG]; decide) rfl 1 (by decide) (hts _ fl_X0_25) (fun _ h9 => h9) rfl (by decide +kernel) rfl rfl (Nat.le_of_ble_eq_true rfl) dX0_copyToEnd_25 (fun H locs hn ho hz hS => ?_)
  have hr_7 : va_at (DG E) vwCl (h0, .inr (0, [.ref e0, .int x_6, .ref e2, .ref e3])) H := hn
  have hT : TH E (T1 E) G [] H := hT.set hG (show T1 E G 4 _ from ⟨e0, x_6, e2, e3, rfl, ge0, (by omega), ge2, ge3⟩) hr_7 ho
  have ha_1 := ha_1.kept (ho _ (ne_G ge0 hG (by decide)))
  exact W.vret hx hb hr (fun t ht hW => ⟨⟨(), rfl, trivial, (by show TH E (T1 E) G [] t.heap; rw [ht]; exact hT)⟩, hS.F ht⟩) hS.2.2 dX0_copyToEnd_28
theorem dX4_cellsOf_0 : decode cX4_cellsOf 0 = .ok (.iconst 4, 1) := by decide +kernel
theorem dX4_cellsOf_1 : decode cX4_cellsOf 1 = .ok (.aload_n 0, 1) := by decide +kernel
theorem dX4_cellsOf_2 : decode cX4_cellsOf 2 = .ok (.getfield 9, 3) := by decide +kernel
theorem dX4_cellsOf_5 : decode cX4_cellsOf 5 = .ok (.iconst 4, 1) := by decide +kernel
theorem dX4_cellsOf_6 : decode cX4_cellsOf 6 = .ok (.iload_n 1, 1) := by decide +kernel
theorem dX4_cellsOf_7 : decode cX4_cellsOf 7 = .ok (.imul, 1) := by decide +kernel
theorem dX4_cellsOf_8 : decode cX4_cellsOf 8 = .ok (.isub, 1) := by decide +kernel
theorem dX4_cellsOf_9 : decode cX4_cellsOf 9 = .ok (.invokestatic 15, 3) := by decide +kernel
theorem dX4_cellsOf_12 : decode cX4_cellsOf 12 = .ok (.ireturn, 1) := by decide +kernel
set_option maxHeartbeats 8000000 in
set_option maxRecDepth 100000 in
theorem t_X4_cellsOf (l : Launch) (E : EE) (z0 : Nat) (G : Nat → Nat) (hGz : ∀ q, G q ≠ 0 → z0 ≤ q) (h0 : Nat) (p0 : Int32) (hG : G h0 = 13) : Met l yX4_cellsOf [Cond.code yX4_cellsOf cX4_cellsOf 2 (some .int)] ({ frames := 1, cells := 0, slots := 0, locals := 21 } : Room) (va_Pc [.ref h0, .int p0] (fun U => (TH E (T1 E) G [] U.heap) ∧ KS E z0 U)) (va_Qi (fun (r : Int32) (_ : Unit) => True) (fun _ t => True) (fun _ : Nat => False)) 0 0 (fun _ : Nat => False) := by
  refine Met.ofW (cc := cX4_cellsOf) (maxL := 2) (ret := (some .int)) (by decide) rfl ?_
  intro p e s m args below meth c s₁ B hml hv
  obtain ⟨rfl, hT, hK⟩ := hv
  have hx := B.exec
  have hb := B.bytes
  have hr := B.returns
  have hts : ∀ w ∈ TS, w.before ([.ref h0, .int p0] : List Value).toArray s = true := fun w hw => hK.2.1 w hw _
  have hown : s.vm.findClass RX4 = some m.cls := findClass_of_methodNamed B.named
  have hlocks := B.notSynchronized
  have hS : va_S (fun _ : Nat => False) s.heap s.heap [] := va_S.rf
  have hAz : ∀ q, (fun _ : Nat => False) q → z0 ≤ q := fun _ h => h.elim
  have hl := lv_entry ([.ref h0, .int p0]) (n := 2) (Nat.le_of_ble_eq_true rfl)
  rw [lg_entry_eq]
  generalize (lg_sl ([.ref h0, .int p0]) ++ List.replicate (2 - (lg_sl ([.ref h0, .int p0])).length) Slot.unset).toArray = ls at hl ⊢
  have hl : lv_has ls 2 [(0, .ref h0), (1, .int p0)] := hl
  refine lv_iconst (v := 4) hx hb dX4_cellsOf_0 (by decide) ?_
  refine lv_aload_n hx hb dX4_cellsOf_1 rfl (lv_at hl 0 rfl) ?_
  obtain ⟨v0_1, v1_1, v2_1, v3_1, v4_1, v5_1, v6_1, v7_1, v8_1, v9_1, ha_1, hb3_1⟩ := tr_13 hT hG
  refine va_get (D := DG E) (ci := 4) (v := .int v3_1) (C := RX4) (T := TX4) (N := 10) hx hb hts iw_X4 hown hK.1 (va_one ha_1) 0 rfl rfl 3 (by decide) (hts _ fl_X4_9) (fun _ h9 => h9) rfl dX4_cellsOf_2 ?_
  refine lv_iconst (v := 4) hx hb dX4_cellsOf_5 (by decide) ?_
  refine lv_iload_n hx hb dX4_cellsOf_6 rfl (lv_at hl 1 rfl) ?_
  refine lv_imul hx hb dX4_cellsOf_7 ?_
  refine lv_topi (fun x_2 ex_2 => ?_)
  refine lv_isub hx hb dX4_cellsOf_8 ?_
  refine lv_topi (fun x_3 ex_3 => ?_)
  refine va_mmin hx hb (by rw [hml]; exact hl.1.symm) hown (hts _ ml_X4_15) (hts _ st_Math_min) (hts _ in_Math) (hts _ co_Math_min) (Nat.le_of_ble_eq_true rfl) (Nat.le_of_ble_eq_true rfl) (Nat.zero_le _) (Nat.zero_le _) dX4_cellsOf_9 ?_
  refine lv_topi (fun x_4 ex_4 => ?_)
  have fx_4 := s_min ex_4; rw [i_4] at fx_4
  exact W.iret (v := x_4) hx hb hr (fun t ht hW => ⟨⟨x_4, (), rfl, trivial, trivial⟩, hS.F ht⟩) hS.2.2 dX4_cellsOf_12
theorem dX4_isLastNumber_0 : decode cX4_isLastNumber 0 = .ok (.iload_n 1, 1) := by decide +kernel
theorem dX4_isLastNumber_1 : decode cX4_isLastNumber 1 = .ok (.aload_n 0, 1) := by decide +kernel
theorem dX4_isLastNumber_2 : decode cX4_isLastNumber 2 = .ok (.getfield 21, 3) := by decide +kernel
theorem dX4_isLastNumber_5 : decode cX4_isLastNumber 5 = .ok (.iconst 1, 1) := by decide +kernel
theorem dX4_isLastNumber_6 : decode cX4_isLastNumber 6 = .ok (.isub, 1) := by decide +kernel
theorem dX4_isLastNumber_7 : decode cX4_isLastNumber 7 = .ok (.if_icmp .ne 7, 3) := by decide +kernel
theorem dX4_isLastNumber_10 : decode cX4_isLastNumber 10 = .ok (.iconst 1, 1) := by decide +kernel
theorem dX4_isLastNumber_11 : decode cX4_isLastNumber 11 = .ok (.goto 4, 3) := by decide +kernel
theorem dX4_isLastNumber_14 : decode cX4_isLastNumber 14 = .ok (.iconst 0, 1) := by decide +kernel
theorem dX4_isLastNumber_15 : decode cX4_isLastNumber 15 = .ok (.ireturn, 1) := by decide +kernel
set_option maxHeartbeats 8000000 in
set_option maxRecDepth 100000 in
theorem t_X4_isLastNumber (l : Launch) (E : EE) (z0 : Nat) (G : Nat → Nat) (hGz : ∀ q, G q ≠ 0 → z0 ≤ q) (h0 : Nat) (p0 : Int32) (hG : G h0 = 13) : Met l yX4_isLastNumber [Cond.code yX4_isLastNumber cX4_isLastNumber 2 (some .boolean)] ({ frames := 0, cells := 0, slots := 0, locals := 0 } : Room) (va_Pc [.ref h0, .int p0] (fun U => (TH E (T1 E) G [] U.heap) ∧ KS E z0 U)) (va_Qi (fun (r : Int32) (_ : Unit) => r = 0 ∨ r = 1) (fun _ t => True) (fun _ : Nat => False)) 0 0 (fun _ : Nat => False) := by
  refine Met.ofW (cc := cX4_isLastNumber) (maxL := 2) (ret := (some .boolean)) (by decide) rfl ?_
  intro p e s m args below meth c s₁ B hml hv
  obtain ⟨rfl, hT, hK⟩ := hv
  have hx := B.exec
  have hb := B.bytes
  have hr := B.returns
  have hts : ∀ w ∈ TS, w.before ([.ref h0, .int p0] : List Value).toArray s = true := fun w hw => hK.2.1 w hw _
  have hown : s.vm.findClass RX4 = some m.cls := findClass_of_methodNamed B.named
  have hlocks := B.notSynchronized
  have hS : va_S (fun _ : Nat => False) s.heap s.heap [] := va_S.rf
  have hAz : ∀ q, (fun _ : Nat => False) q → z0 ≤ q := fun _ h => h.elim
  have hl := lv_entry ([.ref h0, .int p0]) (n := 2) (Nat.le_of_ble_eq_true rfl)
  rw [lg_entry_eq]
  generalize (lg_sl ([.ref h0, .int p0]) ++ List.replicate (2 - (lg_sl ([.ref h0, .int p0])).length) Slot.unset).toArray = ls at hl ⊢
  have hl : lv_has ls 2 [(0, .ref h0), (1, .int p0)] := hl
  refine lv_iload_n hx hb dX4_isLastNumber_0 rfl (lv_at hl 1 rfl) ?_
  refine lv_aload_n hx hb dX4_isLastNumber_1 rfl (lv_at hl 0 rfl) ?_
  obtain ⟨v0_1, v1_1, v2_1, v3_1, v4_1, v5_1, v6_1, v7_1, v8_1, v9_1, ha_1, hb3_1⟩ := tr_13 hT hG
  refine va_get (D := DG E) (ci := 4) (v := .int v5_1) (C := RX4) (T := TX4) (N := 10) hx hb hts iw_X4 hown hK.1 (va_one ha_1) 0 rfl rfl 5 (by decide) (hts _ fl_X4_21) (fun _ h9 => h9) rfl dX4_isLastNumber_2 ?_
  refine lv_iconst (v := 1) hx hb dX4_isLastNumber_5 (by decide) ?_
  refine lv_isub hx hb dX4_isLastNumber_6 ?_
  refine lv_topi (fun x_2 ex_2 => ?_)
  refine lv_icmp_ne (tgt := 14) hx hb dX4_isLastNumber_7 (by decide) (fun c_3 => ?_) (fun c_3 => ?_)
  · simp only [lt_I, le_I, eq_I, i_0, i_1, i_2, i_3, i_4, i_5, i_6, i_7, i_8, i_10, i_12, i_16, i_20, i_23, i_24, i_31, i_32, i_63, i_64, i_m1] at c_3
    refine lv_iconst (v := 0) hx hb dX4_isLastNumber_14 (by decide) ?_
    exact W.zret (v := 0) (ty := .boolean) hx hb hr rfl (fun t ht hW => ⟨⟨0, (), rfl, (by decide), trivial⟩, hS.F ht⟩) hS.2.2 dX4_isLastNumber_15
  · simp only [lt_I, le_I, eq_I, i_0, i_1, i_2, i_3, i_4, i_5, i_6, i_7, i_8, i_10, i_12, i_16, i_20, i_23, i_24, i_31, i_32, i_63, i_64, i_m1] at c_3
    refine lv_iconst (v := 1) hx hb dX4_isLastNumber_10 (by decide) ?_
    refine lv_goto (tgt := 15) hx hb dX4_isLastNumber_11 (by decide) ?_
    exact W.zret (v := 1) (ty := .boolean) hx hb hr rfl (fun t ht hW => ⟨⟨1, (), rfl, (by decide), trivial⟩, hS.F ht⟩) hS.2.2 dX4_isLastNumber_15
theorem dX4_awaitsReply_0 : decode cX4_awaitsReply 0 = .ok (.aload_n 0, 1) := by decide +kernel
theorem dX4_awaitsReply_1 : decode cX4_awaitsReply 1 = .ok (.getfield 24, 3) := by decide +kernel
theorem dX4_awaitsReply_4 : decode cX4_awaitsReply 4 = .ok (.iconst 2, 1) := by decide +kernel
theorem dX4_awaitsReply_5 : decode cX4_awaitsReply 5 = .ok (.if_icmp .eq 11, 3) := by decide +kernel
theorem dX4_awaitsReply_8 : decode cX4_awaitsReply 8 = .ok (.aload_n 0, 1) := by decide +kernel
theorem dX4_awaitsReply_9 : decode cX4_awaitsReply 9 = .ok (.getfield 24, 3) := by decide +kernel
theorem dX4_awaitsReply_12 : decode cX4_awaitsReply 12 = .ok (.iconst 3, 1) := by decide +kernel
theorem dX4_awaitsReply_13 : decode cX4_awaitsReply 13 = .ok (.if_icmp .ne 7, 3) := by decide +kernel
theorem dX4_awaitsReply_16 : decode cX4_awaitsReply 16 = .ok (.iconst 1, 1) := by decide +kernel
theorem dX4_awaitsReply_17 : decode cX4_awaitsReply 17 = .ok (.goto 4, 3) := by decide +kernel
theorem dX4_awaitsReply_20 : decode cX4_awaitsReply 20 = .ok (.iconst 0, 1) := by decide +kernel
theorem dX4_awaitsReply_21 : decode cX4_awaitsReply 21 = .ok (.ireturn, 1) := by decide +kernel
set_option maxHeartbeats 8000000 in
set_option maxRecDepth 100000 in
theorem t_X4_awaitsReply (l : Launch) (E : EE) (z0 : Nat) (G : Nat → Nat) (hGz : ∀ q, G q ≠ 0 → z0 ≤ q) (h0 : Nat) (hG : G h0 = 13) : Met l yX4_awaitsReply [Cond.code yX4_awaitsReply cX4_awaitsReply 1 (some .boolean)] ({ frames := 0, cells := 0, slots := 0, locals := 0 } : Room) (va_Pc [.ref h0] (fun U => (TH E (T1 E) G [] U.heap) ∧ KS E z0 U)) (va_Qi (fun (r : Int32) (_ : Unit) => r = 0 ∨ r = 1) (fun _ t => True) (fun _ : Nat => False)) 0 0 (fun _ : Nat => False) := by
  refine Met.ofW (cc := cX4_awaitsReply) (maxL := 1) (ret := (some .boolean)) (by decide) rfl ?_
  intro p e s m args below meth c s₁ B hml hv
  obtain ⟨rfl, hT, hK⟩ := hv
  have hx := B.exec
  have hb := B.bytes
  have hr := B.returns
  have hts : ∀ w ∈ TS, w.before ([.ref h0] : List Value).toArray s = true := fun w hw => hK.2.1 w hw _
  have hown : s.vm.findClass RX4 = some m.cls := findClass_of_methodNamed B.named
  have hlocks := B.notSynchronized
  have hS : va_S (fun _ : Nat => False) s.heap s.heap [] := va_S.rf
  have hAz : ∀ q, (fun _ : Nat => False) q → z0 ≤ q := fun _ h => h.elim
  have hl := lv_entry ([.ref h0]) (n := 1) (Nat.le_of_ble_eq_true rfl)
  rw [lg_entry_eq]
  generalize (lg_sl ([.ref h0]) ++ List.replicate (1 - (lg_sl ([.ref h0])).length) Slot.unset).toArray = ls at hl ⊢
  have hl : lv_has ls 1 [(0, .ref h0)] := hl
  refine lv_aload_n hx hb dX4_awaitsReply_0 rfl (lv_at hl 0 rfl) ?_
  obtain ⟨v0_1, v1_1, v2_1, v3_1, v4_1, v5_1, v6_1, v7_1, v8_1, v9_1, ha_1, hb3_1⟩ := tr_13 hT hG
  refine va_get (D := DG E) (ci := 4) (v := .int v0_1) (C := RX4) (T := TX4) (N := 10) hx hb hts iw_X4 hown hK.1 (va_one ha_1) 0 rfl rfl 0 (by decide) (hts _ fl_X4_24) (fun _ h9 => h9) rfl dX4_awaitsReply_1 ?_
  refine lv_iconst (v := 2) hx hb dX4_awaitsReply_4 (by decide) ?_
  refine lv_icmp_eq (tgt := 16) hx hb dX4_awaitsReply_5 (by decide) (fun c_2 => ?_) (fun c_2 => ?_)
  · simp only [lt_I, le_I, eq_I, i_0, i_1, i_2, i_3, i_4, i_5, i_6, i_7, i_8, i_10, i_12, i_16, i_20, i_23, i_24, i_31, i_32, i_63, i_64, i_m1] at c_2
    refine lv_iconst (v := 1) hx hb dX4_awaitsReply_16 (by decide) ?_
    refine lv_goto (tgt := 21) hx hb dX4_awaitsReply_17 (by decide) ?_
    exact W.zret (v := 1) (ty := .boolean) hx hb hr rfl (fun t ht hW => ⟨⟨1, (), rfl, (by decide), trivial⟩, hS.F ht⟩) hS.2.2 dX4_awaitsReply_21
  · simp only [lt_I, le_I, eq_I, i_0, i_1, i_2, i_3, i_4, i_5, i_6, i_7, i_8, i_10, i_12, i_16, i_20, i_23, i_24, i_31, i_32, i_63, i_64, i_m1] at c_2
    refine lv_aload_n hx hb dX4_awaitsReply_8 rfl (lv_at hl 0 rfl) ?_
    refine va_get (D := DG E) (ci := 4) (v := .int v0_1) (C := RX4) (T := TX4) (N := 10) hx hb hts iw_X4 hown hK.1 (va_one ha_1) 0 rfl rfl 0 (by decide) (hts _ fl_X4_24) (fun _ h9 => h9) rfl dX4_awaitsReply_9 ?_
    refine lv_iconst (v := 3) hx hb dX4_awaitsReply_12 (by decide) ?_
    refine lv_icmp_ne (tgt := 20) hx hb dX4_awaitsReply_13 (by decide) (fun c_3 => ?_) (fun c_3 => ?_)
    · simp only [lt_I, le_I, eq_I, i_0, i_1, i_2, i_3, i_4, i_5, i_6, i_7, i_8, i_10, i_12, i_16, i_20, i_23, i_24, i_31, i_32, i_63, i_64, i_m1] at c_3
      refine lv_iconst (v := 0) hx hb dX4_awaitsReply_20 (by decide) ?_
      exact W.zret (v := 0) (ty := .boolean) hx hb hr rfl (fun t ht hW => ⟨⟨0, (), rfl, (by decide), trivial⟩, hS.F ht⟩) hS.2.2 dX4_awaitsReply_21
    · simp only [lt_I, le_I, eq_I, i_0, i_1, i_2, i_3, i_4, i_5, i_6, i_7, i_8, i_10, i_12, i_16, i_20, i_23, i_24, i_31, i_32, i_63, i_64, i_m1] at c_3
      refine lv_iconst (v := 1) hx hb dX4_awaitsReply_16 (by decide) ?_
      refine lv_goto (tgt := 21) hx hb dX4_awaitsReply_17 (by decide) ?_
      exact W.zret (v := 1) (ty := .boolean) hx hb hr rfl (fun t ht hW => ⟨⟨1, (), rfl, (by decide), trivial⟩, hS.F ht⟩) hS.2.2 dX4_awaitsReply_21
theorem dX5_clear_0 : decode cX5_clear 0 = .ok (.aload_n 0, 1) := by decide +kernel
theorem dX5_clear_1 : decode cX5_clear 1 = .ok (.iconst 0, 1) := by decide +kernel
theorem dX5_clear_2 : decode cX5_clear 2 = .ok (.putfield 26, 3) := by decide +kernel
theorem dX5_clear_5 : decode cX5_clear 5 = .ok (.aload_n 0, 1) := by decide +kernel
theorem dX5_clear_6 : decode cX5_clear 6 = .ok (.iconst 0, 1) := by decide +kernel
theorem dX5_clear_7 : decode cX5_clear 7 = .ok (.putfield 29, 3) := by decide +kernel
theorem dX5_clear_10 : decode cX5_clear 10 = .ok (.aload_n 0, 1) := by decide +kernel
theorem dX5_clear_11 : decode cX5_clear 11 = .ok (.iconst 0, 1) := by decide +kernel
theorem dX5_clear_12 : decode cX5_clear 12 = .ok (.putfield 32, 3) := by decide +kernel
theorem dX5_clear_15 : decode cX5_clear 15 = .ok (.return_, 1) := by decide +kernel
set_option maxHeartbeats 8000000 in
set_option maxRecDepth 100000 in
theorem t_X5_clear (l : Launch) (E : EE) (z0 : Nat) (G : Nat → Nat) (hGz : ∀ q, G q ≠ 0 → z0 ≤ q) (h0 : Nat) (hG : G h0 = 11) : Met l yX5_clear [Cond.code yX5_clear cX5_clear 1 none] ({ frames := 0, cells := 0, slots := 0, locals := 0 } : Room) (va_Pc [.ref h0] (fun U => (TH E (T1 E) G [] U.heap) ∧ KS E z0 U)) (va_Qv (fun (_ : Unit) => True) (fun _ t => TH E (T1 E) G [] t.heap) (fun q : Nat => G q ∈ ([11] : List Nat))) 0 0 (fun q : Nat => G q ∈ ([11] : List Nat)) := by
  refine Met.ofW (cc := cX5_clear) (maxL := 1) (ret := none) (by decide) rfl ?_
  intro p e s m args below meth c s₁ B hml hv
  obtain ⟨rfl, hT, hK⟩ := hv
  have hx := B.exec
  have hb := B.bytes
  have hr := B.returns
  have hts : ∀ w ∈ TS, w.before ([.ref h0] : List Value).toArray s = true := fun w hw => hK.2.1 w hw _
  have hown : s.vm.findClass RX5 = some m.cls := findClass_of_methodNamed B.named
  have hlocks := B.notSynchronized
  have hS : va_S (fun q : Nat => G q ∈ ([11] : List Nat)) s.heap s.heap [] := va_S.rf
  have hAz : ∀ q, (fun q : Nat => G q ∈ ([11] : List Nat)) q → z0 ≤ q := zL hGz (by decide)
  have hl := lv_entry ([.ref h0]) (n := 1) (Nat.le_of_ble_eq_true rfl)
  rw [lg_entry_eq]
  generalize (lg_sl ([.ref h0]) ++ List.replicate (1 - (lg_sl ([.ref h0])).length) Slot.unset).toArray = ls at hl ⊢
  have hl : lv_has ls 1 [(0, .ref h0)] := hl
  refine lv_aload_n hx hb dX5_clear_0 rfl (lv_at hl 0 rfl) ?_
  refine lv_iconst (v := 0) hx hb dX5_clear_1 (by decide) ?_
  obtain ⟨v0_1, v1_1, v2_1, v3_1, v4_1, v5_1, ha_1, hg1_1, hg2_1, hb3_1, hb4_1⟩ := tr_11 hT hG
  refine rr_put (D := DG E) (ci := 5) (v := .int 0) (ty := .int) (C := RX5) (T := TX5) (N := 6) hx hb hts iw_X5 tyX5 tyX5_ok nmX5 hown hK.1 ha_1 hS (by show G h0 ∈ ([11] : List Nat); rw [hG]; decide) rfl 3 (by decide) (hts _ fl_X5_26) (fun _ h9 => h9) rfl (by decide +kernel) rfl rfl (Nat.le_of_ble_eq_true rfl) dX5_clear_2 (fun H locs hn ho hz hS => ?_)
  have hr_2 : va_at (DG E) vwCl (h0, .inr (5, [.int v0_1, .ref v1_1, .ref v2_1, .int 0, .int v4_1, .int v5_1])) H := hn
  have hT : TH E (T1 E) G [] H := hT.set hG (show T1 E G 11 _ from ⟨v0_1, v1_1, v2_1, 0, v4_1, v5_1, rfl, hg1_1, hg2_1, (by decide), (by omega)⟩) hr_2 ho
  refine lv_aload_n hx hb dX5_clear_5 rfl (lv_at hl 0 rfl) ?_
  refine lv_iconst (v := 0) hx hb dX5_clear_6 (by decide) ?_
  refine rr_put (D := DG E) (ci := 5) (v := .int 0) (ty := .int) (C := RX5) (T := TX5) (N := 6) hx hb hts iw_X5 tyX5 tyX5_ok nmX5 hown hK.1 hr_2 hS (by show G h0 ∈ ([11] : List Nat); rw [hG]; decide) rfl 4 (by decide) (hts _ fl_X5_29) (fun _ h9 => h9) rfl (by decide +kernel) rfl rfl (Nat.le_of_ble_eq_true rfl) dX5_clear_7 (fun H locs hn ho hz hS => ?_)
  have hr_3 : va_at (DG E) vwCl (h0, .inr (5, [.int v0_1, .ref v1_1, .ref v2_1, .int 0, .int 0, .int v5_1])) H := hn
  have hT : TH E (T1 E) G [] H := hT.set hG (show T1 E G 11 _ from ⟨v0_1, v1_1, v2_1, 0, 0, v5_1, rfl, hg1_1, hg2_1, (by decide), (by decide)⟩) hr_3 ho
  refine lv_aload_n hx hb dX5_clear_10 rfl (lv_at hl 0 rfl) ?_
  refine lv_iconst (v := 0) hx hb dX5_clear_11 (by decide) ?_
  refine rr_put (D := DG E) (ci := 5) (v := .int 0) (ty := .int) (C := RX5) (T := TX5) (N := 6) hx hb hts iw_X5 tyX5 tyX5_ok nmX5 hown hK.1 hr_3 hS (by show G h0 ∈ ([11] : List Nat); rw [hG]; decide) rfl 5 (by decide) (hts _ fl_X5_32) (fun _ h9 => h9) rfl (by decide +kernel) rfl rfl (Nat.le_of_ble_eq_true rfl) dX5_clear_12 (fun H locs hn ho hz hS => ?_)
  have hr_4 : va_at (DG E) vwCl (h0, .inr (5, [.int v0_1, .ref v1_1, .ref v2_1, .int 0, .int 0, .int 0])) H := hn
  have hT : TH E (T1 E) G [] H := hT.set hG (show T1 E G 11 _ from ⟨v0_1, v1_1, v2_1, 0, 0, 0, rfl, hg1_1, hg2_1, (by decide), (by decide)⟩) hr_4 ho
  exact W.vret hx hb hr (fun t ht hW => ⟨⟨(), rfl, trivial, (by show TH E (T1 E) G [] t.heap; rw [ht]; exact hT)⟩, hS.F ht⟩) hS.2.2 dX5_clear_15
theorem dX5_isFull_0 : decode cX5_isFull 0 = .ok (.aload_n 0, 1) := by decide +kernel
theorem dX5_isFull_1 : decode cX5_isFull 1 = .ok (.getfield 29, 3) := by decide +kernel
theorem dX5_isFull_4 : decode cX5_isFull 4 = .ok (.iconst 4, 1) := by decide +kernel
theorem dX5_isFull_5 : decode cX5_isFull 5 = .ok (.if_icmp .ne 7, 3) := by decide +kernel
theorem dX5_isFull_8 : decode cX5_isFull 8 = .ok (.iconst 1, 1) := by decide +kernel
theorem dX5_isFull_9 : decode cX5_isFull 9 = .ok (.goto 4, 3) := by decide +kernel
theorem dX5_isFull_12 : decode cX5_isFull 12 = .ok (.iconst 0, 1) := by decide +kernel
theorem dX5_isFull_13 : decode cX5_isFull 13 = .ok (.ireturn, 1) := by decide +kernel
set_option maxHeartbeats 8000000 in
set_option maxRecDepth 100000 in
theorem t_X5_isFull (l : Launch) (E : EE) (z0 : Nat) (G : Nat → Nat) (hGz : ∀ q, G q ≠ 0 → z0 ≤ q) (h0 : Nat) (hG : G h0 = 11) (e0 : Int32) (e1 : Nat) (e2 : Nat) (e3 : Int32) (e4 : Int32) (e5 : Int32) (ge1 : G e1 = 5) (ge2 : G e2 = 12) (be3 : (0 ≤ e3.toInt ∧ e3.toInt ≤ 3)) (be4 : (0 ≤ e4.toInt ∧ e4.toInt ≤ 4)) : Met l yX5_isFull [Cond.code yX5_isFull cX5_isFull 1 (some .boolean)] ({ frames := 0, cells := 0, slots := 0, locals := 0 } : Room) (va_Pc [.ref h0] (fun U => (TH E (T1 E) G [] U.heap ∧ va_at (DG E) vwCl (h0, .inr (5, [.int e0, .ref e1, .ref e2, .int e3, .int e4, .int e5])) U.heap) ∧ KS E z0 U)) (va_Qi (fun (r : Int32) (_ : Unit) => (r = 0 ∨ r = 1) ∧ (r.toInt = 1 ∨ e4.toInt ≤ 3)) (fun _ t => True) (fun _ : Nat => False)) 0 0 (fun _ : Nat => False) := by
  refine Met.ofW (cc := cX5_isFull) (maxL := 1) (ret := (some .boolean)) (by decide) rfl ?_
  intro p e s m args below meth c s₁ B hml hv
  obtain ⟨rfl, ⟨hT, hx0⟩, hK⟩ := hv
  have hx := B.exec
  have hb := B.bytes
  have hr := B.returns
  have hts : ∀ w ∈ TS, w.before ([.ref h0] : List Value).toArray s = true := fun w hw => hK.2.1 w hw _
  have hown : s.vm.findClass RX5 = some m.cls := findClass_of_methodNamed B.named
  have hlocks := B.notSynchronized
  have hS : va_S (fun _ : Nat => False) s.heap s.heap [] := va_S.rf
  have hAz : ∀ q, (fun _ : Nat => False) q → z0 ≤ q := fun _ h => h.elim
  have hl := lv_entry ([.ref h0]) (n := 1) (Nat.le_of_ble_eq_true rfl)
  rw [lg_entry_eq]
  generalize (lg_sl ([.ref h0]) ++ List.replicate (1 - (lg_sl ([.ref h0])).length) Slot.unset).toArray = ls at hl ⊢
  have hl : lv_has ls 1 [(0, .ref h0)] := hl
  refine lv_aload_n hx hb dX5_isFull_0 rfl (lv_at hl 0 rfl) ?_
  refine va_get (D := DG E) (ci := 5) (v := .int e4) (C := RX5) (T := TX5) (N := 6) hx hb hts iw_X5 hown hK.1 (va_one hx0) 0 rfl rfl 4 (by decide) (hts _ fl_X5_29) (fun _ h9 => h9) rfl dX5_isFull_1 ?_
  refine lv_iconst (v := 4) hx hb dX5_isFull_4 (by decide) ?_
  refine lv_icmp_ne (tgt := 12) hx hb dX5_isFull_5 (by decide) (fun c_1 => ?_) (fun c_1 => ?_)
  · simp only [lt_I, le_I, eq_I, i_0, i_1, i_2, i_3, i_4, i_5, i_6, i_7, i_8, i_10, i_12, i_16, i_20, i_23, i_24, i_31, i_32, i_63, i_64, i_m1] at c_1
    refine lv_iconst (v := 0) hx hb dX5_isFull_12 (by decide) ?_
    exact W.zret (v := 0) (ty := .boolean) hx hb hr rfl (fun t ht hW => ⟨⟨0, (), rfl, ⟨by decide, by have h9 := i_0; omega⟩, trivial⟩, hS.F ht⟩) hS.2.2 dX5_isFull_13
  · simp only [lt_I, le_I, eq_I, i_0, i_1, i_2, i_3, i_4, i_5, i_6, i_7, i_8, i_10, i_12, i_16, i_20, i_23, i_24, i_31, i_32, i_63, i_64, i_m1] at c_1
    refine lv_iconst (v := 1) hx hb dX5_isFull_8 (by decide) ?_
    refine lv_goto (tgt := 13) hx hb dX5_isFull_9 (by decide) ?_
    exact W.zret (v := 1) (ty := .boolean) hx hb hr rfl (fun t ht hW => ⟨⟨1, (), rfl, ⟨by decide, by have h9 := i_1; omega⟩, trivial⟩, hS.F ht⟩) hS.2.2 dX5_isFull_13
theorem dX5_at_0 : decode cX5_at 0 = .ok (.aload_n 0, 1) := by decide +kernel
theorem dX5_at_1 : decode cX5_at 1 = .ok (.getfield 11, 3) := by decide +kernel
theorem dX5_at_4 : decode cX5_at 4 = .ok (.aload_n 0, 1) := by decide +kernel
theorem dX5_at_5 : decode cX5_at 5 = .ok (.getfield 26, 3) := by decide +kernel
theorem dX5_at_8 : decode cX5_at 8 = .ok (.iload_n 1, 1) := by decide +kernel
theorem dX5_at_9 : decode cX5_at 9 = .ok (.iadd, 1) := by decide +kernel
theorem dX5_at_10 : decode cX5_at 10 = .ok (.iconst 4, 1) := by decide +kernel
theorem dX5_at_11 : decode cX5_at 11 = .ok (.irem, 1) := by decide +kernel
theorem dX5_at_12 : decode cX5_at 12 = .ok (.aaload, 1) := by decide +kernel
theorem dX5_at_13 : decode cX5_at 13 = .ok (.areturn, 1) := by decide +kernel
set_option maxHeartbeats 8000000 in
set_option maxRecDepth 100000 in
theorem t_X5_at (l : Launch) (E : EE) (z0 : Nat) (G : Nat → Nat) (hGz : ∀ q, G q ≠ 0 → z0 ≤ q) (h0 : Nat) (p0 : Int32) (hG : G h0 = 11) (hy0 : 0 ≤ p0.toInt ∧ p0.toInt ≤ 4) : Met l yX5_at [Cond.code yX5_at cX5_at 2 (some (.object "RemoteReach$Posted"))] ({ frames := 0, cells := 0, slots := 0, locals := 0 } : Room) (va_Pc [.ref h0, .int p0] (fun U => (TH E (T1 E) G [] U.heap) ∧ KS E z0 U)) (va_Qr (fun (_ : Unit) => True) (fun _ ra t => G ra = 13) (fun _ : Nat => False)) 0 0 (fun _ : Nat => False) := by
  refine Met.ofW (cc := cX5_at) (maxL := 2) (ret := (some (.object "RemoteReach$Posted"))) (by decide) rfl ?_
  intro p e s m args below meth c s₁ B hml hv
  obtain ⟨rfl, hT, hK⟩ := hv
  have hx := B.exec
  have hb := B.bytes
  have hr := B.returns
  have hts : ∀ w ∈ TS, w.before ([.ref h0, .int p0] : List Value).toArray s = true := fun w hw => hK.2.1 w hw _
  have hown : s.vm.findClass RX5 = some m.cls := findClass_of_methodNamed B.named
  have hlocks := B.notSynchronized
  have hS : va_S (fun _ : Nat => False) s.heap s.heap [] := va_S.rf
  have hAz : ∀ q, (fun _ : Nat => False) q → z0 ≤ q := fun _ h => h.elim
  have hl := lv_entry ([.ref h0, .int p0]) (n := 2) (Nat.le_of_ble_eq_true rfl)
  rw [lg_entry_eq]
  generalize (lg_sl ([.ref h0, .int p0]) ++ List.replicate (2 - (lg_sl ([.ref h0, .int p0])).length) Slot.unset).toArray = ls at hl ⊢
  have hl : lv_has ls 2 [(0, .ref h0), (1, .int p0)] := hl
  refine lv_aload_n hx hb dX5_at_0 rfl (lv_at hl 0 rfl) ?_
  obtain ⟨v0_1, v1_1, v2_1, v3_1, v4_1, v5_1, ha_1, hg1_1, hg2_1, hb3_1, hb4_1⟩ := tr_11 hT hG
  refine va_get (D := DG E) (ci := 5) (v := .ref v2_1) (C := RX5) (T := TX5) (N := 6) hx hb hts iw_X5 hown hK.1 (va_one ha_1) 0 rfl rfl 2 (by decide) (hts _ fl_X5_11) (fun _ h9 => h9) rfl dX5_at_1 ?_
  refine lv_aload_n hx hb dX5_at_4 rfl (lv_at hl 0 rfl) ?_
  refine va_get (D := DG E) (ci := 5) (v := .int v3_1) (C := RX5) (T := TX5) (N := 6) hx hb hts iw_X5 hown hK.1 (va_one ha_1) 0 rfl rfl 3 (by decide) (hts _ fl_X5_26) (fun _ h9 => h9) rfl dX5_at_5 ?_
  refine lv_iload_n hx hb dX5_at_8 rfl (lv_at hl 1 rfl) ?_
  refine lv_iadd hx hb dX5_at_9 ?_
  refine lv_topi (fun x_2 ex_2 => ?_)
  have fx_2 : x_2.toInt = v3_1.toInt + p0.toInt := by have h9 := s_add (x := v3_1) (y := p0) (by omega) (by omega); rw [ex_2]; exact h9
  refine lv_iconst (v := 4) hx hb dX5_at_10 (by decide) ?_
  refine lv_irem hx hb dX5_at_11 (by decide) ?_
  refine lv_topi (fun x_3 ex_3 => ?_)
  have fx_3 : x_3.toInt = x_2.toInt % 4 := by have h9 := s_rem (x := x_2) 4 (by decide) (by decide) (by omega); rw [ex_3]; exact h9
  obtain ⟨f_4, ha_4, he_4⟩ := tr_12 hT hg2_1
  obtain ⟨j_5, hj_5, ej_5⟩ := vp_in_of (show vp_in x_3 4 from vp_in_iff.mpr (by omega)) (by decide)
  obtain ⟨b_5, eb_5, gb_5⟩ := he_4 j_5 hj_5
  have cj_5 : f_4 (x_3 : Int32).toNatClampNeg = some b_5 := by rw [ej_5, nI_clamp (by omega)]; exact eb_5
  refine va_aldq (D := DG E) hx hb hK.1 (va_one ha_4) 0 6 rfl rfl (show vp_in x_3 4 from vp_in_iff.mpr (by omega)) dX5_at_12 ?_
  rw [cj_5]
  refine W.eq (g2 := F0 m 13 ls [.ref b_5]) (by rfl) ?_
  exact W.aret (v := .ref b_5) hx hb hr (Or.inl ⟨_, rfl⟩) (Or.inr ⟨_, rfl⟩) (fun t ht hW => ⟨⟨(), b_5, rfl, trivial, gb_5⟩, hS.F ht⟩) hS.2.2 dX5_at_13
theorem dX5_append_0 : decode cX5_append 0 = .ok (.aload_n 0, 1) := by decide +kernel
theorem dX5_append_1 : decode cX5_append 1 = .ok (.aload_n 0, 1) := by decide +kernel
theorem dX5_append_2 : decode cX5_append 2 = .ok (.getfield 29, 3) := by decide +kernel
theorem dX5_append_5 : decode cX5_append 5 = .ok (.invokevirtual 35, 3) := by decide +kernel
theorem dX5_append_8 : decode cX5_append 8 = .ok (.astore 4, 2) := by decide +kernel
theorem dX5_append_10 : decode cX5_append 10 = .ok (.aload 4, 2) := by decide +kernel
theorem dX5_append_12 : decode cX5_append 12 = .ok (.iload_n 1, 1) := by decide +kernel
theorem dX5_append_13 : decode cX5_append 13 = .ok (.putfield 39, 3) := by decide +kernel
theorem dX5_append_16 : decode cX5_append 16 = .ok (.aload 4, 2) := by decide +kernel
theorem dX5_append_18 : decode cX5_append 18 = .ok (.aload_n 0, 1) := by decide +kernel
theorem dX5_append_19 : decode cX5_append 19 = .ok (.getfield 32, 3) := by decide +kernel
theorem dX5_append_22 : decode cX5_append 22 = .ok (.putfield 42, 3) := by decide +kernel
theorem dX5_append_25 : decode cX5_append 25 = .ok (.aload 4, 2) := by decide +kernel
theorem dX5_append_27 : decode cX5_append 27 = .ok (.iload_n 2, 1) := by decide +kernel
theorem dX5_append_28 : decode cX5_append 28 = .ok (.putfield 45, 3) := by decide +kernel
theorem dX5_append_31 : decode cX5_append 31 = .ok (.aload 4, 2) := by decide +kernel
theorem dX5_append_33 : decode cX5_append 33 = .ok (.iload_n 3, 1) := by decide +kernel
theorem dX5_append_34 : decode cX5_append 34 = .ok (.putfield 48, 3) := by decide +kernel
theorem dX5_append_37 : decode cX5_append 37 = .ok (.aload 4, 2) := by decide +kernel
theorem dX5_append_39 : decode cX5_append 39 = .ok (.iconst 0, 1) := by decide +kernel
theorem dX5_append_40 : decode cX5_append 40 = .ok (.putfield 51, 3) := by decide +kernel
theorem dX5_append_43 : decode cX5_append 43 = .ok (.aload_n 0, 1) := by decide +kernel
theorem dX5_append_44 : decode cX5_append 44 = .ok (.dup, 1) := by decide +kernel
theorem dX5_append_45 : decode cX5_append 45 = .ok (.getfield 32, 3) := by decide +kernel
theorem dX5_append_48 : decode cX5_append 48 = .ok (.iconst 1, 1) := by decide +kernel
theorem dX5_append_49 : decode cX5_append 49 = .ok (.iadd, 1) := by decide +kernel
theorem dX5_append_50 : decode cX5_append 50 = .ok (.putfield 32, 3) := by decide +kernel
theorem dX5_append_53 : decode cX5_append 53 = .ok (.aload_n 0, 1) := by decide +kernel
theorem dX5_append_54 : decode cX5_append 54 = .ok (.dup, 1) := by decide +kernel
theorem dX5_append_55 : decode cX5_append 55 = .ok (.getfield 29, 3) := by decide +kernel
theorem dX5_append_58 : decode cX5_append 58 = .ok (.iconst 1, 1) := by decide +kernel
theorem dX5_append_59 : decode cX5_append 59 = .ok (.iadd, 1) := by decide +kernel
theorem dX5_append_60 : decode cX5_append 60 = .ok (.putfield 29, 3) := by decide +kernel
theorem dX5_append_63 : decode cX5_append 63 = .ok (.aload 4, 2) := by decide +kernel
theorem dX5_append_65 : decode cX5_append 65 = .ok (.areturn, 1) := by decide +kernel
set_option maxHeartbeats 8000000 in
set_option maxRecDepth 100000 in
theorem t_X5_append (l : Launch) (E : EE) (z0 : Nat) (G : Nat → Nat) (hGz : ∀ q, G q ≠ 0 → z0 ≤ q) (h0 : Nat) (p0 : Int32) (p1 : Int32) (p2 : Int32) (hG : G h0 = 11) (e0 : Int32) (e1 : Nat) (e2 : Nat) (e3 : Int32) (e4 : Int32) (e5 : Int32) (ge1 : G e1 = 5) (ge2 : G e2 = 12) (be3 : (0 ≤ e3.toInt ∧ e3.toInt ≤ 3)) (be4 : (0 ≤ e4.toInt ∧ e4.toInt ≤ 4)) (hy0 : 0 ≤ p2.toInt ∧ p2.toInt ≤ 12) (hy1 : e4.toInt ≤ 3) : Met l yX5_append [Cond.code yX5_append cX5_append 5 (some (.object "RemoteReach$Posted"))] ({ frames := 1, cells := 0, slots := 0, locals := 21 } : Room) (va_Pc [.ref h0, .int p0, .int p1, .int p2] (fun U => (TH E (T1 E) G [] U.heap ∧ va_at (DG E) vwCl (h0, .inr (5, [.int e0, .ref e1, .ref e2, .int e3, .int e4, .int e5])) U.heap) ∧ KS E z0 U)) (va_Qr (fun (_ : Unit) => True) (fun _ ra t => G ra = 13 ∧ TH E (T1 E) G [] t.heap) (fun q : Nat => G q ∈ ([11, 13] : List Nat))) 0 0 (fun q : Nat => G q ∈ ([11, 13] : List Nat)) := by
  refine Met.ofW (cc := cX5_append) (maxL := 5) (ret := (some (.object "RemoteReach$Posted"))) (by decide) rfl ?_
  intro p e s m args below meth c s₁ B hml hv
  obtain ⟨rfl, ⟨hT, hx0⟩, hK⟩ := hv
  have hx := B.exec
  have hb := B.bytes
  have hr := B.returns
  have hts : ∀ w ∈ TS, w.before ([.ref h0, .int p0, .int p1, .int p2] : List Value).toArray s = true := fun w hw => hK.2.1 w hw _
  have hown : s.vm.findClass RX5 = some m.cls := findClass_of_methodNamed B.named
  have hlocks := B.notSynchronized
  have hS : va_S (fun q : Nat => G q ∈ ([11, 13] : List Nat)) s.heap s.heap [] := va_S.rf
  have hAz : ∀ q, (fun q : Nat => G q ∈ ([11, 13] : List Nat)) q → z0 ≤ q := zL hGz (by decide)
  have hl := lv_entry ([.ref h0, .int p0, .int p1, .int p2]) (n := 5) (Nat.le_of_ble_eq_true rfl)
  rw [lg_entry_eq]
  generalize (lg_sl ([.ref h0, .int p0, .int p1, .int p2]) ++ List.replicate (5 - (lg_sl ([.ref h0, .int p0, .int p1, .int p2])).length) Slot.unset).toArray = ls at hl ⊢
  have hl : lv_has ls 5 [(0, .ref h0), (1, .int p0), (2, .int p1), (3, .int p2)] := hl
  refine lv_aload_n hx hb dX5_append_0 rfl (lv_at hl 0 rfl) ?_
  refine lv_aload_n hx hb dX5_append_1 rfl (lv_at hl 0 rfl) ?_
  refine va_get (D := DG E) (ci := 5) (v := .int e4) (C := RX5) (T := TX5) (N := 6) hx hb hts iw_X5 hown hK.1 (va_one hx0) 0 rfl rfl 4 (by decide) (hts _ fl_X5_29) (fun _ h9 => h9) rfl dX5_append_2 ?_
  refine va_callr (rnV (fun H => TH E (T1 E) G [] H) (As := [.int e4]) (rest := []) ⟨hx, hb, hml, hown, hts⟩ (t_X5_at l E z0 G hGz h0 e4 hG (by first | omega | decide)) (cwV 1 hts (gdV ml_X5_35 im_X5_at se_X5_X5_at in_X5 co_X5_at rfl) rfl rfl rfl (by decide +kernel) ⟨Nat.le_of_ble_eq_true rfl, Nat.le_of_ble_eq_true rfl⟩) hT (fun U hU hW => hK.go hW hS hAz hU) (va_recv hK.1 (va_one hx0) (ci := 5) (q0 := 0) rfl rfl) rfl rfl hl.1 rfl (lv_room (Nat.le_of_ble_eq_true rfl)) dX5_append_5 ⟨Nat.le_of_ble_eq_true rfl, Nat.le_of_ble_eq_true rfl⟩) hS (fun q _ h => h.elim) (fun q h => h.elim) (fun _ r_1 t H locs ht hvm hwr_1 hB hz hk hS => ?_)
  have grr_1 : G r_1 = 13 := hB
  have hT : TH E (T1 E) G [] H := hT.kept (fun q hq => hk q hq (fun h => h))
  have hx0 := hx0.kept (hk _ hx0.lt (fun h => h))
  refine lv_astore (lv' := [(4, .ref r_1), (0, .ref h0), (1, .int p0), (2, .int p1), (3, .int p2)]) hx hb dX5_append_8 hl (by decide) rfl (fun ls hl => ?_)
  refine lv_aload hx hb dX5_append_10 (lv_at hl 0 rfl) ?_
  refine lv_iload_n hx hb dX5_append_12 rfl (lv_at hl 2 rfl) ?_
  obtain ⟨v0_2, v1_2, v2_2, v3_2, v4_2, v5_2, v6_2, v7_2, v8_2, v9_2, ha_2, hb3_2⟩ := tr_13 hT grr_1
  refine rr_put (D := DG E) (ci := 4) (v := .int p0) (ty := .int) (C := RX4) (T := TX4) (N := 10) hx hb hts iw_X4 tyX4 tyX4_ok nmX4 hown hK.1 ha_2 hS (by show G r_1 ∈ ([11, 13] : List Nat); rw [grr_1]; decide) rfl 0 (by decide) (hts _ fl_X5_39) (fun _ h9 => h9) rfl (by decide +kernel) rfl rfl (Nat.le_of_ble_eq_true rfl) dX5_append_13 (fun H locs hn ho hz hS => ?_)
  have hr_3 : va_at (DG E) vwCl (r_1, .inr (4, [.int p0, .int v1_2, .int v2_2, .int v3_2, .int v4_2, .int v5_2, .int v6_2, .int v7_2, .int v8_2, .int v9_2])) H := hn
  have hT : TH E (T1 E) G [] H := hT.set grr_1 (show T1 E G 13 _ from ⟨p0, v1_2, v2_2, v3_2, v4_2, v5_2, v6_2, v7_2, v8_2, v9_2, rfl, (by omega)⟩) hr_3 ho
  have hx0 := hx0.kept (ho _ (ne_G hG grr_1 (by decide)))
  refine lv_aload hx hb dX5_append_16 (lv_at hl 0 rfl) ?_
  refine lv_aload_n hx hb dX5_append_18 rfl (lv_at hl 1 rfl) ?_
  refine va_get (D := DG E) (ci := 5) (v := .int e5) (C := RX5) (T := TX5) (N := 6) hx hb hts iw_X5 hown hK.1 (va_one hx0) 0 rfl rfl 5 (by decide) (hts _ fl_X5_32) (fun _ h9 => h9) rfl dX5_append_19 ?_
  refine rr_put (D := DG E) (ci := 4) (v := .int e5) (ty := .int) (C := RX4) (T := TX4) (N := 10) hx hb hts iw_X4 tyX4 tyX4_ok nmX4 hown hK.1 hr_3 hS (by show G r_1 ∈ ([11, 13] : List Nat); rw [grr_1]; decide) rfl 1 (by decide) (hts _ fl_X5_42) (fun _ h9 => h9) rfl (by decide +kernel) rfl rfl (Nat.le_of_ble_eq_true rfl) dX5_append_22 (fun H locs hn ho hz hS => ?_)
  have hr_4 : va_at (DG E) vwCl (r_1, .inr (4, [.int p0, .int e5, .int v2_2, .int v3_2, .int v4_2, .int v5_2, .int v6_2, .int v7_2, .int v8_2, .int v9_2])) H := hn
  have hT : TH E (T1 E) G [] H := hT.set grr_1 (show T1 E G 13 _ from ⟨p0, e5, v2_2, v3_2, v4_2, v5_2, v6_2, v7_2, v8_2, v9_2, rfl, (by omega)⟩) hr_4 ho
  have hx0 := hx0.kept (ho _ (ne_G hG grr_1 (by decide)))
  refine lv_aload hx hb dX5_append_25 (lv_at hl 0 rfl) ?_
  refine lv_iload_n hx hb dX5_append_27 rfl (lv_at hl 3 rfl) ?_
  refine rr_put (D := DG E) (ci := 4) (v := .int p1) (ty := .int) (C := RX4) (T := TX4) (N := 10) hx hb hts iw_X4 tyX4 tyX4_ok nmX4 hown hK.1 hr_4 hS (by show G r_1 ∈ ([11, 13] : List Nat); rw [grr_1]; decide) rfl 2 (by decide) (hts _ fl_X5_45) (fun _ h9 => h9) rfl (by decide +kernel) rfl rfl (Nat.le_of_ble_eq_true rfl) dX5_append_28 (fun H locs hn ho hz hS => ?_)
  have hr_5 : va_at (DG E) vwCl (r_1, .inr (4, [.int p0, .int e5, .int p1, .int v3_2, .int v4_2, .int v5_2, .int v6_2, .int v7_2, .int v8_2, .int v9_2])) H := hn
  have hT : TH E (T1 E) G [] H := hT.set grr_1 (show T1 E G 13 _ from ⟨p0, e5, p1, v3_2, v4_2, v5_2, v6_2, v7_2, v8_2, v9_2, rfl, (by omega)⟩) hr_5 ho
  have hx0 := hx0.kept (ho _ (ne_G hG grr_1 (by decide)))
  refine lv_aload hx hb dX5_append_31 (lv_at hl 0 rfl) ?_
  refine lv_iload_n hx hb dX5_append_33 rfl (lv_at hl 4 rfl) ?_
  refine rr_put (D := DG E) (ci := 4) (v := .int p2) (ty := .int) (C := RX4) (T := TX4) (N := 10) hx hb hts iw_X4 tyX4 tyX4_ok nmX4 hown hK.1 hr_5 hS (by show G r_1 ∈ ([11, 13] : List Nat); rw [grr_1]; decide) rfl 3 (by decide) (hts _ fl_X5_48) (fun _ h9 => h9) rfl (by decide +kernel) rfl rfl (Nat.le_of_ble_eq_true rfl) dX5_append_34 (fun H locs hn ho hz hS => ?_)
  have hr_6 : va_at (DG E) vwCl (r_1, .inr (4, [.int p0, .int e5, .int p1, .int p2, .int v4_2, .int v5_2, .int v6_2, .int v7_2, .int v8_2, .int v9_2])) H := hn
  have hT : TH E (T1 E) G [] H := hT.set grr_1 (show T1 E G 13 _ from ⟨p0, e5, p1, p2, v4_2, v5_2, v6_2, v7_2, v8_2, v9_2, rfl, (by omega)⟩) hr_6 ho
  have hx0 := hx0.kept (ho _ (ne_G hG grr_1 (by decide)))
  refine lv_aload hx hb dX5_append_37 (lv_at hl 0 rfl) ?_
  refine lv_iconst (v := 0) hx hb dX5_append_39 (by decide) ?_
  refine rr_put (D := DG E) (ci := 4) (v := .int 0) (ty := .int) (C := RX4) (T := TX4) (N := 10) hx hb hts iw_X4 tyX4 tyX4_ok nmX4 hown hK.1 hr_6 hS (by show G r_1 ∈ ([11, 13] : List Nat); rw [grr_1]; decide) rfl 9 (by decide) (hts _ fl_X5_51) (fun _ h9 => h9) rfl (by decide +kernel) rfl rfl (Nat.le_of_ble_eq_true rfl) dX5_append_40 (fun H locs hn ho hz hS => ?_)
  have hr_7 : va_at (DG E) vwCl (r_1, .inr (4, [.int p0, .int e5, .int p1, .int p2, .int v4_2, .int v5_2, .int v6_2, .int v7_2, .int v8_2, .int 0])) H := hn
  have hT : TH E (T1 E) G [] H := hT.set grr_1 (show T1 E G 13 _ from ⟨p0, e5, p1, p2, v4_2, v5_2, v6_2, v7_2, v8_2, 0, rfl, (by omega)⟩) hr_7 ho
  have hx0 := hx0.kept (ho _ (ne_G hG grr_1 (by decide)))
  refine lv_aload_n hx hb dX5_append_43 rfl (lv_at hl 1 rfl) ?_
  refine lv_dup hx hb dX5_append_44 rfl ?_
  refine va_get (D := DG E) (ci := 5) (v := .int e5) (C := RX5) (T := TX5) (N := 6) hx hb hts iw_X5 hown hK.1 (va_one hx0) 0 rfl rfl 5 (by decide) (hts _ fl_X5_32) (fun _ h9 => h9) rfl dX5_append_45 ?_
  refine lv_iconst (v := 1) hx hb dX5_append_48 (by decide) ?_
  refine lv_iadd hx hb dX5_append_49 ?_
  refine lv_topi (fun x_8 ex_8 => ?_)
  refine rr_put (D := DG E) (ci := 5) (v := .int x_8) (ty := .int) (C := RX5) (T := TX5) (N := 6) hx hb hts iw_X5 tyX5 tyX5_ok nmX5 hown hK.1 hx0 hS (by show G h0 ∈ ([11, 13] : List Nat); rw [hG]; decide) rfl 5 (by decide) (hts _ fl_X5_32) (fun _ h9 => h9) rfl (by decide +kernel) rfl rfl (Nat.le_of_ble_eq_true rfl) dX5_append_50 (fun H locs hn ho hz hS => ?_)
  have hr_9 : va_at (DG E) vwCl (h0, .inr (5, [.int e0, .ref e1, .ref e2, .int e3, .int e4, .int x_8])) H := hn
  have hT : TH E (T1 E) G [] H := hT.set hG (show T1 E G 11 _ from ⟨e0, e1, e2, e3, e4, x_8, rfl, ge1, ge2, (by omega), (by omega)⟩) hr_9 ho
  have hr_7 := hr_7.kept (ho _ (ne_G grr_1 hG (by decide)))
  refine lv_aload_n hx hb dX5_append_53 rfl (lv_at hl 1 rfl) ?_
  refine lv_dup hx hb dX5_append_54 rfl ?_
  refine va_get (D := DG E) (ci := 5) (v := .int e4) (C := RX5) (T := TX5) (N := 6) hx hb hts iw_X5 hown hK.1 (va_one hr_9) 0 rfl rfl 4 (by decide) (hts _ fl_X5_29) (fun _ h9 => h9) rfl dX5_append_55 ?_
  refine lv_iconst (v := 1) hx hb dX5_append_58 (by decide) ?_
  refine lv_iadd hx hb dX5_append_59 ?_
  refine lv_topi (fun x_10 ex_10 => ?_)
  have fx_10 : x_10.toInt = e4.toInt + 1 := by have h9 := s_add (x := e4) (y := 1) (by rw [i_1]; omega) (by rw [i_1]; omega); rw [i_1] at h9; rw [ex_10]; exact h9
  refine rr_put (D := DG E) (ci := 5) (v := .int x_10) (ty := .int) (C := RX5) (T := TX5) (N := 6) hx hb hts iw_X5 tyX5 tyX5_ok nmX5 hown hK.1 hr_9 hS (by show G h0 ∈ ([11, 13] : List Nat); rw [hG]; decide) rfl 4 (by decide) (hts _ fl_X5_29) (fun _ h9 => h9) rfl (by decide +kernel) rfl rfl (Nat.le_of_ble_eq_true rfl) dX5_append_60 (fun H locs hn ho hz hS => ?_)
  have hr_11 : va_at (DG E) vwCl (h0, .inr (5, [.int e0, .ref e1, .ref e2, .int e3, .int x_10, .int x_8])) H := hn
  have hT : TH E (T1 E) G [] H := hT.set hG (show T1 E G 11 _ from ⟨e0, e1, e2, e3, x_10, x_8, rfl, ge1, ge2, (by omega), (by omega)⟩) hr_11 ho
  have hr_7 := hr_7.kept (ho _ (ne_G grr_1 hG (by decide)))
  refine lv_aload hx hb dX5_append_63 (lv_at hl 0 rfl) ?_
  exact W.aret (v := .ref r_1) hx hb hr (Or.inl ⟨_, rfl⟩) (Or.inr ⟨_, rfl⟩) (fun t ht hW => ⟨⟨(), r_1, rfl, trivial, ⟨grr_1, (by show TH E (T1 E) G [] t.heap; rw [ht]; exact hT)⟩⟩, hS.F ht⟩) hS.2.2 dX5_append_65
theorem dX5_completeFirst_0 : decode cX5_completeFirst 0 = .ok (.aload_n 0, 1) := by decide +kernel
theorem dX5_completeFirst_1 : decode cX5_completeFirst 1 = .ok (.getfield 21, 3) := by decide +kernel
theorem dX5_completeFirst_4 : decode cX5_completeFirst 4 = .ok (.aload_n 0, 1) := by decide +kernel
theorem dX5_completeFirst_5 : decode cX5_completeFirst 5 = .ok (.getfield 17, 3) := by decide +kernel
theorem dX5_completeFirst_8 : decode cX5_completeFirst 8 = .ok (.aload_n 0, 1) := by decide +kernel
theorem dX5_completeFirst_9 : decode cX5_completeFirst 9 = .ok (.iconst 0, 1) := by decide +kernel
theorem dX5_completeFirst_10 : decode cX5_completeFirst 10 = .ok (.invokevirtual 35, 3) := by decide +kernel
theorem dX5_completeFirst_13 : decode cX5_completeFirst 13 = .ok (.iload_n 1, 1) := by decide +kernel
theorem dX5_completeFirst_14 : decode cX5_completeFirst 14 = .ok (.invokevirtual 54, 3) := by decide +kernel
theorem dX5_completeFirst_17 : decode cX5_completeFirst 17 = .ok (.aload_n 0, 1) := by decide +kernel
theorem dX5_completeFirst_18 : decode cX5_completeFirst 18 = .ok (.aload_n 0, 1) := by decide +kernel
theorem dX5_completeFirst_19 : decode cX5_completeFirst 19 = .ok (.getfield 26, 3) := by decide +kernel
theorem dX5_completeFirst_22 : decode cX5_completeFirst 22 = .ok (.iconst 1, 1) := by decide +kernel
theorem dX5_completeFirst_23 : decode cX5_completeFirst 23 = .ok (.iadd, 1) := by decide +kernel
theorem dX5_completeFirst_24 : decode cX5_completeFirst 24 = .ok (.iconst 4, 1) := by decide +kernel
theorem dX5_completeFirst_25 : decode cX5_completeFirst 25 = .ok (.irem, 1) := by decide +kernel
theorem dX5_completeFirst_26 : decode cX5_completeFirst 26 = .ok (.putfield 26, 3) := by decide +kernel
theorem dX5_completeFirst_29 : decode cX5_completeFirst 29 = .ok (.aload_n 0, 1) := by decide +kernel
theorem dX5_completeFirst_30 : decode cX5_completeFirst 30 = .ok (.dup, 1) := by decide +kernel
theorem dX5_completeFirst_31 : decode cX5_completeFirst 31 = .ok (.getfield 29, 3) := by decide +kernel
theorem dX5_completeFirst_34 : decode cX5_completeFirst 34 = .ok (.iconst 1, 1) := by decide +kernel
theorem dX5_completeFirst_35 : decode cX5_completeFirst 35 = .ok (.isub, 1) := by decide +kernel
theorem dX5_completeFirst_36 : decode cX5_completeFirst 36 = .ok (.putfield 29, 3) := by decide +kernel
theorem dX5_completeFirst_39 : decode cX5_completeFirst 39 = .ok (.return_, 1) := by decide +kernel
set_option maxHeartbeats 8000000 in
set_option maxRecDepth 100000 in
theorem t_X5_completeFirst (l : Launch) (E : EE) (z0 : Nat) (G : Nat → Nat) (hGz : ∀ q, G q ≠ 0 → z0 ≤ q) (h0 : Nat) (p0 : Int32) (hG : G h0 = 11) (e0 : Int32) (e1 : Nat) (e2 : Nat) (e3 : Int32) (e4 : Int32) (e5 : Int32) (ge1 : G e1 = 5) (ge2 : G e2 = 12) (be3 : (0 ≤ e3.toInt ∧ e3.toInt ≤ 3)) (be4 : (0 ≤ e4.toInt ∧ e4.toInt ≤ 4)) (hy0 : 1 ≤ e4.toInt) : Met l yX5_completeFirst [Cond.code yX5_completeFirst cX5_completeFirst 2 none] ({ frames := 1, cells := 0, slots := 0, locals := 24 } : Room) (va_Pc [.ref h0, .int p0] (fun U => (TH E (T1 E) G [] U.heap ∧ va_at (DG E) vwCl (h0, .inr (5, [.int e0, .ref e1, .ref e2, .int e3, .int e4, .int e5])) U.heap) ∧ KS E z0 U)) (va_Qv (fun (_ : Unit) => True) (fun _ t => TH E (T1 E) G [] t.heap) (fun q : Nat => G q ∈ ([5, 15, 11] : List Nat))) 0 0 (fun q : Nat => G q ∈ ([5, 15, 11] : List Nat)) := by
  refine Met.ofW (cc := cX5_completeFirst) (maxL := 2) (ret := none) (by decide) rfl ?_
  intro p e s m args below meth c s₁ B hml hv
  obtain ⟨rfl, ⟨hT, hx0⟩, hK⟩ := hv
  have hx := B.exec
  have hb := B.bytes
  have hr := B.returns
  have hts : ∀ w ∈ TS, w.before ([.ref h0, .int p0] : List Value).toArray s = true := fun w hw => hK.2.1 w hw _
  have hown : s.vm.findClass RX5 = some m.cls := findClass_of_methodNamed B.named
  have hlocks := B.notSynchronized
  have hS : va_S (fun q : Nat => G q ∈ ([5, 15, 11] : List Nat)) s.heap s.heap [] := va_S.rf
  have hAz : ∀ q, (fun q : Nat => G q ∈ ([5, 15, 11] : List Nat)) q → z0 ≤ q := zL hGz (by decide)
  have hl := lv_entry ([.ref h0, .int p0]) (n := 2) (Nat.le_of_ble_eq_true rfl)
  rw [lg_entry_eq]
  generalize (lg_sl ([.ref h0, .int p0]) ++ List.replicate (2 - (lg_sl ([.ref h0, .int p0])).length) Slot.unset).toArray = ls at hl ⊢
  have hl : lv_has ls 2 [(0, .ref h0), (1, .int p0)] := hl
  refine lv_aload_n hx hb dX5_completeFirst_0 rfl (lv_at hl 0 rfl) ?_
  refine va_get (D := DG E) (ci := 5) (v := .ref e1) (C := RX5) (T := TX5) (N := 6) hx hb hts iw_X5 hown hK.1 (va_one hx0) 0 rfl rfl 1 (by decide) (hts _ fl_X5_21) (fun _ h9 => h9) rfl dX5_completeFirst_1 ?_
  refine lv_aload_n hx hb dX5_completeFirst_4 rfl (lv_at hl 0 rfl) ?_
  refine va_get (D := DG E) (ci := 5) (v := .int e0) (C := RX5) (T := TX5) (N := 6) hx hb hts iw_X5 hown hK.1 (va_one hx0) 0 rfl rfl 0 (by decide) (hts _ fl_X5_17) (fun _ h9 => h9) rfl dX5_completeFirst_5 ?_
  refine lv_aload_n hx hb dX5_completeFirst_8 rfl (lv_at hl 0 rfl) ?_
  refine lv_iconst (v := 0) hx hb dX5_completeFirst_9 (by decide) ?_
  refine va_callr (rnV (fun H => TH E (T1 E) G [] H) (As := [.int 0]) (rest := [.int e0, .ref e1]) ⟨hx, hb, hml, hown, hts⟩ (t_X5_at l E z0 G hGz h0 0 hG (by have := i_0; first | omega | decide)) (cwV 1 hts (gdV ml_X5_35 im_X5_at se_X5_X5_at in_X5 co_X5_at rfl) rfl rfl rfl (by decide +kernel) ⟨Nat.le_of_ble_eq_true rfl, Nat.le_of_ble_eq_true rfl⟩) hT (fun U hU hW => hK.go hW hS hAz hU) (va_recv hK.1 (va_one hx0) (ci := 5) (q0 := 0) rfl rfl) rfl rfl hl.1 rfl (lv_room (Nat.le_of_ble_eq_true rfl)) dX5_completeFirst_10 ⟨Nat.le_of_ble_eq_true rfl, Nat.le_of_ble_eq_true rfl⟩) hS (fun q _ h => h.elim) (fun q h => h.elim) (fun _ r_1 t H locs ht hvm hwr_1 hB hz hk hS => ?_)
  have grr_1 : G r_1 = 13 := hB
  have hT : TH E (T1 E) G [] H := hT.kept (fun q hq => hk q hq (fun h => h))
  have hx0 := hx0.kept (hk _ hx0.lt (fun h => h))
  refine lv_iload_n hx hb dX5_completeFirst_13 rfl (lv_at hl 1 rfl) ?_
  obtain ⟨v0_2, v1_2, v2_2, v3_2, v4_2, ha_2, hg0_2, hg1_2, hg2_2, hb3_2, hb4_2⟩ := tr_5 hT ge1
  refine va_callv (rnV (fun H => TH E (T1 E) G [] H) (As := [.int e0, .ref r_1, .int p0]) (rest := []) ⟨hx, hb, hml, hown, hts⟩ (t_X1_complete l E z0 G hGz e1 e0 r_1 p0 ge1 grr_1) (cwV 3 hts (gdV ml_X5_54 im_X1_complete se_X1_X1_complete in_X1 co_X1_complete rfl) rfl rfl rfl (by decide +kernel) ⟨Nat.le_of_ble_eq_true rfl, Nat.le_of_ble_eq_true rfl⟩) hT (fun U hU hW => hK.go hW hS hAz hU) (va_recv hK.1 (va_one ha_2) (ci := 1) (q0 := 0) rfl rfl) rfl rfl hl.1 rfl (lv_room (Nat.le_of_ble_eq_true rfl)) dX5_completeFirst_14 ⟨Nat.le_of_ble_eq_true rfl, Nat.le_of_ble_eq_true rfl⟩) hS (fun q _ h => mL (L' := [5, 15]) (L := [5, 15, 11]) (by decide) h) (fun q h => mL (L' := [5, 15]) (L := [5, 15, 11]) (by decide) h) (fun _ t H locs ht hvm hwr_3 hB hz hk hS => ?_)
  have hT : TH E (T1 E) G [] H := by rw [ht] at hB; exact hB
  have hx0 := hx0.kept (hk _ hx0.lt (nL hG (by decide)))
  refine lv_aload_n hx hb dX5_completeFirst_17 rfl (lv_at hl 0 rfl) ?_
  refine lv_aload_n hx hb dX5_completeFirst_18 rfl (lv_at hl 0 rfl) ?_
  refine va_get (D := DG E) (ci := 5) (v := .int e3) (C := RX5) (T := TX5) (N := 6) hx hb hts iw_X5 hown hK.1 (va_one hx0) 0 rfl rfl 3 (by decide) (hts _ fl_X5_26) (fun _ h9 => h9) rfl dX5_completeFirst_19 ?_
  refine lv_iconst (v := 1) hx hb dX5_completeFirst_22 (by decide) ?_
  refine lv_iadd hx hb dX5_completeFirst_23 ?_
  refine lv_topi (fun x_4 ex_4 => ?_)
  have fx_4 : x_4.toInt = e3.toInt + 1 := by have h9 := s_add (x := e3) (y := 1) (by rw [i_1]; omega) (by rw [i_1]; omega); rw [i_1] at h9; rw [ex_4]; exact h9
  refine lv_iconst (v := 4) hx hb dX5_completeFirst_24 (by decide) ?_
  refine lv_irem hx hb dX5_completeFirst_25 (by decide) ?_
  refine lv_topi (fun x_5 ex_5 => ?_)
  have fx_5 : x_5.toInt = x_4.toInt % 4 := by have h9 := s_rem (x := x_4) 4 (by decide) (by decide) (by omega); rw [ex_5]; exact h9
  refine rr_put (D := DG E) (ci := 5) (v := .int x_5) (ty := .int) (C := RX5) (T := TX5) (N := 6) hx hb hts iw_X5 tyX5 tyX5_ok nmX5 hown hK.1 hx0 hS (by show G h0 ∈ ([5, 15, 11] : List Nat); rw [hG]; decide) rfl 3 (by decide) (hts _ fl_X5_26) (fun _ h9 => h9) rfl (by decide +kernel) rfl rfl (Nat.le_of_ble_eq_true rfl) dX5_completeFirst_26 (fun H locs hn ho hz hS => ?_)
  have hr_6 : va_at (DG E) vwCl (h0, .inr (5, [.int e0, .ref e1, .ref e2, .int x_5, .int e4, .int e5])) H := hn
  have hT : TH E (T1 E) G [] H := hT.set hG (show T1 E G 11 _ from ⟨e0, e1, e2, x_5, e4, e5, rfl, ge1, ge2, (by omega), (by omega)⟩) hr_6 ho
  refine lv_aload_n hx hb dX5_completeFirst_29 rfl (lv_at hl 0 rfl) ?_
  refine lv_dup hx hb dX5_completeFirst_30 rfl ?_
  refine va_get (D := DG E) (ci := 5) (v := .int e4) (C := RX5) (T := TX5) (N := 6) hx hb hts iw_X5 hown hK.1 (va_one hr_6) 0 rfl rfl 4 (by decide) (hts _ fl_X5_29) (fun _ h9 => h9) rfl dX5_completeFirst_31 ?_
  refine lv_iconst (v := 1) hx hb dX5_completeFirst_34 (by decide) ?_
  refine lv_isub hx hb dX5_completeFirst_35 ?_
  refine lv_topi (fun x_7 ex_7 => ?_)
  have fx_7 : x_7.toInt = e4.toInt - 1 := by have h9 := s_sub (x := e4) (y := 1) (by rw [i_1]; omega) (by rw [i_1]; omega); rw [i_1] at h9; rw [ex_7]; exact h9
  refine rr_put (D := DG E) (ci := 5) (v := .int x_7) (ty := .int) (C := RX5) (T := TX5) (N := 6) hx hb hts iw_X5 tyX5 tyX5_ok nmX5 hown hK.1 hr_6 hS (by show G h0 ∈ ([5, 15, 11] : List Nat); rw [hG]; decide) rfl 4 (by decide) (hts _ fl_X5_29) (fun _ h9 => h9) rfl (by decide +kernel) rfl rfl (Nat.le_of_ble_eq_true rfl) dX5_completeFirst_36 (fun H locs hn ho hz hS => ?_)
  have hr_8 : va_at (DG E) vwCl (h0, .inr (5, [.int e0, .ref e1, .ref e2, .int x_5, .int x_7, .int e5])) H := hn
  have hT : TH E (T1 E) G [] H := hT.set hG (show T1 E G 11 _ from ⟨e0, e1, e2, x_5, x_7, e5, rfl, ge1, ge2, (by omega), (by omega)⟩) hr_8 ho
  exact W.vret hx hb hr (fun t ht hW => ⟨⟨(), rfl, trivial, (by show TH E (T1 E) G [] t.heap; rw [ht]; exact hT)⟩, hS.F ht⟩) hS.2.2 dX5_completeFirst_39
theorem dX5_completeAll_0 : decode cX5_completeAll 0 = .ok (.iload_n 1, 1) := by decide +kernel
theorem dX5_completeAll_1 : decode cX5_completeAll 1 = .ok (.istore_n 2, 1) := by decide +kernel
theorem dX5_completeAll_2 : decode cX5_completeAll 2 = .ok (.iconst 0, 1) := by decide +kernel
theorem dX5_completeAll_3 : decode cX5_completeAll 3 = .ok (.istore_n 3, 1) := by decide +kernel
theorem dX5_completeAll_4 : decode cX5_completeAll 4 = .ok (.iload_n 3, 1) := by decide +kernel
theorem dX5_completeAll_5 : decode cX5_completeAll 5 = .ok (.iconst 4, 1) := by decide +kernel
theorem dX5_completeAll_6 : decode cX5_completeAll 6 = .ok (.if_icmp .ge 23, 3) := by decide +kernel
theorem dX5_completeAll_9 : decode cX5_completeAll 9 = .ok (.aload_n 0, 1) := by decide +kernel
theorem dX5_completeAll_10 : decode cX5_completeAll 10 = .ok (.getfield 29, 3) := by decide +kernel
theorem dX5_completeAll_13 : decode cX5_completeAll 13 = .ok (.ifCond .le 16, 3) := by decide +kernel
theorem dX5_completeAll_16 : decode cX5_completeAll 16 = .ok (.aload_n 0, 1) := by decide +kernel
theorem dX5_completeAll_17 : decode cX5_completeAll 17 = .ok (.iload_n 2, 1) := by decide +kernel
theorem dX5_completeAll_18 : decode cX5_completeAll 18 = .ok (.invokevirtual 60, 3) := by decide +kernel
theorem dX5_completeAll_21 : decode cX5_completeAll 21 = .ok (.iconst 5, 1) := by decide +kernel
theorem dX5_completeAll_22 : decode cX5_completeAll 22 = .ok (.istore_n 2, 1) := by decide +kernel
theorem dX5_completeAll_23 : decode cX5_completeAll 23 = .ok (.iinc 3 1, 3) := by decide +kernel
theorem dX5_completeAll_26 : decode cX5_completeAll 26 = .ok (.goto (-22), 3) := by decide +kernel
theorem dX5_completeAll_29 : decode cX5_completeAll 29 = .ok (.return_, 1) := by decide +kernel
set_option maxHeartbeats 8000000 in
set_option maxRecDepth 100000 in
theorem t_X5_completeAll (l : Launch) (E : EE) (z0 : Nat) (G : Nat → Nat) (hGz : ∀ q, G q ≠ 0 → z0 ≤ q) (h0 : Nat) (p0 : Int32) (hG : G h0 = 11) : Met l yX5_completeAll [Cond.code yX5_completeAll cX5_completeAll 4 none] ({ frames := 2, cells := 0, slots := 0, locals := 45 } : Room) (va_Pc [.ref h0, .int p0] (fun U => (TH E (T1 E) G [] U.heap) ∧ KS E z0 U)) (va_Qv (fun (_ : Unit) => True) (fun _ t => TH E (T1 E) G [] t.heap) (fun q : Nat => G q ∈ ([5, 15, 11] : List Nat))) 0 0 (fun q : Nat => G q ∈ ([5, 15, 11] : List Nat)) := by
  refine Met.ofW (cc := cX5_completeAll) (maxL := 4) (ret := none) (by decide) rfl ?_
  intro p e s m args below meth c s₁ B hml hv
  obtain ⟨rfl, hT, hK⟩ := hv
  have hx := B.exec
  have hb := B.bytes
  have hr := B.returns
  have hts : ∀ w ∈ TS, w.before ([.ref h0, .int p0] : List Value).toArray s = true := fun w hw => hK.2.1 w hw _
  have hown : s.vm.findClass RX5 = some m.cls := findClass_of_methodNamed B.named
  have hlocks := B.notSynchronized
  have hS : va_S (fun q : Nat => G q ∈ ([5, 15, 11] : List Nat)) s.heap s.heap [] := va_S.rf
  have hAz : ∀ q, (fun q : Nat => G q ∈ ([5, 15, 11] : List Nat)) q → z0 ≤ q := zL hGz (by decide)
  have hl := lv_entry ([.ref h0, .int p0]) (n := 4) (Nat.le_of_ble_eq_true rfl)
  rw [lg_entry_eq]
  generalize (lg_sl ([.ref h0, .int p0]) ++ List.replicate (4 - (lg_sl ([.ref h0, .int p0])).length) Slot.unset).toArray = ls at hl ⊢
  have hl : lv_has ls 4 [(0, .ref h0), (1, .int p0)] := hl
  refine lv_iload_n hx hb dX5_completeAll_0 rfl (lv_at hl 1 rfl) ?_
  refine lv_istore_n (lv' := [(2, .int p0), (0, .ref h0), (1, .int p0)]) hx hb dX5_completeAll_1 rfl hl (by decide) rfl (fun ls hl => ?_)
  refine lv_iconst (v := 0) hx hb dX5_completeAll_2 (by decide) ?_
  refine lv_istore_n (lv' := [(3, .int 0), (2, .int p0), (0, .ref h0), (1, .int p0)]) hx hb dX5_completeAll_3 rfl hl (by decide) rfl (fun ls hl => ?_)
  refine lv_iload_n hx hb dX5_completeAll_4 rfl (lv_at hl 0 rfl) ?_
  refine lv_iconst (v := 4) hx hb dX5_completeAll_5 (by decide) ?_
  refine lv_icmp_ge (tgt := 29) hx hb dX5_completeAll_6 (by decide) (fun c_1 => absurd c_1 (by decide)) (fun c_1 => ?_)
  refine lv_aload_n hx hb dX5_completeAll_9 rfl (lv_at hl 2 rfl) ?_
  obtain ⟨v0_2, v1_2, v2_2, v3_2, v4_2, v5_2, ha_2, hg1_2, hg2_2, hb3_2, hb4_2⟩ := tr_11 hT hG
  refine va_get (D := DG E) (ci := 5) (v := .int v4_2) (C := RX5) (T := TX5) (N := 6) hx hb hts iw_X5 hown hK.1 (va_one ha_2) 0 rfl rfl 4 (by decide) (hts _ fl_X5_29) (fun _ h9 => h9) rfl dX5_completeAll_10 ?_
  refine lv_if_le (tgt := 29) hx hb dX5_completeAll_13 (by decide) (fun c_3 => ?_) (fun c_3 => ?_)
  · simp only [lt_I, le_I, eq_I, i_0, i_1, i_2, i_3, i_4, i_5, i_6, i_7, i_8, i_10, i_12, i_16, i_20, i_23, i_24, i_31, i_32, i_63, i_64, i_m1] at c_3
    exact W.vret hx hb hr (fun t ht hW => ⟨⟨(), rfl, trivial, (by show TH E (T1 E) G [] t.heap; rw [ht]; exact hT)⟩, hS.F ht⟩) hS.2.2 dX5_completeAll_29
  · simp only [lt_I, le_I, eq_I, i_0, i_1, i_2, i_3, i_4, i_5, i_6, i_7, i_8, i_10, i_12, i_16, i_20, i_23, i_24, i_31, i_32, i_63, i_64, i_m1] at c_3
    refine lv_aload_n hx hb dX5_completeAll_16 rfl (lv_at hl 2 rfl) ?_
    refine lv_iload_n hx hb dX5_completeAll_17 rfl (lv_at hl 1 rfl) ?_
    refine va_callv (rnV (fun H => TH E (T1 E) G [] H ∧ va_at (DG E) vwCl (h0, .inr (5, [.int v0_2, .ref v1_2, .ref v2_2, .int v3_2, .int v4_2, .int v5_2])) H) (As := [.int p0]) (rest := []) ⟨hx, hb, hml, hown, hts⟩ (t_X5_completeFirst l E z0 G hGz h0 p0 hG v0_2 v1_2 v2_2 v3_2 v4_2 v5_2 hg1_2 hg2_2 (by omega) (by omega) (by first | omega | decide)) (cwV 1 hts (gdV ml_X5_60 im_X5_completeFirst se_X5_X5_completeFirst in_X5 co_X5_completeFirst rfl) rfl rfl rfl (by decide +kernel) ⟨Nat.le_of_ble_eq_true rfl, Nat.le_of_ble_eq_true rfl⟩) ⟨hT, ha_2⟩ (fun U hU hW => hK.go hW hS hAz hU) (va_recv hK.1 (va_one ha_2) (ci := 5) (q0 := 0) rfl rfl) rfl rfl hl.1 rfl (lv_room (Nat.le_of_ble_eq_true rfl)) dX5_completeAll_18 ⟨Nat.le_of_ble_eq_true rfl, Nat.le_of_ble_eq_true rfl⟩) hS (fun q _ h => mL (L' := [5, 15, 11]) (L := [5, 15, 11]) (by decide) h) (fun q h => mL (L' := [5, 15, 11]) (L := [5, 15, 11]) (by decide) h) (fun _ t H locs ht hvm hwr_4 hB hz hk hS => ?_)
    have hT : TH E (T1 E) G [] H := by rw [ht] at hB; exact hB
    refine lv_iconst (v := 5) hx hb dX5_completeAll_21 (by decide) ?_
    refine lv_istore_n (lv' := [(2, .int 5), (3, .int 0), (0, .ref h0), (1, .int p0)]) hx hb dX5_completeAll_22 rfl hl (by decide) rfl (fun ls hl => ?_)
    refine lv_iinc (v := 1) (lv' := [(3, .int 1), (2, .int 5), (0, .ref h0), (1, .int p0)]) hx hb dX5_completeAll_23 hl (k := 1) rfl (by decide) (by decide) rfl (fun ls hl => ?_)
    refine lv_goto (tgt := 4) hx hb dX5_completeAll_26 (by decide) ?_
    refine lv_iload_n hx hb dX5_completeAll_4 rfl (lv_at hl 0 rfl) ?_
    refine lv_iconst (v := 4) hx hb dX5_completeAll_5 (by decide) ?_
    refine lv_icmp_ge (tgt := 29) hx hb dX5_completeAll_6 (by decide) (fun c_5 => absurd c_5 (by decide)) (fun c_5 => ?_)
    refine lv_aload_n hx hb dX5_completeAll_9 rfl (lv_at hl 2 rfl) ?_
    obtain ⟨v0_6, v1_6, v2_6, v3_6, v4_6, v5_6, ha_6, hg1_6, hg2_6, hb3_6, hb4_6⟩ := tr_11 hT hG
    refine va_get (D := DG E) (ci := 5) (v := .int v4_6) (C := RX5) (T := TX5) (N := 6) hx hb hts iw_X5 hown hK.1 (va_one ha_6) 0 rfl rfl 4 (by decide) (hts _ fl_X5_29) (fun _ h9 => h9) rfl dX5_completeAll_10 ?_
    refine lv_if_le (tgt := 29) hx hb dX5_completeAll_13 (by decide) (fun c_7 => ?_) (fun c_7 => ?_)
    · simp only [lt_I, le_I, eq_I, i_0, i_1, i_2, i_3, i_4, i_5, i_6, i_7, i_8, i_10, i_12, i_16, i_20, i_23, i_24, i_31, i_32, i_63, i_64, i_m1] at c_7
      exact W.vret hx hb hr (fun t ht hW => ⟨⟨(), rfl, trivial, (by show TH E (T1 E) G [] t.heap; rw [ht]; exact hT)⟩, hS.F ht⟩) hS.2.2 dX5_completeAll_29
    · simp only [lt_I, le_I, eq_I, i_0, i_1, i_2, i_3, i_4, i_5, i_6, i_7, i_8, i_10, i_12, i_16, i_20, i_23, i_24, i_31, i_32, i_63, i_64, i_m1] at c_7
      refine lv_aload_n hx hb dX5_completeAll_16 rfl (lv_at hl 2 rfl) ?_
      refine lv_iload_n hx hb dX5_completeAll_17 rfl (lv_at hl 1 rfl) ?_
      refine va_callv (rnV (fun H => TH E (T1 E) G [] H ∧ va_at (DG E) vwCl (h0, .inr (5, [.int v0_6, .ref v1_6, .ref v2_6, .int v3_6, .int v4_6, .int v5_6])) H) (As := [.int 5]) (rest := []) ⟨hx, hb, hml, hown, hts⟩ (t_X5_completeFirst l E z0 G hGz h0 5 hG v0_6 v1_6 v2_6 v3_6 v4_6 v5_6 hg1_6 hg2_6 (by omega) (by omega) (by have := i_5; first | omega | decide)) (cwV 1 hts (gdV ml_X5_60 im_X5_completeFirst se_X5_X5_completeFirst in_X5 co_X5_completeFirst rfl) rfl rfl rfl (by decide +kernel) ⟨Nat.le_of_ble_eq_true rfl, Nat.le_of_ble_eq_true rfl⟩) ⟨hT, ha_6⟩ (fun U hU hW => hK.go hW hS hAz hU) (va_recv hK.1 (va_one ha_6) (ci := 5) (q0 := 0) rfl rfl) rfl rfl hl.1 rfl (lv_room (Nat.le_of_ble_eq_true rfl)) dX5_completeAll_18 ⟨Nat.le_of_ble_eq_true rfl, Nat.le_of_ble_eq_true rfl⟩) hS (fun q _ h => mL (L' := [5, 15, 11]) (L := [5, 15, 11]) (by decide) h) (fun q h => mL (L' := [5, 15, 11]) (L := [5, 15, 11]) (by decide) h) (fun _ t H locs ht hvm hwr_8 hB hz hk hS => ?_)
      have hT : TH E (T1 E) G [] H := by rw [ht] at hB; exact hB
      refine lv_iconst (v := 5) hx hb dX5_completeAll_21 (by decide) ?_
      refine lv_istore_n (lv' := [(2, .int 5), (3, .int 1), (0, .ref h0), (1, .int p0)]) hx hb dX5_completeAll_22 rfl hl (by decide) rfl (fun ls hl => ?_)
      refine lv_iinc (v := 2) (lv' := [(3, .int 2), (2, .int 5), (0, .ref h0), (1, .int p0)]) hx hb dX5_completeAll_23 hl (k := 1) rfl (by decide) (by decide) rfl (fun ls hl => ?_)
      refine lv_goto (tgt := 4) hx hb dX5_completeAll_26 (by decide) ?_
      refine lv_iload_n hx hb dX5_completeAll_4 rfl (lv_at hl 0 rfl) ?_
      refine lv_iconst (v := 4) hx hb dX5_completeAll_5 (by decide) ?_
      refine lv_icmp_ge (tgt := 29) hx hb dX5_completeAll_6 (by decide) (fun c_9 => absurd c_9 (by decide)) (fun c_9 => ?_)
      refine lv_aload_n hx hb dX5_completeAll_9 rfl (lv_at hl 2 rfl) ?_
      obtain ⟨v0_10, v1_10, v2_10, v3_10, v4_10, v5_10, ha_10, hg1_10, hg2_10, hb3_10, hb4_10⟩ := tr_11 hT hG
      refine va_get (D := DG E) (ci := 5) (v := .int v4_10) (C := RX5) (T := TX5) (N := 6) hx hb hts iw_X5 hown hK.1 (va_one ha_10) 0 rfl rfl 4 (by decide) (hts _ fl_X5_29) (fun _ h9 => h9) rfl dX5_completeAll_10 ?_
      refine lv_if_le (tgt := 29) hx hb dX5_completeAll_13 (by decide) (fun c_11 => ?_) (fun c_11 => ?_)
      · simp only [lt_I, le_I, eq_I, i_0, i_1, i_2, i_3, i_4, i_5, i_6, i_7, i_8, i_10, i_12, i_16, i_20, i_23, i_24, i_31, i_32, i_63, i_64, i_m1] at c_11
        exact W.vret hx hb hr (fun t ht hW => ⟨⟨(), rfl, trivial, (by show TH E (T1 E) G [] t.heap; rw [ht]; exact hT)⟩, hS.F ht⟩) hS.2.2 dX5_completeAll_29
      · simp only [lt_I, le_I, eq_I, i_0, i_1, i_2, i_3, i_4, i_5, i_6, i_7, i_8, i_10, i_12, i_16, i_20, i_23, i_24, i_31, i_32, i_63, i_64, i_m1] at c_11
        refine lv_aload_n hx hb dX5_completeAll_16 rfl (lv_at hl 2 rfl) ?_
        refine lv_iload_n hx hb dX5_completeAll_17 rfl (lv_at hl 1 rfl) ?_
        refine va_callv (rnV (fun H => TH E (T1 E) G [] H ∧ va_at (DG E) vwCl (h0, .inr (5, [.int v0_10, .ref v1_10, .ref v2_10, .int v3_10, .int v4_10, .int v5_10])) H) (As := [.int 5]) (rest := []) ⟨hx, hb, hml, hown, hts⟩ (t_X5_completeFirst l E z0 G hGz h0 5 hG v0_10 v1_10 v2_10 v3_10 v4_10 v5_10 hg1_10 hg2_10 (by omega) (by omega) (by have := i_5; first | omega | decide)) (cwV 1 hts (gdV ml_X5_60 im_X5_completeFirst se_X5_X5_completeFirst in_X5 co_X5_completeFirst rfl) rfl rfl rfl (by decide +kernel) ⟨Nat.le_of_ble_eq_true rfl, Nat.le_of_ble_eq_true rfl⟩) ⟨hT, ha_10⟩ (fun U hU hW => hK.go hW hS hAz hU) (va_recv hK.1 (va_one ha_10) (ci := 5) (q0 := 0) rfl rfl) rfl rfl hl.1 rfl (lv_room (Nat.le_of_ble_eq_true rfl)) dX5_completeAll_18 ⟨Nat.le_of_ble_eq_true rfl, Nat.le_of_ble_eq_true rfl⟩) hS (fun q _ h => mL (L' := [5, 15, 11]) (L := [5, 15, 11]) (by decide) h) (fun q h => mL (L' := [5, 15, 11]) (L := [5, 15, 11]) (by decide) h) (fun _ t H locs ht hvm hwr_12 hB hz hk hS => ?_)
        have hT : TH E (T1 E) G [] H := by rw [ht] at hB; exact hB
        refine lv_iconst (v := 5) hx hb dX5_completeAll_21 (by decide) ?_
        refine lv_istore_n (lv' := [(2, .int 5), (3, .int 2), (0, .ref h0), (1, .int p0)]) hx hb dX5_completeAll_22 rfl hl (by decide) rfl (fun ls hl => ?_)
        refine lv_iinc (v := 3) (lv' := [(3, .int 3), (2, .int 5), (0, .ref h0), (1, .int p0)]) hx hb dX5_completeAll_23 hl (k := 1) rfl (by decide) (by decide) rfl (fun ls hl => ?_)
        refine lv_goto (tgt := 4) hx hb dX5_completeAll_26 (by decide) ?_
        refine lv_iload_n hx hb dX5_completeAll_4 rfl (lv_at hl 0 rfl) ?_
        refine lv_iconst (v := 4) hx hb dX5_completeAll_5 (by decide) ?_
        refine lv_icmp_ge (tgt := 29) hx hb dX5_completeAll_6 (by decide) (fun c_13 => absurd c_13 (by decide)) (fun c_13 => ?_)
        refine lv_aload_n hx hb dX5_completeAll_9 rfl (lv_at hl 2 rfl) ?_
        obtain ⟨v0_14, v1_14, v2_14, v3_14, v4_14, v5_14, ha_14, hg1_14, hg2_14, hb3_14, hb4_14⟩ := tr_11 hT hG
        refine va_get (D := DG E) (ci := 5) (v := .int v4_14) (C := RX5) (T := TX5) (N := 6) hx hb hts iw_X5 hown hK.1 (va_one ha_14) 0 rfl rfl 4 (by decide) (hts _ fl_X5_29) (fun _ h9 => h9) rfl dX5_completeAll_10 ?_
        refine lv_if_le (tgt := 29) hx hb dX5_completeAll_13 (by decide) (fun c_15 => ?_) (fun c_15 => ?_)
        · simp only [lt_I, le_I, eq_I, i_0, i_1, i_2, i_3, i_4, i_5, i_6, i_7, i_8, i_10, i_12, i_16, i_20, i_23, i_24, i_31, i_32, i_63, i_64, i_m1] at c_15
          exact W.vret hx hb hr (fun t ht hW => ⟨⟨(), rfl, trivial, (by show TH E (T1 E) G [] t.heap; rw [ht]; exact hT)⟩, hS.F ht⟩) hS.2.2 dX5_completeAll_29
        · simp only [lt_I, le_I, eq_I, i_0, i_1, i_2, i_3, i_4, i_5, i_6, i_7, i_8, i_10, i_12, i_16, i_20, i_23, i_24, i_31, i_32, i_63, i_64, i_m1] at c_15
          refine lv_aload_n hx hb dX5_completeAll_16 rfl (lv_at hl 2 rfl) ?_
          refine lv_iload_n hx hb dX5_completeAll_17 rfl (lv_at hl 1 rfl) ?_
          refine va_callv (rnV (fun H => TH E (T1 E) G [] H ∧ va_at (DG E) vwCl (h0, .inr (5, [.int v0_14, .ref v1_14, .ref v2_14, .int v3_14, .int v4_14, .int v5_14])) H) (As := [.int 5]) (rest := []) ⟨hx, hb, hml, hown, hts⟩ (t_X5_completeFirst l E z0 G hGz h0 5 hG v0_14 v1_14 v2_14 v3_14 v4_14 v5_14 hg1_14 hg2_14 (by omega) (by omega) (by have := i_5; first | omega | decide)) (cwV 1 hts (gdV ml_X5_60 im_X5_completeFirst se_X5_X5_completeFirst in_X5 co_X5_completeFirst rfl) rfl rfl rfl (by decide +kernel) ⟨Nat.le_of_ble_eq_true rfl, Nat.le_of_ble_eq_true rfl⟩) ⟨hT, ha_14⟩ (fun U hU hW => hK.go hW hS hAz hU) (va_recv hK.1 (va_one ha_14) (ci := 5) (q0 := 0) rfl rfl) rfl rfl hl.1 rfl (lv_room (Nat.le_of_ble_eq_true rfl)) dX5_completeAll_18 ⟨Nat.le_of_ble_eq_true rfl, Nat.le_of_ble_eq_true rfl⟩) hS (fun q _ h => mL (L' := [5, 15, 11]) (L := [5, 15, 11]) (by decide) h) (fun q h => mL (L' := [5, 15, 11]) (L := [5, 15, 11]) (by decide) h) (fun _ t H locs ht hvm hwr_16 hB hz hk hS => ?_)
          have hT : TH E (T1 E) G [] H := by rw [ht] at hB; exact hB
          refine lv_iconst (v := 5) hx hb dX5_completeAll_21 (by decide) ?_
          refine lv_istore_n (lv' := [(2, .int 5), (3, .int 3), (0, .ref h0), (1, .int p0)]) hx hb dX5_completeAll_22 rfl hl (by decide) rfl (fun ls hl => ?_)
          refine lv_iinc (v := 4) (lv' := [(3, .int 4), (2, .int 5), (0, .ref h0), (1, .int p0)]) hx hb dX5_completeAll_23 hl (k := 1) rfl (by decide) (by decide) rfl (fun ls hl => ?_)
          refine lv_goto (tgt := 4) hx hb dX5_completeAll_26 (by decide) ?_
          refine lv_iload_n hx hb dX5_completeAll_4 rfl (lv_at hl 0 rfl) ?_
          refine lv_iconst (v := 4) hx hb dX5_completeAll_5 (by decide) ?_
          refine lv_icmp_ge (tgt := 29) hx hb dX5_completeAll_6 (by decide) (fun c_17 => ?_) (fun c_17 => absurd c_17 (by decide))
          exact W.vret hx hb hr (fun t ht hW => ⟨⟨(), rfl, trivial, (by show TH E (T1 E) G [] t.heap; rw [ht]; exact hT)⟩, hS.F ht⟩) hS.2.2 dX5_completeAll_29
