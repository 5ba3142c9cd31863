section
theorem dX10_cellsGood_0 : decode cX10_cellsGood 0 = .ok (.iload_n 1, 1) := by decide +kernel
theorem dX10_cellsGood_1 : decode cX10_cellsGood 1 = .ok (.iconst 3, 1) := by decide +kernel
theorem dX10_cellsGood_2 : decode cX10_cellsGood 2 = .ok (.invokestatic 156, 3) := by decide +kernel
theorem dX10_cellsGood_5 : decode cX10_cellsGood 5 = .ok (.ifCond .eq 30, 3) := by decide +kernel
theorem dX10_cellsGood_8 : decode cX10_cellsGood 8 = .ok (.iload_n 3, 1) := by decide +kernel
theorem dX10_cellsGood_9 : decode cX10_cellsGood 9 = .ok (.iconst 1, 1) := by decide +kernel
theorem dX10_cellsGood_10 : decode cX10_cellsGood 10 = .ok (.if_icmp .lt 25, 3) := by decide +kernel
theorem dX10_cellsGood_13 : decode cX10_cellsGood 13 = .ok (.iload_n 3, 1) := by decide +kernel
theorem dX10_cellsGood_14 : decode cX10_cellsGood 14 = .ok (.bipush 12, 2) := by decide +kernel
theorem dX10_cellsGood_16 : decode cX10_cellsGood 16 = .ok (.if_icmp .gt 19, 3) := by decide +kernel
theorem dX10_cellsGood_19 : decode cX10_cellsGood 19 = .ok (.iload_n 2, 1) := by decide +kernel
theorem dX10_cellsGood_20 : decode cX10_cellsGood 20 = .ok (.ifCond .lt 15, 3) := by decide +kernel
theorem dX10_cellsGood_23 : decode cX10_cellsGood 23 = .ok (.iload_n 2, 1) := by decide +kernel
theorem dX10_cellsGood_24 : decode cX10_cellsGood 24 = .ok (.bipush 32, 2) := by decide +kernel
theorem dX10_cellsGood_26 : decode cX10_cellsGood 26 = .ok (.iload_n 3, 1) := by decide +kernel
theorem dX10_cellsGood_27 : decode cX10_cellsGood 27 = .ok (.isub, 1) := by decide +kernel
theorem dX10_cellsGood_28 : decode cX10_cellsGood 28 = .ok (.if_icmp .gt 7, 3) := by decide +kernel
theorem dX10_cellsGood_31 : decode cX10_cellsGood 31 = .ok (.iconst 1, 1) := by decide +kernel
theorem dX10_cellsGood_32 : decode cX10_cellsGood 32 = .ok (.goto 4, 3) := by decide +kernel
theorem dX10_cellsGood_35 : decode cX10_cellsGood 35 = .ok (.iconst 0, 1) := by decide +kernel
theorem dX10_cellsGood_36 : decode cX10_cellsGood 36 = .ok (.ireturn, 1) := by decide +kernel
set_option maxHeartbeats 8000000 in
set_option maxRecDepth 100000 in
theorem u_X10_cellsGood (l : Launch) (E : EE) (z0 : Nat) (G : Nat → Nat) (hGz : ∀ q, G q ≠ 0 → z0 ≤ q) (h0 : Nat) (rf : Nat → Nat) (hR : MG G h0 rf) (t0 t1 t2 : Int32) (A : AA) (cd pk : Int32) (p0 : Int32) (p1 : Int32) (p2 : Int32) : Met l yX10_cellsGood [Cond.code yX10_cellsGood cX10_cellsGood 4 (some .boolean)] ({ frames := 1, cells := 0, slots := 0, locals := 21 } : Room) (va_Pc [.ref h0, .int p0, .int p1, .int p2] (fun U => MH E h0 rf t0 t1 t2 A cd pk U.heap ∧ KS E z0 U)) (va_Qi (fun (r : Int32) (u : Unit) => (r = 0 ∨ r = 1) ∧ (r.toInt = 0 ∨ (0 ≤ p0.toInt ∧ p0.toInt ≤ 3 ∧ 1 ≤ p2.toInt ∧ p2.toInt ≤ 12 ∧ 0 ≤ p1.toInt ∧ p1.toInt ≤ 31 ∧ p1.toInt + p2.toInt ≤ 32)) ∧ (D_X10_cellsGood A cd pk p0 p1 p2 r)) (fun u t => True) (fun _ : Nat => False)) 0 0 (fun _ : Nat => False) := by
  refine Met.ofW (cc := cX10_cellsGood) (maxL := 4) (ret := (some .boolean)) (by decide) rfl ?_
  intro p e s m args below meth c s₁ B hml hv
  obtain ⟨rfl, hM, hK⟩ := hv
  have hx := B.exec
  have hb := B.bytes
  have hr := B.returns
  have hts : ∀ w ∈ TS, w.before ([.ref h0, .int p0, .int p1, .int p2] : List Value).toArray s = true := fun w hw => hK.2.1 w hw _
  have hown : s.vm.findClass RX10 = some m.cls := findClass_of_methodNamed B.named
  have hlocks := B.notSynchronized
  have hS : va_S (fun _ : Nat => False) s.heap s.heap [] := va_S.rf
  have hAz : ∀ q, (fun _ : Nat => False) q → z0 ≤ q := fun _ h => h.elim
  have hl := lv_entry ([.ref h0, .int p0, .int p1, .int p2]) (n := 4) (Nat.le_of_ble_eq_true rfl)
  rw [lg_entry_eq]
  generalize (lg_sl ([.ref h0, .int p0, .int p1, .int p2]) ++ List.replicate (4 - (lg_sl ([.ref h0, .int p0, .int p1, .int p2])).length) Slot.unset).toArray = ls at hl ⊢
  have hl : lv_has ls 4 [(0, .ref h0), (1, .int p0), (2, .int p1), (3, .int p2)] := hl
  refine lv_iload_n hx hb dX10_cellsGood_0 rfl (lv_at hl 1 rfl) ?_
  refine lv_iconst (v := 3) hx hb dX10_cellsGood_1 (by decide) ?_
  refine W.callR (W.runS (As := [.int p0, .int 3]) (rest := []) ⟨hx, hb, hml, hown, hts⟩ (c_X10_within l p0 3) (cwS 2 hts (gdS ml_X10_156 st_X10_within in_X10 co_X10_within rfl) rfl rfl rfl (by decide +kernel) ⟨Nat.le_of_ble_eq_true rfl, Nat.le_of_ble_eq_true rfl⟩) preEq rfl rfl hl.1 rfl (lv_room (Nat.le_of_ble_eq_true rfl)) dX10_cellsGood_2 ⟨Nat.le_of_ble_eq_true rfl, Nat.le_of_ble_eq_true rfl⟩) ?_
  refine W.eq (g2 := F0 m 5 ls [.int (bI (0 ≤ p0.toInt ∧ p0.toInt ≤ (3 : Int32).toInt))]) (by rfl) ?_
  refine lv_if_eq (tgt := 35) hx hb dX10_cellsGood_5 (by decide) (fun c_1 => ?_) (fun c_1 => ?_)
  · have c_1 := bI_0 c_1
    have c_1r := c_1
    try simp only [lt_I, le_I, eq_I, i_0, i_1, i_2, i_3, i_4, i_5, i_6, i_7, i_8, i_10, i_12, i_16, i_20, i_23, i_24, i_31, i_32, i_63, i_64, i_m1, i_9, i_11, i_13, i_25, i_60, i_75, i_79, i_80, i_96, i_100] at c_1
    refine lv_iconst (v := 0) hx hb dX10_cellsGood_35 (by decide) ?_
    exact W.zret (v := 0) (ty := .boolean) hx hb hr rfl (fun t ht hW => ⟨⟨0, (), rfl, ⟨(by decide), (show (0 : Int32).toInt = 0 ∨ (0 ≤ p0.toInt ∧ p0.toInt ≤ 3 ∧ 1 ≤ p2.toInt ∧ p2.toInt ≤ 12 ∧ 0 ≤ p1.toInt ∧ p1.toInt ≤ 31 ∧ p1.toInt + p2.toInt ≤ 32) from (Or.inl rfl)), (Or.inl ⟨c_1r, rfl⟩)⟩, trivial⟩, hS.F ht⟩) hS.2.2 dX10_cellsGood_36
  · have c_1 := bI_n c_1
    have c_1r := c_1
    try simp only [lt_I, le_I, eq_I, i_0, i_1, i_2, i_3, i_4, i_5, i_6, i_7, i_8, i_10, i_12, i_16, i_20, i_23, i_24, i_31, i_32, i_63, i_64, i_m1, i_9, i_11, i_13, i_25, i_60, i_75, i_79, i_80, i_96, i_100] at c_1
    refine lv_iload_n hx hb dX10_cellsGood_8 rfl (lv_at hl 3 rfl) ?_
    refine lv_iconst (v := 1) hx hb dX10_cellsGood_9 (by decide) ?_
    refine lv_icmp_lt (tgt := 35) hx hb dX10_cellsGood_10 (by decide) (fun c_2 => ?_) (fun c_2 => ?_)
    · simp only [lt_I, le_I, eq_I, i_0, i_1, i_2, i_3, i_4, i_5, i_6, i_7, i_8, i_10, i_12, i_16, i_20, i_23, i_24, i_31, i_32, i_63, i_64, i_m1, i_9, i_11, i_13, i_25, i_60, i_75, i_79, i_80, i_96, i_100] at c_2
      refine lv_iconst (v := 0) hx hb dX10_cellsGood_35 (by decide) ?_
      exact W.zret (v := 0) (ty := .boolean) hx hb hr rfl (fun t ht hW => ⟨⟨0, (), rfl, ⟨(by decide), (show (0 : Int32).toInt = 0 ∨ (0 ≤ p0.toInt ∧ p0.toInt ≤ 3 ∧ 1 ≤ p2.toInt ∧ p2.toInt ≤ 12 ∧ 0 ≤ p1.toInt ∧ p1.toInt ≤ 31 ∧ p1.toInt + p2.toInt ≤ 32) from (Or.inl rfl)), (Or.inr (Or.inl ⟨c_1r, c_2, rfl⟩))⟩, trivial⟩, hS.F ht⟩) hS.2.2 dX10_cellsGood_36
    · simp only [lt_I, le_I, eq_I, i_0, i_1, i_2, i_3, i_4, i_5, i_6, i_7, i_8, i_10, i_12, i_16, i_20, i_23, i_24, i_31, i_32, i_63, i_64, i_m1, i_9, i_11, i_13, i_25, i_60, i_75, i_79, i_80, i_96, i_100] at c_2
      refine lv_iload_n hx hb dX10_cellsGood_13 rfl (lv_at hl 3 rfl) ?_
      refine lv_bipush (v := 12) hx hb dX10_cellsGood_14 (by decide) ?_
      refine lv_icmp_gt (tgt := 35) hx hb dX10_cellsGood_16 (by decide) (fun c_3 => ?_) (fun c_3 => ?_)
      · simp only [lt_I, le_I, eq_I, i_0, i_1, i_2, i_3, i_4, i_5, i_6, i_7, i_8, i_10, i_12, i_16, i_20, i_23, i_24, i_31, i_32, i_63, i_64, i_m1, i_9, i_11, i_13, i_25, i_60, i_75, i_79, i_80, i_96, i_100] at c_3
        refine lv_iconst (v := 0) hx hb dX10_cellsGood_35 (by decide) ?_
        exact W.zret (v := 0) (ty := .boolean) hx hb hr rfl (fun t ht hW => ⟨⟨0, (), rfl, ⟨(by decide), (show (0 : Int32).toInt = 0 ∨ (0 ≤ p0.toInt ∧ p0.toInt ≤ 3 ∧ 1 ≤ p2.toInt ∧ p2.toInt ≤ 12 ∧ 0 ≤ p1.toInt ∧ p1.toInt ≤ 31 ∧ p1.toInt + p2.toInt ≤ 32) from (Or.inl rfl)), (Or.inr (Or.inr (Or.inl ⟨c_1r, c_2, c_3, rfl⟩)))⟩, trivial⟩, hS.F ht⟩) hS.2.2 dX10_cellsGood_36
      · simp only [lt_I, le_I, eq_I, i_0, i_1, i_2, i_3, i_4, i_5, i_6, i_7, i_8, i_10, i_12, i_16, i_20, i_23, i_24, i_31, i_32, i_63, i_64, i_m1, i_9, i_11, i_13, i_25, i_60, i_75, i_79, i_80, i_96, i_100] at c_3
        refine lv_iload_n hx hb dX10_cellsGood_19 rfl (lv_at hl 2 rfl) ?_
        refine lv_if_lt (tgt := 35) hx hb dX10_cellsGood_20 (by decide) (fun c_4 => ?_) (fun c_4 => ?_)
        · simp only [lt_I, le_I, eq_I, i_0, i_1, i_2, i_3, i_4, i_5, i_6, i_7, i_8, i_10, i_12, i_16, i_20, i_23, i_24, i_31, i_32, i_63, i_64, i_m1, i_9, i_11, i_13, i_25, i_60, i_75, i_79, i_80, i_96, i_100] at c_4
          refine lv_iconst (v := 0) hx hb dX10_cellsGood_35 (by decide) ?_
          exact W.zret (v := 0) (ty := .boolean) hx hb hr rfl (fun t ht hW => ⟨⟨0, (), rfl, ⟨(by decide), (show (0 : Int32).toInt = 0 ∨ (0 ≤ p0.toInt ∧ p0.toInt ≤ 3 ∧ 1 ≤ p2.toInt ∧ p2.toInt ≤ 12 ∧ 0 ≤ p1.toInt ∧ p1.toInt ≤ 31 ∧ p1.toInt + p2.toInt ≤ 32) from (Or.inl rfl)), (Or.inr (Or.inr (Or.inr (Or.inl ⟨c_1r, c_2, c_3, c_4, rfl⟩))))⟩, trivial⟩, hS.F ht⟩) hS.2.2 dX10_cellsGood_36
        · simp only [lt_I, le_I, eq_I, i_0, i_1, i_2, i_3, i_4, i_5, i_6, i_7, i_8, i_10, i_12, i_16, i_20, i_23, i_24, i_31, i_32, i_63, i_64, i_m1, i_9, i_11, i_13, i_25, i_60, i_75, i_79, i_80, i_96, i_100] at c_4
          refine lv_iload_n hx hb dX10_cellsGood_23 rfl (lv_at hl 2 rfl) ?_
          refine lv_bipush (v := 32) hx hb dX10_cellsGood_24 (by decide) ?_
          refine lv_iload_n hx hb dX10_cellsGood_26 rfl (lv_at hl 3 rfl) ?_
          refine lv_isub hx hb dX10_cellsGood_27 ?_
          refine lv_topi (fun x_5 ex_5 => ?_)
          have fx_5 : x_5.toInt = 32 - p2.toInt := by have h9 := s_sub (x := 32) (y := p2) (by rw [i_32]; omega) (by rw [i_32]; omega); rw [i_32] at h9; rw [ex_5]; exact h9
          refine lv_icmp_gt (tgt := 35) hx hb dX10_cellsGood_28 (by decide) (fun c_6 => ?_) (fun c_6 => ?_)
          · simp only [lt_I, le_I, eq_I, i_0, i_1, i_2, i_3, i_4, i_5, i_6, i_7, i_8, i_10, i_12, i_16, i_20, i_23, i_24, i_31, i_32, i_63, i_64, i_m1, i_9, i_11, i_13, i_25, i_60, i_75, i_79, i_80, i_96, i_100] at c_6
            refine lv_iconst (v := 0) hx hb dX10_cellsGood_35 (by decide) ?_
            exact W.zret (v := 0) (ty := .boolean) hx hb hr rfl (fun t ht hW => ⟨⟨0, (), rfl, ⟨(by decide), (show (0 : Int32).toInt = 0 ∨ (0 ≤ p0.toInt ∧ p0.toInt ≤ 3 ∧ 1 ≤ p2.toInt ∧ p2.toInt ≤ 12 ∧ 0 ≤ p1.toInt ∧ p1.toInt ≤ 31 ∧ p1.toInt + p2.toInt ≤ 32) from (Or.inl rfl)), (Or.inr (Or.inr (Or.inr (Or.inr (Or.inl ⟨c_1r, c_2, c_3, c_4, x_5, ex_5, fx_5, c_6, rfl⟩)))))⟩, trivial⟩, hS.F ht⟩) hS.2.2 dX10_cellsGood_36
          · simp only [lt_I, le_I, eq_I, i_0, i_1, i_2, i_3, i_4, i_5, i_6, i_7, i_8, i_10, i_12, i_16, i_20, i_23, i_24, i_31, i_32, i_63, i_64, i_m1, i_9, i_11, i_13, i_25, i_60, i_75, i_79, i_80, i_96, i_100] at c_6
            refine lv_iconst (v := 1) hx hb dX10_cellsGood_31 (by decide) ?_
            refine lv_goto (tgt := 36) hx hb dX10_cellsGood_32 (by decide) ?_
            exact W.zret (v := 1) (ty := .boolean) hx hb hr rfl (fun t ht hW => ⟨⟨1, (), rfl, ⟨(by decide), (show (1 : Int32).toInt = 0 ∨ (0 ≤ p0.toInt ∧ p0.toInt ≤ 3 ∧ 1 ≤ p2.toInt ∧ p2.toInt ≤ 12 ∧ 0 ≤ p1.toInt ∧ p1.toInt ≤ 31 ∧ p1.toInt + p2.toInt ≤ 32) from (Or.inr (by omega))), (Or.inr (Or.inr (Or.inr (Or.inr (Or.inr ⟨c_1r, c_2, c_3, c_4, x_5, ex_5, fx_5, c_6, rfl⟩)))))⟩, trivial⟩, hS.F ht⟩) hS.2.2 dX10_cellsGood_36
theorem dX10_full_0 : decode cX10_full 0 = .ok (.aload_n 0, 1) := by decide +kernel
theorem dX10_full_1 : decode cX10_full 1 = .ok (.getfield 28, 3) := by decide +kernel
theorem dX10_full_4 : decode cX10_full 4 = .ok (.iload_n 1, 1) := by decide +kernel
theorem dX10_full_5 : decode cX10_full 5 = .ok (.iaload, 1) := by decide +kernel
theorem dX10_full_6 : decode cX10_full 6 = .ok (.iconst 1, 1) := by decide +kernel
theorem dX10_full_7 : decode cX10_full 7 = .ok (.if_icmp .ne 13, 3) := by decide +kernel
theorem dX10_full_10 : decode cX10_full 10 = .ok (.aload_n 0, 1) := by decide +kernel
theorem dX10_full_11 : decode cX10_full 11 = .ok (.getfield 59, 3) := by decide +kernel
theorem dX10_full_14 : decode cX10_full 14 = .ok (.iload_n 1, 1) := by decide +kernel
theorem dX10_full_15 : decode cX10_full 15 = .ok (.iaload, 1) := by decide +kernel
theorem dX10_full_16 : decode cX10_full 16 = .ok (.iconst 4, 1) := by decide +kernel
theorem dX10_full_17 : decode cX10_full 17 = .ok (.if_icmp .ne 7, 3) := by decide +kernel
theorem dX10_full_20 : decode cX10_full 20 = .ok (.iconst 1, 1) := by decide +kernel
theorem dX10_full_21 : decode cX10_full 21 = .ok (.goto 4, 3) := by decide +kernel
theorem dX10_full_24 : decode cX10_full 24 = .ok (.iconst 0, 1) := by decide +kernel
theorem dX10_full_25 : decode cX10_full 25 = .ok (.ireturn, 1) := by decide +kernel
set_option maxHeartbeats 8000000 in
set_option maxRecDepth 100000 in
theorem u_X10_full (l : Launch) (E : EE) (z0 : Nat) (G : Nat → Nat) (hGz : ∀ q, G q ≠ 0 → z0 ≤ q) (h0 : Nat) (rf : Nat → Nat) (hR : MG G h0 rf) (t0 t1 t2 : Int32) (A : AA) (cd pk : Int32) (p0 : Int32) (hy0 : 0 ≤ p0.toInt ∧ p0.toInt ≤ 3) : Met l yX10_full [Cond.code yX10_full cX10_full 2 (some .boolean)] ({ frames := 0, cells := 0, slots := 0, locals := 0 } : Room) (va_Pc [.ref h0, .int p0] (fun U => MH E h0 rf t0 t1 t2 A cd pk U.heap ∧ KS E z0 U)) (va_Qi (fun (r : Int32) (u : Unit) => (r = 0 ∨ r = 1) ∧ (∀ n : Nat, (n : Int) = p0.toInt → r.toInt = 1 ∨ (((A 10) n).toInt = 1 ∧ ((A 20) n).toInt ≠ 4)) ∧ (D_X10_full A cd pk p0 r)) (fun u t => True) (fun _ : Nat => False)) 0 0 (fun _ : Nat => False) := by
  refine Met.ofW (cc := cX10_full) (maxL := 2) (ret := (some .boolean)) (by decide) rfl ?_
  intro p e s m args below meth c s₁ B hml hv
  obtain ⟨rfl, hM, hK⟩ := hv
  have hx := B.exec
  have hb := B.bytes
  have hr := B.returns
  have hts : ∀ w ∈ TS, w.before ([.ref h0, .int p0] : List Value).toArray s = true := fun w hw => hK.2.1 w hw _
  have hown : s.vm.findClass RX10 = some m.cls := findClass_of_methodNamed B.named
  have hlocks := B.notSynchronized
  have hS : va_S (fun _ : Nat => False) s.heap s.heap [] := va_S.rf
  have hAz : ∀ q, (fun _ : Nat => False) q → z0 ≤ q := fun _ h => h.elim
  have hl := lv_entry ([.ref h0, .int p0]) (n := 2) (Nat.le_of_ble_eq_true rfl)
  rw [lg_entry_eq]
  generalize (lg_sl ([.ref h0, .int p0]) ++ List.replicate (2 - (lg_sl ([.ref h0, .int p0])).length) Slot.unset).toArray = ls at hl ⊢
  have hl : lv_has ls 2 [(0, .ref h0), (1, .int p0)] := hl
  refine lv_aload_n hx hb dX10_full_0 rfl (lv_at hl 0 rfl) ?_
  refine va_get (D := DG E) (ci := 10) (v := .ref (rf 10)) (C := RX10) (T := TX10) (N := 49) hx hb hts iw_X10 hown hK.1 (va_one hM.1) 0 rfl rfl 10 (by decide) (hts _ fl_X10_28) (fun _ h9 => h9) rfl dX10_full_1 ?_
  refine lv_iload_n hx hb dX10_full_4 rfl (lv_at hl 1 rfl) ?_
  have hi_1 : vp_in p0 4 := vp_in_iff.mpr (by omega)
  have ha_2 : va_at (DG E) vwCl (rf 10, .inl (E.2.2 0, 4, .inl (A 10))) _ := hM.2 10 (by decide) (by decide) (by decide)
  obtain ⟨n_3, hn_3, en_3⟩ := s_nat (x := p0) (by omega)
  refine va_iald (D := DG E) hx hb hK.1 (va_one ha_2) 0 0 rfl rfl hi_1 dX10_full_5 ?_
  refine W.eq (g2 := F0 m 6 ls [.int ((A 10) n_3)]) (by rw [en_3]) ?_
  refine lv_iconst (v := 1) hx hb dX10_full_6 (by decide) ?_
  refine lv_icmp_ne (tgt := 20) hx hb dX10_full_7 (by decide) (fun c_4 => ?_) (fun c_4 => ?_)
  · simp only [lt_I, le_I, eq_I, i_0, i_1, i_2, i_3, i_4, i_5, i_6, i_7, i_8, i_10, i_12, i_16, i_20, i_23, i_24, i_31, i_32, i_63, i_64, i_m1, i_9, i_11, i_13, i_25, i_60, i_75, i_79, i_80, i_96, i_100] at c_4
    refine lv_iconst (v := 1) hx hb dX10_full_20 (by decide) ?_
    refine lv_goto (tgt := 25) hx hb dX10_full_21 (by decide) ?_
    exact W.zret (v := 1) (ty := .boolean) hx hb hr rfl (fun t ht hW => ⟨⟨1, (), rfl, ⟨(by decide), (show ∀ n : Nat, (n : Int) = p0.toInt → (1 : Int32).toInt = 1 ∨ (((A 10) n).toInt = 1 ∧ ((A 20) n).toInt ≠ 4) from (fun n hn => by
        obtain rfl : n_3 = n := by omega
        exact Or.inl rfl)), (Or.inl ⟨n_3, hn_3, c_4, rfl⟩)⟩, trivial⟩, hS.F ht⟩) hS.2.2 dX10_full_25
  · simp only [lt_I, le_I, eq_I, i_0, i_1, i_2, i_3, i_4, i_5, i_6, i_7, i_8, i_10, i_12, i_16, i_20, i_23, i_24, i_31, i_32, i_63, i_64, i_m1, i_9, i_11, i_13, i_25, i_60, i_75, i_79, i_80, i_96, i_100] at c_4
    refine lv_aload_n hx hb dX10_full_10 rfl (lv_at hl 0 rfl) ?_
    refine va_get (D := DG E) (ci := 10) (v := .ref (rf 20)) (C := RX10) (T := TX10) (N := 49) hx hb hts iw_X10 hown hK.1 (va_one hM.1) 0 rfl rfl 20 (by decide) (hts _ fl_X10_59) (fun _ h9 => h9) rfl dX10_full_11 ?_
    refine lv_iload_n hx hb dX10_full_14 rfl (lv_at hl 1 rfl) ?_
    have ha_5 : va_at (DG E) vwCl (rf 20, .inl (E.2.2 0, 4, .inl (A 20))) _ := hM.2 20 (by decide) (by decide) (by decide)
    refine va_iald (D := DG E) hx hb hK.1 (va_one ha_5) 0 0 rfl rfl hi_1 dX10_full_15 ?_
    refine W.eq (g2 := F0 m 16 ls [.int ((A 20) n_3)]) (by rw [en_3]) ?_
    refine lv_iconst (v := 4) hx hb dX10_full_16 (by decide) ?_
    refine lv_icmp_ne (tgt := 24) hx hb dX10_full_17 (by decide) (fun c_6 => ?_) (fun c_6 => ?_)
    · simp only [lt_I, le_I, eq_I, i_0, i_1, i_2, i_3, i_4, i_5, i_6, i_7, i_8, i_10, i_12, i_16, i_20, i_23, i_24, i_31, i_32, i_63, i_64, i_m1, i_9, i_11, i_13, i_25, i_60, i_75, i_79, i_80, i_96, i_100] at c_6
      refine lv_iconst (v := 0) hx hb dX10_full_24 (by decide) ?_
      exact W.zret (v := 0) (ty := .boolean) hx hb hr rfl (fun t ht hW => ⟨⟨0, (), rfl, ⟨(by decide), (show ∀ n : Nat, (n : Int) = p0.toInt → (0 : Int32).toInt = 1 ∨ (((A 10) n).toInt = 1 ∧ ((A 20) n).toInt ≠ 4) from (fun n hn => by
        obtain rfl : n_3 = n := by omega
        exact Or.inr ⟨by omega, by omega⟩)), (Or.inr (Or.inl ⟨n_3, hn_3, c_4, c_6, rfl⟩))⟩, trivial⟩, hS.F ht⟩) hS.2.2 dX10_full_25
    · simp only [lt_I, le_I, eq_I, i_0, i_1, i_2, i_3, i_4, i_5, i_6, i_7, i_8, i_10, i_12, i_16, i_20, i_23, i_24, i_31, i_32, i_63, i_64, i_m1, i_9, i_11, i_13, i_25, i_60, i_75, i_79, i_80, i_96, i_100] at c_6
      refine lv_iconst (v := 1) hx hb dX10_full_20 (by decide) ?_
      refine lv_goto (tgt := 25) hx hb dX10_full_21 (by decide) ?_
      exact W.zret (v := 1) (ty := .boolean) hx hb hr rfl (fun t ht hW => ⟨⟨1, (), rfl, ⟨(by decide), (show ∀ n : Nat, (n : Int) = p0.toInt → (1 : Int32).toInt = 1 ∨ (((A 10) n).toInt = 1 ∧ ((A 20) n).toInt ≠ 4) from (fun n hn => by
        obtain rfl : n_3 = n := by omega
        exact Or.inl rfl)), (Or.inr (Or.inr ⟨n_3, hn_3, c_4, c_6, rfl⟩))⟩, trivial⟩, hS.F ht⟩) hS.2.2 dX10_full_25
theorem dX10_send_0 : decode cX10_send 0 = .ok (.aload_n 0, 1) := by decide +kernel
theorem dX10_send_1 : decode cX10_send 1 = .ok (.iconst 0, 1) := by decide +kernel
theorem dX10_send_2 : decode cX10_send 2 = .ok (.putfield 153, 3) := by decide +kernel
theorem dX10_send_5 : decode cX10_send 5 = .ok (.aload_n 0, 1) := by decide +kernel
theorem dX10_send_6 : decode cX10_send 6 = .ok (.iload_n 1, 1) := by decide +kernel
theorem dX10_send_7 : decode cX10_send 7 = .ok (.iload_n 2, 1) := by decide +kernel
theorem dX10_send_8 : decode cX10_send 8 = .ok (.iload_n 3, 1) := by decide +kernel
theorem dX10_send_9 : decode cX10_send 9 = .ok (.invokevirtual 181, 3) := by decide +kernel
theorem dX10_send_12 : decode cX10_send 12 = .ok (.ifCond .ne 9, 3) := by decide +kernel
theorem dX10_send_15 : decode cX10_send 15 = .ok (.aload_n 0, 1) := by decide +kernel
theorem dX10_send_16 : decode cX10_send 16 = .ok (.iconst 1, 1) := by decide +kernel
theorem dX10_send_17 : decode cX10_send 17 = .ok (.invokevirtual 185, 3) := by decide +kernel
theorem dX10_send_20 : decode cX10_send 20 = .ok (.ireturn, 1) := by decide +kernel
theorem dX10_send_21 : decode cX10_send 21 = .ok (.aload_n 0, 1) := by decide +kernel
theorem dX10_send_22 : decode cX10_send 22 = .ok (.iload_n 1, 1) := by decide +kernel
theorem dX10_send_23 : decode cX10_send 23 = .ok (.invokevirtual 188, 3) := by decide +kernel
theorem dX10_send_26 : decode cX10_send 26 = .ok (.ifCond .eq 11, 3) := by decide +kernel
theorem dX10_send_29 : decode cX10_send 29 = .ok (.aload_n 0, 1) := by decide +kernel
theorem dX10_send_30 : decode cX10_send 30 = .ok (.iconst 2, 1) := by decide +kernel
theorem dX10_send_31 : decode cX10_send 31 = .ok (.invokevirtual 185, 3) := by decide +kernel
theorem dX10_send_34 : decode cX10_send 34 = .ok (.goto 14, 3) := by decide +kernel
theorem dX10_send_37 : decode cX10_send 37 = .ok (.aload_n 0, 1) := by decide +kernel
theorem dX10_send_38 : decode cX10_send 38 = .ok (.iload_n 1, 1) := by decide +kernel
theorem dX10_send_39 : decode cX10_send 39 = .ok (.iconst 0, 1) := by decide +kernel
theorem dX10_send_40 : decode cX10_send 40 = .ok (.iload_n 2, 1) := by decide +kernel
theorem dX10_send_41 : decode cX10_send 41 = .ok (.iload_n 3, 1) := by decide +kernel
theorem dX10_send_42 : decode cX10_send 42 = .ok (.iconst (-1), 1) := by decide +kernel
theorem dX10_send_43 : decode cX10_send 43 = .ok (.iconst (-1), 1) := by decide +kernel
theorem dX10_send_44 : decode cX10_send 44 = .ok (.iconst 0, 1) := by decide +kernel
theorem dX10_send_45 : decode cX10_send 45 = .ok (.invokevirtual 192, 3) := by decide +kernel
theorem dX10_send_48 : decode cX10_send 48 = .ok (.ireturn, 1) := by decide +kernel
set_option maxHeartbeats 8000000 in
set_option maxRecDepth 100000 in
theorem u_X10_send (l : Launch) (E : EE) (z0 : Nat) (G : Nat → Nat) (hGz : ∀ q, G q ≠ 0 → z0 ≤ q) (h0 : Nat) (rf : Nat → Nat) (hR : MG G h0 rf) (t0 t1 t2 : Int32) (A : AA) (cd pk : Int32) (p0 : Int32) (p1 : Int32) (p2 : Int32) (hI4 : I4 (A 10) (A 20) (A 29) (A 24) (A 11) (A 12) (A 13)) (hI6 : I6 (A 22) (A 23) (A 24) (A 25) (A 26)) (hI8 : I8 (A 20) (A 30) (A 37) (A 36)) : Met l yX10_send [Cond.code yX10_send cX10_send 4 (some .int)] ({ frames := 2, cells := 0, slots := 0, locals := 49 } : Room) (va_Pc [.ref h0, .int p0, .int p1, .int p2] (fun U => MH E h0 rf t0 t1 t2 A cd pk U.heap ∧ KS E z0 U)) (va_Qi (fun (r : Int32) (u : (Nat → Int32) × (Nat → Int32) × (Nat → Int32) × (Nat → Int32) × (Nat → Int32) × (Nat → Int32) × (Nat → Int32) × (Nat → Int32) × (Nat → Int32) × (Nat → Int32) × (Nat → Int32) × Int32) => (I4 (A 10) (u.2.1) (u.2.2.2.2.2.2.2.2.2.2.1) (u.2.2.2.2.2.1) (u.1) (A 12) (A 13)) ∧ (I6 (u.2.2.2.1) (u.2.2.2.2.1) (u.2.2.2.2.2.1) (u.2.2.2.2.2.2.1) (u.2.2.2.2.2.2.2.1)) ∧ (I8 (u.2.1) (A 30) (A 37) (A 36)) ∧ (D_X10_send A cd pk p0 p1 p2 (uA (uA (uA (uA (uA (uA (uA (uA (uA (uA (uA A 11 (u.1)) 20 (u.2.1)) 21 (u.2.2.1)) 22 (u.2.2.2.1)) 23 (u.2.2.2.2.1)) 24 (u.2.2.2.2.2.1)) 25 (u.2.2.2.2.2.2.1)) 26 (u.2.2.2.2.2.2.2.1)) 27 (u.2.2.2.2.2.2.2.2.1)) 28 (u.2.2.2.2.2.2.2.2.2.1)) 29 (u.2.2.2.2.2.2.2.2.2.2.1)) (u.2.2.2.2.2.2.2.2.2.2.2) pk r)) (fun u t => MH E h0 rf t0 t1 t2 (uA (uA (uA (uA (uA (uA (uA (uA (uA (uA (uA A 11 (u.1)) 20 (u.2.1)) 21 (u.2.2.1)) 22 (u.2.2.2.1)) 23 (u.2.2.2.2.1)) 24 (u.2.2.2.2.2.1)) 25 (u.2.2.2.2.2.2.1)) 26 (u.2.2.2.2.2.2.2.1)) 27 (u.2.2.2.2.2.2.2.2.1)) 28 (u.2.2.2.2.2.2.2.2.2.1)) 29 (u.2.2.2.2.2.2.2.2.2.2.1)) (u.2.2.2.2.2.2.2.2.2.2.2) pk t.heap) (fun q : Nat => G q ≠ 0)) 0 0 (fun q : Nat => G q ≠ 0) := by
  refine Met.ofW (cc := cX10_send) (maxL := 4) (ret := (some .int)) (by decide) rfl ?_
  intro p e s m args below meth c s₁ B hml hv
  obtain ⟨rfl, hM, hK⟩ := hv
  have hx := B.exec
  have hb := B.bytes
  have hr := B.returns
  have hts : ∀ w ∈ TS, w.before ([.ref h0, .int p0, .int p1, .int p2] : List Value).toArray s = true := fun w hw => hK.2.1 w hw _
  have hown : s.vm.findClass RX10 = some m.cls := findClass_of_methodNamed B.named
  have hlocks := B.notSynchronized
  have hS : va_S (fun q : Nat => G q ≠ 0) s.heap s.heap [] := va_S.rf
  have hAz : ∀ q, (fun q : Nat => G q ≠ 0) q → z0 ≤ q := hGz
  have hl := lv_entry ([.ref h0, .int p0, .int p1, .int p2]) (n := 4) (Nat.le_of_ble_eq_true rfl)
  rw [lg_entry_eq]
  generalize (lg_sl ([.ref h0, .int p0, .int p1, .int p2]) ++ List.replicate (4 - (lg_sl ([.ref h0, .int p0, .int p1, .int p2])).length) Slot.unset).toArray = ls at hl ⊢
  have hl : lv_has ls 4 [(0, .ref h0), (1, .int p0), (2, .int p1), (3, .int p2)] := hl
  refine lv_aload_n hx hb dX10_send_0 rfl (lv_at hl 0 rfl) ?_
  refine lv_iconst (v := 0) hx hb dX10_send_1 (by decide) ?_
  refine rr_put (D := DG E) (ci := 10) (v := .int 0) (ty := .int) (C := RX10) (T := TX10) (N := 49) hx hb hts iw_X10 tyX10 tyX10_ok nmX10 hown hK.1 hM.1 hS (by show G h0 ≠ 0; rw [hR.1]; decide) rfl 3 (by decide) (hts _ fl_X10_153) (fun _ h9 => h9) rfl (by decide +kernel) rfl rfl (Nat.le_of_ble_eq_true rfl) dX10_send_2 (fun H locs hn ho hz hS => ?_)
  have hM : MH E h0 rf t0 t1 t2 A 0 pk H := hM.sc hR hn ho
  refine lv_aload_n hx hb dX10_send_5 rfl (lv_at hl 0 rfl) ?_
  refine lv_iload_n hx hb dX10_send_6 rfl (lv_at hl 1 rfl) ?_
  refine lv_iload_n hx hb dX10_send_7 rfl (lv_at hl 2 rfl) ?_
  refine lv_iload_n hx hb dX10_send_8 rfl (lv_at hl 3 rfl) ?_
  refine va_calli (rnV (fun H => MH E h0 rf t0 t1 t2 A 0 pk H) (As := [.int p0, .int p1, .int p2]) (rest := []) ⟨hx, hb, hml, hown, hts⟩ (u_X10_cellsGood l E z0 G hGz h0 rf hR t0 t1 t2 A 0 pk p0 p1 p2) (cwV 3 hts (gdV ml_X10_181 im_X10_cellsGood se_X10_X10_cellsGood in_X10 co_X10_cellsGood rfl) rfl rfl rfl (by decide +kernel) ⟨Nat.le_of_ble_eq_true rfl, Nat.le_of_ble_eq_true rfl⟩) hM (fun U hU hW => hK.go hW hS hAz hU) (va_recv hK.1 (va_one hM.1) (ci := 10) (q0 := 0) rfl rfl) rfl rfl hl.1 rfl (lv_room (Nat.le_of_ble_eq_true rfl)) dX10_send_9 ⟨Nat.le_of_ble_eq_true rfl, Nat.le_of_ble_eq_true rfl⟩) hS (fun q _ h => h.elim) (fun q h => h.elim) (fun r_1 ur_1 t H locs ht hvm hwr_1 hB hz hk hS => ?_)
  have hM := hM.kept (fun q hq => hk q hq (fun h => h))
  have hDr_1 : D_X10_cellsGood A (0 : Int32) pk p0 p1 p2 r_1 := hwr_1.2.2
  have hpr_1_0 : r_1 = 0 ∨ r_1 = 1 := hwr_1.1
  have hpr_1_1 : r_1.toInt = 0 ∨ (0 ≤ p0.toInt ∧ p0.toInt ≤ 3 ∧ 1 ≤ p2.toInt ∧ p2.toInt ≤ 12 ∧ 0 ≤ p1.toInt ∧ p1.toInt ≤ 31 ∧ p1.toInt + p2.toInt ≤ 32) := hwr_1.2.1
  have hzr_1 := s_rng hpr_1_0
  refine lv_if_ne (tgt := 21) hx hb dX10_send_12 (by decide) (fun c_2 => ?_) (fun c_2 => ?_)
  · simp only [lt_I, le_I, eq_I, i_0, i_1, i_2, i_3, i_4, i_5, i_6, i_7, i_8, i_10, i_12, i_16, i_20, i_23, i_24, i_31, i_32, i_63, i_64, i_m1, i_9, i_11, i_13, i_25, i_60, i_75, i_79, i_80, i_96, i_100] at c_2
    replace hpr_1_1 := hpr_1_1.resolve_left (by omega)
    refine lv_aload_n hx hb dX10_send_21 rfl (lv_at hl 0 rfl) ?_
    refine lv_iload_n hx hb dX10_send_22 rfl (lv_at hl 1 rfl) ?_
    refine va_calli (rnV (fun H => MH E h0 rf t0 t1 t2 A 0 pk H) (As := [.int p0]) (rest := []) ⟨hx, hb, hml, hown, hts⟩ (u_X10_full l E z0 G hGz h0 rf hR t0 t1 t2 A 0 pk p0 (show 0 ≤ p0.toInt ∧ p0.toInt ≤ 3 from by first | decide | omega)) (cwV 1 hts (gdV ml_X10_188 im_X10_full se_X10_X10_full in_X10 co_X10_full rfl) rfl rfl rfl (by decide +kernel) ⟨Nat.le_of_ble_eq_true rfl, Nat.le_of_ble_eq_true rfl⟩) hM (fun U hU hW => hK.go hW hS hAz hU) (va_recv hK.1 (va_one hM.1) (ci := 10) (q0 := 0) rfl rfl) rfl rfl hl.1 rfl (lv_room (Nat.le_of_ble_eq_true rfl)) dX10_send_23 ⟨Nat.le_of_ble_eq_true rfl, Nat.le_of_ble_eq_true rfl⟩) hS (fun q _ h => h.elim) (fun q h => h.elim) (fun r_3 ur_3 t H locs ht hvm hwr_3 hB hz hk hS => ?_)
    have hM := hM.kept (fun q hq => hk q hq (fun h => h))
    have hDr_3 : D_X10_full A (0 : Int32) pk p0 r_3 := hwr_3.2.2
    have hpr_3_0 : r_3 = 0 ∨ r_3 = 1 := hwr_3.1
    have hpr_3_1 : ∀ n : Nat, (n : Int) = p0.toInt → r_3.toInt = 1 ∨ (((A 10) n).toInt = 1 ∧ ((A 20) n).toInt ≠ 4) := hwr_3.2.1
    obtain ⟨n_4, hn_4, en_4⟩ := s_nat (x := p0) (by omega)
    have iahpr_3_1 := hpr_3_1 n_4 (by omega)
    have hzr_3 := s_rng hpr_3_0
    refine lv_if_eq (tgt := 37) hx hb dX10_send_26 (by decide) (fun c_5 => ?_) (fun c_5 => ?_)
    · simp only [lt_I, le_I, eq_I, i_0, i_1, i_2, i_3, i_4, i_5, i_6, i_7, i_8, i_10, i_12, i_16, i_20, i_23, i_24, i_31, i_32, i_63, i_64, i_m1, i_9, i_11, i_13, i_25, i_60, i_75, i_79, i_80, i_96, i_100] at c_5
      refine lv_aload_n hx hb dX10_send_37 rfl (lv_at hl 0 rfl) ?_
      refine lv_iload_n hx hb dX10_send_38 rfl (lv_at hl 1 rfl) ?_
      refine lv_iconst (v := 0) hx hb dX10_send_39 (by decide) ?_
      refine lv_iload_n hx hb dX10_send_40 rfl (lv_at hl 2 rfl) ?_
      refine lv_iload_n hx hb dX10_send_41 rfl (lv_at hl 3 rfl) ?_
      refine lv_iconst (v := (-1)) hx hb dX10_send_42 (by decide) ?_
      refine lv_iconst (v := (-1)) hx hb dX10_send_43 (by decide) ?_
      refine lv_iconst (v := 0) hx hb dX10_send_44 (by decide) ?_
      refine va_calli (rnV (fun H => MH E h0 rf t0 t1 t2 A 0 pk H) (As := [.int p0, .int 0, .int p1, .int p2, .int (-1), .int (-1), .int 0]) (rest := []) ⟨hx, hb, hml, hown, hts⟩ (u_X10_post l E z0 G hGz h0 rf hR t0 t1 t2 A 0 pk p0 0 p1 p2 (-1) (-1) 0 hI4 hI6 hI8 (show 0 ≤ p0.toInt ∧ p0.toInt ≤ 3 from by have := i_m1; have := i_0; first | decide | omega) (show 0 ≤ (0 : Int32).toInt ∧ (0 : Int32).toInt ≤ 3 from by have := i_m1; have := i_0; first | decide | omega) (show 0 ≤ p1.toInt ∧ p1.toInt ≤ 32 from by have := i_m1; have := i_0; first | decide | omega) (show 1 ≤ p2.toInt ∧ p2.toInt ≤ 12 from by have := i_m1; have := i_0; first | decide | omega) (show p1.toInt + p2.toInt ≤ 32 from by have := i_m1; have := i_0; first | decide | omega) (show (0 : Int32).toInt = 0 ∨ (0 ≤ (-1 : Int32).toInt ∧ (-1 : Int32).toInt ≤ 5) from by have := i_m1; have := i_0; first | decide | omega) (show -1 ≤ (-1 : Int32).toInt ∧ (-1 : Int32).toInt ≤ 31 from by have := i_m1; have := i_0; first | decide | omega) (show ∀ n : Nat, (n : Int) = p0.toInt → ((A 10) n).toInt = 1 ∧ ((A 20) n).toInt ≠ 4 from (fun n hn => by
        obtain rfl : n_4 = n := by omega
        exact iahpr_3_1.resolve_left (by omega)))) (cwV 7 hts (gdV ml_X10_192 im_X10_post se_X10_X10_post in_X10 co_X10_post rfl) rfl rfl rfl (by decide +kernel) ⟨Nat.le_of_ble_eq_true rfl, Nat.le_of_ble_eq_true rfl⟩) hM (fun U hU hW => hK.go hW hS hAz hU) (va_recv hK.1 (va_one hM.1) (ci := 10) (q0 := 0) rfl rfl) rfl rfl hl.1 rfl (lv_room (Nat.le_of_ble_eq_true rfl)) dX10_send_45 ⟨Nat.le_of_ble_eq_true rfl, Nat.le_of_ble_eq_true rfl⟩) hS (fun q _ h => h) (fun q h => h) (fun r_6 ur_6 t H locs ht hvm hwr_6 hB hz hk hS => ?_)
      have hM : MH E h0 rf t0 t1 t2 (uA (uA (uA (uA (uA (uA (uA (uA (uA (uA (uA A 11 (ur_6.1)) 20 (ur_6.2.1)) 21 (ur_6.2.2.1)) 22 (ur_6.2.2.2.1)) 23 (ur_6.2.2.2.2.1)) 24 (ur_6.2.2.2.2.2.1)) 25 (ur_6.2.2.2.2.2.2.1)) 26 (ur_6.2.2.2.2.2.2.2.1)) 27 (ur_6.2.2.2.2.2.2.2.2.1)) 28 (ur_6.2.2.2.2.2.2.2.2.2.1)) 29 (ur_6.2.2.2.2.2.2.2.2.2.2)) 0 pk H := by rw [ht] at hB; exact hB
      have hDr_6 : D_X10_post A (0 : Int32) pk p0 (0 : Int32) p1 p2 (-1 : Int32) (-1 : Int32) (0 : Int32) (uA (uA (uA (uA (uA (uA (uA (uA (uA (uA (uA A 11 (ur_6.1)) 20 (ur_6.2.1)) 21 (ur_6.2.2.1)) 22 (ur_6.2.2.2.1)) 23 (ur_6.2.2.2.2.1)) 24 (ur_6.2.2.2.2.2.1)) 25 (ur_6.2.2.2.2.2.2.1)) 26 (ur_6.2.2.2.2.2.2.2.1)) 27 (ur_6.2.2.2.2.2.2.2.2.1)) 28 (ur_6.2.2.2.2.2.2.2.2.2.1)) 29 (ur_6.2.2.2.2.2.2.2.2.2.2)) (0 : Int32) pk r_6 := hwr_6.2.2.2
      have hpr_6_0 : I4 (A 10) (ur_6.2.1) (ur_6.2.2.2.2.2.2.2.2.2.2) (ur_6.2.2.2.2.2.1) (ur_6.1) (A 12) (A 13) := hwr_6.1
      have hpr_6_1 : I6 (ur_6.2.2.2.1) (ur_6.2.2.2.2.1) (ur_6.2.2.2.2.2.1) (ur_6.2.2.2.2.2.2.1) (ur_6.2.2.2.2.2.2.2.1) := hwr_6.2.1
      have hpr_6_2 : I8 (ur_6.2.1) (A 30) (A 37) (A 36) := hwr_6.2.2.1
      have := i_m1
      have := i_0
      exact W.iret (v := r_6) hx hb hr (fun t ht hW => ⟨⟨r_6, ((ur_6.1), (ur_6.2.1), (ur_6.2.2.1), (ur_6.2.2.2.1), (ur_6.2.2.2.2.1), (ur_6.2.2.2.2.2.1), (ur_6.2.2.2.2.2.2.1), (ur_6.2.2.2.2.2.2.2.1), (ur_6.2.2.2.2.2.2.2.2.1), (ur_6.2.2.2.2.2.2.2.2.2.1), (ur_6.2.2.2.2.2.2.2.2.2.2), 0), rfl, ⟨hpr_6_0, hpr_6_1, hpr_6_2, (Or.inl ⟨r_1, hDr_1, hpr_1_0, c_2, r_3, hDr_3, hpr_3_0, hpr_3_1, n_4, hn_4, c_5, ur_6, r_6, hDr_6, hpr_6_0, hpr_6_1, hpr_6_2, rfl, rfl, rfl, rfl⟩)⟩, (by show MH E h0 rf t0 t1 t2 (uA (uA (uA (uA (uA (uA (uA (uA (uA (uA (uA A 11 (ur_6.1)) 20 (ur_6.2.1)) 21 (ur_6.2.2.1)) 22 (ur_6.2.2.2.1)) 23 (ur_6.2.2.2.2.1)) 24 (ur_6.2.2.2.2.2.1)) 25 (ur_6.2.2.2.2.2.2.1)) 26 (ur_6.2.2.2.2.2.2.2.1)) 27 (ur_6.2.2.2.2.2.2.2.2.1)) 28 (ur_6.2.2.2.2.2.2.2.2.2.1)) 29 (ur_6.2.2.2.2.2.2.2.2.2.2)) 0 pk t.heap; rw [ht]; exact hM)⟩, hS.F ht⟩) hS.2.2 dX10_send_48
    · simp only [lt_I, le_I, eq_I, i_0, i_1, i_2, i_3, i_4, i_5, i_6, i_7, i_8, i_10, i_12, i_16, i_20, i_23, i_24, i_31, i_32, i_63, i_64, i_m1, i_9, i_11, i_13, i_25, i_60, i_75, i_79, i_80, i_96, i_100] at c_5
      refine lv_aload_n hx hb dX10_send_29 rfl (lv_at hl 0 rfl) ?_
      refine lv_iconst (v := 2) hx hb dX10_send_30 (by decide) ?_
      refine va_calli (rnV (fun H => MH E h0 rf t0 t1 t2 A 0 pk H) (As := [.int 2]) (rest := []) ⟨hx, hb, hml, hown, hts⟩ (u_X10_fail l E z0 G hGz h0 rf hR t0 t1 t2 A 0 pk 2) (cwV 1 hts (gdV ml_X10_185 im_X10_fail se_X10_X10_fail in_X10 co_X10_fail rfl) rfl rfl rfl (by decide +kernel) ⟨Nat.le_of_ble_eq_true rfl, Nat.le_of_ble_eq_true rfl⟩) hM (fun U hU hW => hK.go hW hS hAz hU) (va_recv hK.1 (va_one hM.1) (ci := 10) (q0 := 0) rfl rfl) rfl rfl hl.1 rfl (lv_room (Nat.le_of_ble_eq_true rfl)) dX10_send_31 ⟨Nat.le_of_ble_eq_true rfl, Nat.le_of_ble_eq_true rfl⟩) hS (fun q _ h => h) (fun q h => h) (fun r_7 ur_7 t H locs ht hvm hwr_7 hB hz hk hS => ?_)
      have hM : MH E h0 rf t0 t1 t2 A ur_7 pk H := by rw [ht] at hB; exact hB
      have hDr_7 : D_X10_fail A (0 : Int32) pk (2 : Int32) A ur_7 pk r_7 := hwr_7.2
      have hpr_7_0 : ur_7 = (2 : Int32) := hwr_7.1
      have := i_2
      refine lv_goto (tgt := 48) hx hb dX10_send_34 (by decide) ?_
      exact W.iret (v := r_7) hx hb hr (fun t ht hW => ⟨⟨r_7, ((A 11), (A 20), (A 21), (A 22), (A 23), (A 24), (A 25), (A 26), (A 27), (A 28), (A 29), ur_7), rfl, ⟨hI4, hI6, hI8, (Or.inr (Or.inl ⟨r_1, hDr_1, hpr_1_0, c_2, r_3, hDr_3, hpr_3_0, hpr_3_1, n_4, hn_4, c_5, ur_7, r_7, hDr_7, hpr_7_0, rfl, rfl, rfl, rfl⟩))⟩, (by show MH E h0 rf t0 t1 t2 (uA (uA (uA (uA (uA (uA (uA (uA (uA (uA (uA A 11 (A 11)) 20 (A 20)) 21 (A 21)) 22 (A 22)) 23 (A 23)) 24 (A 24)) 25 (A 25)) 26 (A 26)) 27 (A 27)) 28 (A 28)) 29 (A 29)) ur_7 pk t.heap; rw [ht]; exact hM.cge (funext fun j => (cgj j 29 rfl (fun a0 => (cgj j 28 rfl (fun a1 => (cgj j 27 rfl (fun a2 => (cgj j 26 rfl (fun a3 => (cgj j 25 rfl (fun a4 => (cgj j 24 rfl (fun a5 => (cgj j 23 rfl (fun a6 => (cgj j 22 rfl (fun a7 => (cgj j 21 rfl (fun a8 => (cgj j 20 rfl (fun a9 => (cgj j 11 rfl (fun a10 => (by simp only [uA_n a0, uA_n a1, uA_n a2, uA_n a3, uA_n a4, uA_n a5, uA_n a6, uA_n a7, uA_n a8, uA_n a9, uA_n a10])))))))))))))))))))))))))⟩, hS.F ht⟩) hS.2.2 dX10_send_48
  · simp only [lt_I, le_I, eq_I, i_0, i_1, i_2, i_3, i_4, i_5, i_6, i_7, i_8, i_10, i_12, i_16, i_20, i_23, i_24, i_31, i_32, i_63, i_64, i_m1, i_9, i_11, i_13, i_25, i_60, i_75, i_79, i_80, i_96, i_100] at c_2
    clear hpr_1_1
    refine lv_aload_n hx hb dX10_send_15 rfl (lv_at hl 0 rfl) ?_
    refine lv_iconst (v := 1) hx hb dX10_send_16 (by decide) ?_
    refine va_calli (rnV (fun H => MH E h0 rf t0 t1 t2 A 0 pk H) (As := [.int 1]) (rest := []) ⟨hx, hb, hml, hown, hts⟩ (u_X10_fail l E z0 G hGz h0 rf hR t0 t1 t2 A 0 pk 1) (cwV 1 hts (gdV ml_X10_185 im_X10_fail se_X10_X10_fail in_X10 co_X10_fail rfl) rfl rfl rfl (by decide +kernel) ⟨Nat.le_of_ble_eq_true rfl, Nat.le_of_ble_eq_true rfl⟩) hM (fun U hU hW => hK.go hW hS hAz hU) (va_recv hK.1 (va_one hM.1) (ci := 10) (q0 := 0) rfl rfl) rfl rfl hl.1 rfl (lv_room (Nat.le_of_ble_eq_true rfl)) dX10_send_17 ⟨Nat.le_of_ble_eq_true rfl, Nat.le_of_ble_eq_true rfl⟩) hS (fun q _ h => h) (fun q h => h) (fun r_8 ur_8 t H locs ht hvm hwr_8 hB hz hk hS => ?_)
    have hM : MH E h0 rf t0 t1 t2 A ur_8 pk H := by rw [ht] at hB; exact hB
    have hDr_8 : D_X10_fail A (0 : Int32) pk (1 : Int32) A ur_8 pk r_8 := hwr_8.2
    have hpr_8_0 : ur_8 = (1 : Int32) := hwr_8.1
    have := i_1
    exact W.iret (v := r_8) hx hb hr (fun t ht hW => ⟨⟨r_8, ((A 11), (A 20), (A 21), (A 22), (A 23), (A 24), (A 25), (A 26), (A 27), (A 28), (A 29), ur_8), rfl, ⟨hI4, hI6, hI8, (Or.inr (Or.inr ⟨r_1, hDr_1, hpr_1_0, c_2, ur_8, r_8, hDr_8, hpr_8_0, rfl, rfl, rfl, rfl⟩))⟩, (by show MH E h0 rf t0 t1 t2 (uA (uA (uA (uA (uA (uA (uA (uA (uA (uA (uA A 11 (A 11)) 20 (A 20)) 21 (A 21)) 22 (A 22)) 23 (A 23)) 24 (A 24)) 25 (A 25)) 26 (A 26)) 27 (A 27)) 28 (A 28)) 29 (A 29)) ur_8 pk t.heap; rw [ht]; exact hM.cge (funext fun j => (cgj j 29 rfl (fun a0 => (cgj j 28 rfl (fun a1 => (cgj j 27 rfl (fun a2 => (cgj j 26 rfl (fun a3 => (cgj j 25 rfl (fun a4 => (cgj j 24 rfl (fun a5 => (cgj j 23 rfl (fun a6 => (cgj j 22 rfl (fun a7 => (cgj j 21 rfl (fun a8 => (cgj j 20 rfl (fun a9 => (cgj j 11 rfl (fun a10 => (by simp only [uA_n a0, uA_n a1, uA_n a2, uA_n a3, uA_n a4, uA_n a5, uA_n a6, uA_n a7, uA_n a8, uA_n a9, uA_n a10])))))))))))))))))))))))))⟩, hS.F ht⟩) hS.2.2 dX10_send_20
theorem gdX10_move_0 : (decode cX10_move 0 = .ok (.aload_n 0, 1)) ∧ (decode cX10_move 1 = .ok (.iconst 0, 1)) ∧ (decode cX10_move 2 = .ok (.putfield 153, 3)) ∧ (decode cX10_move 5 = .ok (.aload_n 0, 1)) ∧ (decode cX10_move 6 = .ok (.iload_n 1, 1)) ∧ (decode cX10_move 7 = .ok (.iload_n 3, 1)) ∧ (decode cX10_move 8 = .ok (.iload 4, 2)) ∧ (decode cX10_move 10 = .ok (.invokevirtual 181, 3)) ∧ (decode cX10_move 13 = .ok (.ifCond .eq 22, 3)) ∧ (decode cX10_move 16 = .ok (.iload 5, 2)) ∧ (decode cX10_move 18 = .ok (.iconst 5, 1)) ∧ (decode cX10_move 19 = .ok (.invokestatic 156, 3)) ∧ (decode cX10_move 22 = .ok (.ifCond .eq 13, 3)) ∧ (decode cX10_move 25 = .ok (.iload 6, 2)) ∧ (decode cX10_move 27 = .ok (.bipush 31, 2)) ∧ (decode cX10_move 29 = .ok (.invokestatic 156, 3)) := by decide +kernel
theorem dX10_move_0 : decode cX10_move 0 = .ok (.aload_n 0, 1) := gdX10_move_0.1
theorem dX10_move_1 : decode cX10_move 1 = .ok (.iconst 0, 1) := gdX10_move_0.2.1
theorem dX10_move_2 : decode cX10_move 2 = .ok (.putfield 153, 3) := gdX10_move_0.2.2.1
theorem dX10_move_5 : decode cX10_move 5 = .ok (.aload_n 0, 1) := gdX10_move_0.2.2.2.1
theorem dX10_move_6 : decode cX10_move 6 = .ok (.iload_n 1, 1) := gdX10_move_0.2.2.2.2.1
theorem dX10_move_7 : decode cX10_move 7 = .ok (.iload_n 3, 1) := gdX10_move_0.2.2.2.2.2.1
theorem dX10_move_8 : decode cX10_move 8 = .ok (.iload 4, 2) := gdX10_move_0.2.2.2.2.2.2.1
theorem dX10_move_10 : decode cX10_move 10 = .ok (.invokevirtual 181, 3) := gdX10_move_0.2.2.2.2.2.2.2.1
theorem dX10_move_13 : decode cX10_move 13 = .ok (.ifCond .eq 22, 3) := gdX10_move_0.2.2.2.2.2.2.2.2.1
theorem dX10_move_16 : decode cX10_move 16 = .ok (.iload 5, 2) := gdX10_move_0.2.2.2.2.2.2.2.2.2.1
theorem dX10_move_18 : decode cX10_move 18 = .ok (.iconst 5, 1) := gdX10_move_0.2.2.2.2.2.2.2.2.2.2.1
theorem dX10_move_19 : decode cX10_move 19 = .ok (.invokestatic 156, 3) := gdX10_move_0.2.2.2.2.2.2.2.2.2.2.2.1
theorem dX10_move_22 : decode cX10_move 22 = .ok (.ifCond .eq 13, 3) := gdX10_move_0.2.2.2.2.2.2.2.2.2.2.2.2.1
theorem dX10_move_25 : decode cX10_move 25 = .ok (.iload 6, 2) := gdX10_move_0.2.2.2.2.2.2.2.2.2.2.2.2.2.1
theorem dX10_move_27 : decode cX10_move 27 = .ok (.bipush 31, 2) := gdX10_move_0.2.2.2.2.2.2.2.2.2.2.2.2.2.2.1
theorem dX10_move_29 : decode cX10_move 29 = .ok (.invokestatic 156, 3) := gdX10_move_0.2.2.2.2.2.2.2.2.2.2.2.2.2.2.2
theorem gdX10_move_32 : (decode cX10_move 32 = .ok (.ifCond .ne 9, 3)) ∧ (decode cX10_move 35 = .ok (.aload_n 0, 1)) ∧ (decode cX10_move 36 = .ok (.iconst 1, 1)) ∧ (decode cX10_move 37 = .ok (.invokevirtual 185, 3)) ∧ (decode cX10_move 40 = .ok (.ireturn, 1)) ∧ (decode cX10_move 41 = .ok (.aload_n 0, 1)) ∧ (decode cX10_move 42 = .ok (.iload_n 1, 1)) ∧ (decode cX10_move 43 = .ok (.invokevirtual 188, 3)) ∧ (decode cX10_move 46 = .ok (.ifCond .eq 11, 3)) ∧ (decode cX10_move 49 = .ok (.aload_n 0, 1)) ∧ (decode cX10_move 50 = .ok (.iconst 2, 1)) ∧ (decode cX10_move 51 = .ok (.invokevirtual 185, 3)) ∧ (decode cX10_move 54 = .ok (.goto 25, 3)) ∧ (decode cX10_move 57 = .ok (.aload_n 0, 1)) ∧ (decode cX10_move 58 = .ok (.iload_n 1, 1)) ∧ (decode cX10_move 59 = .ok (.iload_n 2, 1)) := by decide +kernel
theorem dX10_move_32 : decode cX10_move 32 = .ok (.ifCond .ne 9, 3) := gdX10_move_32.1
theorem dX10_move_35 : decode cX10_move 35 = .ok (.aload_n 0, 1) := gdX10_move_32.2.1
theorem dX10_move_36 : decode cX10_move 36 = .ok (.iconst 1, 1) := gdX10_move_32.2.2.1
theorem dX10_move_37 : decode cX10_move 37 = .ok (.invokevirtual 185, 3) := gdX10_move_32.2.2.2.1
theorem dX10_move_40 : decode cX10_move 40 = .ok (.ireturn, 1) := gdX10_move_32.2.2.2.2.1
theorem dX10_move_41 : decode cX10_move 41 = .ok (.aload_n 0, 1) := gdX10_move_32.2.2.2.2.2.1
theorem dX10_move_42 : decode cX10_move 42 = .ok (.iload_n 1, 1) := gdX10_move_32.2.2.2.2.2.2.1
theorem dX10_move_43 : decode cX10_move 43 = .ok (.invokevirtual 188, 3) := gdX10_move_32.2.2.2.2.2.2.2.1
theorem dX10_move_46 : decode cX10_move 46 = .ok (.ifCond .eq 11, 3) := gdX10_move_32.2.2.2.2.2.2.2.2.1
theorem dX10_move_49 : decode cX10_move 49 = .ok (.aload_n 0, 1) := gdX10_move_32.2.2.2.2.2.2.2.2.2.1
theorem dX10_move_50 : decode cX10_move 50 = .ok (.iconst 2, 1) := gdX10_move_32.2.2.2.2.2.2.2.2.2.2.1
theorem dX10_move_51 : decode cX10_move 51 = .ok (.invokevirtual 185, 3) := gdX10_move_32.2.2.2.2.2.2.2.2.2.2.2.1
theorem dX10_move_54 : decode cX10_move 54 = .ok (.goto 25, 3) := gdX10_move_32.2.2.2.2.2.2.2.2.2.2.2.2.1
theorem dX10_move_57 : decode cX10_move 57 = .ok (.aload_n 0, 1) := gdX10_move_32.2.2.2.2.2.2.2.2.2.2.2.2.2.1
theorem dX10_move_58 : decode cX10_move 58 = .ok (.iload_n 1, 1) := gdX10_move_32.2.2.2.2.2.2.2.2.2.2.2.2.2.2.1
theorem dX10_move_59 : decode cX10_move 59 = .ok (.iload_n 2, 1) := gdX10_move_32.2.2.2.2.2.2.2.2.2.2.2.2.2.2.2
theorem gdX10_move_60 : (decode cX10_move 60 = .ok (.ifCond .eq 7, 3)) ∧ (decode cX10_move 63 = .ok (.iconst 2, 1)) ∧ (decode cX10_move 64 = .ok (.goto 4, 3)) ∧ (decode cX10_move 67 = .ok (.iconst 1, 1)) ∧ (decode cX10_move 68 = .ok (.iload_n 3, 1)) ∧ (decode cX10_move 69 = .ok (.iload 4, 2)) ∧ (decode cX10_move 71 = .ok (.iload 5, 2)) ∧ (decode cX10_move 73 = .ok (.iload 6, 2)) ∧ (decode cX10_move 75 = .ok (.iconst 0, 1)) ∧ (decode cX10_move 76 = .ok (.invokevirtual 192, 3)) ∧ (decode cX10_move 79 = .ok (.ireturn, 1)) := by decide +kernel
theorem dX10_move_60 : decode cX10_move 60 = .ok (.ifCond .eq 7, 3) := gdX10_move_60.1
theorem dX10_move_63 : decode cX10_move 63 = .ok (.iconst 2, 1) := gdX10_move_60.2.1
theorem dX10_move_64 : decode cX10_move 64 = .ok (.goto 4, 3) := gdX10_move_60.2.2.1
theorem dX10_move_67 : decode cX10_move 67 = .ok (.iconst 1, 1) := gdX10_move_60.2.2.2.1
theorem dX10_move_68 : decode cX10_move 68 = .ok (.iload_n 3, 1) := gdX10_move_60.2.2.2.2.1
theorem dX10_move_69 : decode cX10_move 69 = .ok (.iload 4, 2) := gdX10_move_60.2.2.2.2.2.1
theorem dX10_move_71 : decode cX10_move 71 = .ok (.iload 5, 2) := gdX10_move_60.2.2.2.2.2.2.1
theorem dX10_move_73 : decode cX10_move 73 = .ok (.iload 6, 2) := gdX10_move_60.2.2.2.2.2.2.2.1
theorem dX10_move_75 : decode cX10_move 75 = .ok (.iconst 0, 1) := gdX10_move_60.2.2.2.2.2.2.2.2.1
theorem dX10_move_76 : decode cX10_move 76 = .ok (.invokevirtual 192, 3) := gdX10_move_60.2.2.2.2.2.2.2.2.2.1
theorem dX10_move_79 : decode cX10_move 79 = .ok (.ireturn, 1) := gdX10_move_60.2.2.2.2.2.2.2.2.2.2
set_option maxHeartbeats 8000000 in
set_option maxRecDepth 100000 in
theorem u_X10_move (l : Launch) (E : EE) (z0 : Nat) (G : Nat → Nat) (hGz : ∀ q, G q ≠ 0 → z0 ≤ q) (h0 : Nat) (rf : Nat → Nat) (hR : MG G h0 rf) (t0 t1 t2 : Int32) (A : AA) (cd pk : Int32) (p0 : Int32) (p1 : Int32) (p2 : Int32) (p3 : Int32) (p4 : Int32) (p5 : Int32) (hI4 : I4 (A 10) (A 20) (A 29) (A 24) (A 11) (A 12) (A 13)) (hI6 : I6 (A 22) (A 23) (A 24) (A 25) (A 26)) (hI8 : I8 (A 20) (A 30) (A 37) (A 36)) : Met l yX10_move [Cond.code yX10_move cX10_move 7 (some .int)] ({ frames := 2, cells := 0, slots := 0, locals := 49 } : Room) (va_Pc [.ref h0, .int p0, .int p1, .int p2, .int p3, .int p4, .int p5] (fun U => MH E h0 rf t0 t1 t2 A cd pk U.heap ∧ KS E z0 U)) (va_Qi (fun (r : Int32) (u : (Nat → Int32) × (Nat → Int32) × (Nat → Int32) × (Nat → Int32) × (Nat → Int32) × (Nat → Int32) × (Nat → Int32) × (Nat → Int32) × (Nat → Int32) × (Nat → Int32) × (Nat → Int32) × Int32) => (I4 (A 10) (u.2.1) (u.2.2.2.2.2.2.2.2.2.2.1) (u.2.2.2.2.2.1) (u.1) (A 12) (A 13)) ∧ (I6 (u.2.2.2.1) (u.2.2.2.2.1) (u.2.2.2.2.2.1) (u.2.2.2.2.2.2.1) (u.2.2.2.2.2.2.2.1)) ∧ (I8 (u.2.1) (A 30) (A 37) (A 36)) ∧ (D_X10_move A cd pk p0 p1 p2 p3 p4 p5 (uA (uA (uA (uA (uA (uA (uA (uA (uA (uA (uA A 11 (u.1)) 20 (u.2.1)) 21 (u.2.2.1)) 22 (u.2.2.2.1)) 23 (u.2.2.2.2.1)) 24 (u.2.2.2.2.2.1)) 25 (u.2.2.2.2.2.2.1)) 26 (u.2.2.2.2.2.2.2.1)) 27 (u.2.2.2.2.2.2.2.2.1)) 28 (u.2.2.2.2.2.2.2.2.2.1)) 29 (u.2.2.2.2.2.2.2.2.2.2.1)) (u.2.2.2.2.2.2.2.2.2.2.2) pk r)) (fun u t => MH E h0 rf t0 t1 t2 (uA (uA (uA (uA (uA (uA (uA (uA (uA (uA (uA A 11 (u.1)) 20 (u.2.1)) 21 (u.2.2.1)) 22 (u.2.2.2.1)) 23 (u.2.2.2.2.1)) 24 (u.2.2.2.2.2.1)) 25 (u.2.2.2.2.2.2.1)) 26 (u.2.2.2.2.2.2.2.1)) 27 (u.2.2.2.2.2.2.2.2.1)) 28 (u.2.2.2.2.2.2.2.2.2.1)) 29 (u.2.2.2.2.2.2.2.2.2.2.1)) (u.2.2.2.2.2.2.2.2.2.2.2) pk t.heap) (fun q : Nat => G q ≠ 0)) 0 0 (fun q : Nat => G q ≠ 0) := by
  refine Met.ofW (cc := cX10_move) (maxL := 7) (ret := (some .int)) (by decide) rfl ?_
  intro p e s m args below meth c s₁ B hml hv
  obtain ⟨rfl, hM, hK⟩ := hv
  have hx := B.exec
  have hb := B.bytes
  have hr := B.returns
  have hts : ∀ w ∈ TS, w.before ([.ref h0, .int p0, .int p1, .int p2, .int p3, .int p4, .int p5] : List Value).toArray s = true := fun w hw => hK.2.1 w hw _
  have hown : s.vm.findClass RX10 = some m.cls := findClass_of_methodNamed B.named
  have hlocks := B.notSynchronized
  have hS : va_S (fun q : Nat => G q ≠ 0) s.heap s.heap [] := va_S.rf
  have hAz : ∀ q, (fun q : Nat => G q ≠ 0) q → z0 ≤ q := hGz
  have hl := lv_entry ([.ref h0, .int p0, .int p1, .int p2, .int p3, .int p4, .int p5]) (n := 7) (Nat.le_of_ble_eq_true rfl)
  rw [lg_entry_eq]
  generalize (lg_sl ([.ref h0, .int p0, .int p1, .int p2, .int p3, .int p4, .int p5]) ++ List.replicate (7 - (lg_sl ([.ref h0, .int p0, .int p1, .int p2, .int p3, .int p4, .int p5])).length) Slot.unset).toArray = ls at hl ⊢
  have hl : lv_has ls 7 [(0, .ref h0), (1, .int p0), (2, .int p1), (3, .int p2), (4, .int p3), (5, .int p4), (6, .int p5)] := hl
  refine lv_aload_n hx hb dX10_move_0 rfl (lv_at hl 0 rfl) ?_
  refine lv_iconst (v := 0) hx hb dX10_move_1 (by decide) ?_
  refine rr_put (D := DG E) (ci := 10) (v := .int 0) (ty := .int) (C := RX10) (T := TX10) (N := 49) hx hb hts iw_X10 tyX10 tyX10_ok nmX10 hown hK.1 hM.1 hS (by show G h0 ≠ 0; rw [hR.1]; decide) rfl 3 (by decide) (hts _ fl_X10_153) (fun _ h9 => h9) rfl (by decide +kernel) rfl rfl (Nat.le_of_ble_eq_true rfl) dX10_move_2 (fun H locs hn ho hz hS => ?_)
  have hM : MH E h0 rf t0 t1 t2 A 0 pk H := hM.sc hR hn ho
  refine lv_aload_n hx hb dX10_move_5 rfl (lv_at hl 0 rfl) ?_
  refine lv_iload_n hx hb dX10_move_6 rfl (lv_at hl 1 rfl) ?_
  refine lv_iload_n hx hb dX10_move_7 rfl (lv_at hl 3 rfl) ?_
  refine lv_iload hx hb dX10_move_8 (lv_at hl 4 rfl) ?_
  refine va_calli (rnV (fun H => MH E h0 rf t0 t1 t2 A 0 pk H) (As := [.int p0, .int p2, .int p3]) (rest := []) ⟨hx, hb, hml, hown, hts⟩ (u_X10_cellsGood l E z0 G hGz h0 rf hR t0 t1 t2 A 0 pk p0 p2 p3) (cwV 3 hts (gdV ml_X10_181 im_X10_cellsGood se_X10_X10_cellsGood in_X10 co_X10_cellsGood rfl) rfl rfl rfl (by decide +kernel) ⟨Nat.le_of_ble_eq_true rfl, Nat.le_of_ble_eq_true rfl⟩) hM (fun U hU hW => hK.go hW hS hAz hU) (va_recv hK.1 (va_one hM.1) (ci := 10) (q0 := 0) rfl rfl) rfl rfl hl.1 rfl (lv_room (Nat.le_of_ble_eq_true rfl)) dX10_move_10 ⟨Nat.le_of_ble_eq_true rfl, Nat.le_of_ble_eq_true rfl⟩) hS (fun q _ h => h.elim) (fun q h => h.elim) (fun r_1 ur_1 t H locs ht hvm hwr_1 hB hz hk hS => ?_)
  have hM := hM.kept (fun q hq => hk q hq (fun h => h))
  have hDr_1 : D_X10_cellsGood A (0 : Int32) pk p0 p2 p3 r_1 := hwr_1.2.2
  have hpr_1_0 : r_1 = 0 ∨ r_1 = 1 := hwr_1.1
  have hpr_1_1 : r_1.toInt = 0 ∨ (0 ≤ p0.toInt ∧ p0.toInt ≤ 3 ∧ 1 ≤ p3.toInt ∧ p3.toInt ≤ 12 ∧ 0 ≤ p2.toInt ∧ p2.toInt ≤ 31 ∧ p2.toInt + p3.toInt ≤ 32) := hwr_1.2.1
  have hzr_1 := s_rng hpr_1_0
  refine lv_if_eq (tgt := 35) hx hb dX10_move_13 (by decide) (fun c_2 => ?_) (fun c_2 => ?_)
  · simp only [lt_I, le_I, eq_I, i_0, i_1, i_2, i_3, i_4, i_5, i_6, i_7, i_8, i_10, i_12, i_16, i_20, i_23, i_24, i_31, i_32, i_63, i_64, i_m1, i_9, i_11, i_13, i_25, i_60, i_75, i_79, i_80, i_96, i_100] at c_2
    clear hpr_1_1
    refine lv_aload_n hx hb dX10_move_35 rfl (lv_at hl 0 rfl) ?_
    refine lv_iconst (v := 1) hx hb dX10_move_36 (by decide) ?_
    refine va_calli (rnV (fun H => MH E h0 rf t0 t1 t2 A 0 pk H) (As := [.int 1]) (rest := []) ⟨hx, hb, hml, hown, hts⟩ (u_X10_fail l E z0 G hGz h0 rf hR t0 t1 t2 A 0 pk 1) (cwV 1 hts (gdV ml_X10_185 im_X10_fail se_X10_X10_fail in_X10 co_X10_fail rfl) rfl rfl rfl (by decide +kernel) ⟨Nat.le_of_ble_eq_true rfl, Nat.le_of_ble_eq_true rfl⟩) hM (fun U hU hW => hK.go hW hS hAz hU) (va_recv hK.1 (va_one hM.1) (ci := 10) (q0 := 0) rfl rfl) rfl rfl hl.1 rfl (lv_room (Nat.le_of_ble_eq_true rfl)) dX10_move_37 ⟨Nat.le_of_ble_eq_true rfl, Nat.le_of_ble_eq_true rfl⟩) hS (fun q _ h => h) (fun q h => h) (fun r_3 ur_3 t H locs ht hvm hwr_3 hB hz hk hS => ?_)
    have hM : MH E h0 rf t0 t1 t2 A ur_3 pk H := by rw [ht] at hB; exact hB
    have hDr_3 : D_X10_fail A (0 : Int32) pk (1 : Int32) A ur_3 pk r_3 := hwr_3.2
    have hpr_3_0 : ur_3 = (1 : Int32) := hwr_3.1
    have := i_1
    exact W.iret (v := r_3) hx hb hr (fun t ht hW => ⟨⟨r_3, ((A 11), (A 20), (A 21), (A 22), (A 23), (A 24), (A 25), (A 26), (A 27), (A 28), (A 29), ur_3), rfl, ⟨hI4, hI6, hI8, (Or.inl ⟨r_1, hDr_1, hpr_1_0, c_2, ur_3, r_3, hDr_3, hpr_3_0, rfl, rfl, rfl, rfl⟩)⟩, (by show MH E h0 rf t0 t1 t2 (uA (uA (uA (uA (uA (uA (uA (uA (uA (uA (uA A 11 (A 11)) 20 (A 20)) 21 (A 21)) 22 (A 22)) 23 (A 23)) 24 (A 24)) 25 (A 25)) 26 (A 26)) 27 (A 27)) 28 (A 28)) 29 (A 29)) ur_3 pk t.heap; rw [ht]; exact hM.cge (funext fun j => (cgj j 29 rfl (fun a0 => (cgj j 28 rfl (fun a1 => (cgj j 27 rfl (fun a2 => (cgj j 26 rfl (fun a3 => (cgj j 25 rfl (fun a4 => (cgj j 24 rfl (fun a5 => (cgj j 23 rfl (fun a6 => (cgj j 22 rfl (fun a7 => (cgj j 21 rfl (fun a8 => (cgj j 20 rfl (fun a9 => (cgj j 11 rfl (fun a10 => (by simp only [uA_n a0, uA_n a1, uA_n a2, uA_n a3, uA_n a4, uA_n a5, uA_n a6, uA_n a7, uA_n a8, uA_n a9, uA_n a10])))))))))))))))))))))))))⟩, hS.F ht⟩) hS.2.2 dX10_move_40
  · simp only [lt_I, le_I, eq_I, i_0, i_1, i_2, i_3, i_4, i_5, i_6, i_7, i_8, i_10, i_12, i_16, i_20, i_23, i_24, i_31, i_32, i_63, i_64, i_m1, i_9, i_11, i_13, i_25, i_60, i_75, i_79, i_80, i_96, i_100] at c_2
    replace hpr_1_1 := hpr_1_1.resolve_left (by omega)
    refine lv_iload hx hb dX10_move_16 (lv_at hl 5 rfl) ?_
    refine lv_iconst (v := 5) hx hb dX10_move_18 (by decide) ?_
    refine W.callR (W.runS (As := [.int p4, .int 5]) (rest := []) ⟨hx, hb, hml, hown, hts⟩ (c_X10_within l p4 5) (cwS 2 hts (gdS ml_X10_156 st_X10_within in_X10 co_X10_within rfl) rfl rfl rfl (by decide +kernel) ⟨Nat.le_of_ble_eq_true rfl, Nat.le_of_ble_eq_true rfl⟩) preEq rfl rfl hl.1 rfl (lv_room (Nat.le_of_ble_eq_true rfl)) dX10_move_19 ⟨Nat.le_of_ble_eq_true rfl, Nat.le_of_ble_eq_true rfl⟩) ?_
    refine W.eq (g2 := F0 m 22 ls [.int (bI (0 ≤ p4.toInt ∧ p4.toInt ≤ (5 : Int32).toInt))]) (by rfl) ?_
    refine lv_if_eq (tgt := 35) hx hb dX10_move_22 (by decide) (fun c_4 => ?_) (fun c_4 => ?_)
    · have c_4 := bI_0 c_4
      have c_4r := c_4
      try simp only [lt_I, le_I, eq_I, i_0, i_1, i_2, i_3, i_4, i_5, i_6, i_7, i_8, i_10, i_12, i_16, i_20, i_23, i_24, i_31, i_32, i_63, i_64, i_m1, i_9, i_11, i_13, i_25, i_60, i_75, i_79, i_80, i_96, i_100] at c_4
      refine lv_aload_n hx hb dX10_move_35 rfl (lv_at hl 0 rfl) ?_
      refine lv_iconst (v := 1) hx hb dX10_move_36 (by decide) ?_
      refine va_calli (rnV (fun H => MH E h0 rf t0 t1 t2 A 0 pk H) (As := [.int 1]) (rest := []) ⟨hx, hb, hml, hown, hts⟩ (u_X10_fail l E z0 G hGz h0 rf hR t0 t1 t2 A 0 pk 1) (cwV 1 hts (gdV ml_X10_185 im_X10_fail se_X10_X10_fail in_X10 co_X10_fail rfl) rfl rfl rfl (by decide +kernel) ⟨Nat.le_of_ble_eq_true rfl, Nat.le_of_ble_eq_true rfl⟩) hM (fun U hU hW => hK.go hW hS hAz hU) (va_recv hK.1 (va_one hM.1) (ci := 10) (q0 := 0) rfl rfl) rfl rfl hl.1 rfl (lv_room (Nat.le_of_ble_eq_true rfl)) dX10_move_37 ⟨Nat.le_of_ble_eq_true rfl, Nat.le_of_ble_eq_true rfl⟩) hS (fun q _ h => h) (fun q h => h) (fun r_5 ur_5 t H locs ht hvm hwr_5 hB hz hk hS => ?_)
      have hM : MH E h0 rf t0 t1 t2 A ur_5 pk H := by rw [ht] at hB; exact hB
      have hDr_5 : D_X10_fail A (0 : Int32) pk (1 : Int32) A ur_5 pk r_5 := hwr_5.2
      have hpr_5_0 : ur_5 = (1 : Int32) := hwr_5.1
      have := i_1
      exact W.iret (v := r_5) hx hb hr (fun t ht hW => ⟨⟨r_5, ((A 11), (A 20), (A 21), (A 22), (A 23), (A 24), (A 25), (A 26), (A 27), (A 28), (A 29), ur_5), rfl, ⟨hI4, hI6, hI8, (Or.inr (Or.inl ⟨r_1, hDr_1, hpr_1_0, c_2, c_4r, ur_5, r_5, hDr_5, hpr_5_0, rfl, rfl, rfl, rfl⟩))⟩, (by show MH E h0 rf t0 t1 t2 (uA (uA (uA (uA (uA (uA (uA (uA (uA (uA (uA A 11 (A 11)) 20 (A 20)) 21 (A 21)) 22 (A 22)) 23 (A 23)) 24 (A 24)) 25 (A 25)) 26 (A 26)) 27 (A 27)) 28 (A 28)) 29 (A 29)) ur_5 pk t.heap; rw [ht]; exact hM.cge (funext fun j => (cgj j 29 rfl (fun a0 => (cgj j 28 rfl (fun a1 => (cgj j 27 rfl (fun a2 => (cgj j 26 rfl (fun a3 => (cgj j 25 rfl (fun a4 => (cgj j 24 rfl (fun a5 => (cgj j 23 rfl (fun a6 => (cgj j 22 rfl (fun a7 => (cgj j 21 rfl (fun a8 => (cgj j 20 rfl (fun a9 => (cgj j 11 rfl (fun a10 => (by simp only [uA_n a0, uA_n a1, uA_n a2, uA_n a3, uA_n a4, uA_n a5, uA_n a6, uA_n a7, uA_n a8, uA_n a9, uA_n a10])))))))))))))))))))))))))⟩, hS.F ht⟩) hS.2.2 dX10_move_40
    · have c_4 := bI_n c_4
      have c_4r := c_4
      try simp only [lt_I, le_I, eq_I, i_0, i_1, i_2, i_3, i_4, i_5, i_6, i_7, i_8, i_10, i_12, i_16, i_20, i_23, i_24, i_31, i_32, i_63, i_64, i_m1, i_9, i_11, i_13, i_25, i_60, i_75, i_79, i_80, i_96, i_100] at c_4
      refine lv_iload hx hb dX10_move_25 (lv_at hl 6 rfl) ?_
      refine lv_bipush (v := 31) hx hb dX10_move_27 (by decide) ?_
      refine W.callR (W.runS (As := [.int p5, .int 31]) (rest := []) ⟨hx, hb, hml, hown, hts⟩ (c_X10_within l p5 31) (cwS 2 hts (gdS ml_X10_156 st_X10_within in_X10 co_X10_within rfl) rfl rfl rfl (by decide +kernel) ⟨Nat.le_of_ble_eq_true rfl, Nat.le_of_ble_eq_true rfl⟩) preEq rfl rfl hl.1 rfl (lv_room (Nat.le_of_ble_eq_true rfl)) dX10_move_29 ⟨Nat.le_of_ble_eq_true rfl, Nat.le_of_ble_eq_true rfl⟩) ?_
      refine W.eq (g2 := F0 m 32 ls [.int (bI (0 ≤ p5.toInt ∧ p5.toInt ≤ (31 : Int32).toInt))]) (by rfl) ?_
      refine lv_if_ne (tgt := 41) hx hb dX10_move_32 (by decide) (fun c_6 => ?_) (fun c_6 => ?_)
      · have c_6 := bI_n c_6
        have c_6r := c_6
        try simp only [lt_I, le_I, eq_I, i_0, i_1, i_2, i_3, i_4, i_5, i_6, i_7, i_8, i_10, i_12, i_16, i_20, i_23, i_24, i_31, i_32, i_63, i_64, i_m1, i_9, i_11, i_13, i_25, i_60, i_75, i_79, i_80, i_96, i_100] at c_6
        refine lv_aload_n hx hb dX10_move_41 rfl (lv_at hl 0 rfl) ?_
        refine lv_iload_n hx hb dX10_move_42 rfl (lv_at hl 1 rfl) ?_
        refine va_calli (rnV (fun H => MH E h0 rf t0 t1 t2 A 0 pk H) (As := [.int p0]) (rest := []) ⟨hx, hb, hml, hown, hts⟩ (u_X10_full l E z0 G hGz h0 rf hR t0 t1 t2 A 0 pk p0 (show 0 ≤ p0.toInt ∧ p0.toInt ≤ 3 from by first | decide | omega)) (cwV 1 hts (gdV ml_X10_188 im_X10_full se_X10_X10_full in_X10 co_X10_full rfl) rfl rfl rfl (by decide +kernel) ⟨Nat.le_of_ble_eq_true rfl, Nat.le_of_ble_eq_true rfl⟩) hM (fun U hU hW => hK.go hW hS hAz hU) (va_recv hK.1 (va_one hM.1) (ci := 10) (q0 := 0) rfl rfl) rfl rfl hl.1 rfl (lv_room (Nat.le_of_ble_eq_true rfl)) dX10_move_43 ⟨Nat.le_of_ble_eq_true rfl, Nat.le_of_ble_eq_true rfl⟩) hS (fun q _ h => h.elim) (fun q h => h.elim) (fun r_7 ur_7 t H locs ht hvm hwr_7 hB hz hk hS => ?_)
        have hM := hM.kept (fun q hq => hk q hq (fun h => h))
        have hDr_7 : D_X10_full A (0 : Int32) pk p0 r_7 := hwr_7.2.2
        have hpr_7_0 : r_7 = 0 ∨ r_7 = 1 := hwr_7.1
        have hpr_7_1 : ∀ n : Nat, (n : Int) = p0.toInt → r_7.toInt = 1 ∨ (((A 10) n).toInt = 1 ∧ ((A 20) n).toInt ≠ 4) := hwr_7.2.1
        obtain ⟨n_8, hn_8, en_8⟩ := s_nat (x := p0) (by omega)
        have iahpr_7_1 := hpr_7_1 n_8 (by omega)
        have hzr_7 := s_rng hpr_7_0
        refine lv_if_eq (tgt := 57) hx hb dX10_move_46 (by decide) (fun c_9 => ?_) (fun c_9 => ?_)
        · simp only [lt_I, le_I, eq_I, i_0, i_1, i_2, i_3, i_4, i_5, i_6, i_7, i_8, i_10, i_12, i_16, i_20, i_23, i_24, i_31, i_32, i_63, i_64, i_m1, i_9, i_11, i_13, i_25, i_60, i_75, i_79, i_80, i_96, i_100] at c_9
          refine lv_aload_n hx hb dX10_move_57 rfl (lv_at hl 0 rfl) ?_
          refine lv_iload_n hx hb dX10_move_58 rfl (lv_at hl 1 rfl) ?_
          refine lv_iload_n hx hb dX10_move_59 rfl (lv_at hl 2 rfl) ?_
          refine lv_if_eq (tgt := 67) hx hb dX10_move_60 (by decide) (fun c_10 => ?_) (fun c_10 => ?_)
          · simp only [lt_I, le_I, eq_I, i_0, i_1, i_2, i_3, i_4, i_5, i_6, i_7, i_8, i_10, i_12, i_16, i_20, i_23, i_24, i_31, i_32, i_63, i_64, i_m1, i_9, i_11, i_13, i_25, i_60, i_75, i_79, i_80, i_96, i_100] at c_10
            refine lv_iconst (v := 1) hx hb dX10_move_67 (by decide) ?_
            refine lv_iload_n hx hb dX10_move_68 rfl (lv_at hl 3 rfl) ?_
            refine lv_iload hx hb dX10_move_69 (lv_at hl 4 rfl) ?_
            refine lv_iload hx hb dX10_move_71 (lv_at hl 5 rfl) ?_
            refine lv_iload hx hb dX10_move_73 (lv_at hl 6 rfl) ?_
            refine lv_iconst (v := 0) hx hb dX10_move_75 (by decide) ?_
            refine va_calli (rnV (fun H => MH E h0 rf t0 t1 t2 A 0 pk H) (As := [.int p0, .int 1, .int p2, .int p3, .int p4, .int p5, .int 0]) (rest := []) ⟨hx, hb, hml, hown, hts⟩ (u_X10_post l E z0 G hGz h0 rf hR t0 t1 t2 A 0 pk p0 1 p2 p3 p4 p5 0 hI4 hI6 hI8 (show 0 ≤ p0.toInt ∧ p0.toInt ≤ 3 from by have := i_0; have := i_1; first | decide | omega) (show 0 ≤ (1 : Int32).toInt ∧ (1 : Int32).toInt ≤ 3 from by have := i_0; have := i_1; first | decide | omega) (show 0 ≤ p2.toInt ∧ p2.toInt ≤ 32 from by have := i_0; have := i_1; first | decide | omega) (show 1 ≤ p3.toInt ∧ p3.toInt ≤ 12 from by have := i_0; have := i_1; first | decide | omega) (show p2.toInt + p3.toInt ≤ 32 from by have := i_0; have := i_1; first | decide | omega) (show (1 : Int32).toInt = 0 ∨ (0 ≤ p4.toInt ∧ p4.toInt ≤ 5) from by have := i_0; have := i_1; first | decide | omega) (show -1 ≤ p5.toInt ∧ p5.toInt ≤ 31 from by have := i_0; have := i_1; first | decide | omega) (show ∀ n : Nat, (n : Int) = p0.toInt → ((A 10) n).toInt = 1 ∧ ((A 20) n).toInt ≠ 4 from (fun n hn => by
        obtain rfl : n_8 = n := by omega
        exact iahpr_7_1.resolve_left (by omega)))) (cwV 7 hts (gdV ml_X10_192 im_X10_post se_X10_X10_post in_X10 co_X10_post rfl) rfl rfl rfl (by decide +kernel) ⟨Nat.le_of_ble_eq_true rfl, Nat.le_of_ble_eq_true rfl⟩) hM (fun U hU hW => hK.go hW hS hAz hU) (va_recv hK.1 (va_one hM.1) (ci := 10) (q0 := 0) rfl rfl) rfl rfl hl.1 rfl (lv_room (Nat.le_of_ble_eq_true rfl)) dX10_move_76 ⟨Nat.le_of_ble_eq_true rfl, Nat.le_of_ble_eq_true rfl⟩) hS (fun q _ h => h) (fun q h => h) (fun r_11 ur_11 t H locs ht hvm hwr_11 hB hz hk hS => ?_)
            have hM : MH E h0 rf t0 t1 t2 (uA (uA (uA (uA (uA (uA (uA (uA (uA (uA (uA A 11 (ur_11.1)) 20 (ur_11.2.1)) 21 (ur_11.2.2.1)) 22 (ur_11.2.2.2.1)) 23 (ur_11.2.2.2.2.1)) 24 (ur_11.2.2.2.2.2.1)) 25 (ur_11.2.2.2.2.2.2.1)) 26 (ur_11.2.2.2.2.2.2.2.1)) 27 (ur_11.2.2.2.2.2.2.2.2.1)) 28 (ur_11.2.2.2.2.2.2.2.2.2.1)) 29 (ur_11.2.2.2.2.2.2.2.2.2.2)) 0 pk H := by rw [ht] at hB; exact hB
            have hDr_11 : D_X10_post A (0 : Int32) pk p0 (1 : Int32) p2 p3 p4 p5 (0 : Int32) (uA (uA (uA (uA (uA (uA (uA (uA (uA (uA (uA A 11 (ur_11.1)) 20 (ur_11.2.1)) 21 (ur_11.2.2.1)) 22 (ur_11.2.2.2.1)) 23 (ur_11.2.2.2.2.1)) 24 (ur_11.2.2.2.2.2.1)) 25 (ur_11.2.2.2.2.2.2.1)) 26 (ur_11.2.2.2.2.2.2.2.1)) 27 (ur_11.2.2.2.2.2.2.2.2.1)) 28 (ur_11.2.2.2.2.2.2.2.2.2.1)) 29 (ur_11.2.2.2.2.2.2.2.2.2.2)) (0 : Int32) pk r_11 := hwr_11.2.2.2
            have hpr_11_0 : I4 (A 10) (ur_11.2.1) (ur_11.2.2.2.2.2.2.2.2.2.2) (ur_11.2.2.2.2.2.1) (ur_11.1) (A 12) (A 13) := hwr_11.1
            have hpr_11_1 : I6 (ur_11.2.2.2.1) (ur_11.2.2.2.2.1) (ur_11.2.2.2.2.2.1) (ur_11.2.2.2.2.2.2.1) (ur_11.2.2.2.2.2.2.2.1) := hwr_11.2.1
            have hpr_11_2 : I8 (ur_11.2.1) (A 30) (A 37) (A 36) := hwr_11.2.2.1
            have := i_0
            have := i_1
            exact W.iret (v := r_11) hx hb hr (fun t ht hW => ⟨⟨r_11, ((ur_11.1), (ur_11.2.1), (ur_11.2.2.1), (ur_11.2.2.2.1), (ur_11.2.2.2.2.1), (ur_11.2.2.2.2.2.1), (ur_11.2.2.2.2.2.2.1), (ur_11.2.2.2.2.2.2.2.1), (ur_11.2.2.2.2.2.2.2.2.1), (ur_11.2.2.2.2.2.2.2.2.2.1), (ur_11.2.2.2.2.2.2.2.2.2.2), 0), rfl, ⟨hpr_11_0, hpr_11_1, hpr_11_2, (Or.inr (Or.inr (Or.inl ⟨r_1, hDr_1, hpr_1_0, c_2, c_4r, c_6r, r_7, hDr_7, hpr_7_0, hpr_7_1, n_8, hn_8, c_9, c_10, ur_11, r_11, hDr_11, hpr_11_0, hpr_11_1, hpr_11_2, rfl, rfl, rfl, rfl⟩)))⟩, (by show MH E h0 rf t0 t1 t2 (uA (uA (uA (uA (uA (uA (uA (uA (uA (uA (uA A 11 (ur_11.1)) 20 (ur_11.2.1)) 21 (ur_11.2.2.1)) 22 (ur_11.2.2.2.1)) 23 (ur_11.2.2.2.2.1)) 24 (ur_11.2.2.2.2.2.1)) 25 (ur_11.2.2.2.2.2.2.1)) 26 (ur_11.2.2.2.2.2.2.2.1)) 27 (ur_11.2.2.2.2.2.2.2.2.1)) 28 (ur_11.2.2.2.2.2.2.2.2.2.1)) 29 (ur_11.2.2.2.2.2.2.2.2.2.2)) 0 pk t.heap; rw [ht]; exact hM)⟩, hS.F ht⟩) hS.2.2 dX10_move_79
          · simp only [lt_I, le_I, eq_I, i_0, i_1, i_2, i_3, i_4, i_5, i_6, i_7, i_8, i_10, i_12, i_16, i_20, i_23, i_24, i_31, i_32, i_63, i_64, i_m1, i_9, i_11, i_13, i_25, i_60, i_75, i_79, i_80, i_96, i_100] at c_10
            refine lv_iconst (v := 2) hx hb dX10_move_63 (by decide) ?_
            refine lv_goto (tgt := 68) hx hb dX10_move_64 (by decide) ?_
            refine lv_iload_n hx hb dX10_move_68 rfl (lv_at hl 3 rfl) ?_
            refine lv_iload hx hb dX10_move_69 (lv_at hl 4 rfl) ?_
            refine lv_iload hx hb dX10_move_71 (lv_at hl 5 rfl) ?_
            refine lv_iload hx hb dX10_move_73 (lv_at hl 6 rfl) ?_
            refine lv_iconst (v := 0) hx hb dX10_move_75 (by decide) ?_
            refine va_calli (rnV (fun H => MH E h0 rf t0 t1 t2 A 0 pk H) (As := [.int p0, .int 2, .int p2, .int p3, .int p4, .int p5, .int 0]) (rest := []) ⟨hx, hb, hml, hown, hts⟩ (u_X10_post l E z0 G hGz h0 rf hR t0 t1 t2 A 0 pk p0 2 p2 p3 p4 p5 0 hI4 hI6 hI8 (show 0 ≤ p0.toInt ∧ p0.toInt ≤ 3 from by have := i_0; have := i_2; first | decide | omega) (show 0 ≤ (2 : Int32).toInt ∧ (2 : Int32).toInt ≤ 3 from by have := i_0; have := i_2; first | decide | omega) (show 0 ≤ p2.toInt ∧ p2.toInt ≤ 32 from by have := i_0; have := i_2; first | decide | omega) (show 1 ≤ p3.toInt ∧ p3.toInt ≤ 12 from by have := i_0; have := i_2; first | decide | omega) (show p2.toInt + p3.toInt ≤ 32 from by have := i_0; have := i_2; first | decide | omega) (show (2 : Int32).toInt = 0 ∨ (0 ≤ p4.toInt ∧ p4.toInt ≤ 5) from by have := i_0; have := i_2; first | decide | omega) (show -1 ≤ p5.toInt ∧ p5.toInt ≤ 31 from by have := i_0; have := i_2; first | decide | omega) (show ∀ n : Nat, (n : Int) = p0.toInt → ((A 10) n).toInt = 1 ∧ ((A 20) n).toInt ≠ 4 from (fun n hn => by
        obtain rfl : n_8 = n := by omega
        exact iahpr_7_1.resolve_left (by omega)))) (cwV 7 hts (gdV ml_X10_192 im_X10_post se_X10_X10_post in_X10 co_X10_post rfl) rfl rfl rfl (by decide +kernel) ⟨Nat.le_of_ble_eq_true rfl, Nat.le_of_ble_eq_true rfl⟩) hM (fun U hU hW => hK.go hW hS hAz hU) (va_recv hK.1 (va_one hM.1) (ci := 10) (q0 := 0) rfl rfl) rfl rfl hl.1 rfl (lv_room (Nat.le_of_ble_eq_true rfl)) dX10_move_76 ⟨Nat.le_of_ble_eq_true rfl, Nat.le_of_ble_eq_true rfl⟩) hS (fun q _ h => h) (fun q h => h) (fun r_12 ur_12 t H locs ht hvm hwr_12 hB hz hk hS => ?_)
            have hM : MH E h0 rf t0 t1 t2 (uA (uA (uA (uA (uA (uA (uA (uA (uA (uA (uA A 11 (ur_12.1)) 20 (ur_12.2.1)) 21 (ur_12.2.2.1)) 22 (ur_12.2.2.2.1)) 23 (ur_12.2.2.2.2.1)) 24 (ur_12.2.2.2.2.2.1)) 25 (ur_12.2.2.2.2.2.2.1)) 26 (ur_12.2.2.2.2.2.2.2.1)) 27 (ur_12.2.2.2.2.2.2.2.2.1)) 28 (ur_12.2.2.2.2.2.2.2.2.2.1)) 29 (ur_12.2.2.2.2.2.2.2.2.2.2)) 0 pk H := by rw [ht] at hB; exact hB
            have hDr_12 : D_X10_post A (0 : Int32) pk p0 (2 : Int32) p2 p3 p4 p5 (0 : Int32) (uA (uA (uA (uA (uA (uA (uA (uA (uA (uA (uA A 11 (ur_12.1)) 20 (ur_12.2.1)) 21 (ur_12.2.2.1)) 22 (ur_12.2.2.2.1)) 23 (ur_12.2.2.2.2.1)) 24 (ur_12.2.2.2.2.2.1)) 25 (ur_12.2.2.2.2.2.2.1)) 26 (ur_12.2.2.2.2.2.2.2.1)) 27 (ur_12.2.2.2.2.2.2.2.2.1)) 28 (ur_12.2.2.2.2.2.2.2.2.2.1)) 29 (ur_12.2.2.2.2.2.2.2.2.2.2)) (0 : Int32) pk r_12 := hwr_12.2.2.2
            have hpr_12_0 : I4 (A 10) (ur_12.2.1) (ur_12.2.2.2.2.2.2.2.2.2.2) (ur_12.2.2.2.2.2.1) (ur_12.1) (A 12) (A 13) := hwr_12.1
            have hpr_12_1 : I6 (ur_12.2.2.2.1) (ur_12.2.2.2.2.1) (ur_12.2.2.2.2.2.1) (ur_12.2.2.2.2.2.2.1) (ur_12.2.2.2.2.2.2.2.1) := hwr_12.2.1
            have hpr_12_2 : I8 (ur_12.2.1) (A 30) (A 37) (A 36) := hwr_12.2.2.1
            have := i_0
            have := i_2
            exact W.iret (v := r_12) hx hb hr (fun t ht hW => ⟨⟨r_12, ((ur_12.1), (ur_12.2.1), (ur_12.2.2.1), (ur_12.2.2.2.1), (ur_12.2.2.2.2.1), (ur_12.2.2.2.2.2.1), (ur_12.2.2.2.2.2.2.1), (ur_12.2.2.2.2.2.2.2.1), (ur_12.2.2.2.2.2.2.2.2.1), (ur_12.2.2.2.2.2.2.2.2.2.1), (ur_12.2.2.2.2.2.2.2.2.2.2), 0), rfl, ⟨hpr_12_0, hpr_12_1, hpr_12_2, (Or.inr (Or.inr (Or.inr (Or.inl ⟨r_1, hDr_1, hpr_1_0, c_2, c_4r, c_6r, r_7, hDr_7, hpr_7_0, hpr_7_1, n_8, hn_8, c_9, c_10, ur_12, r_12, hDr_12, hpr_12_0, hpr_12_1, hpr_12_2, rfl, rfl, rfl, rfl⟩))))⟩, (by show MH E h0 rf t0 t1 t2 (uA (uA (uA (uA (uA (uA (uA (uA (uA (uA (uA A 11 (ur_12.1)) 20 (ur_12.2.1)) 21 (ur_12.2.2.1)) 22 (ur_12.2.2.2.1)) 23 (ur_12.2.2.2.2.1)) 24 (ur_12.2.2.2.2.2.1)) 25 (ur_12.2.2.2.2.2.2.1)) 26 (ur_12.2.2.2.2.2.2.2.1)) 27 (ur_12.2.2.2.2.2.2.2.2.1)) 28 (ur_12.2.2.2.2.2.2.2.2.2.1)) 29 (ur_12.2.2.2.2.2.2.2.2.2.2)) 0 pk t.heap; rw [ht]; exact hM)⟩, hS.F ht⟩) hS.2.2 dX10_move_79
        · simp only [lt_I, le_I, eq_I, i_0, i_1, i_2, i_3, i_4, i_5, i_6, i_7, i_8, i_10, i_12, i_16, i_20, i_23, i_24, i_31, i_32, i_63, i_64, i_m1, i_9, i_11, i_13, i_25, i_60, i_75, i_79, i_80, i_96, i_100] at c_9
          refine lv_aload_n hx hb dX10_move_49 rfl (lv_at hl 0 rfl) ?_
          refine lv_iconst (v := 2) hx hb dX10_move_50 (by decide) ?_
          refine va_calli (rnV (fun H => MH E h0 rf t0 t1 t2 A 0 pk H) (As := [.int 2]) (rest := []) ⟨hx, hb, hml, hown, hts⟩ (u_X10_fail l E z0 G hGz h0 rf hR t0 t1 t2 A 0 pk 2) (cwV 1 hts (gdV ml_X10_185 im_X10_fail se_X10_X10_fail in_X10 co_X10_fail rfl) rfl rfl rfl (by decide +kernel) ⟨Nat.le_of_ble_eq_true rfl, Nat.le_of_ble_eq_true rfl⟩) hM (fun U hU hW => hK.go hW hS hAz hU) (va_recv hK.1 (va_one hM.1) (ci := 10) (q0 := 0) rfl rfl) rfl rfl hl.1 rfl (lv_room (Nat.le_of_ble_eq_true rfl)) dX10_move_51 ⟨Nat.le_of_ble_eq_true rfl, Nat.le_of_ble_eq_true rfl⟩) hS (fun q _ h => h) (fun q h => h) (fun r_13 ur_13 t H locs ht hvm hwr_13 hB hz hk hS => ?_)
          have hM : MH E h0 rf t0 t1 t2 A ur_13 pk H := by rw [ht] at hB; exact hB
          have hDr_13 : D_X10_fail A (0 : Int32) pk (2 : Int32) A ur_13 pk r_13 := hwr_13.2
          have hpr_13_0 : ur_13 = (2 : Int32) := hwr_13.1
          have := i_2
          refine lv_goto (tgt := 79) hx hb dX10_move_54 (by decide) ?_
          exact W.iret (v := r_13) hx hb hr (fun t ht hW => ⟨⟨r_13, ((A 11), (A 20), (A 21), (A 22), (A 23), (A 24), (A 25), (A 26), (A 27), (A 28), (A 29), ur_13), rfl, ⟨hI4, hI6, hI8, (Or.inr (Or.inr (Or.inr (Or.inr (Or.inl ⟨r_1, hDr_1, hpr_1_0, c_2, c_4r, c_6r, r_7, hDr_7, hpr_7_0, hpr_7_1, n_8, hn_8, c_9, ur_13, r_13, hDr_13, hpr_13_0, rfl, rfl, rfl, rfl⟩)))))⟩, (by show MH E h0 rf t0 t1 t2 (uA (uA (uA (uA (uA (uA (uA (uA (uA (uA (uA A 11 (A 11)) 20 (A 20)) 21 (A 21)) 22 (A 22)) 23 (A 23)) 24 (A 24)) 25 (A 25)) 26 (A 26)) 27 (A 27)) 28 (A 28)) 29 (A 29)) ur_13 pk t.heap; rw [ht]; exact hM.cge (funext fun j => (cgj j 29 rfl (fun a0 => (cgj j 28 rfl (fun a1 => (cgj j 27 rfl (fun a2 => (cgj j 26 rfl (fun a3 => (cgj j 25 rfl (fun a4 => (cgj j 24 rfl (fun a5 => (cgj j 23 rfl (fun a6 => (cgj j 22 rfl (fun a7 => (cgj j 21 rfl (fun a8 => (cgj j 20 rfl (fun a9 => (cgj j 11 rfl (fun a10 => (by simp only [uA_n a0, uA_n a1, uA_n a2, uA_n a3, uA_n a4, uA_n a5, uA_n a6, uA_n a7, uA_n a8, uA_n a9, uA_n a10])))))))))))))))))))))))))⟩, hS.F ht⟩) hS.2.2 dX10_move_79
      · have c_6 := bI_0 c_6
        have c_6r := c_6
        try simp only [lt_I, le_I, eq_I, i_0, i_1, i_2, i_3, i_4, i_5, i_6, i_7, i_8, i_10, i_12, i_16, i_20, i_23, i_24, i_31, i_32, i_63, i_64, i_m1, i_9, i_11, i_13, i_25, i_60, i_75, i_79, i_80, i_96, i_100] at c_6
        refine lv_aload_n hx hb dX10_move_35 rfl (lv_at hl 0 rfl) ?_
        refine lv_iconst (v := 1) hx hb dX10_move_36 (by decide) ?_
        refine va_calli (rnV (fun H => MH E h0 rf t0 t1 t2 A 0 pk H) (As := [.int 1]) (rest := []) ⟨hx, hb, hml, hown, hts⟩ (u_X10_fail l E z0 G hGz h0 rf hR t0 t1 t2 A 0 pk 1) (cwV 1 hts (gdV ml_X10_185 im_X10_fail se_X10_X10_fail in_X10 co_X10_fail rfl) rfl rfl rfl (by decide +kernel) ⟨Nat.le_of_ble_eq_true rfl, Nat.le_of_ble_eq_true rfl⟩) hM (fun U hU hW => hK.go hW hS hAz hU) (va_recv hK.1 (va_one hM.1) (ci := 10) (q0 := 0) rfl rfl) rfl rfl hl.1 rfl (lv_room (Nat.le_of_ble_eq_true rfl)) dX10_move_37 ⟨Nat.le_of_ble_eq_true rfl, Nat.le_of_ble_eq_true rfl⟩) hS (fun q _ h => h) (fun q h => h) (fun r_14 ur_14 t H locs ht hvm hwr_14 hB hz hk hS => ?_)
        have hM : MH E h0 rf t0 t1 t2 A ur_14 pk H := by rw [ht] at hB; exact hB
        have hDr_14 : D_X10_fail A (0 : Int32) pk (1 : Int32) A ur_14 pk r_14 := hwr_14.2
        have hpr_14_0 : ur_14 = (1 : Int32) := hwr_14.1
        have := i_1
        exact W.iret (v := r_14) hx hb hr (fun t ht hW => ⟨⟨r_14, ((A 11), (A 20), (A 21), (A 22), (A 23), (A 24), (A 25), (A 26), (A 27), (A 28), (A 29), ur_14), rfl, ⟨hI4, hI6, hI8, (Or.inr (Or.inr (Or.inr (Or.inr (Or.inr ⟨r_1, hDr_1, hpr_1_0, c_2, c_4r, c_6r, ur_14, r_14, hDr_14, hpr_14_0, rfl, rfl, rfl, rfl⟩)))))⟩, (by show MH E h0 rf t0 t1 t2 (uA (uA (uA (uA (uA (uA (uA (uA (uA (uA (uA A 11 (A 11)) 20 (A 20)) 21 (A 21)) 22 (A 22)) 23 (A 23)) 24 (A 24)) 25 (A 25)) 26 (A 26)) 27 (A 27)) 28 (A 28)) 29 (A 29)) ur_14 pk t.heap; rw [ht]; exact hM.cge (funext fun j => (cgj j 29 rfl (fun a0 => (cgj j 28 rfl (fun a1 => (cgj j 27 rfl (fun a2 => (cgj j 26 rfl (fun a3 => (cgj j 25 rfl (fun a4 => (cgj j 24 rfl (fun a5 => (cgj j 23 rfl (fun a6 => (cgj j 22 rfl (fun a7 => (cgj j 21 rfl (fun a8 => (cgj j 20 rfl (fun a9 => (cgj j 11 rfl (fun a10 => (by simp only [uA_n a0, uA_n a1, uA_n a2, uA_n a3, uA_n a4, uA_n a5, uA_n a6, uA_n a7, uA_n a8, uA_n a9, uA_n a10])))))))))))))))))))))))))⟩, hS.F ht⟩) hS.2.2 dX10_move_40
theorem gdX10_add_0 : (decode cX10_add 0 = .ok (.aload_n 0, 1)) ∧ (decode cX10_add 1 = .ok (.iconst 0, 1)) ∧ (decode cX10_add 2 = .ok (.putfield 153, 3)) ∧ (decode cX10_add 5 = .ok (.aload_n 0, 1)) ∧ (decode cX10_add 6 = .ok (.iload_n 1, 1)) ∧ (decode cX10_add 7 = .ok (.iload_n 2, 1)) ∧ (decode cX10_add 8 = .ok (.iconst 1, 1)) ∧ (decode cX10_add 9 = .ok (.invokevirtual 181, 3)) ∧ (decode cX10_add 12 = .ok (.ifCond .eq 21, 3)) ∧ (decode cX10_add 15 = .ok (.iload_n 3, 1)) ∧ (decode cX10_add 16 = .ok (.iconst 5, 1)) ∧ (decode cX10_add 17 = .ok (.invokestatic 156, 3)) ∧ (decode cX10_add 20 = .ok (.ifCond .eq 13, 3)) ∧ (decode cX10_add 23 = .ok (.iload 4, 2)) ∧ (decode cX10_add 25 = .ok (.bipush 31, 2)) ∧ (decode cX10_add 27 = .ok (.invokestatic 156, 3)) := by decide +kernel
theorem dX10_add_0 : decode cX10_add 0 = .ok (.aload_n 0, 1) := gdX10_add_0.1
theorem dX10_add_1 : decode cX10_add 1 = .ok (.iconst 0, 1) := gdX10_add_0.2.1
theorem dX10_add_2 : decode cX10_add 2 = .ok (.putfield 153, 3) := gdX10_add_0.2.2.1
theorem dX10_add_5 : decode cX10_add 5 = .ok (.aload_n 0, 1) := gdX10_add_0.2.2.2.1
theorem dX10_add_6 : decode cX10_add 6 = .ok (.iload_n 1, 1) := gdX10_add_0.2.2.2.2.1
theorem dX10_add_7 : decode cX10_add 7 = .ok (.iload_n 2, 1) := gdX10_add_0.2.2.2.2.2.1
theorem dX10_add_8 : decode cX10_add 8 = .ok (.iconst 1, 1) := gdX10_add_0.2.2.2.2.2.2.1
theorem dX10_add_9 : decode cX10_add 9 = .ok (.invokevirtual 181, 3) := gdX10_add_0.2.2.2.2.2.2.2.1
theorem dX10_add_12 : decode cX10_add 12 = .ok (.ifCond .eq 21, 3) := gdX10_add_0.2.2.2.2.2.2.2.2.1
theorem dX10_add_15 : decode cX10_add 15 = .ok (.iload_n 3, 1) := gdX10_add_0.2.2.2.2.2.2.2.2.2.1
theorem dX10_add_16 : decode cX10_add 16 = .ok (.iconst 5, 1) := gdX10_add_0.2.2.2.2.2.2.2.2.2.2.1
theorem dX10_add_17 : decode cX10_add 17 = .ok (.invokestatic 156, 3) := gdX10_add_0.2.2.2.2.2.2.2.2.2.2.2.1
theorem dX10_add_20 : decode cX10_add 20 = .ok (.ifCond .eq 13, 3) := gdX10_add_0.2.2.2.2.2.2.2.2.2.2.2.2.1
theorem dX10_add_23 : decode cX10_add 23 = .ok (.iload 4, 2) := gdX10_add_0.2.2.2.2.2.2.2.2.2.2.2.2.2.1
theorem dX10_add_25 : decode cX10_add 25 = .ok (.bipush 31, 2) := gdX10_add_0.2.2.2.2.2.2.2.2.2.2.2.2.2.2.1
theorem dX10_add_27 : decode cX10_add 27 = .ok (.invokestatic 156, 3) := gdX10_add_0.2.2.2.2.2.2.2.2.2.2.2.2.2.2.2
theorem gdX10_add_30 : (decode cX10_add 30 = .ok (.ifCond .ne 9, 3)) ∧ (decode cX10_add 33 = .ok (.aload_n 0, 1)) ∧ (decode cX10_add 34 = .ok (.iconst 1, 1)) ∧ (decode cX10_add 35 = .ok (.invokevirtual 185, 3)) ∧ (decode cX10_add 38 = .ok (.ireturn, 1)) ∧ (decode cX10_add 39 = .ok (.aload_n 0, 1)) ∧ (decode cX10_add 40 = .ok (.iload_n 1, 1)) ∧ (decode cX10_add 41 = .ok (.invokevirtual 188, 3)) ∧ (decode cX10_add 44 = .ok (.ifCond .eq 11, 3)) ∧ (decode cX10_add 47 = .ok (.aload_n 0, 1)) ∧ (decode cX10_add 48 = .ok (.iconst 2, 1)) ∧ (decode cX10_add 49 = .ok (.invokevirtual 185, 3)) ∧ (decode cX10_add 52 = .ok (.goto 16, 3)) ∧ (decode cX10_add 55 = .ok (.aload_n 0, 1)) ∧ (decode cX10_add 56 = .ok (.iload_n 1, 1)) ∧ (decode cX10_add 57 = .ok (.iconst 3, 1)) := by decide +kernel
theorem dX10_add_30 : decode cX10_add 30 = .ok (.ifCond .ne 9, 3) := gdX10_add_30.1
theorem dX10_add_33 : decode cX10_add 33 = .ok (.aload_n 0, 1) := gdX10_add_30.2.1
theorem dX10_add_34 : decode cX10_add 34 = .ok (.iconst 1, 1) := gdX10_add_30.2.2.1
theorem dX10_add_35 : decode cX10_add 35 = .ok (.invokevirtual 185, 3) := gdX10_add_30.2.2.2.1
theorem dX10_add_38 : decode cX10_add 38 = .ok (.ireturn, 1) := gdX10_add_30.2.2.2.2.1
theorem dX10_add_39 : decode cX10_add 39 = .ok (.aload_n 0, 1) := gdX10_add_30.2.2.2.2.2.1
theorem dX10_add_40 : decode cX10_add 40 = .ok (.iload_n 1, 1) := gdX10_add_30.2.2.2.2.2.2.1
theorem dX10_add_41 : decode cX10_add 41 = .ok (.invokevirtual 188, 3) := gdX10_add_30.2.2.2.2.2.2.2.1
theorem dX10_add_44 : decode cX10_add 44 = .ok (.ifCond .eq 11, 3) := gdX10_add_30.2.2.2.2.2.2.2.2.1
theorem dX10_add_47 : decode cX10_add 47 = .ok (.aload_n 0, 1) := gdX10_add_30.2.2.2.2.2.2.2.2.2.1
theorem dX10_add_48 : decode cX10_add 48 = .ok (.iconst 2, 1) := gdX10_add_30.2.2.2.2.2.2.2.2.2.2.1
theorem dX10_add_49 : decode cX10_add 49 = .ok (.invokevirtual 185, 3) := gdX10_add_30.2.2.2.2.2.2.2.2.2.2.2.1
theorem dX10_add_52 : decode cX10_add 52 = .ok (.goto 16, 3) := gdX10_add_30.2.2.2.2.2.2.2.2.2.2.2.2.1
theorem dX10_add_55 : decode cX10_add 55 = .ok (.aload_n 0, 1) := gdX10_add_30.2.2.2.2.2.2.2.2.2.2.2.2.2.1
theorem dX10_add_56 : decode cX10_add 56 = .ok (.iload_n 1, 1) := gdX10_add_30.2.2.2.2.2.2.2.2.2.2.2.2.2.2.1
theorem dX10_add_57 : decode cX10_add 57 = .ok (.iconst 3, 1) := gdX10_add_30.2.2.2.2.2.2.2.2.2.2.2.2.2.2.2
theorem gdX10_add_58 : (decode cX10_add 58 = .ok (.iload_n 2, 1)) ∧ (decode cX10_add 59 = .ok (.iconst 1, 1)) ∧ (decode cX10_add 60 = .ok (.iload_n 3, 1)) ∧ (decode cX10_add 61 = .ok (.iload 4, 2)) ∧ (decode cX10_add 63 = .ok (.iload 5, 2)) ∧ (decode cX10_add 65 = .ok (.invokevirtual 192, 3)) ∧ (decode cX10_add 68 = .ok (.ireturn, 1)) := by decide +kernel
theorem dX10_add_58 : decode cX10_add 58 = .ok (.iload_n 2, 1) := gdX10_add_58.1
theorem dX10_add_59 : decode cX10_add 59 = .ok (.iconst 1, 1) := gdX10_add_58.2.1
theorem dX10_add_60 : decode cX10_add 60 = .ok (.iload_n 3, 1) := gdX10_add_58.2.2.1
theorem dX10_add_61 : decode cX10_add 61 = .ok (.iload 4, 2) := gdX10_add_58.2.2.2.1
theorem dX10_add_63 : decode cX10_add 63 = .ok (.iload 5, 2) := gdX10_add_58.2.2.2.2.1
theorem dX10_add_65 : decode cX10_add 65 = .ok (.invokevirtual 192, 3) := gdX10_add_58.2.2.2.2.2.1
theorem dX10_add_68 : decode cX10_add 68 = .ok (.ireturn, 1) := gdX10_add_58.2.2.2.2.2.2
set_option maxHeartbeats 8000000 in
set_option maxRecDepth 100000 in
theorem u_X10_add (l : Launch) (E : EE) (z0 : Nat) (G : Nat → Nat) (hGz : ∀ q, G q ≠ 0 → z0 ≤ q) (h0 : Nat) (rf : Nat → Nat) (hR : MG G h0 rf) (t0 t1 t2 : Int32) (A : AA) (cd pk : Int32) (p0 : Int32) (p1 : Int32) (p2 : Int32) (p3 : Int32) (p4 : Int32) (hI4 : I4 (A 10) (A 20) (A 29) (A 24) (A 11) (A 12) (A 13)) (hI6 : I6 (A 22) (A 23) (A 24) (A 25) (A 26)) (hI8 : I8 (A 20) (A 30) (A 37) (A 36)) : Met l yX10_add [Cond.code yX10_add cX10_add 6 (some .int)] ({ frames := 2, cells := 0, slots := 0, locals := 49 } : Room) (va_Pc [.ref h0, .int p0, .int p1, .int p2, .int p3, .int p4] (fun U => MH E h0 rf t0 t1 t2 A cd pk U.heap ∧ KS E z0 U)) (va_Qi (fun (r : Int32) (u : (Nat → Int32) × (Nat → Int32) × (Nat → Int32) × (Nat → Int32) × (Nat → Int32) × (Nat → Int32) × (Nat → Int32) × (Nat → Int32) × (Nat → Int32) × (Nat → Int32) × (Nat → Int32) × Int32) => (I4 (A 10) (u.2.1) (u.2.2.2.2.2.2.2.2.2.2.1) (u.2.2.2.2.2.1) (u.1) (A 12) (A 13)) ∧ (I6 (u.2.2.2.1) (u.2.2.2.2.1) (u.2.2.2.2.2.1) (u.2.2.2.2.2.2.1) (u.2.2.2.2.2.2.2.1)) ∧ (I8 (u.2.1) (A 30) (A 37) (A 36)) ∧ (D_X10_add A cd pk p0 p1 p2 p3 p4 (uA (uA (uA (uA (uA (uA (uA (uA (uA (uA (uA A 11 (u.1)) 20 (u.2.1)) 21 (u.2.2.1)) 22 (u.2.2.2.1)) 23 (u.2.2.2.2.1)) 24 (u.2.2.2.2.2.1)) 25 (u.2.2.2.2.2.2.1)) 26 (u.2.2.2.2.2.2.2.1)) 27 (u.2.2.2.2.2.2.2.2.1)) 28 (u.2.2.2.2.2.2.2.2.2.1)) 29 (u.2.2.2.2.2.2.2.2.2.2.1)) (u.2.2.2.2.2.2.2.2.2.2.2) pk r)) (fun u t => MH E h0 rf t0 t1 t2 (uA (uA (uA (uA (uA (uA (uA (uA (uA (uA (uA A 11 (u.1)) 20 (u.2.1)) 21 (u.2.2.1)) 22 (u.2.2.2.1)) 23 (u.2.2.2.2.1)) 24 (u.2.2.2.2.2.1)) 25 (u.2.2.2.2.2.2.1)) 26 (u.2.2.2.2.2.2.2.1)) 27 (u.2.2.2.2.2.2.2.2.1)) 28 (u.2.2.2.2.2.2.2.2.2.1)) 29 (u.2.2.2.2.2.2.2.2.2.2.1)) (u.2.2.2.2.2.2.2.2.2.2.2) pk t.heap) (fun q : Nat => G q ≠ 0)) 0 0 (fun q : Nat => G q ≠ 0) := by
  refine Met.ofW (cc := cX10_add) (maxL := 6) (ret := (some .int)) (by decide) rfl ?_
  intro p e s m args below meth c s₁ B hml hv
  obtain ⟨rfl, hM, hK⟩ := hv
  have hx := B.exec
  have hb := B.bytes
  have hr := B.returns
  have hts : ∀ w ∈ TS, w.before ([.ref h0, .int p0, .int p1, .int p2, .int p3, .int p4] : List Value).toArray s = true := fun w hw => hK.2.1 w hw _
  have hown : s.vm.findClass RX10 = some m.cls := findClass_of_methodNamed B.named
  have hlocks := B.notSynchronized
  have hS : va_S (fun q : Nat => G q ≠ 0) s.heap s.heap [] := va_S.rf
  have hAz : ∀ q, (fun q : Nat => G q ≠ 0) q → z0 ≤ q := hGz
  have hl := lv_entry ([.ref h0, .int p0, .int p1, .int p2, .int p3, .int p4]) (n := 6) (Nat.le_of_ble_eq_true rfl)
  rw [lg_entry_eq]
  generalize (lg_sl ([.ref h0, .int p0, .int p1, .int p2, .int p3, .int p4]) ++ List.replicate (6 - (lg_sl ([.ref h0, .int p0, .int p1, .int p2, .int p3, .int p4])).length) Slot.unset).toArray = ls at hl ⊢
  have hl : lv_has ls 6 [(0, .ref h0), (1, .int p0), (2, .int p1), (3, .int p2), (4, .int p3), (5, .int p4)] := hl
  refine lv_aload_n hx hb dX10_add_0 rfl (lv_at hl 0 rfl) ?_
  refine lv_iconst (v := 0) hx hb dX10_add_1 (by decide) ?_
  refine rr_put (D := DG E) (ci := 10) (v := .int 0) (ty := .int) (C := RX10) (T := TX10) (N := 49) hx hb hts iw_X10 tyX10 tyX10_ok nmX10 hown hK.1 hM.1 hS (by show G h0 ≠ 0; rw [hR.1]; decide) rfl 3 (by decide) (hts _ fl_X10_153) (fun _ h9 => h9) rfl (by decide +kernel) rfl rfl (Nat.le_of_ble_eq_true rfl) dX10_add_2 (fun H locs hn ho hz hS => ?_)
  have hM : MH E h0 rf t0 t1 t2 A 0 pk H := hM.sc hR hn ho
  refine lv_aload_n hx hb dX10_add_5 rfl (lv_at hl 0 rfl) ?_
  refine lv_iload_n hx hb dX10_add_6 rfl (lv_at hl 1 rfl) ?_
  refine lv_iload_n hx hb dX10_add_7 rfl (lv_at hl 2 rfl) ?_
  refine lv_iconst (v := 1) hx hb dX10_add_8 (by decide) ?_
  refine va_calli (rnV (fun H => MH E h0 rf t0 t1 t2 A 0 pk H) (As := [.int p0, .int p1, .int 1]) (rest := []) ⟨hx, hb, hml, hown, hts⟩ (u_X10_cellsGood l E z0 G hGz h0 rf hR t0 t1 t2 A 0 pk p0 p1 1) (cwV 3 hts (gdV ml_X10_181 im_X10_cellsGood se_X10_X10_cellsGood in_X10 co_X10_cellsGood rfl) rfl rfl rfl (by decide +kernel) ⟨Nat.le_of_ble_eq_true rfl, Nat.le_of_ble_eq_true rfl⟩) hM (fun U hU hW => hK.go hW hS hAz hU) (va_recv hK.1 (va_one hM.1) (ci := 10) (q0 := 0) rfl rfl) rfl rfl hl.1 rfl (lv_room (Nat.le_of_ble_eq_true rfl)) dX10_add_9 ⟨Nat.le_of_ble_eq_true rfl, Nat.le_of_ble_eq_true rfl⟩) hS (fun q _ h => h.elim) (fun q h => h.elim) (fun r_1 ur_1 t H locs ht hvm hwr_1 hB hz hk hS => ?_)
  have hM := hM.kept (fun q hq => hk q hq (fun h => h))
  have hDr_1 : D_X10_cellsGood A (0 : Int32) pk p0 p1 (1 : Int32) r_1 := hwr_1.2.2
  have hpr_1_0 : r_1 = 0 ∨ r_1 = 1 := hwr_1.1
  have hpr_1_1 : r_1.toInt = 0 ∨ (0 ≤ p0.toInt ∧ p0.toInt ≤ 3 ∧ 1 ≤ (1 : Int32).toInt ∧ (1 : Int32).toInt ≤ 12 ∧ 0 ≤ p1.toInt ∧ p1.toInt ≤ 31 ∧ p1.toInt + (1 : Int32).toInt ≤ 32) := hwr_1.2.1
  have := i_1
  have hzr_1 := s_rng hpr_1_0
  refine lv_if_eq (tgt := 33) hx hb dX10_add_12 (by decide) (fun c_2 => ?_) (fun c_2 => ?_)
  · simp only [lt_I, le_I, eq_I, i_0, i_1, i_2, i_3, i_4, i_5, i_6, i_7, i_8, i_10, i_12, i_16, i_20, i_23, i_24, i_31, i_32, i_63, i_64, i_m1, i_9, i_11, i_13, i_25, i_60, i_75, i_79, i_80, i_96, i_100] at c_2
    clear hpr_1_1
    refine lv_aload_n hx hb dX10_add_33 rfl (lv_at hl 0 rfl) ?_
    refine lv_iconst (v := 1) hx hb dX10_add_34 (by decide) ?_
    refine va_calli (rnV (fun H => MH E h0 rf t0 t1 t2 A 0 pk H) (As := [.int 1]) (rest := []) ⟨hx, hb, hml, hown, hts⟩ (u_X10_fail l E z0 G hGz h0 rf hR t0 t1 t2 A 0 pk 1) (cwV 1 hts (gdV ml_X10_185 im_X10_fail se_X10_X10_fail in_X10 co_X10_fail rfl) rfl rfl rfl (by decide +kernel) ⟨Nat.le_of_ble_eq_true rfl, Nat.le_of_ble_eq_true rfl⟩) hM (fun U hU hW => hK.go hW hS hAz hU) (va_recv hK.1 (va_one hM.1) (ci := 10) (q0 := 0) rfl rfl) rfl rfl hl.1 rfl (lv_room (Nat.le_of_ble_eq_true rfl)) dX10_add_35 ⟨Nat.le_of_ble_eq_true rfl, Nat.le_of_ble_eq_true rfl⟩) hS (fun q _ h => h) (fun q h => h) (fun r_3 ur_3 t H locs ht hvm hwr_3 hB hz hk hS => ?_)
    have hM : MH E h0 rf t0 t1 t2 A ur_3 pk H := by rw [ht] at hB; exact hB
    have hDr_3 : D_X10_fail A (0 : Int32) pk (1 : Int32) A ur_3 pk r_3 := hwr_3.2
    have hpr_3_0 : ur_3 = (1 : Int32) := hwr_3.1
    exact W.iret (v := r_3) hx hb hr (fun t ht hW => ⟨⟨r_3, ((A 11), (A 20), (A 21), (A 22), (A 23), (A 24), (A 25), (A 26), (A 27), (A 28), (A 29), ur_3), rfl, ⟨hI4, hI6, hI8, (Or.inl ⟨r_1, hDr_1, hpr_1_0, c_2, ur_3, r_3, hDr_3, hpr_3_0, rfl, rfl, rfl, rfl⟩)⟩, (by show MH E h0 rf t0 t1 t2 (uA (uA (uA (uA (uA (uA (uA (uA (uA (uA (uA A 11 (A 11)) 20 (A 20)) 21 (A 21)) 22 (A 22)) 23 (A 23)) 24 (A 24)) 25 (A 25)) 26 (A 26)) 27 (A 27)) 28 (A 28)) 29 (A 29)) ur_3 pk t.heap; rw [ht]; exact hM.cge (funext fun j => (cgj j 29 rfl (fun a0 => (cgj j 28 rfl (fun a1 => (cgj j 27 rfl (fun a2 => (cgj j 26 rfl (fun a3 => (cgj j 25 rfl (fun a4 => (cgj j 24 rfl (fun a5 => (cgj j 23 rfl (fun a6 => (cgj j 22 rfl (fun a7 => (cgj j 21 rfl (fun a8 => (cgj j 20 rfl (fun a9 => (cgj j 11 rfl (fun a10 => (by simp only [uA_n a0, uA_n a1, uA_n a2, uA_n a3, uA_n a4, uA_n a5, uA_n a6, uA_n a7, uA_n a8, uA_n a9, uA_n a10])))))))))))))))))))))))))⟩, hS.F ht⟩) hS.2.2 dX10_add_38
  · simp only [lt_I, le_I, eq_I, i_0, i_1, i_2, i_3, i_4, i_5, i_6, i_7, i_8, i_10, i_12, i_16, i_20, i_23, i_24, i_31, i_32, i_63, i_64, i_m1, i_9, i_11, i_13, i_25, i_60, i_75, i_79, i_80, i_96, i_100] at c_2
    replace hpr_1_1 := hpr_1_1.resolve_left (by omega)
    refine lv_iload_n hx hb dX10_add_15 rfl (lv_at hl 3 rfl) ?_
    refine lv_iconst (v := 5) hx hb dX10_add_16 (by decide) ?_
    refine W.callR (W.runS (As := [.int p2, .int 5]) (rest := []) ⟨hx, hb, hml, hown, hts⟩ (c_X10_within l p2 5) (cwS 2 hts (gdS ml_X10_156 st_X10_within in_X10 co_X10_within rfl) rfl rfl rfl (by decide +kernel) ⟨Nat.le_of_ble_eq_true rfl, Nat.le_of_ble_eq_true rfl⟩) preEq rfl rfl hl.1 rfl (lv_room (Nat.le_of_ble_eq_true rfl)) dX10_add_17 ⟨Nat.le_of_ble_eq_true rfl, Nat.le_of_ble_eq_true rfl⟩) ?_
    refine W.eq (g2 := F0 m 20 ls [.int (bI (0 ≤ p2.toInt ∧ p2.toInt ≤ (5 : Int32).toInt))]) (by rfl) ?_
    refine lv_if_eq (tgt := 33) hx hb dX10_add_20 (by decide) (fun c_4 => ?_) (fun c_4 => ?_)
    · have c_4 := bI_0 c_4
      have c_4r := c_4
      try simp only [lt_I, le_I, eq_I, i_0, i_1, i_2, i_3, i_4, i_5, i_6, i_7, i_8, i_10, i_12, i_16, i_20, i_23, i_24, i_31, i_32, i_63, i_64, i_m1, i_9, i_11, i_13, i_25, i_60, i_75, i_79, i_80, i_96, i_100] at c_4
      refine lv_aload_n hx hb dX10_add_33 rfl (lv_at hl 0 rfl) ?_
      refine lv_iconst (v := 1) hx hb dX10_add_34 (by decide) ?_
      refine va_calli (rnV (fun H => MH E h0 rf t0 t1 t2 A 0 pk H) (As := [.int 1]) (rest := []) ⟨hx, hb, hml, hown, hts⟩ (u_X10_fail l E z0 G hGz h0 rf hR t0 t1 t2 A 0 pk 1) (cwV 1 hts (gdV ml_X10_185 im_X10_fail se_X10_X10_fail in_X10 co_X10_fail rfl) rfl rfl rfl (by decide +kernel) ⟨Nat.le_of_ble_eq_true rfl, Nat.le_of_ble_eq_true rfl⟩) hM (fun U hU hW => hK.go hW hS hAz hU) (va_recv hK.1 (va_one hM.1) (ci := 10) (q0 := 0) rfl rfl) rfl rfl hl.1 rfl (lv_room (Nat.le_of_ble_eq_true rfl)) dX10_add_35 ⟨Nat.le_of_ble_eq_true rfl, Nat.le_of_ble_eq_true rfl⟩) hS (fun q _ h => h) (fun q h => h) (fun r_5 ur_5 t H locs ht hvm hwr_5 hB hz hk hS => ?_)
      have hM : MH E h0 rf t0 t1 t2 A ur_5 pk H := by rw [ht] at hB; exact hB
      have hDr_5 : D_X10_fail A (0 : Int32) pk (1 : Int32) A ur_5 pk r_5 := hwr_5.2
      have hpr_5_0 : ur_5 = (1 : Int32) := hwr_5.1
      exact W.iret (v := r_5) hx hb hr (fun t ht hW => ⟨⟨r_5, ((A 11), (A 20), (A 21), (A 22), (A 23), (A 24), (A 25), (A 26), (A 27), (A 28), (A 29), ur_5), rfl, ⟨hI4, hI6, hI8, (Or.inr (Or.inl ⟨r_1, hDr_1, hpr_1_0, c_2, c_4r, ur_5, r_5, hDr_5, hpr_5_0, rfl, rfl, rfl, rfl⟩))⟩, (by show MH E h0 rf t0 t1 t2 (uA (uA (uA (uA (uA (uA (uA (uA (uA (uA (uA A 11 (A 11)) 20 (A 20)) 21 (A 21)) 22 (A 22)) 23 (A 23)) 24 (A 24)) 25 (A 25)) 26 (A 26)) 27 (A 27)) 28 (A 28)) 29 (A 29)) ur_5 pk t.heap; rw [ht]; exact hM.cge (funext fun j => (cgj j 29 rfl (fun a0 => (cgj j 28 rfl (fun a1 => (cgj j 27 rfl (fun a2 => (cgj j 26 rfl (fun a3 => (cgj j 25 rfl (fun a4 => (cgj j 24 rfl (fun a5 => (cgj j 23 rfl (fun a6 => (cgj j 22 rfl (fun a7 => (cgj j 21 rfl (fun a8 => (cgj j 20 rfl (fun a9 => (cgj j 11 rfl (fun a10 => (by simp only [uA_n a0, uA_n a1, uA_n a2, uA_n a3, uA_n a4, uA_n a5, uA_n a6, uA_n a7, uA_n a8, uA_n a9, uA_n a10])))))))))))))))))))))))))⟩, hS.F ht⟩) hS.2.2 dX10_add_38
    · have c_4 := bI_n c_4
      have c_4r := c_4
      try simp only [lt_I, le_I, eq_I, i_0, i_1, i_2, i_3, i_4, i_5, i_6, i_7, i_8, i_10, i_12, i_16, i_20, i_23, i_24, i_31, i_32, i_63, i_64, i_m1, i_9, i_11, i_13, i_25, i_60, i_75, i_79, i_80, i_96, i_100] at c_4
      refine lv_iload hx hb dX10_add_23 (lv_at hl 4 rfl) ?_
      refine lv_bipush (v := 31) hx hb dX10_add_25 (by decide) ?_
      refine W.callR (W.runS (As := [.int p3, .int 31]) (rest := []) ⟨hx, hb, hml, hown, hts⟩ (c_X10_within l p3 31) (cwS 2 hts (gdS ml_X10_156 st_X10_within in_X10 co_X10_within rfl) rfl rfl rfl (by decide +kernel) ⟨Nat.le_of_ble_eq_true rfl, Nat.le_of_ble_eq_true rfl⟩) preEq rfl rfl hl.1 rfl (lv_room (Nat.le_of_ble_eq_true rfl)) dX10_add_27 ⟨Nat.le_of_ble_eq_true rfl, Nat.le_of_ble_eq_true rfl⟩) ?_
      refine W.eq (g2 := F0 m 30 ls [.int (bI (0 ≤ p3.toInt ∧ p3.toInt ≤ (31 : Int32).toInt))]) (by rfl) ?_
      refine lv_if_ne (tgt := 39) hx hb dX10_add_30 (by decide) (fun c_6 => ?_) (fun c_6 => ?_)
      · have c_6 := bI_n c_6
        have c_6r := c_6
        try simp only [lt_I, le_I, eq_I, i_0, i_1, i_2, i_3, i_4, i_5, i_6, i_7, i_8, i_10, i_12, i_16, i_20, i_23, i_24, i_31, i_32, i_63, i_64, i_m1, i_9, i_11, i_13, i_25, i_60, i_75, i_79, i_80, i_96, i_100] at c_6
        refine lv_aload_n hx hb dX10_add_39 rfl (lv_at hl 0 rfl) ?_
        refine lv_iload_n hx hb dX10_add_40 rfl (lv_at hl 1 rfl) ?_
        refine va_calli (rnV (fun H => MH E h0 rf t0 t1 t2 A 0 pk H) (As := [.int p0]) (rest := []) ⟨hx, hb, hml, hown, hts⟩ (u_X10_full l E z0 G hGz h0 rf hR t0 t1 t2 A 0 pk p0 (show 0 ≤ p0.toInt ∧ p0.toInt ≤ 3 from by first | decide | omega)) (cwV 1 hts (gdV ml_X10_188 im_X10_full se_X10_X10_full in_X10 co_X10_full rfl) rfl rfl rfl (by decide +kernel) ⟨Nat.le_of_ble_eq_true rfl, Nat.le_of_ble_eq_true rfl⟩) hM (fun U hU hW => hK.go hW hS hAz hU) (va_recv hK.1 (va_one hM.1) (ci := 10) (q0 := 0) rfl rfl) rfl rfl hl.1 rfl (lv_room (Nat.le_of_ble_eq_true rfl)) dX10_add_41 ⟨Nat.le_of_ble_eq_true rfl, Nat.le_of_ble_eq_true rfl⟩) hS (fun q _ h => h.elim) (fun q h => h.elim) (fun r_7 ur_7 t H locs ht hvm hwr_7 hB hz hk hS => ?_)
        have hM := hM.kept (fun q hq => hk q hq (fun h => h))
        have hDr_7 : D_X10_full A (0 : Int32) pk p0 r_7 := hwr_7.2.2
        have hpr_7_0 : r_7 = 0 ∨ r_7 = 1 := hwr_7.1
        have hpr_7_1 : ∀ n : Nat, (n : Int) = p0.toInt → r_7.toInt = 1 ∨ (((A 10) n).toInt = 1 ∧ ((A 20) n).toInt ≠ 4) := hwr_7.2.1
        obtain ⟨n_8, hn_8, en_8⟩ := s_nat (x := p0) (by omega)
        have iahpr_7_1 := hpr_7_1 n_8 (by omega)
        have hzr_7 := s_rng hpr_7_0
        refine lv_if_eq (tgt := 55) hx hb dX10_add_44 (by decide) (fun c_9 => ?_) (fun c_9 => ?_)
        · simp only [lt_I, le_I, eq_I, i_0, i_1, i_2, i_3, i_4, i_5, i_6, i_7, i_8, i_10, i_12, i_16, i_20, i_23, i_24, i_31, i_32, i_63, i_64, i_m1, i_9, i_11, i_13, i_25, i_60, i_75, i_79, i_80, i_96, i_100] at c_9
          refine lv_aload_n hx hb dX10_add_55 rfl (lv_at hl 0 rfl) ?_
          refine lv_iload_n hx hb dX10_add_56 rfl (lv_at hl 1 rfl) ?_
          refine lv_iconst (v := 3) hx hb dX10_add_57 (by decide) ?_
          refine lv_iload_n hx hb dX10_add_58 rfl (lv_at hl 2 rfl) ?_
          refine lv_iconst (v := 1) hx hb dX10_add_59 (by decide) ?_
          refine lv_iload_n hx hb dX10_add_60 rfl (lv_at hl 3 rfl) ?_
          refine lv_iload hx hb dX10_add_61 (lv_at hl 4 rfl) ?_
          refine lv_iload hx hb dX10_add_63 (lv_at hl 5 rfl) ?_
          refine va_calli (rnV (fun H => MH E h0 rf t0 t1 t2 A 0 pk H) (As := [.int p0, .int 3, .int p1, .int 1, .int p2, .int p3, .int p4]) (rest := []) ⟨hx, hb, hml, hown, hts⟩ (u_X10_post l E z0 G hGz h0 rf hR t0 t1 t2 A 0 pk p0 3 p1 1 p2 p3 p4 hI4 hI6 hI8 (show 0 ≤ p0.toInt ∧ p0.toInt ≤ 3 from by have := i_1; have := i_3; first | decide | omega) (show 0 ≤ (3 : Int32).toInt ∧ (3 : Int32).toInt ≤ 3 from by have := i_1; have := i_3; first | decide | omega) (show 0 ≤ p1.toInt ∧ p1.toInt ≤ 32 from by have := i_1; have := i_3; first | decide | omega) (show 1 ≤ (1 : Int32).toInt ∧ (1 : Int32).toInt ≤ 12 from by have := i_1; have := i_3; first | decide | omega) (show p1.toInt + (1 : Int32).toInt ≤ 32 from by have := i_1; have := i_3; first | decide | omega) (show (3 : Int32).toInt = 0 ∨ (0 ≤ p2.toInt ∧ p2.toInt ≤ 5) from by have := i_1; have := i_3; first | decide | omega) (show -1 ≤ p3.toInt ∧ p3.toInt ≤ 31 from by have := i_1; have := i_3; first | decide | omega) (show ∀ n : Nat, (n : Int) = p0.toInt → ((A 10) n).toInt = 1 ∧ ((A 20) n).toInt ≠ 4 from (fun n hn => by
        obtain rfl : n_8 = n := by omega
        exact iahpr_7_1.resolve_left (by omega)))) (cwV 7 hts (gdV ml_X10_192 im_X10_post se_X10_X10_post in_X10 co_X10_post rfl) rfl rfl rfl (by decide +kernel) ⟨Nat.le_of_ble_eq_true rfl, Nat.le_of_ble_eq_true rfl⟩) hM (fun U hU hW => hK.go hW hS hAz hU) (va_recv hK.1 (va_one hM.1) (ci := 10) (q0 := 0) rfl rfl) rfl rfl hl.1 rfl (lv_room (Nat.le_of_ble_eq_true rfl)) dX10_add_65 ⟨Nat.le_of_ble_eq_true rfl, Nat.le_of_ble_eq_true rfl⟩) hS (fun q _ h => h) (fun q h => h) (fun r_10 ur_10 t H locs ht hvm hwr_10 hB hz hk hS => ?_)
          have hM : MH E h0 rf t0 t1 t2 (uA (uA (uA (uA (uA (uA (uA (uA (uA (uA (uA A 11 (ur_10.1)) 20 (ur_10.2.1)) 21 (ur_10.2.2.1)) 22 (ur_10.2.2.2.1)) 23 (ur_10.2.2.2.2.1)) 24 (ur_10.2.2.2.2.2.1)) 25 (ur_10.2.2.2.2.2.2.1)) 26 (ur_10.2.2.2.2.2.2.2.1)) 27 (ur_10.2.2.2.2.2.2.2.2.1)) 28 (ur_10.2.2.2.2.2.2.2.2.2.1)) 29 (ur_10.2.2.2.2.2.2.2.2.2.2)) 0 pk H := by rw [ht] at hB; exact hB
          have hDr_10 : D_X10_post A (0 : Int32) pk p0 (3 : Int32) p1 (1 : Int32) p2 p3 p4 (uA (uA (uA (uA (uA (uA (uA (uA (uA (uA (uA A 11 (ur_10.1)) 20 (ur_10.2.1)) 21 (ur_10.2.2.1)) 22 (ur_10.2.2.2.1)) 23 (ur_10.2.2.2.2.1)) 24 (ur_10.2.2.2.2.2.1)) 25 (ur_10.2.2.2.2.2.2.1)) 26 (ur_10.2.2.2.2.2.2.2.1)) 27 (ur_10.2.2.2.2.2.2.2.2.1)) 28 (ur_10.2.2.2.2.2.2.2.2.2.1)) 29 (ur_10.2.2.2.2.2.2.2.2.2.2)) (0 : Int32) pk r_10 := hwr_10.2.2.2
          have hpr_10_0 : I4 (A 10) (ur_10.2.1) (ur_10.2.2.2.2.2.2.2.2.2.2) (ur_10.2.2.2.2.2.1) (ur_10.1) (A 12) (A 13) := hwr_10.1
          have hpr_10_1 : I6 (ur_10.2.2.2.1) (ur_10.2.2.2.2.1) (ur_10.2.2.2.2.2.1) (ur_10.2.2.2.2.2.2.1) (ur_10.2.2.2.2.2.2.2.1) := hwr_10.2.1
          have hpr_10_2 : I8 (ur_10.2.1) (A 30) (A 37) (A 36) := hwr_10.2.2.1
          have := i_3
          exact W.iret (v := r_10) hx hb hr (fun t ht hW => ⟨⟨r_10, ((ur_10.1), (ur_10.2.1), (ur_10.2.2.1), (ur_10.2.2.2.1), (ur_10.2.2.2.2.1), (ur_10.2.2.2.2.2.1), (ur_10.2.2.2.2.2.2.1), (ur_10.2.2.2.2.2.2.2.1), (ur_10.2.2.2.2.2.2.2.2.1), (ur_10.2.2.2.2.2.2.2.2.2.1), (ur_10.2.2.2.2.2.2.2.2.2.2), 0), rfl, ⟨hpr_10_0, hpr_10_1, hpr_10_2, (Or.inr (Or.inr (Or.inl ⟨r_1, hDr_1, hpr_1_0, c_2, c_4r, c_6r, r_7, hDr_7, hpr_7_0, hpr_7_1, n_8, hn_8, c_9, ur_10, r_10, hDr_10, hpr_10_0, hpr_10_1, hpr_10_2, rfl, rfl, rfl, rfl⟩)))⟩, (by show MH E h0 rf t0 t1 t2 (uA (uA (uA (uA (uA (uA (uA (uA (uA (uA (uA A 11 (ur_10.1)) 20 (ur_10.2.1)) 21 (ur_10.2.2.1)) 22 (ur_10.2.2.2.1)) 23 (ur_10.2.2.2.2.1)) 24 (ur_10.2.2.2.2.2.1)) 25 (ur_10.2.2.2.2.2.2.1)) 26 (ur_10.2.2.2.2.2.2.2.1)) 27 (ur_10.2.2.2.2.2.2.2.2.1)) 28 (ur_10.2.2.2.2.2.2.2.2.2.1)) 29 (ur_10.2.2.2.2.2.2.2.2.2.2)) 0 pk t.heap; rw [ht]; exact hM)⟩, hS.F ht⟩) hS.2.2 dX10_add_68
        · simp only [lt_I, le_I, eq_I, i_0, i_1, i_2, i_3, i_4, i_5, i_6, i_7, i_8, i_10, i_12, i_16, i_20, i_23, i_24, i_31, i_32, i_63, i_64, i_m1, i_9, i_11, i_13, i_25, i_60, i_75, i_79, i_80, i_96, i_100] at c_9
          refine lv_aload_n hx hb dX10_add_47 rfl (lv_at hl 0 rfl) ?_
          refine lv_iconst (v := 2) hx hb dX10_add_48 (by decide) ?_
          refine va_calli (rnV (fun H => MH E h0 rf t0 t1 t2 A 0 pk H) (As := [.int 2]) (rest := []) ⟨hx, hb, hml, hown, hts⟩ (u_X10_fail l E z0 G hGz h0 rf hR t0 t1 t2 A 0 pk 2) (cwV 1 hts (gdV ml_X10_185 im_X10_fail se_X10_X10_fail in_X10 co_X10_fail rfl) rfl rfl rfl (by decide +kernel) ⟨Nat.le_of_ble_eq_true rfl, Nat.le_of_ble_eq_true rfl⟩) hM (fun U hU hW => hK.go hW hS hAz hU) (va_recv hK.1 (va_one hM.1) (ci := 10) (q0 := 0) rfl rfl) rfl rfl hl.1 rfl (lv_room (Nat.le_of_ble_eq_true rfl)) dX10_add_49 ⟨Nat.le_of_ble_eq_true rfl, Nat.le_of_ble_eq_true rfl⟩) hS (fun q _ h => h) (fun q h => h) (fun r_11 ur_11 t H locs ht hvm hwr_11 hB hz hk hS => ?_)
          have hM : MH E h0 rf t0 t1 t2 A ur_11 pk H := by rw [ht] at hB; exact hB
          have hDr_11 : D_X10_fail A (0 : Int32) pk (2 : Int32) A ur_11 pk r_11 := hwr_11.2
          have hpr_11_0 : ur_11 = (2 : Int32) := hwr_11.1
          have := i_2
          refine lv_goto (tgt := 68) hx hb dX10_add_52 (by decide) ?_
          exact W.iret (v := r_11) hx hb hr (fun t ht hW => ⟨⟨r_11, ((A 11), (A 20), (A 21), (A 22), (A 23), (A 24), (A 25), (A 26), (A 27), (A 28), (A 29), ur_11), rfl, ⟨hI4, hI6, hI8, (Or.inr (Or.inr (Or.inr (Or.inl ⟨r_1, hDr_1, hpr_1_0, c_2, c_4r, c_6r, r_7, hDr_7, hpr_7_0, hpr_7_1, n_8, hn_8, c_9, ur_11, r_11, hDr_11, hpr_11_0, rfl, rfl, rfl, rfl⟩))))⟩, (by show MH E h0 rf t0 t1 t2 (uA (uA (uA (uA (uA (uA (uA (uA (uA (uA (uA A 11 (A 11)) 20 (A 20)) 21 (A 21)) 22 (A 22)) 23 (A 23)) 24 (A 24)) 25 (A 25)) 26 (A 26)) 27 (A 27)) 28 (A 28)) 29 (A 29)) ur_11 pk t.heap; rw [ht]; exact hM.cge (funext fun j => (cgj j 29 rfl (fun a0 => (cgj j 28 rfl (fun a1 => (cgj j 27 rfl (fun a2 => (cgj j 26 rfl (fun a3 => (cgj j 25 rfl (fun a4 => (cgj j 24 rfl (fun a5 => (cgj j 23 rfl (fun a6 => (cgj j 22 rfl (fun a7 => (cgj j 21 rfl (fun a8 => (cgj j 20 rfl (fun a9 => (cgj j 11 rfl (fun a10 => (by simp only [uA_n a0, uA_n a1, uA_n a2, uA_n a3, uA_n a4, uA_n a5, uA_n a6, uA_n a7, uA_n a8, uA_n a9, uA_n a10])))))))))))))))))))))))))⟩, hS.F ht⟩) hS.2.2 dX10_add_68
      · have c_6 := bI_0 c_6
        have c_6r := c_6
        try simp only [lt_I, le_I, eq_I, i_0, i_1, i_2, i_3, i_4, i_5, i_6, i_7, i_8, i_10, i_12, i_16, i_20, i_23, i_24, i_31, i_32, i_63, i_64, i_m1, i_9, i_11, i_13, i_25, i_60, i_75, i_79, i_80, i_96, i_100] at c_6
        refine lv_aload_n hx hb dX10_add_33 rfl (lv_at hl 0 rfl) ?_
        refine lv_iconst (v := 1) hx hb dX10_add_34 (by decide) ?_
        refine va_calli (rnV (fun H => MH E h0 rf t0 t1 t2 A 0 pk H) (As := [.int 1]) (rest := []) ⟨hx, hb, hml, hown, hts⟩ (u_X10_fail l E z0 G hGz h0 rf hR t0 t1 t2 A 0 pk 1) (cwV 1 hts (gdV ml_X10_185 im_X10_fail se_X10_X10_fail in_X10 co_X10_fail rfl) rfl rfl rfl (by decide +kernel) ⟨Nat.le_of_ble_eq_true rfl, Nat.le_of_ble_eq_true rfl⟩) hM (fun U hU hW => hK.go hW hS hAz hU) (va_recv hK.1 (va_one hM.1) (ci := 10) (q0 := 0) rfl rfl) rfl rfl hl.1 rfl (lv_room (Nat.le_of_ble_eq_true rfl)) dX10_add_35 ⟨Nat.le_of_ble_eq_true rfl, Nat.le_of_ble_eq_true rfl⟩) hS (fun q _ h => h) (fun q h => h) (fun r_12 ur_12 t H locs ht hvm hwr_12 hB hz hk hS => ?_)
        have hM : MH E h0 rf t0 t1 t2 A ur_12 pk H := by rw [ht] at hB; exact hB
        have hDr_12 : D_X10_fail A (0 : Int32) pk (1 : Int32) A ur_12 pk r_12 := hwr_12.2
        have hpr_12_0 : ur_12 = (1 : Int32) := hwr_12.1
        exact W.iret (v := r_12) hx hb hr (fun t ht hW => ⟨⟨r_12, ((A 11), (A 20), (A 21), (A 22), (A 23), (A 24), (A 25), (A 26), (A 27), (A 28), (A 29), ur_12), rfl, ⟨hI4, hI6, hI8, (Or.inr (Or.inr (Or.inr (Or.inr ⟨r_1, hDr_1, hpr_1_0, c_2, c_4r, c_6r, ur_12, r_12, hDr_12, hpr_12_0, rfl, rfl, rfl, rfl⟩))))⟩, (by show MH E h0 rf t0 t1 t2 (uA (uA (uA (uA (uA (uA (uA (uA (uA (uA (uA A 11 (A 11)) 20 (A 20)) 21 (A 21)) 22 (A 22)) 23 (A 23)) 24 (A 24)) 25 (A 25)) 26 (A 26)) 27 (A 27)) 28 (A 28)) 29 (A 29)) ur_12 pk t.heap; rw [ht]; exact hM.cge (funext fun j => (cgj j 29 rfl (fun a0 => (cgj j 28 rfl (fun a1 => (cgj j 27 rfl (fun a2 => (cgj j 26 rfl (fun a3 => (cgj j 25 rfl (fun a4 => (cgj j 24 rfl (fun a5 => (cgj j 23 rfl (fun a6 => (cgj j 22 rfl (fun a7 => (cgj j 21 rfl (fun a8 => (cgj j 20 rfl (fun a9 => (cgj j 11 rfl (fun a10 => (by simp only [uA_n a0, uA_n a1, uA_n a2, uA_n a3, uA_n a4, uA_n a5, uA_n a6, uA_n a7, uA_n a8, uA_n a9, uA_n a10])))))))))))))))))))))))))⟩, hS.F ht⟩) hS.2.2 dX10_add_38
theorem gdX10_receive_0 : (decode cX10_receive 0 = .ok (.aload_n 0, 1)) ∧ (decode cX10_receive 1 = .ok (.iconst 0, 1)) ∧ (decode cX10_receive 2 = .ok (.putfield 153, 3)) ∧ (decode cX10_receive 5 = .ok (.aload_n 0, 1)) ∧ (decode cX10_receive 6 = .ok (.iload_n 1, 1)) ∧ (decode cX10_receive 7 = .ok (.iload_n 2, 1)) ∧ (decode cX10_receive 8 = .ok (.iload_n 3, 1)) ∧ (decode cX10_receive 9 = .ok (.invokevirtual 181, 3)) ∧ (decode cX10_receive 12 = .ok (.ifCond .ne 9, 3)) ∧ (decode cX10_receive 15 = .ok (.aload_n 0, 1)) ∧ (decode cX10_receive 16 = .ok (.iconst 1, 1)) ∧ (decode cX10_receive 17 = .ok (.invokevirtual 185, 3)) ∧ (decode cX10_receive 20 = .ok (.ireturn, 1)) ∧ (decode cX10_receive 21 = .ok (.aload_n 0, 1)) ∧ (decode cX10_receive 22 = .ok (.getfield 28, 3)) ∧ (decode cX10_receive 25 = .ok (.iload_n 1, 1)) := by decide +kernel
theorem dX10_receive_0 : decode cX10_receive 0 = .ok (.aload_n 0, 1) := gdX10_receive_0.1
theorem dX10_receive_1 : decode cX10_receive 1 = .ok (.iconst 0, 1) := gdX10_receive_0.2.1
theorem dX10_receive_2 : decode cX10_receive 2 = .ok (.putfield 153, 3) := gdX10_receive_0.2.2.1
theorem dX10_receive_5 : decode cX10_receive 5 = .ok (.aload_n 0, 1) := gdX10_receive_0.2.2.2.1
theorem dX10_receive_6 : decode cX10_receive 6 = .ok (.iload_n 1, 1) := gdX10_receive_0.2.2.2.2.1
theorem dX10_receive_7 : decode cX10_receive 7 = .ok (.iload_n 2, 1) := gdX10_receive_0.2.2.2.2.2.1
theorem dX10_receive_8 : decode cX10_receive 8 = .ok (.iload_n 3, 1) := gdX10_receive_0.2.2.2.2.2.2.1
theorem dX10_receive_9 : decode cX10_receive 9 = .ok (.invokevirtual 181, 3) := gdX10_receive_0.2.2.2.2.2.2.2.1
theorem dX10_receive_12 : decode cX10_receive 12 = .ok (.ifCond .ne 9, 3) := gdX10_receive_0.2.2.2.2.2.2.2.2.1
theorem dX10_receive_15 : decode cX10_receive 15 = .ok (.aload_n 0, 1) := gdX10_receive_0.2.2.2.2.2.2.2.2.2.1
theorem dX10_receive_16 : decode cX10_receive 16 = .ok (.iconst 1, 1) := gdX10_receive_0.2.2.2.2.2.2.2.2.2.2.1
theorem dX10_receive_17 : decode cX10_receive 17 = .ok (.invokevirtual 185, 3) := gdX10_receive_0.2.2.2.2.2.2.2.2.2.2.2.1
theorem dX10_receive_20 : decode cX10_receive 20 = .ok (.ireturn, 1) := gdX10_receive_0.2.2.2.2.2.2.2.2.2.2.2.2.1
theorem dX10_receive_21 : decode cX10_receive 21 = .ok (.aload_n 0, 1) := gdX10_receive_0.2.2.2.2.2.2.2.2.2.2.2.2.2.1
theorem dX10_receive_22 : decode cX10_receive 22 = .ok (.getfield 28, 3) := gdX10_receive_0.2.2.2.2.2.2.2.2.2.2.2.2.2.2.1
theorem dX10_receive_25 : decode cX10_receive 25 = .ok (.iload_n 1, 1) := gdX10_receive_0.2.2.2.2.2.2.2.2.2.2.2.2.2.2.2
theorem gdX10_receive_26 : (decode cX10_receive 26 = .ok (.iaload, 1)) ∧ (decode cX10_receive 27 = .ok (.iconst 2, 1)) ∧ (decode cX10_receive 28 = .ok (.if_icmp .eq 13, 3)) ∧ (decode cX10_receive 31 = .ok (.aload_n 0, 1)) ∧ (decode cX10_receive 32 = .ok (.getfield 89, 3)) ∧ (decode cX10_receive 35 = .ok (.iload_n 1, 1)) ∧ (decode cX10_receive 36 = .ok (.iaload, 1)) ∧ (decode cX10_receive 37 = .ok (.iconst 4, 1)) ∧ (decode cX10_receive 38 = .ok (.if_icmp .ne 9, 3)) ∧ (decode cX10_receive 41 = .ok (.aload_n 0, 1)) ∧ (decode cX10_receive 42 = .ok (.iconst 2, 1)) ∧ (decode cX10_receive 43 = .ok (.invokevirtual 185, 3)) ∧ (decode cX10_receive 46 = .ok (.ireturn, 1)) ∧ (decode cX10_receive 47 = .ok (.iconst 4, 1)) ∧ (decode cX10_receive 48 = .ok (.iload_n 1, 1)) ∧ (decode cX10_receive 49 = .ok (.imul, 1)) := by decide +kernel
theorem dX10_receive_26 : decode cX10_receive 26 = .ok (.iaload, 1) := gdX10_receive_26.1
theorem dX10_receive_27 : decode cX10_receive 27 = .ok (.iconst 2, 1) := gdX10_receive_26.2.1
theorem dX10_receive_28 : decode cX10_receive 28 = .ok (.if_icmp .eq 13, 3) := gdX10_receive_26.2.2.1
theorem dX10_receive_31 : decode cX10_receive 31 = .ok (.aload_n 0, 1) := gdX10_receive_26.2.2.2.1
theorem dX10_receive_32 : decode cX10_receive 32 = .ok (.getfield 89, 3) := gdX10_receive_26.2.2.2.2.1
theorem dX10_receive_35 : decode cX10_receive 35 = .ok (.iload_n 1, 1) := gdX10_receive_26.2.2.2.2.2.1
theorem dX10_receive_36 : decode cX10_receive 36 = .ok (.iaload, 1) := gdX10_receive_26.2.2.2.2.2.2.1
theorem dX10_receive_37 : decode cX10_receive 37 = .ok (.iconst 4, 1) := gdX10_receive_26.2.2.2.2.2.2.2.1
theorem dX10_receive_38 : decode cX10_receive 38 = .ok (.if_icmp .ne 9, 3) := gdX10_receive_26.2.2.2.2.2.2.2.2.1
theorem dX10_receive_41 : decode cX10_receive 41 = .ok (.aload_n 0, 1) := gdX10_receive_26.2.2.2.2.2.2.2.2.2.1
theorem dX10_receive_42 : decode cX10_receive 42 = .ok (.iconst 2, 1) := gdX10_receive_26.2.2.2.2.2.2.2.2.2.2.1
theorem dX10_receive_43 : decode cX10_receive 43 = .ok (.invokevirtual 185, 3) := gdX10_receive_26.2.2.2.2.2.2.2.2.2.2.2.1
theorem dX10_receive_46 : decode cX10_receive 46 = .ok (.ireturn, 1) := gdX10_receive_26.2.2.2.2.2.2.2.2.2.2.2.2.1
theorem dX10_receive_47 : decode cX10_receive 47 = .ok (.iconst 4, 1) := gdX10_receive_26.2.2.2.2.2.2.2.2.2.2.2.2.2.1
theorem dX10_receive_48 : decode cX10_receive 48 = .ok (.iload_n 1, 1) := gdX10_receive_26.2.2.2.2.2.2.2.2.2.2.2.2.2.2.1
theorem dX10_receive_49 : decode cX10_receive 49 = .ok (.imul, 1) := gdX10_receive_26.2.2.2.2.2.2.2.2.2.2.2.2.2.2.2
theorem gdX10_receive_50 : (decode cX10_receive 50 = .ok (.aload_n 0, 1)) ∧ (decode cX10_receive 51 = .ok (.getfield 89, 3)) ∧ (decode cX10_receive 54 = .ok (.iload_n 1, 1)) ∧ (decode cX10_receive 55 = .ok (.iaload, 1)) ∧ (decode cX10_receive 56 = .ok (.iadd, 1)) ∧ (decode cX10_receive 57 = .ok (.istore 4, 2)) ∧ (decode cX10_receive 59 = .ok (.aload_n 0, 1)) ∧ (decode cX10_receive 60 = .ok (.getfield 95, 3)) ∧ (decode cX10_receive 63 = .ok (.iload 4, 2)) ∧ (decode cX10_receive 65 = .ok (.iload_n 2, 1)) ∧ (decode cX10_receive 66 = .ok (.iastore, 1)) ∧ (decode cX10_receive 67 = .ok (.aload_n 0, 1)) ∧ (decode cX10_receive 68 = .ok (.getfield 98, 3)) ∧ (decode cX10_receive 71 = .ok (.iload 4, 2)) ∧ (decode cX10_receive 73 = .ok (.iload_n 3, 1)) ∧ (decode cX10_receive 74 = .ok (.iastore, 1)) := by decide +kernel
theorem dX10_receive_50 : decode cX10_receive 50 = .ok (.aload_n 0, 1) := gdX10_receive_50.1
theorem dX10_receive_51 : decode cX10_receive 51 = .ok (.getfield 89, 3) := gdX10_receive_50.2.1
theorem dX10_receive_54 : decode cX10_receive 54 = .ok (.iload_n 1, 1) := gdX10_receive_50.2.2.1
theorem dX10_receive_55 : decode cX10_receive 55 = .ok (.iaload, 1) := gdX10_receive_50.2.2.2.1
theorem dX10_receive_56 : decode cX10_receive 56 = .ok (.iadd, 1) := gdX10_receive_50.2.2.2.2.1
theorem dX10_receive_57 : decode cX10_receive 57 = .ok (.istore 4, 2) := gdX10_receive_50.2.2.2.2.2.1
theorem dX10_receive_59 : decode cX10_receive 59 = .ok (.aload_n 0, 1) := gdX10_receive_50.2.2.2.2.2.2.1
theorem dX10_receive_60 : decode cX10_receive 60 = .ok (.getfield 95, 3) := gdX10_receive_50.2.2.2.2.2.2.2.1
theorem dX10_receive_63 : decode cX10_receive 63 = .ok (.iload 4, 2) := gdX10_receive_50.2.2.2.2.2.2.2.2.1
theorem dX10_receive_65 : decode cX10_receive 65 = .ok (.iload_n 2, 1) := gdX10_receive_50.2.2.2.2.2.2.2.2.2.1
theorem dX10_receive_66 : decode cX10_receive 66 = .ok (.iastore, 1) := gdX10_receive_50.2.2.2.2.2.2.2.2.2.2.1
theorem dX10_receive_67 : decode cX10_receive 67 = .ok (.aload_n 0, 1) := gdX10_receive_50.2.2.2.2.2.2.2.2.2.2.2.1
theorem dX10_receive_68 : decode cX10_receive 68 = .ok (.getfield 98, 3) := gdX10_receive_50.2.2.2.2.2.2.2.2.2.2.2.2.1
theorem dX10_receive_71 : decode cX10_receive 71 = .ok (.iload 4, 2) := gdX10_receive_50.2.2.2.2.2.2.2.2.2.2.2.2.2.1
theorem dX10_receive_73 : decode cX10_receive 73 = .ok (.iload_n 3, 1) := gdX10_receive_50.2.2.2.2.2.2.2.2.2.2.2.2.2.2.1
theorem dX10_receive_74 : decode cX10_receive 74 = .ok (.iastore, 1) := gdX10_receive_50.2.2.2.2.2.2.2.2.2.2.2.2.2.2.2
theorem gdX10_receive_75 : (decode cX10_receive 75 = .ok (.aload_n 0, 1)) ∧ (decode cX10_receive 76 = .ok (.getfield 101, 3)) ∧ (decode cX10_receive 79 = .ok (.iload 4, 2)) ∧ (decode cX10_receive 81 = .ok (.aload_n 0, 1)) ∧ (decode cX10_receive 82 = .ok (.getfield 92, 3)) ∧ (decode cX10_receive 85 = .ok (.iload_n 1, 1)) ∧ (decode cX10_receive 86 = .ok (.iaload, 1)) ∧ (decode cX10_receive 87 = .ok (.iastore, 1)) ∧ (decode cX10_receive 88 = .ok (.aload_n 0, 1)) ∧ (decode cX10_receive 89 = .ok (.getfield 104, 3)) ∧ (decode cX10_receive 92 = .ok (.iload 4, 2)) ∧ (decode cX10_receive 94 = .ok (.iconst 0, 1)) ∧ (decode cX10_receive 95 = .ok (.iastore, 1)) ∧ (decode cX10_receive 96 = .ok (.aload_n 0, 1)) ∧ (decode cX10_receive 97 = .ok (.getfield 89, 3)) ∧ (decode cX10_receive 100 = .ok (.iload_n 1, 1)) := by decide +kernel
theorem dX10_receive_75 : decode cX10_receive 75 = .ok (.aload_n 0, 1) := gdX10_receive_75.1
theorem dX10_receive_76 : decode cX10_receive 76 = .ok (.getfield 101, 3) := gdX10_receive_75.2.1
theorem dX10_receive_79 : decode cX10_receive 79 = .ok (.iload 4, 2) := gdX10_receive_75.2.2.1
theorem dX10_receive_81 : decode cX10_receive 81 = .ok (.aload_n 0, 1) := gdX10_receive_75.2.2.2.1
theorem dX10_receive_82 : decode cX10_receive 82 = .ok (.getfield 92, 3) := gdX10_receive_75.2.2.2.2.1
theorem dX10_receive_85 : decode cX10_receive 85 = .ok (.iload_n 1, 1) := gdX10_receive_75.2.2.2.2.2.1
theorem dX10_receive_86 : decode cX10_receive 86 = .ok (.iaload, 1) := gdX10_receive_75.2.2.2.2.2.2.1
theorem dX10_receive_87 : decode cX10_receive 87 = .ok (.iastore, 1) := gdX10_receive_75.2.2.2.2.2.2.2.1
theorem dX10_receive_88 : decode cX10_receive 88 = .ok (.aload_n 0, 1) := gdX10_receive_75.2.2.2.2.2.2.2.2.1
theorem dX10_receive_89 : decode cX10_receive 89 = .ok (.getfield 104, 3) := gdX10_receive_75.2.2.2.2.2.2.2.2.2.1
theorem dX10_receive_92 : decode cX10_receive 92 = .ok (.iload 4, 2) := gdX10_receive_75.2.2.2.2.2.2.2.2.2.2.1
theorem dX10_receive_94 : decode cX10_receive 94 = .ok (.iconst 0, 1) := gdX10_receive_75.2.2.2.2.2.2.2.2.2.2.2.1
theorem dX10_receive_95 : decode cX10_receive 95 = .ok (.iastore, 1) := gdX10_receive_75.2.2.2.2.2.2.2.2.2.2.2.2.1
theorem dX10_receive_96 : decode cX10_receive 96 = .ok (.aload_n 0, 1) := gdX10_receive_75.2.2.2.2.2.2.2.2.2.2.2.2.2.1
theorem dX10_receive_97 : decode cX10_receive 97 = .ok (.getfield 89, 3) := gdX10_receive_75.2.2.2.2.2.2.2.2.2.2.2.2.2.2.1
theorem dX10_receive_100 : decode cX10_receive 100 = .ok (.iload_n 1, 1) := gdX10_receive_75.2.2.2.2.2.2.2.2.2.2.2.2.2.2.2
theorem gdX10_receive_101 : (decode cX10_receive 101 = .ok (.dup2, 1)) ∧ (decode cX10_receive 102 = .ok (.iaload, 1)) ∧ (decode cX10_receive 103 = .ok (.iconst 1, 1)) ∧ (decode cX10_receive 104 = .ok (.iadd, 1)) ∧ (decode cX10_receive 105 = .ok (.iastore, 1)) ∧ (decode cX10_receive 106 = .ok (.aload_n 0, 1)) ∧ (decode cX10_receive 107 = .ok (.getfield 92, 3)) ∧ (decode cX10_receive 110 = .ok (.iload_n 1, 1)) ∧ (decode cX10_receive 111 = .ok (.dup2, 1)) ∧ (decode cX10_receive 112 = .ok (.iaload, 1)) ∧ (decode cX10_receive 113 = .ok (.iconst 1, 1)) ∧ (decode cX10_receive 114 = .ok (.iadd, 1)) ∧ (decode cX10_receive 115 = .ok (.iastore, 1)) ∧ (decode cX10_receive 116 = .ok (.aload_n 0, 1)) ∧ (decode cX10_receive 117 = .ok (.getfield 92, 3)) ∧ (decode cX10_receive 120 = .ok (.iload_n 1, 1)) := by decide +kernel
theorem dX10_receive_101 : decode cX10_receive 101 = .ok (.dup2, 1) := gdX10_receive_101.1
theorem dX10_receive_102 : decode cX10_receive 102 = .ok (.iaload, 1) := gdX10_receive_101.2.1
theorem dX10_receive_103 : decode cX10_receive 103 = .ok (.iconst 1, 1) := gdX10_receive_101.2.2.1
theorem dX10_receive_104 : decode cX10_receive 104 = .ok (.iadd, 1) := gdX10_receive_101.2.2.2.1
theorem dX10_receive_105 : decode cX10_receive 105 = .ok (.iastore, 1) := gdX10_receive_101.2.2.2.2.1
theorem dX10_receive_106 : decode cX10_receive 106 = .ok (.aload_n 0, 1) := gdX10_receive_101.2.2.2.2.2.1
theorem dX10_receive_107 : decode cX10_receive 107 = .ok (.getfield 92, 3) := gdX10_receive_101.2.2.2.2.2.2.1
theorem dX10_receive_110 : decode cX10_receive 110 = .ok (.iload_n 1, 1) := gdX10_receive_101.2.2.2.2.2.2.2.1
theorem dX10_receive_111 : decode cX10_receive 111 = .ok (.dup2, 1) := gdX10_receive_101.2.2.2.2.2.2.2.2.1
theorem dX10_receive_112 : decode cX10_receive 112 = .ok (.iaload, 1) := gdX10_receive_101.2.2.2.2.2.2.2.2.2.1
theorem dX10_receive_113 : decode cX10_receive 113 = .ok (.iconst 1, 1) := gdX10_receive_101.2.2.2.2.2.2.2.2.2.2.1
theorem dX10_receive_114 : decode cX10_receive 114 = .ok (.iadd, 1) := gdX10_receive_101.2.2.2.2.2.2.2.2.2.2.2.1
theorem dX10_receive_115 : decode cX10_receive 115 = .ok (.iastore, 1) := gdX10_receive_101.2.2.2.2.2.2.2.2.2.2.2.2.1
theorem dX10_receive_116 : decode cX10_receive 116 = .ok (.aload_n 0, 1) := gdX10_receive_101.2.2.2.2.2.2.2.2.2.2.2.2.2.1
theorem dX10_receive_117 : decode cX10_receive 117 = .ok (.getfield 92, 3) := gdX10_receive_101.2.2.2.2.2.2.2.2.2.2.2.2.2.2.1
theorem dX10_receive_120 : decode cX10_receive 120 = .ok (.iload_n 1, 1) := gdX10_receive_101.2.2.2.2.2.2.2.2.2.2.2.2.2.2.2
theorem gdX10_receive_121 : (decode cX10_receive 121 = .ok (.iaload, 1)) ∧ (decode cX10_receive 122 = .ok (.iconst 1, 1)) ∧ (decode cX10_receive 123 = .ok (.isub, 1)) ∧ (decode cX10_receive 124 = .ok (.ireturn, 1)) := by decide +kernel
theorem dX10_receive_121 : decode cX10_receive 121 = .ok (.iaload, 1) := gdX10_receive_121.1
theorem dX10_receive_122 : decode cX10_receive 122 = .ok (.iconst 1, 1) := gdX10_receive_121.2.1
theorem dX10_receive_123 : decode cX10_receive 123 = .ok (.isub, 1) := gdX10_receive_121.2.2.1
theorem dX10_receive_124 : decode cX10_receive 124 = .ok (.ireturn, 1) := gdX10_receive_121.2.2.2
set_option maxHeartbeats 8000000 in
set_option maxRecDepth 100000 in
theorem u_X10_receive (l : Launch) (E : EE) (z0 : Nat) (G : Nat → Nat) (hGz : ∀ q, G q ≠ 0 → z0 ≤ q) (h0 : Nat) (rf : Nat → Nat) (hR : MG G h0 rf) (t0 t1 t2 : Int32) (A : AA) (cd pk : Int32) (p0 : Int32) (p1 : Int32) (p2 : Int32) (hI5 : I5 (A 32) (A 33) (A 35)) (hI8 : I8 (A 20) (A 30) (A 37) (A 36)) : Met l yX10_receive [Cond.code yX10_receive cX10_receive 5 (some .int)] ({ frames := 2, cells := 0, slots := 0, locals := 44 } : Room) (va_Pc [.ref h0, .int p0, .int p1, .int p2] (fun U => MH E h0 rf t0 t1 t2 A cd pk U.heap ∧ KS E z0 U)) (va_Qi (fun (r : Int32) (u : (Nat → Int32) × (Nat → Int32) × (Nat → Int32) × (Nat → Int32) × (Nat → Int32) × (Nat → Int32) × Int32) => (I5 (u.2.2.1) (u.2.2.2.1) (u.2.2.2.2.2.1)) ∧ (I8 (A 20) (u.1) (A 37) (A 36)) ∧ (D_X10_receive A cd pk p0 p1 p2 (uA (uA (uA (uA (uA (uA A 30 (u.1)) 31 (u.2.1)) 32 (u.2.2.1)) 33 (u.2.2.2.1)) 34 (u.2.2.2.2.1)) 35 (u.2.2.2.2.2.1)) (u.2.2.2.2.2.2) pk r)) (fun u t => MH E h0 rf t0 t1 t2 (uA (uA (uA (uA (uA (uA A 30 (u.1)) 31 (u.2.1)) 32 (u.2.2.1)) 33 (u.2.2.2.1)) 34 (u.2.2.2.2.1)) 35 (u.2.2.2.2.2.1)) (u.2.2.2.2.2.2) pk t.heap) (fun q : Nat => G q ≠ 0)) 0 0 (fun q : Nat => G q ≠ 0) := by
  refine Met.ofW (cc := cX10_receive) (maxL := 5) (ret := (some .int)) (by decide) rfl ?_
  intro p e s m args below meth c s₁ B hml hv
  obtain ⟨rfl, hM, hK⟩ := hv
  have hx := B.exec
  have hb := B.bytes
  have hr := B.returns
  have hts : ∀ w ∈ TS, w.before ([.ref h0, .int p0, .int p1, .int p2] : List Value).toArray s = true := fun w hw => hK.2.1 w hw _
  have hown : s.vm.findClass RX10 = some m.cls := findClass_of_methodNamed B.named
  have hlocks := B.notSynchronized
  have hS : va_S (fun q : Nat => G q ≠ 0) s.heap s.heap [] := va_S.rf
  have hAz : ∀ q, (fun q : Nat => G q ≠ 0) q → z0 ≤ q := hGz
  have hl := lv_entry ([.ref h0, .int p0, .int p1, .int p2]) (n := 5) (Nat.le_of_ble_eq_true rfl)
  rw [lg_entry_eq]
  generalize (lg_sl ([.ref h0, .int p0, .int p1, .int p2]) ++ List.replicate (5 - (lg_sl ([.ref h0, .int p0, .int p1, .int p2])).length) Slot.unset).toArray = ls at hl ⊢
  have hl : lv_has ls 5 [(0, .ref h0), (1, .int p0), (2, .int p1), (3, .int p2)] := hl
  refine lv_aload_n hx hb dX10_receive_0 rfl (lv_at hl 0 rfl) ?_
  refine lv_iconst (v := 0) hx hb dX10_receive_1 (by decide) ?_
  refine rr_put (D := DG E) (ci := 10) (v := .int 0) (ty := .int) (C := RX10) (T := TX10) (N := 49) hx hb hts iw_X10 tyX10 tyX10_ok nmX10 hown hK.1 hM.1 hS (by show G h0 ≠ 0; rw [hR.1]; decide) rfl 3 (by decide) (hts _ fl_X10_153) (fun _ h9 => h9) rfl (by decide +kernel) rfl rfl (Nat.le_of_ble_eq_true rfl) dX10_receive_2 (fun H locs hn ho hz hS => ?_)
  have hM : MH E h0 rf t0 t1 t2 A 0 pk H := hM.sc hR hn ho
  refine lv_aload_n hx hb dX10_receive_5 rfl (lv_at hl 0 rfl) ?_
  refine lv_iload_n hx hb dX10_receive_6 rfl (lv_at hl 1 rfl) ?_
  refine lv_iload_n hx hb dX10_receive_7 rfl (lv_at hl 2 rfl) ?_
  refine lv_iload_n hx hb dX10_receive_8 rfl (lv_at hl 3 rfl) ?_
  refine va_calli (rnV (fun H => MH E h0 rf t0 t1 t2 A 0 pk H) (As := [.int p0, .int p1, .int p2]) (rest := []) ⟨hx, hb, hml, hown, hts⟩ (u_X10_cellsGood l E z0 G hGz h0 rf hR t0 t1 t2 A 0 pk p0 p1 p2) (cwV 3 hts (gdV ml_X10_181 im_X10_cellsGood se_X10_X10_cellsGood in_X10 co_X10_cellsGood rfl) rfl rfl rfl (by decide +kernel) ⟨Nat.le_of_ble_eq_true rfl, Nat.le_of_ble_eq_true rfl⟩) hM (fun U hU hW => hK.go hW hS hAz hU) (va_recv hK.1 (va_one hM.1) (ci := 10) (q0 := 0) rfl rfl) rfl rfl hl.1 rfl (lv_room (Nat.le_of_ble_eq_true rfl)) dX10_receive_9 ⟨Nat.le_of_ble_eq_true rfl, Nat.le_of_ble_eq_true rfl⟩) hS (fun q _ h => h.elim) (fun q h => h.elim) (fun r_1 ur_1 t H locs ht hvm hwr_1 hB hz hk hS => ?_)
  have hM := hM.kept (fun q hq => hk q hq (fun h => h))
  have hDr_1 : D_X10_cellsGood A (0 : Int32) pk p0 p1 p2 r_1 := hwr_1.2.2
  have hpr_1_0 : r_1 = 0 ∨ r_1 = 1 := hwr_1.1
  have hpr_1_1 : r_1.toInt = 0 ∨ (0 ≤ p0.toInt ∧ p0.toInt ≤ 3 ∧ 1 ≤ p2.toInt ∧ p2.toInt ≤ 12 ∧ 0 ≤ p1.toInt ∧ p1.toInt ≤ 31 ∧ p1.toInt + p2.toInt ≤ 32) := hwr_1.2.1
  have hzr_1 := s_rng hpr_1_0
  refine lv_if_ne (tgt := 21) hx hb dX10_receive_12 (by decide) (fun c_2 => ?_) (fun c_2 => ?_)
  · simp only [lt_I, le_I, eq_I, i_0, i_1, i_2, i_3, i_4, i_5, i_6, i_7, i_8, i_10, i_12, i_16, i_20, i_23, i_24, i_31, i_32, i_63, i_64, i_m1, i_9, i_11, i_13, i_25, i_60, i_75, i_79, i_80, i_96, i_100] at c_2
    replace hpr_1_1 := hpr_1_1.resolve_left (by omega)
    refine lv_aload_n hx hb dX10_receive_21 rfl (lv_at hl 0 rfl) ?_
    refine va_get (D := DG E) (ci := 10) (v := .ref (rf 10)) (C := RX10) (T := TX10) (N := 49) hx hb hts iw_X10 hown hK.1 (va_one hM.1) 0 rfl rfl 10 (by decide) (hts _ fl_X10_28) (fun _ h9 => h9) rfl dX10_receive_22 ?_
    refine lv_iload_n hx hb dX10_receive_25 rfl (lv_at hl 1 rfl) ?_
    have hi_3 : vp_in p0 4 := vp_in_iff.mpr (by omega)
    have ha_4 : va_at (DG E) vwCl (rf 10, .inl (E.2.2 0, 4, .inl (A 10))) _ := hM.2 10 (by decide) (by decide) (by decide)
    obtain ⟨n_5, hn_5, en_5⟩ := s_nat (x := p0) (by omega)
    refine va_iald (D := DG E) hx hb hK.1 (va_one ha_4) 0 0 rfl rfl hi_3 dX10_receive_26 ?_
    refine W.eq (g2 := F0 m 27 ls [.int ((A 10) n_5)]) (by rw [en_5]) ?_
    refine lv_iconst (v := 2) hx hb dX10_receive_27 (by decide) ?_
    refine lv_icmp_eq (tgt := 41) hx hb dX10_receive_28 (by decide) (fun c_6 => ?_) (fun c_6 => ?_)
    · simp only [lt_I, le_I, eq_I, i_0, i_1, i_2, i_3, i_4, i_5, i_6, i_7, i_8, i_10, i_12, i_16, i_20, i_23, i_24, i_31, i_32, i_63, i_64, i_m1, i_9, i_11, i_13, i_25, i_60, i_75, i_79, i_80, i_96, i_100] at c_6
      refine lv_aload_n hx hb dX10_receive_41 rfl (lv_at hl 0 rfl) ?_
      refine lv_iconst (v := 2) hx hb dX10_receive_42 (by decide) ?_
      refine va_calli (rnV (fun H => MH E h0 rf t0 t1 t2 A 0 pk H) (As := [.int 2]) (rest := []) ⟨hx, hb, hml, hown, hts⟩ (u_X10_fail l E z0 G hGz h0 rf hR t0 t1 t2 A 0 pk 2) (cwV 1 hts (gdV ml_X10_185 im_X10_fail se_X10_X10_fail in_X10 co_X10_fail rfl) rfl rfl rfl (by decide +kernel) ⟨Nat.le_of_ble_eq_true rfl, Nat.le_of_ble_eq_true rfl⟩) hM (fun U hU hW => hK.go hW hS hAz hU) (va_recv hK.1 (va_one hM.1) (ci := 10) (q0 := 0) rfl rfl) rfl rfl hl.1 rfl (lv_room (Nat.le_of_ble_eq_true rfl)) dX10_receive_43 ⟨Nat.le_of_ble_eq_true rfl, Nat.le_of_ble_eq_true rfl⟩) hS (fun q _ h => h) (fun q h => h) (fun r_7 ur_7 t H locs ht hvm hwr_7 hB hz hk hS => ?_)
      have hM : MH E h0 rf t0 t1 t2 A ur_7 pk H := by rw [ht] at hB; exact hB
      have hDr_7 : D_X10_fail A (0 : Int32) pk (2 : Int32) A ur_7 pk r_7 := hwr_7.2
      have hpr_7_0 : ur_7 = (2 : Int32) := hwr_7.1
      have := i_2
      exact W.iret (v := r_7) hx hb hr (fun t ht hW => ⟨⟨r_7, ((A 30), (A 31), (A 32), (A 33), (A 34), (A 35), ur_7), rfl, ⟨hI5, hI8, (Or.inl ⟨r_1, hDr_1, hpr_1_0, c_2, n_5, hn_5, c_6, ur_7, r_7, hDr_7, hpr_7_0, rfl, rfl, rfl, rfl⟩)⟩, (by show MH E h0 rf t0 t1 t2 (uA (uA (uA (uA (uA (uA A 30 (A 30)) 31 (A 31)) 32 (A 32)) 33 (A 33)) 34 (A 34)) 35 (A 35)) ur_7 pk t.heap; rw [ht]; exact hM.cge (funext fun j => (cgj j 35 rfl (fun a0 => (cgj j 34 rfl (fun a1 => (cgj j 33 rfl (fun a2 => (cgj j 32 rfl (fun a3 => (cgj j 31 rfl (fun a4 => (cgj j 30 rfl (fun a5 => (by simp only [uA_n a0, uA_n a1, uA_n a2, uA_n a3, uA_n a4, uA_n a5])))))))))))))))⟩, hS.F ht⟩) hS.2.2 dX10_receive_46
    · simp only [lt_I, le_I, eq_I, i_0, i_1, i_2, i_3, i_4, i_5, i_6, i_7, i_8, i_10, i_12, i_16, i_20, i_23, i_24, i_31, i_32, i_63, i_64, i_m1, i_9, i_11, i_13, i_25, i_60, i_75, i_79, i_80, i_96, i_100] at c_6
      refine lv_aload_n hx hb dX10_receive_31 rfl (lv_at hl 0 rfl) ?_
      refine va_get (D := DG E) (ci := 10) (v := .ref (rf 30)) (C := RX10) (T := TX10) (N := 49) hx hb hts iw_X10 hown hK.1 (va_one hM.1) 0 rfl rfl 30 (by decide) (hts _ fl_X10_89) (fun _ h9 => h9) rfl dX10_receive_32 ?_
      refine lv_iload_n hx hb dX10_receive_35 rfl (lv_at hl 1 rfl) ?_
      have ha_8 : va_at (DG E) vwCl (rf 30, .inl (E.2.2 0, 4, .inl (A 30))) _ := hM.2 30 (by decide) (by decide) (by decide)
      refine va_iald (D := DG E) hx hb hK.1 (va_one ha_8) 0 0 rfl rfl hi_3 dX10_receive_36 ?_
      refine W.eq (g2 := F0 m 37 ls [.int ((A 30) n_5)]) (by rw [en_5]) ?_
      have hk_9 : n_5 < 4 := by omega
      have q_10 : 0 ≤ ((A 30) n_5).toInt := (hI8 n_5 hk_9).2.2.1
      have q_11 : ((A 30) n_5).toInt ≤ 4 := (hI8 n_5 hk_9).2.2.2.1
      refine lv_iconst (v := 4) hx hb dX10_receive_37 (by decide) ?_
      refine lv_icmp_ne (tgt := 47) hx hb dX10_receive_38 (by decide) (fun c_12 => ?_) (fun c_12 => ?_)
      · simp only [lt_I, le_I, eq_I, i_0, i_1, i_2, i_3, i_4, i_5, i_6, i_7, i_8, i_10, i_12, i_16, i_20, i_23, i_24, i_31, i_32, i_63, i_64, i_m1, i_9, i_11, i_13, i_25, i_60, i_75, i_79, i_80, i_96, i_100] at c_12
        refine lv_iconst (v := 4) hx hb dX10_receive_47 (by decide) ?_
        refine lv_iload_n hx hb dX10_receive_48 rfl (lv_at hl 1 rfl) ?_
        refine lv_imul hx hb dX10_receive_49 ?_
        refine lv_topi (fun x_13 ex_13 => ?_)
        have fx_13 : x_13.toInt = 4 * p0.toInt := by rw [ex_13]; exact s_mulK i_4 (by omega) (by omega)
        refine lv_aload_n hx hb dX10_receive_50 rfl (lv_at hl 0 rfl) ?_
        refine va_get (D := DG E) (ci := 10) (v := .ref (rf 30)) (C := RX10) (T := TX10) (N := 49) hx hb hts iw_X10 hown hK.1 (va_one hM.1) 0 rfl rfl 30 (by decide) (hts _ fl_X10_89) (fun _ h9 => h9) rfl dX10_receive_51 ?_
        refine lv_iload_n hx hb dX10_receive_54 rfl (lv_at hl 1 rfl) ?_
        have ha_14 : va_at (DG E) vwCl (rf 30, .inl (E.2.2 0, 4, .inl (A 30))) _ := hM.2 30 (by decide) (by decide) (by decide)
        refine va_iald (D := DG E) hx hb hK.1 (va_one ha_14) 0 0 rfl rfl hi_3 dX10_receive_55 ?_
        refine W.eq (g2 := F0 m 56 ls [.int ((A 30) n_5), .int x_13]) (by rw [en_5]) ?_
        refine lv_iadd hx hb dX10_receive_56 ?_
        refine lv_topi (fun x_15 ex_15 => ?_)
        have fx_15 : x_15.toInt = x_13.toInt + ((A 30) n_5).toInt := by have h9 := s_add (x := x_13) (y := ((A 30) n_5)) (by omega) (by omega); rw [ex_15]; exact h9
        refine lv_istore (lv' := [(4, .int x_15), (0, .ref h0), (1, .int p0), (2, .int p1), (3, .int p2)]) hx hb dX10_receive_57 hl (by decide) rfl (fun ls hl => ?_)
        refine lv_aload_n hx hb dX10_receive_59 rfl (lv_at hl 1 rfl) ?_
        refine va_get (D := DG E) (ci := 10) (v := .ref (rf 32)) (C := RX10) (T := TX10) (N := 49) hx hb hts iw_X10 hown hK.1 (va_one hM.1) 0 rfl rfl 32 (by decide) (hts _ fl_X10_95) (fun _ h9 => h9) rfl dX10_receive_60 ?_
        refine lv_iload hx hb dX10_receive_63 (lv_at hl 0 rfl) ?_
        refine lv_iload_n hx hb dX10_receive_65 rfl (lv_at hl 3 rfl) ?_
        have hi_16 : vp_in x_15 16 := vp_in_iff.mpr (by omega)
        have ha_17 : va_at (DG E) vwCl (rf 32, .inl (E.2.2 0, 16, .inl (A 32))) _ := hM.2 32 (by decide) (by decide) (by decide)
        obtain ⟨n_18, hn_18, en_18⟩ := s_nat (x := x_15) (by omega)
        refine rr_iast (D := DG E) hx hb hK.1 0 ha_17 hS (by show G (rf 32) ≠ 0; rw [hR.2 32 (by decide) (by decide) (by decide)]; decide) rfl hi_16 dX10_receive_66 (fun H locs hn ho hz hS => ?_)
        rw [en_18] at hn
        obtain ⟨g_17, eg_17⟩ : ∃ z : Nat → Int32, z = upd (A 32) n_18 p1 := ⟨_, rfl⟩
        have sg_17 : g_17 n_18 = p1 := by rw [eg_17]; exact upd_s
        have ng_17 : ∀ k, k ≠ n_18 → g_17 k = (A 32) k := fun k hk => by rw [eg_17]; exact upd_n hk
        have hn : va_at (DG E) vwCl (rf 32, .inl (E.2.2 0, 16, .inl g_17)) H := by rw [eg_17]; exact hn
        have hM : MH E h0 rf t0 t1 t2 (uA A 32 g_17) 0 pk H := hM.w hR 32 (by decide) (by decide) (by decide) hn ho
        refine lv_aload_n hx hb dX10_receive_67 rfl (lv_at hl 1 rfl) ?_
        refine va_get (D := DG E) (ci := 10) (v := .ref (rf 33)) (C := RX10) (T := TX10) (N := 49) hx hb hts iw_X10 hown hK.1 (va_one hM.1) 0 rfl rfl 33 (by decide) (hts _ fl_X10_98) (fun _ h9 => h9) rfl dX10_receive_68 ?_
        refine lv_iload hx hb dX10_receive_71 (lv_at hl 0 rfl) ?_
        refine lv_iload_n hx hb dX10_receive_73 rfl (lv_at hl 4 rfl) ?_
        have ha_19 : va_at (DG E) vwCl (rf 33, .inl (E.2.2 0, 16, .inl (A 33))) _ := hM.2 33 (by decide) (by decide) (by decide)
        refine rr_iast (D := DG E) hx hb hK.1 0 ha_19 hS (by show G (rf 33) ≠ 0; rw [hR.2 33 (by decide) (by decide) (by decide)]; decide) rfl hi_16 dX10_receive_74 (fun H locs hn ho hz hS => ?_)
        rw [en_18] at hn
        obtain ⟨g_19, eg_19⟩ : ∃ z : Nat → Int32, z = upd (A 33) n_18 p2 := ⟨_, rfl⟩
        have sg_19 : g_19 n_18 = p2 := by rw [eg_19]; exact upd_s
        have ng_19 : ∀ k, k ≠ n_18 → g_19 k = (A 33) k := fun k hk => by rw [eg_19]; exact upd_n hk
        have hn : va_at (DG E) vwCl (rf 33, .inl (E.2.2 0, 16, .inl g_19)) H := by rw [eg_19]; exact hn
        have hM : MH E h0 rf t0 t1 t2 (uA (uA A 32 g_17) 33 g_19) 0 pk H := hM.w hR 33 (by decide) (by decide) (by decide) hn ho
        refine lv_aload_n hx hb dX10_receive_75 rfl (lv_at hl 1 rfl) ?_
        refine va_get (D := DG E) (ci := 10) (v := .ref (rf 34)) (C := RX10) (T := TX10) (N := 49) hx hb hts iw_X10 hown hK.1 (va_one hM.1) 0 rfl rfl 34 (by decide) (hts _ fl_X10_101) (fun _ h9 => h9) rfl dX10_receive_76 ?_
        refine lv_iload hx hb dX10_receive_79 (lv_at hl 0 rfl) ?_
        refine lv_aload_n hx hb dX10_receive_81 rfl (lv_at hl 1 rfl) ?_
        refine va_get (D := DG E) (ci := 10) (v := .ref (rf 31)) (C := RX10) (T := TX10) (N := 49) hx hb hts iw_X10 hown hK.1 (va_one hM.1) 0 rfl rfl 31 (by decide) (hts _ fl_X10_92) (fun _ h9 => h9) rfl dX10_receive_82 ?_
        refine lv_iload_n hx hb dX10_receive_85 rfl (lv_at hl 2 rfl) ?_
        have ha_20 : va_at (DG E) vwCl (rf 31, .inl (E.2.2 0, 4, .inl (A 31))) _ := hM.2 31 (by decide) (by decide) (by decide)
        refine va_iald (D := DG E) hx hb hK.1 (va_one ha_20) 0 0 rfl rfl hi_3 dX10_receive_86 ?_
        refine W.eq (g2 := F0 m 87 ls [.int ((A 31) n_5), .int x_15, .ref (rf 34)]) (by rw [en_5]) ?_
        have ha_21 : va_at (DG E) vwCl (rf 34, .inl (E.2.2 0, 16, .inl (A 34))) _ := hM.2 34 (by decide) (by decide) (by decide)
        refine rr_iast (D := DG E) hx hb hK.1 0 ha_21 hS (by show G (rf 34) ≠ 0; rw [hR.2 34 (by decide) (by decide) (by decide)]; decide) rfl hi_16 dX10_receive_87 (fun H locs hn ho hz hS => ?_)
        rw [en_18] at hn
        obtain ⟨g_21, eg_21⟩ : ∃ z : Nat → Int32, z = upd (A 34) n_18 ((A 31) n_5) := ⟨_, rfl⟩
        have sg_21 : g_21 n_18 = ((A 31) n_5) := by rw [eg_21]; exact upd_s
        have ng_21 : ∀ k, k ≠ n_18 → g_21 k = (A 34) k := fun k hk => by rw [eg_21]; exact upd_n hk
        have hn : va_at (DG E) vwCl (rf 34, .inl (E.2.2 0, 16, .inl g_21)) H := by rw [eg_21]; exact hn
        have hM : MH E h0 rf t0 t1 t2 (uA (uA (uA A 32 g_17) 33 g_19) 34 g_21) 0 pk H := hM.w hR 34 (by decide) (by decide) (by decide) hn ho
        refine lv_aload_n hx hb dX10_receive_88 rfl (lv_at hl 1 rfl) ?_
        refine va_get (D := DG E) (ci := 10) (v := .ref (rf 35)) (C := RX10) (T := TX10) (N := 49) hx hb hts iw_X10 hown hK.1 (va_one hM.1) 0 rfl rfl 35 (by decide) (hts _ fl_X10_104) (fun _ h9 => h9) rfl dX10_receive_89 ?_
        refine lv_iload hx hb dX10_receive_92 (lv_at hl 0 rfl) ?_
        refine lv_iconst (v := 0) hx hb dX10_receive_94 (by decide) ?_
        have ha_22 : va_at (DG E) vwCl (rf 35, .inl (E.2.2 0, 16, .inl (A 35))) _ := hM.2 35 (by decide) (by decide) (by decide)
        refine rr_iast (D := DG E) hx hb hK.1 0 ha_22 hS (by show G (rf 35) ≠ 0; rw [hR.2 35 (by decide) (by decide) (by decide)]; decide) rfl hi_16 dX10_receive_95 (fun H locs hn ho hz hS => ?_)
        rw [en_18] at hn
        obtain ⟨g_22, eg_22⟩ : ∃ z : Nat → Int32, z = upd (A 35) n_18 0 := ⟨_, rfl⟩
        have sg_22 : g_22 n_18 = 0 := by rw [eg_22]; exact upd_s
        have ng_22 : ∀ k, k ≠ n_18 → g_22 k = (A 35) k := fun k hk => by rw [eg_22]; exact upd_n hk
        have hn : va_at (DG E) vwCl (rf 35, .inl (E.2.2 0, 16, .inl g_22)) H := by rw [eg_22]; exact hn
        have hM : MH E h0 rf t0 t1 t2 (uA (uA (uA (uA A 32 g_17) 33 g_19) 34 g_21) 35 g_22) 0 pk H := hM.w hR 35 (by decide) (by decide) (by decide) hn ho
        refine lv_aload_n hx hb dX10_receive_96 rfl (lv_at hl 1 rfl) ?_
        refine va_get (D := DG E) (ci := 10) (v := .ref (rf 30)) (C := RX10) (T := TX10) (N := 49) hx hb hts iw_X10 hown hK.1 (va_one hM.1) 0 rfl rfl 30 (by decide) (hts _ fl_X10_89) (fun _ h9 => h9) rfl dX10_receive_97 ?_
        refine lv_iload_n hx hb dX10_receive_100 rfl (lv_at hl 2 rfl) ?_
        refine lv_dup2_11 hx hb dX10_receive_101 rfl rfl ?_
        have ha_23 : va_at (DG E) vwCl (rf 30, .inl (E.2.2 0, 4, .inl (A 30))) _ := hM.2 30 (by decide) (by decide) (by decide)
        refine va_iald (D := DG E) hx hb hK.1 (va_one ha_23) 0 0 rfl rfl hi_3 dX10_receive_102 ?_
        refine W.eq (g2 := F0 m 103 ls [.int ((A 30) n_5), .int p0, .ref (rf 30)]) (by rw [en_5]) ?_
        refine lv_iconst (v := 1) hx hb dX10_receive_103 (by decide) ?_
        refine lv_iadd hx hb dX10_receive_104 ?_
        refine lv_topi (fun x_24 ex_24 => ?_)
        have fx_24 : x_24.toInt = ((A 30) n_5).toInt + 1 := by have h9 := s_add (x := ((A 30) n_5)) (y := 1) (by rw [i_1]; omega) (by rw [i_1]; omega); rw [i_1] at h9; rw [ex_24]; exact h9
        have ha_25 : va_at (DG E) vwCl (rf 30, .inl (E.2.2 0, 4, .inl (A 30))) _ := hM.2 30 (by decide) (by decide) (by decide)
        refine rr_iast (D := DG E) hx hb hK.1 0 ha_25 hS (by show G (rf 30) ≠ 0; rw [hR.2 30 (by decide) (by decide) (by decide)]; decide) rfl hi_3 dX10_receive_105 (fun H locs hn ho hz hS => ?_)
        rw [en_5] at hn
        obtain ⟨g_25, eg_25⟩ : ∃ z : Nat → Int32, z = upd (A 30) n_5 x_24 := ⟨_, rfl⟩
        have sg_25 : g_25 n_5 = x_24 := by rw [eg_25]; exact upd_s
        have ng_25 : ∀ k, k ≠ n_5 → g_25 k = (A 30) k := fun k hk => by rw [eg_25]; exact upd_n hk
        have hn : va_at (DG E) vwCl (rf 30, .inl (E.2.2 0, 4, .inl g_25)) H := by rw [eg_25]; exact hn
        have hM : MH E h0 rf t0 t1 t2 (uA (uA (uA (uA (uA A 32 g_17) 33 g_19) 34 g_21) 35 g_22) 30 g_25) 0 pk H := hM.w hR 30 (by decide) (by decide) (by decide) hn ho
        refine lv_aload_n hx hb dX10_receive_106 rfl (lv_at hl 1 rfl) ?_
        refine va_get (D := DG E) (ci := 10) (v := .ref (rf 31)) (C := RX10) (T := TX10) (N := 49) hx hb hts iw_X10 hown hK.1 (va_one hM.1) 0 rfl rfl 31 (by decide) (hts _ fl_X10_92) (fun _ h9 => h9) rfl dX10_receive_107 ?_
        refine lv_iload_n hx hb dX10_receive_110 rfl (lv_at hl 2 rfl) ?_
        refine lv_dup2_11 hx hb dX10_receive_111 rfl rfl ?_
        have ha_26 : va_at (DG E) vwCl (rf 31, .inl (E.2.2 0, 4, .inl (A 31))) _ := hM.2 31 (by decide) (by decide) (by decide)
        refine va_iald (D := DG E) hx hb hK.1 (va_one ha_26) 0 0 rfl rfl hi_3 dX10_receive_112 ?_
        refine W.eq (g2 := F0 m 113 ls [.int ((A 31) n_5), .int p0, .ref (rf 31)]) (by rw [en_5]) ?_
        refine lv_iconst (v := 1) hx hb dX10_receive_113 (by decide) ?_
        refine lv_iadd hx hb dX10_receive_114 ?_
        refine lv_topi (fun x_27 ex_27 => ?_)
        have ha_28 : va_at (DG E) vwCl (rf 31, .inl (E.2.2 0, 4, .inl (A 31))) _ := hM.2 31 (by decide) (by decide) (by decide)
        refine rr_iast (D := DG E) hx hb hK.1 0 ha_28 hS (by show G (rf 31) ≠ 0; rw [hR.2 31 (by decide) (by decide) (by decide)]; decide) rfl hi_3 dX10_receive_115 (fun H locs hn ho hz hS => ?_)
        rw [en_5] at hn
        obtain ⟨g_28, eg_28⟩ : ∃ z : Nat → Int32, z = upd (A 31) n_5 x_27 := ⟨_, rfl⟩
        have sg_28 : g_28 n_5 = x_27 := by rw [eg_28]; exact upd_s
        have ng_28 : ∀ k, k ≠ n_5 → g_28 k = (A 31) k := fun k hk => by rw [eg_28]; exact upd_n hk
        have hn : va_at (DG E) vwCl (rf 31, .inl (E.2.2 0, 4, .inl g_28)) H := by rw [eg_28]; exact hn
        have hM : MH E h0 rf t0 t1 t2 (uA (uA (uA (uA (uA (uA A 32 g_17) 33 g_19) 34 g_21) 35 g_22) 30 g_25) 31 g_28) 0 pk H := hM.w hR 31 (by decide) (by decide) (by decide) hn ho
        refine lv_aload_n hx hb dX10_receive_116 rfl (lv_at hl 1 rfl) ?_
        refine va_get (D := DG E) (ci := 10) (v := .ref (rf 31)) (C := RX10) (T := TX10) (N := 49) hx hb hts iw_X10 hown hK.1 (va_one hM.1) 0 rfl rfl 31 (by decide) (hts _ fl_X10_92) (fun _ h9 => h9) rfl dX10_receive_117 ?_
        refine lv_iload_n hx hb dX10_receive_120 rfl (lv_at hl 2 rfl) ?_
        have ha_29 : va_at (DG E) vwCl (rf 31, .inl (E.2.2 0, 4, .inl g_28)) _ := hM.2 31 (by decide) (by decide) (by decide)
        refine va_iald (D := DG E) hx hb hK.1 (va_one ha_29) 0 0 rfl rfl hi_3 dX10_receive_121 ?_
        refine W.eq (g2 := F0 m 122 ls [.int x_27]) (by rw [en_5, sg_28]) ?_
        refine lv_iconst (v := 1) hx hb dX10_receive_122 (by decide) ?_
        refine lv_isub hx hb dX10_receive_123 ?_
        refine lv_topi (fun x_30 ex_30 => ?_)
        have hI5_31 : I5 g_17 g_19 g_22 := by
          intro n9 hn9
          have h9 : 0 ≤ ((A 32) n9).toInt ∧ 0 ≤ ((A 35) n9).toInt ∧ ((A 35) n9).toInt ≤ ((A 33) n9).toInt ∧ ((A 32) n9).toInt + ((A 33) n9).toInt ≤ 32 := hI5 n9 hn9
          show 0 ≤ (g_17 n9).toInt ∧ 0 ≤ (g_22 n9).toInt ∧ (g_22 n9).toInt ≤ (g_19 n9).toInt ∧ (g_17 n9).toInt + (g_19 n9).toInt ≤ 32
          by_cases ezn_18 : n9 = n_18
          · rw [ezn_18] at h9 ⊢
            rw [sg_17]
            rw [sg_19]
            rw [sg_22]
            have := i_0
            clear h9
            exact ⟨by omega, by omega, by omega, by omega⟩
          · rw [ng_17 n9 ezn_18]
            rw [ng_19 n9 ezn_18]
            rw [ng_22 n9 ezn_18]
            exact h9
        have hI8_32 : I8 (A 20) g_25 (A 37) (A 36) := by
          intro n9 hn9
          have h9 : 0 ≤ ((A 20) n9).toInt ∧ ((A 20) n9).toInt ≤ 4 ∧ 0 ≤ ((A 30) n9).toInt ∧ ((A 30) n9).toInt ≤ 4 ∧ 0 ≤ ((A 37) n9).toInt ∧ ((A 37) n9).toInt ≤ 2 ∧ (((A 36) n9).toInt = 0 ∨ 1 ≤ ((A 30) n9).toInt) := hI8 n9 hn9
          show 0 ≤ ((A 20) n9).toInt ∧ ((A 20) n9).toInt ≤ 4 ∧ 0 ≤ (g_25 n9).toInt ∧ (g_25 n9).toInt ≤ 4 ∧ 0 ≤ ((A 37) n9).toInt ∧ ((A 37) n9).toInt ≤ 2 ∧ (((A 36) n9).toInt = 0 ∨ 1 ≤ (g_25 n9).toInt)
          by_cases ezn_5 : n9 = n_5
          · rw [ezn_5] at h9 ⊢
            rw [sg_25]
            exact ⟨by first | exact h9.1 | omega, by first | exact h9.2.1 | omega, by first | exact h9.2.2.1 | omega, by first | exact h9.2.2.2.1 | omega, by first | exact h9.2.2.2.2.1 | omega, by first | exact h9.2.2.2.2.2.1 | omega, by first | exact h9.2.2.2.2.2.2 | omega⟩
          · rw [ng_25 n9 ezn_5]
            exact h9
        exact W.iret (v := x_30) hx hb hr (fun t ht hW => ⟨⟨x_30, (g_25, g_28, g_17, g_19, g_21, g_22, 0), rfl, ⟨hI5_31, hI8_32, (Or.inr (Or.inl ⟨r_1, hDr_1, hpr_1_0, c_2, n_5, hn_5, c_6, c_12, x_13, ex_13, fx_13, x_15, ex_15, fx_15, n_18, hn_18, g_17, eg_17, g_19, eg_19, g_21, eg_21, g_22, eg_22, x_24, ex_24, fx_24, g_25, eg_25, x_27, ex_27, g_28, eg_28, x_30, ex_30, rfl, rfl, rfl, rfl⟩))⟩, (by show MH E h0 rf t0 t1 t2 (uA (uA (uA (uA (uA (uA A 30 g_25) 31 g_28) 32 g_17) 33 g_19) 34 g_21) 35 g_22) 0 pk t.heap; rw [ht]; exact hM.cge (funext fun j => (cgj j 35 rfl (fun a0 => (cgj j 34 rfl (fun a1 => (cgj j 33 rfl (fun a2 => (cgj j 32 rfl (fun a3 => (cgj j 31 rfl (fun a4 => (cgj j 30 rfl (fun a5 => (by simp only [uA_n a0, uA_n a1, uA_n a2, uA_n a3, uA_n a4, uA_n a5])))))))))))))))⟩, hS.F ht⟩) hS.2.2 dX10_receive_124
      · simp only [lt_I, le_I, eq_I, i_0, i_1, i_2, i_3, i_4, i_5, i_6, i_7, i_8, i_10, i_12, i_16, i_20, i_23, i_24, i_31, i_32, i_63, i_64, i_m1, i_9, i_11, i_13, i_25, i_60, i_75, i_79, i_80, i_96, i_100] at c_12
        refine lv_aload_n hx hb dX10_receive_41 rfl (lv_at hl 0 rfl) ?_
        refine lv_iconst (v := 2) hx hb dX10_receive_42 (by decide) ?_
        refine va_calli (rnV (fun H => MH E h0 rf t0 t1 t2 A 0 pk H) (As := [.int 2]) (rest := []) ⟨hx, hb, hml, hown, hts⟩ (u_X10_fail l E z0 G hGz h0 rf hR t0 t1 t2 A 0 pk 2) (cwV 1 hts (gdV ml_X10_185 im_X10_fail se_X10_X10_fail in_X10 co_X10_fail rfl) rfl rfl rfl (by decide +kernel) ⟨Nat.le_of_ble_eq_true rfl, Nat.le_of_ble_eq_true rfl⟩) hM (fun U hU hW => hK.go hW hS hAz hU) (va_recv hK.1 (va_one hM.1) (ci := 10) (q0 := 0) rfl rfl) rfl rfl hl.1 rfl (lv_room (Nat.le_of_ble_eq_true rfl)) dX10_receive_43 ⟨Nat.le_of_ble_eq_true rfl, Nat.le_of_ble_eq_true rfl⟩) hS (fun q _ h => h) (fun q h => h) (fun r_33 ur_33 t H locs ht hvm hwr_33 hB hz hk hS => ?_)
        have hM : MH E h0 rf t0 t1 t2 A ur_33 pk H := by rw [ht] at hB; exact hB
        have hDr_33 : D_X10_fail A (0 : Int32) pk (2 : Int32) A ur_33 pk r_33 := hwr_33.2
        have hpr_33_0 : ur_33 = (2 : Int32) := hwr_33.1
        have := i_2
        exact W.iret (v := r_33) hx hb hr (fun t ht hW => ⟨⟨r_33, ((A 30), (A 31), (A 32), (A 33), (A 34), (A 35), ur_33), rfl, ⟨hI5, hI8, (Or.inr (Or.inr (Or.inl ⟨r_1, hDr_1, hpr_1_0, c_2, n_5, hn_5, c_6, c_12, ur_33, r_33, hDr_33, hpr_33_0, rfl, rfl, rfl, rfl⟩)))⟩, (by show MH E h0 rf t0 t1 t2 (uA (uA (uA (uA (uA (uA A 30 (A 30)) 31 (A 31)) 32 (A 32)) 33 (A 33)) 34 (A 34)) 35 (A 35)) ur_33 pk t.heap; rw [ht]; exact hM.cge (funext fun j => (cgj j 35 rfl (fun a0 => (cgj j 34 rfl (fun a1 => (cgj j 33 rfl (fun a2 => (cgj j 32 rfl (fun a3 => (cgj j 31 rfl (fun a4 => (cgj j 30 rfl (fun a5 => (by simp only [uA_n a0, uA_n a1, uA_n a2, uA_n a3, uA_n a4, uA_n a5])))))))))))))))⟩, hS.F ht⟩) hS.2.2 dX10_receive_46
  · simp only [lt_I, le_I, eq_I, i_0, i_1, i_2, i_3, i_4, i_5, i_6, i_7, i_8, i_10, i_12, i_16, i_20, i_23, i_24, i_31, i_32, i_63, i_64, i_m1, i_9, i_11, i_13, i_25, i_60, i_75, i_79, i_80, i_96, i_100] at c_2
    clear hpr_1_1
    refine lv_aload_n hx hb dX10_receive_15 rfl (lv_at hl 0 rfl) ?_
    refine lv_iconst (v := 1) hx hb dX10_receive_16 (by decide) ?_
    refine va_calli (rnV (fun H => MH E h0 rf t0 t1 t2 A 0 pk H) (As := [.int 1]) (rest := []) ⟨hx, hb, hml, hown, hts⟩ (u_X10_fail l E z0 G hGz h0 rf hR t0 t1 t2 A 0 pk 1) (cwV 1 hts (gdV ml_X10_185 im_X10_fail se_X10_X10_fail in_X10 co_X10_fail rfl) rfl rfl rfl (by decide +kernel) ⟨Nat.le_of_ble_eq_true rfl, Nat.le_of_ble_eq_true rfl⟩) hM (fun U hU hW => hK.go hW hS hAz hU) (va_recv hK.1 (va_one hM.1) (ci := 10) (q0 := 0) rfl rfl) rfl rfl hl.1 rfl (lv_room (Nat.le_of_ble_eq_true rfl)) dX10_receive_17 ⟨Nat.le_of_ble_eq_true rfl, Nat.le_of_ble_eq_true rfl⟩) hS (fun q _ h => h) (fun q h => h) (fun r_34 ur_34 t H locs ht hvm hwr_34 hB hz hk hS => ?_)
    have hM : MH E h0 rf t0 t1 t2 A ur_34 pk H := by rw [ht] at hB; exact hB
    have hDr_34 : D_X10_fail A (0 : Int32) pk (1 : Int32) A ur_34 pk r_34 := hwr_34.2
    have hpr_34_0 : ur_34 = (1 : Int32) := hwr_34.1
    have := i_1
    exact W.iret (v := r_34) hx hb hr (fun t ht hW => ⟨⟨r_34, ((A 30), (A 31), (A 32), (A 33), (A 34), (A 35), ur_34), rfl, ⟨hI5, hI8, (Or.inr (Or.inr (Or.inr ⟨r_1, hDr_1, hpr_1_0, c_2, ur_34, r_34, hDr_34, hpr_34_0, rfl, rfl, rfl, rfl⟩)))⟩, (by show MH E h0 rf t0 t1 t2 (uA (uA (uA (uA (uA (uA A 30 (A 30)) 31 (A 31)) 32 (A 32)) 33 (A 33)) 34 (A 34)) 35 (A 35)) ur_34 pk t.heap; rw [ht]; exact hM.cge (funext fun j => (cgj j 35 rfl (fun a0 => (cgj j 34 rfl (fun a1 => (cgj j 33 rfl (fun a2 => (cgj j 32 rfl (fun a3 => (cgj j 31 rfl (fun a4 => (cgj j 30 rfl (fun a5 => (by simp only [uA_n a0, uA_n a1, uA_n a2, uA_n a3, uA_n a4, uA_n a5])))))))))))))))⟩, hS.F ht⟩) hS.2.2 dX10_receive_20
theorem gdX10_ready_0 : (decode cX10_ready 0 = .ok (.aload_n 0, 1)) ∧ (decode cX10_ready 1 = .ok (.iconst 0, 1)) ∧ (decode cX10_ready 2 = .ok (.putfield 153, 3)) ∧ (decode cX10_ready 5 = .ok (.iload_n 1, 1)) ∧ (decode cX10_ready 6 = .ok (.iconst 3, 1)) ∧ (decode cX10_ready 7 = .ok (.invokestatic 156, 3)) ∧ (decode cX10_ready 10 = .ok (.ifCond .eq 21, 3)) ∧ (decode cX10_ready 13 = .ok (.iload_n 2, 1)) ∧ (decode cX10_ready 14 = .ok (.bipush 63, 2)) ∧ (decode cX10_ready 16 = .ok (.invokestatic 156, 3)) ∧ (decode cX10_ready 19 = .ok (.ifCond .eq 12, 3)) ∧ (decode cX10_ready 22 = .ok (.iload_n 3, 1)) ∧ (decode cX10_ready 23 = .ok (.bipush 63, 2)) ∧ (decode cX10_ready 25 = .ok (.invokestatic 156, 3)) ∧ (decode cX10_ready 28 = .ok (.ifCond .ne 11, 3)) ∧ (decode cX10_ready 31 = .ok (.aload_n 0, 1)) := by decide +kernel
theorem dX10_ready_0 : decode cX10_ready 0 = .ok (.aload_n 0, 1) := gdX10_ready_0.1
theorem dX10_ready_1 : decode cX10_ready 1 = .ok (.iconst 0, 1) := gdX10_ready_0.2.1
theorem dX10_ready_2 : decode cX10_ready 2 = .ok (.putfield 153, 3) := gdX10_ready_0.2.2.1
theorem dX10_ready_5 : decode cX10_ready 5 = .ok (.iload_n 1, 1) := gdX10_ready_0.2.2.2.1
theorem dX10_ready_6 : decode cX10_ready 6 = .ok (.iconst 3, 1) := gdX10_ready_0.2.2.2.2.1
theorem dX10_ready_7 : decode cX10_ready 7 = .ok (.invokestatic 156, 3) := gdX10_ready_0.2.2.2.2.2.1
theorem dX10_ready_10 : decode cX10_ready 10 = .ok (.ifCond .eq 21, 3) := gdX10_ready_0.2.2.2.2.2.2.1
theorem dX10_ready_13 : decode cX10_ready 13 = .ok (.iload_n 2, 1) := gdX10_ready_0.2.2.2.2.2.2.2.1
theorem dX10_ready_14 : decode cX10_ready 14 = .ok (.bipush 63, 2) := gdX10_ready_0.2.2.2.2.2.2.2.2.1
theorem dX10_ready_16 : decode cX10_ready 16 = .ok (.invokestatic 156, 3) := gdX10_ready_0.2.2.2.2.2.2.2.2.2.1
theorem dX10_ready_19 : decode cX10_ready 19 = .ok (.ifCond .eq 12, 3) := gdX10_ready_0.2.2.2.2.2.2.2.2.2.2.1
theorem dX10_ready_22 : decode cX10_ready 22 = .ok (.iload_n 3, 1) := gdX10_ready_0.2.2.2.2.2.2.2.2.2.2.2.1
theorem dX10_ready_23 : decode cX10_ready 23 = .ok (.bipush 63, 2) := gdX10_ready_0.2.2.2.2.2.2.2.2.2.2.2.2.1
theorem dX10_ready_25 : decode cX10_ready 25 = .ok (.invokestatic 156, 3) := gdX10_ready_0.2.2.2.2.2.2.2.2.2.2.2.2.2.1
theorem dX10_ready_28 : decode cX10_ready 28 = .ok (.ifCond .ne 11, 3) := gdX10_ready_0.2.2.2.2.2.2.2.2.2.2.2.2.2.2.1
theorem dX10_ready_31 : decode cX10_ready 31 = .ok (.aload_n 0, 1) := gdX10_ready_0.2.2.2.2.2.2.2.2.2.2.2.2.2.2.2
theorem gdX10_ready_32 : (decode cX10_ready 32 = .ok (.iconst 1, 1)) ∧ (decode cX10_ready 33 = .ok (.putfield 153, 3)) ∧ (decode cX10_ready 36 = .ok (.goto 17, 3)) ∧ (decode cX10_ready 39 = .ok (.aload_n 0, 1)) ∧ (decode cX10_ready 40 = .ok (.getfield 28, 3)) ∧ (decode cX10_ready 43 = .ok (.iload_n 1, 1)) ∧ (decode cX10_ready 44 = .ok (.iaload, 1)) ∧ (decode cX10_ready 45 = .ok (.ifCond .eq 8, 3)) ∧ (decode cX10_ready 48 = .ok (.aload_n 0, 1)) ∧ (decode cX10_ready 49 = .ok (.iconst 2, 1)) ∧ (decode cX10_ready 50 = .ok (.putfield 153, 3)) ∧ (decode cX10_ready 53 = .ok (.aload_n 0, 1)) ∧ (decode cX10_ready 54 = .ok (.getfield 153, 3)) ∧ (decode cX10_ready 57 = .ok (.ifCond .eq 4, 3)) ∧ (decode cX10_ready 60 = .ok (.return_, 1)) ∧ (decode cX10_ready 61 = .ok (.aload_n 0, 1)) := by decide +kernel
theorem dX10_ready_32 : decode cX10_ready 32 = .ok (.iconst 1, 1) := gdX10_ready_32.1
theorem dX10_ready_33 : decode cX10_ready 33 = .ok (.putfield 153, 3) := gdX10_ready_32.2.1
theorem dX10_ready_36 : decode cX10_ready 36 = .ok (.goto 17, 3) := gdX10_ready_32.2.2.1
theorem dX10_ready_39 : decode cX10_ready 39 = .ok (.aload_n 0, 1) := gdX10_ready_32.2.2.2.1
theorem dX10_ready_40 : decode cX10_ready 40 = .ok (.getfield 28, 3) := gdX10_ready_32.2.2.2.2.1
theorem dX10_ready_43 : decode cX10_ready 43 = .ok (.iload_n 1, 1) := gdX10_ready_32.2.2.2.2.2.1
theorem dX10_ready_44 : decode cX10_ready 44 = .ok (.iaload, 1) := gdX10_ready_32.2.2.2.2.2.2.1
theorem dX10_ready_45 : decode cX10_ready 45 = .ok (.ifCond .eq 8, 3) := gdX10_ready_32.2.2.2.2.2.2.2.1
theorem dX10_ready_48 : decode cX10_ready 48 = .ok (.aload_n 0, 1) := gdX10_ready_32.2.2.2.2.2.2.2.2.1
theorem dX10_ready_49 : decode cX10_ready 49 = .ok (.iconst 2, 1) := gdX10_ready_32.2.2.2.2.2.2.2.2.2.1
theorem dX10_ready_50 : decode cX10_ready 50 = .ok (.putfield 153, 3) := gdX10_ready_32.2.2.2.2.2.2.2.2.2.2.1
theorem dX10_ready_53 : decode cX10_ready 53 = .ok (.aload_n 0, 1) := gdX10_ready_32.2.2.2.2.2.2.2.2.2.2.2.1
theorem dX10_ready_54 : decode cX10_ready 54 = .ok (.getfield 153, 3) := gdX10_ready_32.2.2.2.2.2.2.2.2.2.2.2.2.1
theorem dX10_ready_57 : decode cX10_ready 57 = .ok (.ifCond .eq 4, 3) := gdX10_ready_32.2.2.2.2.2.2.2.2.2.2.2.2.2.1
theorem dX10_ready_60 : decode cX10_ready 60 = .ok (.return_, 1) := gdX10_ready_32.2.2.2.2.2.2.2.2.2.2.2.2.2.2.1
theorem dX10_ready_61 : decode cX10_ready 61 = .ok (.aload_n 0, 1) := gdX10_ready_32.2.2.2.2.2.2.2.2.2.2.2.2.2.2.2
theorem gdX10_ready_62 : (decode cX10_ready 62 = .ok (.getfield 28, 3)) ∧ (decode cX10_ready 65 = .ok (.iload_n 1, 1)) ∧ (decode cX10_ready 66 = .ok (.iconst 1, 1)) ∧ (decode cX10_ready 67 = .ok (.iastore, 1)) ∧ (decode cX10_ready 68 = .ok (.aload_n 0, 1)) ∧ (decode cX10_ready 69 = .ok (.getfield 31, 3)) ∧ (decode cX10_ready 72 = .ok (.iload_n 1, 1)) ∧ (decode cX10_ready 73 = .ok (.iload_n 2, 1)) ∧ (decode cX10_ready 74 = .ok (.iastore, 1)) ∧ (decode cX10_ready 75 = .ok (.aload_n 0, 1)) ∧ (decode cX10_ready 76 = .ok (.getfield 34, 3)) ∧ (decode cX10_ready 79 = .ok (.iload_n 1, 1)) ∧ (decode cX10_ready 80 = .ok (.iload_n 2, 1)) ∧ (decode cX10_ready 81 = .ok (.iastore, 1)) ∧ (decode cX10_ready 82 = .ok (.aload_n 0, 1)) ∧ (decode cX10_ready 83 = .ok (.getfield 37, 3)) := by decide +kernel
theorem dX10_ready_62 : decode cX10_ready 62 = .ok (.getfield 28, 3) := gdX10_ready_62.1
theorem dX10_ready_65 : decode cX10_ready 65 = .ok (.iload_n 1, 1) := gdX10_ready_62.2.1
theorem dX10_ready_66 : decode cX10_ready 66 = .ok (.iconst 1, 1) := gdX10_ready_62.2.2.1
theorem dX10_ready_67 : decode cX10_ready 67 = .ok (.iastore, 1) := gdX10_ready_62.2.2.2.1
theorem dX10_ready_68 : decode cX10_ready 68 = .ok (.aload_n 0, 1) := gdX10_ready_62.2.2.2.2.1
theorem dX10_ready_69 : decode cX10_ready 69 = .ok (.getfield 31, 3) := gdX10_ready_62.2.2.2.2.2.1
theorem dX10_ready_72 : decode cX10_ready 72 = .ok (.iload_n 1, 1) := gdX10_ready_62.2.2.2.2.2.2.1
theorem dX10_ready_73 : decode cX10_ready 73 = .ok (.iload_n 2, 1) := gdX10_ready_62.2.2.2.2.2.2.2.1
theorem dX10_ready_74 : decode cX10_ready 74 = .ok (.iastore, 1) := gdX10_ready_62.2.2.2.2.2.2.2.2.1
theorem dX10_ready_75 : decode cX10_ready 75 = .ok (.aload_n 0, 1) := gdX10_ready_62.2.2.2.2.2.2.2.2.2.1
theorem dX10_ready_76 : decode cX10_ready 76 = .ok (.getfield 34, 3) := gdX10_ready_62.2.2.2.2.2.2.2.2.2.2.1
theorem dX10_ready_79 : decode cX10_ready 79 = .ok (.iload_n 1, 1) := gdX10_ready_62.2.2.2.2.2.2.2.2.2.2.2.1
theorem dX10_ready_80 : decode cX10_ready 80 = .ok (.iload_n 2, 1) := gdX10_ready_62.2.2.2.2.2.2.2.2.2.2.2.2.1
theorem dX10_ready_81 : decode cX10_ready 81 = .ok (.iastore, 1) := gdX10_ready_62.2.2.2.2.2.2.2.2.2.2.2.2.2.1
theorem dX10_ready_82 : decode cX10_ready 82 = .ok (.aload_n 0, 1) := gdX10_ready_62.2.2.2.2.2.2.2.2.2.2.2.2.2.2.1
theorem dX10_ready_83 : decode cX10_ready 83 = .ok (.getfield 37, 3) := gdX10_ready_62.2.2.2.2.2.2.2.2.2.2.2.2.2.2.2
theorem gdX10_ready_86 : (decode cX10_ready 86 = .ok (.iload_n 1, 1)) ∧ (decode cX10_ready 87 = .ok (.iload_n 2, 1)) ∧ (decode cX10_ready 88 = .ok (.iastore, 1)) ∧ (decode cX10_ready 89 = .ok (.aload_n 0, 1)) ∧ (decode cX10_ready 90 = .ok (.getfield 40, 3)) ∧ (decode cX10_ready 93 = .ok (.iload_n 1, 1)) ∧ (decode cX10_ready 94 = .ok (.iload_n 3, 1)) ∧ (decode cX10_ready 95 = .ok (.iastore, 1)) ∧ (decode cX10_ready 96 = .ok (.return_, 1)) := by decide +kernel
theorem dX10_ready_86 : decode cX10_ready 86 = .ok (.iload_n 1, 1) := gdX10_ready_86.1
theorem dX10_ready_87 : decode cX10_ready 87 = .ok (.iload_n 2, 1) := gdX10_ready_86.2.1
theorem dX10_ready_88 : decode cX10_ready 88 = .ok (.iastore, 1) := gdX10_ready_86.2.2.1
theorem dX10_ready_89 : decode cX10_ready 89 = .ok (.aload_n 0, 1) := gdX10_ready_86.2.2.2.1
theorem dX10_ready_90 : decode cX10_ready 90 = .ok (.getfield 40, 3) := gdX10_ready_86.2.2.2.2.1
theorem dX10_ready_93 : decode cX10_ready 93 = .ok (.iload_n 1, 1) := gdX10_ready_86.2.2.2.2.2.1
theorem dX10_ready_94 : decode cX10_ready 94 = .ok (.iload_n 3, 1) := gdX10_ready_86.2.2.2.2.2.2.1
theorem dX10_ready_95 : decode cX10_ready 95 = .ok (.iastore, 1) := gdX10_ready_86.2.2.2.2.2.2.2.1
theorem dX10_ready_96 : decode cX10_ready 96 = .ok (.return_, 1) := gdX10_ready_86.2.2.2.2.2.2.2.2
set_option maxHeartbeats 8000000 in
set_option maxRecDepth 100000 in
theorem u_X10_ready (l : Launch) (E : EE) (z0 : Nat) (G : Nat → Nat) (hGz : ∀ q, G q ≠ 0 → z0 ≤ q) (h0 : Nat) (rf : Nat → Nat) (hR : MG G h0 rf) (t0 t1 t2 : Int32) (A : AA) (cd pk : Int32) (p0 : Int32) (p1 : Int32) (p2 : Int32) (hI4 : I4 (A 10) (A 20) (A 29) (A 24) (A 11) (A 12) (A 13)) : Met l yX10_ready [Cond.code yX10_ready cX10_ready 4 none] ({ frames := 1, cells := 0, slots := 0, locals := 21 } : Room) (va_Pc [.ref h0, .int p0, .int p1, .int p2] (fun U => MH E h0 rf t0 t1 t2 A cd pk U.heap ∧ KS E z0 U)) (va_Qv (fun (u : (Nat → Int32) × (Nat → Int32) × (Nat → Int32) × (Nat → Int32) × (Nat → Int32) × Int32) => (I4 (u.1) (A 20) (A 29) (A 24) (u.2.1) (u.2.2.1) (u.2.2.2.1)) ∧ (D_X10_ready A cd pk p0 p1 p2 (uA (uA (uA (uA (uA A 10 (u.1)) 11 (u.2.1)) 12 (u.2.2.1)) 13 (u.2.2.2.1)) 14 (u.2.2.2.2.1)) (u.2.2.2.2.2) pk)) (fun u t => MH E h0 rf t0 t1 t2 (uA (uA (uA (uA (uA A 10 (u.1)) 11 (u.2.1)) 12 (u.2.2.1)) 13 (u.2.2.2.1)) 14 (u.2.2.2.2.1)) (u.2.2.2.2.2) pk t.heap) (fun q : Nat => G q ≠ 0)) 0 0 (fun q : Nat => G q ≠ 0) := by
  refine Met.ofW (cc := cX10_ready) (maxL := 4) (ret := none) (by decide) rfl ?_
  intro p e s m args below meth c s₁ B hml hv
  obtain ⟨rfl, hM, hK⟩ := hv
  have hx := B.exec
  have hb := B.bytes
  have hr := B.returns
  have hts : ∀ w ∈ TS, w.before ([.ref h0, .int p0, .int p1, .int p2] : List Value).toArray s = true := fun w hw => hK.2.1 w hw _
  have hown : s.vm.findClass RX10 = some m.cls := findClass_of_methodNamed B.named
  have hlocks := B.notSynchronized
  have hS : va_S (fun q : Nat => G q ≠ 0) s.heap s.heap [] := va_S.rf
  have hAz : ∀ q, (fun q : Nat => G q ≠ 0) q → z0 ≤ q := hGz
  have hl := lv_entry ([.ref h0, .int p0, .int p1, .int p2]) (n := 4) (Nat.le_of_ble_eq_true rfl)
  rw [lg_entry_eq]
  generalize (lg_sl ([.ref h0, .int p0, .int p1, .int p2]) ++ List.replicate (4 - (lg_sl ([.ref h0, .int p0, .int p1, .int p2])).length) Slot.unset).toArray = ls at hl ⊢
  have hl : lv_has ls 4 [(0, .ref h0), (1, .int p0), (2, .int p1), (3, .int p2)] := hl
  refine lv_aload_n hx hb dX10_ready_0 rfl (lv_at hl 0 rfl) ?_
  refine lv_iconst (v := 0) hx hb dX10_ready_1 (by decide) ?_
  refine rr_put (D := DG E) (ci := 10) (v := .int 0) (ty := .int) (C := RX10) (T := TX10) (N := 49) hx hb hts iw_X10 tyX10 tyX10_ok nmX10 hown hK.1 hM.1 hS (by show G h0 ≠ 0; rw [hR.1]; decide) rfl 3 (by decide) (hts _ fl_X10_153) (fun _ h9 => h9) rfl (by decide +kernel) rfl rfl (Nat.le_of_ble_eq_true rfl) dX10_ready_2 (fun H locs hn ho hz hS => ?_)
  have hM : MH E h0 rf t0 t1 t2 A 0 pk H := hM.sc hR hn ho
  refine lv_iload_n hx hb dX10_ready_5 rfl (lv_at hl 1 rfl) ?_
  refine lv_iconst (v := 3) hx hb dX10_ready_6 (by decide) ?_
  refine W.callR (W.runS (As := [.int p0, .int 3]) (rest := []) ⟨hx, hb, hml, hown, hts⟩ (c_X10_within l p0 3) (cwS 2 hts (gdS ml_X10_156 st_X10_within in_X10 co_X10_within rfl) rfl rfl rfl (by decide +kernel) ⟨Nat.le_of_ble_eq_true rfl, Nat.le_of_ble_eq_true rfl⟩) preEq rfl rfl hl.1 rfl (lv_room (Nat.le_of_ble_eq_true rfl)) dX10_ready_7 ⟨Nat.le_of_ble_eq_true rfl, Nat.le_of_ble_eq_true rfl⟩) ?_
  refine W.eq (g2 := F0 m 10 ls [.int (bI (0 ≤ p0.toInt ∧ p0.toInt ≤ (3 : Int32).toInt))]) (by rfl) ?_
  refine lv_if_eq (tgt := 31) hx hb dX10_ready_10 (by decide) (fun c_1 => ?_) (fun c_1 => ?_)
  · have c_1 := bI_0 c_1
    have c_1r := c_1
    try simp only [lt_I, le_I, eq_I, i_0, i_1, i_2, i_3, i_4, i_5, i_6, i_7, i_8, i_10, i_12, i_16, i_20, i_23, i_24, i_31, i_32, i_63, i_64, i_m1, i_9, i_11, i_13, i_25, i_60, i_75, i_79, i_80, i_96, i_100] at c_1
    refine lv_aload_n hx hb dX10_ready_31 rfl (lv_at hl 0 rfl) ?_
    refine lv_iconst (v := 1) hx hb dX10_ready_32 (by decide) ?_
    refine rr_put (D := DG E) (ci := 10) (v := .int 1) (ty := .int) (C := RX10) (T := TX10) (N := 49) hx hb hts iw_X10 tyX10 tyX10_ok nmX10 hown hK.1 hM.1 hS (by show G h0 ≠ 0; rw [hR.1]; decide) rfl 3 (by decide) (hts _ fl_X10_153) (fun _ h9 => h9) rfl (by decide +kernel) rfl rfl (Nat.le_of_ble_eq_true rfl) dX10_ready_33 (fun H locs hn ho hz hS => ?_)
    have hM : MH E h0 rf t0 t1 t2 A 1 pk H := hM.sc hR hn ho
    refine lv_goto (tgt := 53) hx hb dX10_ready_36 (by decide) ?_
    refine lv_aload_n hx hb dX10_ready_53 rfl (lv_at hl 0 rfl) ?_
    refine va_get (D := DG E) (ci := 10) (v := .int 1) (C := RX10) (T := TX10) (N := 49) hx hb hts iw_X10 hown hK.1 (va_one hM.1) 0 rfl rfl 3 (by decide) (hts _ fl_X10_153) (fun _ h9 => h9) rfl dX10_ready_54 ?_
    refine lv_if_eq (tgt := 61) hx hb dX10_ready_57 (by decide) (fun c_2 => absurd c_2 (by decide)) (fun c_2 => ?_)
    exact W.vret hx hb hr (fun t ht hW => ⟨⟨((A 10), (A 11), (A 12), (A 13), (A 14), 1), rfl, ⟨hI4, (Or.inl ⟨c_1r, rfl, rfl, rfl⟩)⟩, (by show MH E h0 rf t0 t1 t2 (uA (uA (uA (uA (uA A 10 (A 10)) 11 (A 11)) 12 (A 12)) 13 (A 13)) 14 (A 14)) 1 pk t.heap; rw [ht]; exact hM.cge (funext fun j => (cgj j 14 rfl (fun a0 => (cgj j 13 rfl (fun a1 => (cgj j 12 rfl (fun a2 => (cgj j 11 rfl (fun a3 => (cgj j 10 rfl (fun a4 => (by simp only [uA_n a0, uA_n a1, uA_n a2, uA_n a3, uA_n a4])))))))))))))⟩, hS.F ht⟩) hS.2.2 dX10_ready_60
  · have c_1 := bI_n c_1
    have c_1r := c_1
    try simp only [lt_I, le_I, eq_I, i_0, i_1, i_2, i_3, i_4, i_5, i_6, i_7, i_8, i_10, i_12, i_16, i_20, i_23, i_24, i_31, i_32, i_63, i_64, i_m1, i_9, i_11, i_13, i_25, i_60, i_75, i_79, i_80, i_96, i_100] at c_1
    refine lv_iload_n hx hb dX10_ready_13 rfl (lv_at hl 2 rfl) ?_
    refine lv_bipush (v := 63) hx hb dX10_ready_14 (by decide) ?_
    refine W.callR (W.runS (As := [.int p1, .int 63]) (rest := []) ⟨hx, hb, hml, hown, hts⟩ (c_X10_within l p1 63) (cwS 2 hts (gdS ml_X10_156 st_X10_within in_X10 co_X10_within rfl) rfl rfl rfl (by decide +kernel) ⟨Nat.le_of_ble_eq_true rfl, Nat.le_of_ble_eq_true rfl⟩) preEq rfl rfl hl.1 rfl (lv_room (Nat.le_of_ble_eq_true rfl)) dX10_ready_16 ⟨Nat.le_of_ble_eq_true rfl, Nat.le_of_ble_eq_true rfl⟩) ?_
    refine W.eq (g2 := F0 m 19 ls [.int (bI (0 ≤ p1.toInt ∧ p1.toInt ≤ (63 : Int32).toInt))]) (by rfl) ?_
    refine lv_if_eq (tgt := 31) hx hb dX10_ready_19 (by decide) (fun c_3 => ?_) (fun c_3 => ?_)
    · have c_3 := bI_0 c_3
      have c_3r := c_3
      try simp only [lt_I, le_I, eq_I, i_0, i_1, i_2, i_3, i_4, i_5, i_6, i_7, i_8, i_10, i_12, i_16, i_20, i_23, i_24, i_31, i_32, i_63, i_64, i_m1, i_9, i_11, i_13, i_25, i_60, i_75, i_79, i_80, i_96, i_100] at c_3
      refine lv_aload_n hx hb dX10_ready_31 rfl (lv_at hl 0 rfl) ?_
      refine lv_iconst (v := 1) hx hb dX10_ready_32 (by decide) ?_
      refine rr_put (D := DG E) (ci := 10) (v := .int 1) (ty := .int) (C := RX10) (T := TX10) (N := 49) hx hb hts iw_X10 tyX10 tyX10_ok nmX10 hown hK.1 hM.1 hS (by show G h0 ≠ 0; rw [hR.1]; decide) rfl 3 (by decide) (hts _ fl_X10_153) (fun _ h9 => h9) rfl (by decide +kernel) rfl rfl (Nat.le_of_ble_eq_true rfl) dX10_ready_33 (fun H locs hn ho hz hS => ?_)
      have hM : MH E h0 rf t0 t1 t2 A 1 pk H := hM.sc hR hn ho
      refine lv_goto (tgt := 53) hx hb dX10_ready_36 (by decide) ?_
      refine lv_aload_n hx hb dX10_ready_53 rfl (lv_at hl 0 rfl) ?_
      refine va_get (D := DG E) (ci := 10) (v := .int 1) (C := RX10) (T := TX10) (N := 49) hx hb hts iw_X10 hown hK.1 (va_one hM.1) 0 rfl rfl 3 (by decide) (hts _ fl_X10_153) (fun _ h9 => h9) rfl dX10_ready_54 ?_
      refine lv_if_eq (tgt := 61) hx hb dX10_ready_57 (by decide) (fun c_4 => absurd c_4 (by decide)) (fun c_4 => ?_)
      exact W.vret hx hb hr (fun t ht hW => ⟨⟨((A 10), (A 11), (A 12), (A 13), (A 14), 1), rfl, ⟨hI4, (Or.inr (Or.inl ⟨c_1r, c_3r, rfl, rfl, rfl⟩))⟩, (by show MH E h0 rf t0 t1 t2 (uA (uA (uA (uA (uA A 10 (A 10)) 11 (A 11)) 12 (A 12)) 13 (A 13)) 14 (A 14)) 1 pk t.heap; rw [ht]; exact hM.cge (funext fun j => (cgj j 14 rfl (fun a0 => (cgj j 13 rfl (fun a1 => (cgj j 12 rfl (fun a2 => (cgj j 11 rfl (fun a3 => (cgj j 10 rfl (fun a4 => (by simp only [uA_n a0, uA_n a1, uA_n a2, uA_n a3, uA_n a4])))))))))))))⟩, hS.F ht⟩) hS.2.2 dX10_ready_60
    · have c_3 := bI_n c_3
      have c_3r := c_3
      try simp only [lt_I, le_I, eq_I, i_0, i_1, i_2, i_3, i_4, i_5, i_6, i_7, i_8, i_10, i_12, i_16, i_20, i_23, i_24, i_31, i_32, i_63, i_64, i_m1, i_9, i_11, i_13, i_25, i_60, i_75, i_79, i_80, i_96, i_100] at c_3
      refine lv_iload_n hx hb dX10_ready_22 rfl (lv_at hl 3 rfl) ?_
      refine lv_bipush (v := 63) hx hb dX10_ready_23 (by decide) ?_
      refine W.callR (W.runS (As := [.int p2, .int 63]) (rest := []) ⟨hx, hb, hml, hown, hts⟩ (c_X10_within l p2 63) (cwS 2 hts (gdS ml_X10_156 st_X10_within in_X10 co_X10_within rfl) rfl rfl rfl (by decide +kernel) ⟨Nat.le_of_ble_eq_true rfl, Nat.le_of_ble_eq_true rfl⟩) preEq rfl rfl hl.1 rfl (lv_room (Nat.le_of_ble_eq_true rfl)) dX10_ready_25 ⟨Nat.le_of_ble_eq_true rfl, Nat.le_of_ble_eq_true rfl⟩) ?_
      refine W.eq (g2 := F0 m 28 ls [.int (bI (0 ≤ p2.toInt ∧ p2.toInt ≤ (63 : Int32).toInt))]) (by rfl) ?_
      refine lv_if_ne (tgt := 39) hx hb dX10_ready_28 (by decide) (fun c_5 => ?_) (fun c_5 => ?_)
      · have c_5 := bI_n c_5
        have c_5r := c_5
        try simp only [lt_I, le_I, eq_I, i_0, i_1, i_2, i_3, i_4, i_5, i_6, i_7, i_8, i_10, i_12, i_16, i_20, i_23, i_24, i_31, i_32, i_63, i_64, i_m1, i_9, i_11, i_13, i_25, i_60, i_75, i_79, i_80, i_96, i_100] at c_5
        refine lv_aload_n hx hb dX10_ready_39 rfl (lv_at hl 0 rfl) ?_
        refine va_get (D := DG E) (ci := 10) (v := .ref (rf 10)) (C := RX10) (T := TX10) (N := 49) hx hb hts iw_X10 hown hK.1 (va_one hM.1) 0 rfl rfl 10 (by decide) (hts _ fl_X10_28) (fun _ h9 => h9) rfl dX10_ready_40 ?_
        refine lv_iload_n hx hb dX10_ready_43 rfl (lv_at hl 1 rfl) ?_
        have hi_6 : vp_in p0 4 := vp_in_iff.mpr (by omega)
        have ha_7 : va_at (DG E) vwCl (rf 10, .inl (E.2.2 0, 4, .inl (A 10))) _ := hM.2 10 (by decide) (by decide) (by decide)
        obtain ⟨n_8, hn_8, en_8⟩ := s_nat (x := p0) (by omega)
        refine va_iald (D := DG E) hx hb hK.1 (va_one ha_7) 0 0 rfl rfl hi_6 dX10_ready_44 ?_
        refine W.eq (g2 := F0 m 45 ls [.int ((A 10) n_8)]) (by rw [en_8]) ?_
        refine lv_if_eq (tgt := 53) hx hb dX10_ready_45 (by decide) (fun c_9 => ?_) (fun c_9 => ?_)
        · simp only [lt_I, le_I, eq_I, i_0, i_1, i_2, i_3, i_4, i_5, i_6, i_7, i_8, i_10, i_12, i_16, i_20, i_23, i_24, i_31, i_32, i_63, i_64, i_m1, i_9, i_11, i_13, i_25, i_60, i_75, i_79, i_80, i_96, i_100] at c_9
          refine lv_aload_n hx hb dX10_ready_53 rfl (lv_at hl 0 rfl) ?_
          refine va_get (D := DG E) (ci := 10) (v := .int 0) (C := RX10) (T := TX10) (N := 49) hx hb hts iw_X10 hown hK.1 (va_one hM.1) 0 rfl rfl 3 (by decide) (hts _ fl_X10_153) (fun _ h9 => h9) rfl dX10_ready_54 ?_
          refine lv_if_eq (tgt := 61) hx hb dX10_ready_57 (by decide) (fun c_10 => ?_) (fun c_10 => absurd c_10 (by decide))
          refine lv_aload_n hx hb dX10_ready_61 rfl (lv_at hl 0 rfl) ?_
          refine va_get (D := DG E) (ci := 10) (v := .ref (rf 10)) (C := RX10) (T := TX10) (N := 49) hx hb hts iw_X10 hown hK.1 (va_one hM.1) 0 rfl rfl 10 (by decide) (hts _ fl_X10_28) (fun _ h9 => h9) rfl dX10_ready_62 ?_
          refine lv_iload_n hx hb dX10_ready_65 rfl (lv_at hl 1 rfl) ?_
          refine lv_iconst (v := 1) hx hb dX10_ready_66 (by decide) ?_
          have ha_11 : va_at (DG E) vwCl (rf 10, .inl (E.2.2 0, 4, .inl (A 10))) _ := hM.2 10 (by decide) (by decide) (by decide)
          refine rr_iast (D := DG E) hx hb hK.1 0 ha_11 hS (by show G (rf 10) ≠ 0; rw [hR.2 10 (by decide) (by decide) (by decide)]; decide) rfl hi_6 dX10_ready_67 (fun H locs hn ho hz hS => ?_)
          rw [en_8] at hn
          obtain ⟨g_11, eg_11⟩ : ∃ z : Nat → Int32, z = upd (A 10) n_8 1 := ⟨_, rfl⟩
          have sg_11 : g_11 n_8 = 1 := by rw [eg_11]; exact upd_s
          have ng_11 : ∀ k, k ≠ n_8 → g_11 k = (A 10) k := fun k hk => by rw [eg_11]; exact upd_n hk
          have hn : va_at (DG E) vwCl (rf 10, .inl (E.2.2 0, 4, .inl g_11)) H := by rw [eg_11]; exact hn
          have hM : MH E h0 rf t0 t1 t2 (uA A 10 g_11) 0 pk H := hM.w hR 10 (by decide) (by decide) (by decide) hn ho
          refine lv_aload_n hx hb dX10_ready_68 rfl (lv_at hl 0 rfl) ?_
          refine va_get (D := DG E) (ci := 10) (v := .ref (rf 11)) (C := RX10) (T := TX10) (N := 49) hx hb hts iw_X10 hown hK.1 (va_one hM.1) 0 rfl rfl 11 (by decide) (hts _ fl_X10_31) (fun _ h9 => h9) rfl dX10_ready_69 ?_
          refine lv_iload_n hx hb dX10_ready_72 rfl (lv_at hl 1 rfl) ?_
          refine lv_iload_n hx hb dX10_ready_73 rfl (lv_at hl 2 rfl) ?_
          have ha_12 : va_at (DG E) vwCl (rf 11, .inl (E.2.2 0, 4, .inl (A 11))) _ := hM.2 11 (by decide) (by decide) (by decide)
          refine rr_iast (D := DG E) hx hb hK.1 0 ha_12 hS (by show G (rf 11) ≠ 0; rw [hR.2 11 (by decide) (by decide) (by decide)]; decide) rfl hi_6 dX10_ready_74 (fun H locs hn ho hz hS => ?_)
          rw [en_8] at hn
          obtain ⟨g_12, eg_12⟩ : ∃ z : Nat → Int32, z = upd (A 11) n_8 p1 := ⟨_, rfl⟩
          have sg_12 : g_12 n_8 = p1 := by rw [eg_12]; exact upd_s
          have ng_12 : ∀ k, k ≠ n_8 → g_12 k = (A 11) k := fun k hk => by rw [eg_12]; exact upd_n hk
          have hn : va_at (DG E) vwCl (rf 11, .inl (E.2.2 0, 4, .inl g_12)) H := by rw [eg_12]; exact hn
          have hM : MH E h0 rf t0 t1 t2 (uA (uA A 10 g_11) 11 g_12) 0 pk H := hM.w hR 11 (by decide) (by decide) (by decide) hn ho
          refine lv_aload_n hx hb dX10_ready_75 rfl (lv_at hl 0 rfl) ?_
          refine va_get (D := DG E) (ci := 10) (v := .ref (rf 12)) (C := RX10) (T := TX10) (N := 49) hx hb hts iw_X10 hown hK.1 (va_one hM.1) 0 rfl rfl 12 (by decide) (hts _ fl_X10_34) (fun _ h9 => h9) rfl dX10_ready_76 ?_
          refine lv_iload_n hx hb dX10_ready_79 rfl (lv_at hl 1 rfl) ?_
          refine lv_iload_n hx hb dX10_ready_80 rfl (lv_at hl 2 rfl) ?_
          have ha_13 : va_at (DG E) vwCl (rf 12, .inl (E.2.2 0, 4, .inl (A 12))) _ := hM.2 12 (by decide) (by decide) (by decide)
          refine rr_iast (D := DG E) hx hb hK.1 0 ha_13 hS (by show G (rf 12) ≠ 0; rw [hR.2 12 (by decide) (by decide) (by decide)]; decide) rfl hi_6 dX10_ready_81 (fun H locs hn ho hz hS => ?_)
          rw [en_8] at hn
          obtain ⟨g_13, eg_13⟩ : ∃ z : Nat → Int32, z = upd (A 12) n_8 p1 := ⟨_, rfl⟩
          have sg_13 : g_13 n_8 = p1 := by rw [eg_13]; exact upd_s
          have ng_13 : ∀ k, k ≠ n_8 → g_13 k = (A 12) k := fun k hk => by rw [eg_13]; exact upd_n hk
          have hn : va_at (DG E) vwCl (rf 12, .inl (E.2.2 0, 4, .inl g_13)) H := by rw [eg_13]; exact hn
          have hM : MH E h0 rf t0 t1 t2 (uA (uA (uA A 10 g_11) 11 g_12) 12 g_13) 0 pk H := hM.w hR 12 (by decide) (by decide) (by decide) hn ho
          refine lv_aload_n hx hb dX10_ready_82 rfl (lv_at hl 0 rfl) ?_
          refine va_get (D := DG E) (ci := 10) (v := .ref (rf 13)) (C := RX10) (T := TX10) (N := 49) hx hb hts iw_X10 hown hK.1 (va_one hM.1) 0 rfl rfl 13 (by decide) (hts _ fl_X10_37) (fun _ h9 => h9) rfl dX10_ready_83 ?_
          refine lv_iload_n hx hb dX10_ready_86 rfl (lv_at hl 1 rfl) ?_
          refine lv_iload_n hx hb dX10_ready_87 rfl (lv_at hl 2 rfl) ?_
          have ha_14 : va_at (DG E) vwCl (rf 13, .inl (E.2.2 0, 4, .inl (A 13))) _ := hM.2 13 (by decide) (by decide) (by decide)
          refine rr_iast (D := DG E) hx hb hK.1 0 ha_14 hS (by show G (rf 13) ≠ 0; rw [hR.2 13 (by decide) (by decide) (by decide)]; decide) rfl hi_6 dX10_ready_88 (fun H locs hn ho hz hS => ?_)
          rw [en_8] at hn
          obtain ⟨g_14, eg_14⟩ : ∃ z : Nat → Int32, z = upd (A 13) n_8 p1 := ⟨_, rfl⟩
          have sg_14 : g_14 n_8 = p1 := by rw [eg_14]; exact upd_s
          have ng_14 : ∀ k, k ≠ n_8 → g_14 k = (A 13) k := fun k hk => by rw [eg_14]; exact upd_n hk
          have hn : va_at (DG E) vwCl (rf 13, .inl (E.2.2 0, 4, .inl g_14)) H := by rw [eg_14]; exact hn
          have hM : MH E h0 rf t0 t1 t2 (uA (uA (uA (uA A 10 g_11) 11 g_12) 12 g_13) 13 g_14) 0 pk H := hM.w hR 13 (by decide) (by decide) (by decide) hn ho
          refine lv_aload_n hx hb dX10_ready_89 rfl (lv_at hl 0 rfl) ?_
          refine va_get (D := DG E) (ci := 10) (v := .ref (rf 14)) (C := RX10) (T := TX10) (N := 49) hx hb hts iw_X10 hown hK.1 (va_one hM.1) 0 rfl rfl 14 (by decide) (hts _ fl_X10_40) (fun _ h9 => h9) rfl dX10_ready_90 ?_
          refine lv_iload_n hx hb dX10_ready_93 rfl (lv_at hl 1 rfl) ?_
          refine lv_iload_n hx hb dX10_ready_94 rfl (lv_at hl 3 rfl) ?_
          have ha_15 : va_at (DG E) vwCl (rf 14, .inl (E.2.2 0, 4, .inl (A 14))) _ := hM.2 14 (by decide) (by decide) (by decide)
          refine rr_iast (D := DG E) hx hb hK.1 0 ha_15 hS (by show G (rf 14) ≠ 0; rw [hR.2 14 (by decide) (by decide) (by decide)]; decide) rfl hi_6 dX10_ready_95 (fun H locs hn ho hz hS => ?_)
          rw [en_8] at hn
          obtain ⟨g_15, eg_15⟩ : ∃ z : Nat → Int32, z = upd (A 14) n_8 p2 := ⟨_, rfl⟩
          have sg_15 : g_15 n_8 = p2 := by rw [eg_15]; exact upd_s
          have ng_15 : ∀ k, k ≠ n_8 → g_15 k = (A 14) k := fun k hk => by rw [eg_15]; exact upd_n hk
          have hn : va_at (DG E) vwCl (rf 14, .inl (E.2.2 0, 4, .inl g_15)) H := by rw [eg_15]; exact hn
          have hM : MH E h0 rf t0 t1 t2 (uA (uA (uA (uA (uA A 10 g_11) 11 g_12) 12 g_13) 13 g_14) 14 g_15) 0 pk H := hM.w hR 14 (by decide) (by decide) (by decide) hn ho
          have hI4_16 : I4 g_11 (A 20) (A 29) (A 24) g_12 g_13 g_14 := by
            intro k hk
            by_cases e : k = n_8
            · rw [e]
              refine ⟨fun _ => ?_, Or.inl (by rw [sg_11]; decide)⟩
              have e0 : ((A 20) n_8).toInt = 0 := (hI4 n_8 (by omega)).2.resolve_left (by omega)
              rw [e0, sg_12, sg_13, sg_14]
              exact PJ.new (by omega)
            · exact (hI4 k hk).cg (ng_11 k e) rfl (fun _ _ => rfl) (fun _ _ => rfl) (ng_12 k e) (ng_13 k e) (ng_14 k e)
          exact W.vret hx hb hr (fun t ht hW => ⟨⟨(g_11, g_12, g_13, g_14, g_15, 0), rfl, ⟨hI4_16, (Or.inr (Or.inr (Or.inl ⟨c_1r, c_3r, c_5r, n_8, hn_8, c_9, g_11, eg_11, g_12, eg_12, g_13, eg_13, g_14, eg_14, g_15, eg_15, rfl, rfl, rfl⟩)))⟩, (by show MH E h0 rf t0 t1 t2 (uA (uA (uA (uA (uA A 10 g_11) 11 g_12) 12 g_13) 13 g_14) 14 g_15) 0 pk t.heap; rw [ht]; exact hM)⟩, hS.F ht⟩) hS.2.2 dX10_ready_96
        · simp only [lt_I, le_I, eq_I, i_0, i_1, i_2, i_3, i_4, i_5, i_6, i_7, i_8, i_10, i_12, i_16, i_20, i_23, i_24, i_31, i_32, i_63, i_64, i_m1, i_9, i_11, i_13, i_25, i_60, i_75, i_79, i_80, i_96, i_100] at c_9
          refine lv_aload_n hx hb dX10_ready_48 rfl (lv_at hl 0 rfl) ?_
          refine lv_iconst (v := 2) hx hb dX10_ready_49 (by decide) ?_
          refine rr_put (D := DG E) (ci := 10) (v := .int 2) (ty := .int) (C := RX10) (T := TX10) (N := 49) hx hb hts iw_X10 tyX10 tyX10_ok nmX10 hown hK.1 hM.1 hS (by show G h0 ≠ 0; rw [hR.1]; decide) rfl 3 (by decide) (hts _ fl_X10_153) (fun _ h9 => h9) rfl (by decide +kernel) rfl rfl (Nat.le_of_ble_eq_true rfl) dX10_ready_50 (fun H locs hn ho hz hS => ?_)
          have hM : MH E h0 rf t0 t1 t2 A 2 pk H := hM.sc hR hn ho
          refine lv_aload_n hx hb dX10_ready_53 rfl (lv_at hl 0 rfl) ?_
          refine va_get (D := DG E) (ci := 10) (v := .int 2) (C := RX10) (T := TX10) (N := 49) hx hb hts iw_X10 hown hK.1 (va_one hM.1) 0 rfl rfl 3 (by decide) (hts _ fl_X10_153) (fun _ h9 => h9) rfl dX10_ready_54 ?_
          refine lv_if_eq (tgt := 61) hx hb dX10_ready_57 (by decide) (fun c_17 => absurd c_17 (by decide)) (fun c_17 => ?_)
          exact W.vret hx hb hr (fun t ht hW => ⟨⟨((A 10), (A 11), (A 12), (A 13), (A 14), 2), rfl, ⟨hI4, (Or.inr (Or.inr (Or.inr (Or.inl ⟨c_1r, c_3r, c_5r, n_8, hn_8, c_9, rfl, rfl, rfl⟩))))⟩, (by show MH E h0 rf t0 t1 t2 (uA (uA (uA (uA (uA A 10 (A 10)) 11 (A 11)) 12 (A 12)) 13 (A 13)) 14 (A 14)) 2 pk t.heap; rw [ht]; exact hM.cge (funext fun j => (cgj j 14 rfl (fun a0 => (cgj j 13 rfl (fun a1 => (cgj j 12 rfl (fun a2 => (cgj j 11 rfl (fun a3 => (cgj j 10 rfl (fun a4 => (by simp only [uA_n a0, uA_n a1, uA_n a2, uA_n a3, uA_n a4])))))))))))))⟩, hS.F ht⟩) hS.2.2 dX10_ready_60
      · have c_5 := bI_0 c_5
        have c_5r := c_5
        try simp only [lt_I, le_I, eq_I, i_0, i_1, i_2, i_3, i_4, i_5, i_6, i_7, i_8, i_10, i_12, i_16, i_20, i_23, i_24, i_31, i_32, i_63, i_64, i_m1, i_9, i_11, i_13, i_25, i_60, i_75, i_79, i_80, i_96, i_100] at c_5
        refine lv_aload_n hx hb dX10_ready_31 rfl (lv_at hl 0 rfl) ?_
        refine lv_iconst (v := 1) hx hb dX10_ready_32 (by decide) ?_
        refine rr_put (D := DG E) (ci := 10) (v := .int 1) (ty := .int) (C := RX10) (T := TX10) (N := 49) hx hb hts iw_X10 tyX10 tyX10_ok nmX10 hown hK.1 hM.1 hS (by show G h0 ≠ 0; rw [hR.1]; decide) rfl 3 (by decide) (hts _ fl_X10_153) (fun _ h9 => h9) rfl (by decide +kernel) rfl rfl (Nat.le_of_ble_eq_true rfl) dX10_ready_33 (fun H locs hn ho hz hS => ?_)
        have hM : MH E h0 rf t0 t1 t2 A 1 pk H := hM.sc hR hn ho
        refine lv_goto (tgt := 53) hx hb dX10_ready_36 (by decide) ?_
        refine lv_aload_n hx hb dX10_ready_53 rfl (lv_at hl 0 rfl) ?_
        refine va_get (D := DG E) (ci := 10) (v := .int 1) (C := RX10) (T := TX10) (N := 49) hx hb hts iw_X10 hown hK.1 (va_one hM.1) 0 rfl rfl 3 (by decide) (hts _ fl_X10_153) (fun _ h9 => h9) rfl dX10_ready_54 ?_
        refine lv_if_eq (tgt := 61) hx hb dX10_ready_57 (by decide) (fun c_18 => absurd c_18 (by decide)) (fun c_18 => ?_)
        exact W.vret hx hb hr (fun t ht hW => ⟨⟨((A 10), (A 11), (A 12), (A 13), (A 14), 1), rfl, ⟨hI4, (Or.inr (Or.inr (Or.inr (Or.inr ⟨c_1r, c_3r, c_5r, rfl, rfl, rfl⟩))))⟩, (by show MH E h0 rf t0 t1 t2 (uA (uA (uA (uA (uA A 10 (A 10)) 11 (A 11)) 12 (A 12)) 13 (A 13)) 14 (A 14)) 1 pk t.heap; rw [ht]; exact hM.cge (funext fun j => (cgj j 14 rfl (fun a0 => (cgj j 13 rfl (fun a1 => (cgj j 12 rfl (fun a2 => (cgj j 11 rfl (fun a3 => (cgj j 10 rfl (fun a4 => (by simp only [uA_n a0, uA_n a1, uA_n a2, uA_n a3, uA_n a4])))))))))))))⟩, hS.F ht⟩) hS.2.2 dX10_ready_60
theorem gdX10_reset_0 : (decode cX10_reset 0 = .ok (.aload_n 0, 1)) ∧ (decode cX10_reset 1 = .ok (.iconst 0, 1)) ∧ (decode cX10_reset 2 = .ok (.putfield 153, 3)) ∧ (decode cX10_reset 5 = .ok (.iload_n 1, 1)) ∧ (decode cX10_reset 6 = .ok (.iconst 3, 1)) ∧ (decode cX10_reset 7 = .ok (.invokestatic 156, 3)) ∧ (decode cX10_reset 10 = .ok (.ifCond .ne 5, 3)) ∧ (decode cX10_reset 13 = .ok (.iconst 0, 1)) ∧ (decode cX10_reset 14 = .ok (.ireturn, 1)) ∧ (decode cX10_reset 15 = .ok (.aload_n 0, 1)) ∧ (decode cX10_reset 16 = .ok (.getfield 28, 3)) ∧ (decode cX10_reset 19 = .ok (.iload_n 1, 1)) ∧ (decode cX10_reset 20 = .ok (.iconst 0, 1)) ∧ (decode cX10_reset 21 = .ok (.iastore, 1)) ∧ (decode cX10_reset 22 = .ok (.aload_n 0, 1)) ∧ (decode cX10_reset 23 = .ok (.getfield 59, 3)) := by decide +kernel
theorem dX10_reset_0 : decode cX10_reset 0 = .ok (.aload_n 0, 1) := gdX10_reset_0.1
theorem dX10_reset_1 : decode cX10_reset 1 = .ok (.iconst 0, 1) := gdX10_reset_0.2.1
theorem dX10_reset_2 : decode cX10_reset 2 = .ok (.putfield 153, 3) := gdX10_reset_0.2.2.1
theorem dX10_reset_5 : decode cX10_reset 5 = .ok (.iload_n 1, 1) := gdX10_reset_0.2.2.2.1
theorem dX10_reset_6 : decode cX10_reset 6 = .ok (.iconst 3, 1) := gdX10_reset_0.2.2.2.2.1
theorem dX10_reset_7 : decode cX10_reset 7 = .ok (.invokestatic 156, 3) := gdX10_reset_0.2.2.2.2.2.1
theorem dX10_reset_10 : decode cX10_reset 10 = .ok (.ifCond .ne 5, 3) := gdX10_reset_0.2.2.2.2.2.2.1
theorem dX10_reset_13 : decode cX10_reset 13 = .ok (.iconst 0, 1) := gdX10_reset_0.2.2.2.2.2.2.2.1
theorem dX10_reset_14 : decode cX10_reset 14 = .ok (.ireturn, 1) := gdX10_reset_0.2.2.2.2.2.2.2.2.1
theorem dX10_reset_15 : decode cX10_reset 15 = .ok (.aload_n 0, 1) := gdX10_reset_0.2.2.2.2.2.2.2.2.2.1
theorem dX10_reset_16 : decode cX10_reset 16 = .ok (.getfield 28, 3) := gdX10_reset_0.2.2.2.2.2.2.2.2.2.2.1
theorem dX10_reset_19 : decode cX10_reset 19 = .ok (.iload_n 1, 1) := gdX10_reset_0.2.2.2.2.2.2.2.2.2.2.2.1
theorem dX10_reset_20 : decode cX10_reset 20 = .ok (.iconst 0, 1) := gdX10_reset_0.2.2.2.2.2.2.2.2.2.2.2.2.1
theorem dX10_reset_21 : decode cX10_reset 21 = .ok (.iastore, 1) := gdX10_reset_0.2.2.2.2.2.2.2.2.2.2.2.2.2.1
theorem dX10_reset_22 : decode cX10_reset 22 = .ok (.aload_n 0, 1) := gdX10_reset_0.2.2.2.2.2.2.2.2.2.2.2.2.2.2.1
theorem dX10_reset_23 : decode cX10_reset 23 = .ok (.getfield 59, 3) := gdX10_reset_0.2.2.2.2.2.2.2.2.2.2.2.2.2.2.2
theorem gdX10_reset_26 : (decode cX10_reset 26 = .ok (.iload_n 1, 1)) ∧ (decode cX10_reset 27 = .ok (.iconst 0, 1)) ∧ (decode cX10_reset 28 = .ok (.iastore, 1)) ∧ (decode cX10_reset 29 = .ok (.aload_n 0, 1)) ∧ (decode cX10_reset 30 = .ok (.getfield 62, 3)) ∧ (decode cX10_reset 33 = .ok (.iload_n 1, 1)) ∧ (decode cX10_reset 34 = .ok (.iconst 0, 1)) ∧ (decode cX10_reset 35 = .ok (.iastore, 1)) ∧ (decode cX10_reset 36 = .ok (.aload_n 0, 1)) ∧ (decode cX10_reset 37 = .ok (.getfield 89, 3)) ∧ (decode cX10_reset 40 = .ok (.iload_n 1, 1)) ∧ (decode cX10_reset 41 = .ok (.iconst 0, 1)) ∧ (decode cX10_reset 42 = .ok (.iastore, 1)) ∧ (decode cX10_reset 43 = .ok (.aload_n 0, 1)) ∧ (decode cX10_reset 44 = .ok (.getfield 92, 3)) ∧ (decode cX10_reset 47 = .ok (.iload_n 1, 1)) := by decide +kernel
theorem dX10_reset_26 : decode cX10_reset 26 = .ok (.iload_n 1, 1) := gdX10_reset_26.1
theorem dX10_reset_27 : decode cX10_reset 27 = .ok (.iconst 0, 1) := gdX10_reset_26.2.1
theorem dX10_reset_28 : decode cX10_reset 28 = .ok (.iastore, 1) := gdX10_reset_26.2.2.1
theorem dX10_reset_29 : decode cX10_reset 29 = .ok (.aload_n 0, 1) := gdX10_reset_26.2.2.2.1
theorem dX10_reset_30 : decode cX10_reset 30 = .ok (.getfield 62, 3) := gdX10_reset_26.2.2.2.2.1
theorem dX10_reset_33 : decode cX10_reset 33 = .ok (.iload_n 1, 1) := gdX10_reset_26.2.2.2.2.2.1
theorem dX10_reset_34 : decode cX10_reset 34 = .ok (.iconst 0, 1) := gdX10_reset_26.2.2.2.2.2.2.1
theorem dX10_reset_35 : decode cX10_reset 35 = .ok (.iastore, 1) := gdX10_reset_26.2.2.2.2.2.2.2.1
theorem dX10_reset_36 : decode cX10_reset 36 = .ok (.aload_n 0, 1) := gdX10_reset_26.2.2.2.2.2.2.2.2.1
theorem dX10_reset_37 : decode cX10_reset 37 = .ok (.getfield 89, 3) := gdX10_reset_26.2.2.2.2.2.2.2.2.2.1
theorem dX10_reset_40 : decode cX10_reset 40 = .ok (.iload_n 1, 1) := gdX10_reset_26.2.2.2.2.2.2.2.2.2.2.1
theorem dX10_reset_41 : decode cX10_reset 41 = .ok (.iconst 0, 1) := gdX10_reset_26.2.2.2.2.2.2.2.2.2.2.2.1
theorem dX10_reset_42 : decode cX10_reset 42 = .ok (.iastore, 1) := gdX10_reset_26.2.2.2.2.2.2.2.2.2.2.2.2.1
theorem dX10_reset_43 : decode cX10_reset 43 = .ok (.aload_n 0, 1) := gdX10_reset_26.2.2.2.2.2.2.2.2.2.2.2.2.2.1
theorem dX10_reset_44 : decode cX10_reset 44 = .ok (.getfield 92, 3) := gdX10_reset_26.2.2.2.2.2.2.2.2.2.2.2.2.2.2.1
theorem dX10_reset_47 : decode cX10_reset 47 = .ok (.iload_n 1, 1) := gdX10_reset_26.2.2.2.2.2.2.2.2.2.2.2.2.2.2.2
theorem gdX10_reset_48 : (decode cX10_reset 48 = .ok (.iconst 0, 1)) ∧ (decode cX10_reset 49 = .ok (.iastore, 1)) ∧ (decode cX10_reset 50 = .ok (.aload_n 0, 1)) ∧ (decode cX10_reset 51 = .ok (.getfield 107, 3)) ∧ (decode cX10_reset 54 = .ok (.iload_n 1, 1)) ∧ (decode cX10_reset 55 = .ok (.iconst 0, 1)) ∧ (decode cX10_reset 56 = .ok (.bastore, 1)) ∧ (decode cX10_reset 57 = .ok (.aload_n 0, 1)) ∧ (decode cX10_reset 58 = .ok (.getfield 56, 3)) ∧ (decode cX10_reset 61 = .ok (.iload_n 1, 1)) ∧ (decode cX10_reset 62 = .ok (.iconst 0, 1)) ∧ (decode cX10_reset 63 = .ok (.bastore, 1)) ∧ (decode cX10_reset 64 = .ok (.aload_n 0, 1)) ∧ (decode cX10_reset 65 = .ok (.getfield 52, 3)) ∧ (decode cX10_reset 68 = .ok (.iload_n 1, 1)) ∧ (decode cX10_reset 69 = .ok (.iconst 0, 1)) := by decide +kernel
theorem dX10_reset_48 : decode cX10_reset 48 = .ok (.iconst 0, 1) := gdX10_reset_48.1
theorem dX10_reset_49 : decode cX10_reset 49 = .ok (.iastore, 1) := gdX10_reset_48.2.1
theorem dX10_reset_50 : decode cX10_reset 50 = .ok (.aload_n 0, 1) := gdX10_reset_48.2.2.1
theorem dX10_reset_51 : decode cX10_reset 51 = .ok (.getfield 107, 3) := gdX10_reset_48.2.2.2.1
theorem dX10_reset_54 : decode cX10_reset 54 = .ok (.iload_n 1, 1) := gdX10_reset_48.2.2.2.2.1
theorem dX10_reset_55 : decode cX10_reset 55 = .ok (.iconst 0, 1) := gdX10_reset_48.2.2.2.2.2.1
theorem dX10_reset_56 : decode cX10_reset 56 = .ok (.bastore, 1) := gdX10_reset_48.2.2.2.2.2.2.1
theorem dX10_reset_57 : decode cX10_reset 57 = .ok (.aload_n 0, 1) := gdX10_reset_48.2.2.2.2.2.2.2.1
theorem dX10_reset_58 : decode cX10_reset 58 = .ok (.getfield 56, 3) := gdX10_reset_48.2.2.2.2.2.2.2.2.1
theorem dX10_reset_61 : decode cX10_reset 61 = .ok (.iload_n 1, 1) := gdX10_reset_48.2.2.2.2.2.2.2.2.2.1
theorem dX10_reset_62 : decode cX10_reset 62 = .ok (.iconst 0, 1) := gdX10_reset_48.2.2.2.2.2.2.2.2.2.2.1
theorem dX10_reset_63 : decode cX10_reset 63 = .ok (.bastore, 1) := gdX10_reset_48.2.2.2.2.2.2.2.2.2.2.2.1
theorem dX10_reset_64 : decode cX10_reset 64 = .ok (.aload_n 0, 1) := gdX10_reset_48.2.2.2.2.2.2.2.2.2.2.2.2.1
theorem dX10_reset_65 : decode cX10_reset 65 = .ok (.getfield 52, 3) := gdX10_reset_48.2.2.2.2.2.2.2.2.2.2.2.2.2.1
theorem dX10_reset_68 : decode cX10_reset 68 = .ok (.iload_n 1, 1) := gdX10_reset_48.2.2.2.2.2.2.2.2.2.2.2.2.2.2.1
theorem dX10_reset_69 : decode cX10_reset 69 = .ok (.iconst 0, 1) := gdX10_reset_48.2.2.2.2.2.2.2.2.2.2.2.2.2.2.2
theorem gdX10_reset_70 : (decode cX10_reset 70 = .ok (.bastore, 1)) ∧ (decode cX10_reset 71 = .ok (.aload_n 0, 1)) ∧ (decode cX10_reset 72 = .ok (.getfield 43, 3)) ∧ (decode cX10_reset 75 = .ok (.iload_n 1, 1)) ∧ (decode cX10_reset 76 = .ok (.iconst 0, 1)) ∧ (decode cX10_reset 77 = .ok (.iastore, 1)) ∧ (decode cX10_reset 78 = .ok (.aload_n 0, 1)) ∧ (decode cX10_reset 79 = .ok (.getfield 46, 3)) ∧ (decode cX10_reset 82 = .ok (.iload_n 1, 1)) ∧ (decode cX10_reset 83 = .ok (.iconst 0, 1)) ∧ (decode cX10_reset 84 = .ok (.iastore, 1)) ∧ (decode cX10_reset 85 = .ok (.aload_n 0, 1)) ∧ (decode cX10_reset 86 = .ok (.getfield 49, 3)) ∧ (decode cX10_reset 89 = .ok (.iload_n 1, 1)) ∧ (decode cX10_reset 90 = .ok (.iconst 0, 1)) ∧ (decode cX10_reset 91 = .ok (.iastore, 1)) := by decide +kernel
theorem dX10_reset_70 : decode cX10_reset 70 = .ok (.bastore, 1) := gdX10_reset_70.1
theorem dX10_reset_71 : decode cX10_reset 71 = .ok (.aload_n 0, 1) := gdX10_reset_70.2.1
theorem dX10_reset_72 : decode cX10_reset 72 = .ok (.getfield 43, 3) := gdX10_reset_70.2.2.1
theorem dX10_reset_75 : decode cX10_reset 75 = .ok (.iload_n 1, 1) := gdX10_reset_70.2.2.2.1
theorem dX10_reset_76 : decode cX10_reset 76 = .ok (.iconst 0, 1) := gdX10_reset_70.2.2.2.2.1
theorem dX10_reset_77 : decode cX10_reset 77 = .ok (.iastore, 1) := gdX10_reset_70.2.2.2.2.2.1
theorem dX10_reset_78 : decode cX10_reset 78 = .ok (.aload_n 0, 1) := gdX10_reset_70.2.2.2.2.2.2.1
theorem dX10_reset_79 : decode cX10_reset 79 = .ok (.getfield 46, 3) := gdX10_reset_70.2.2.2.2.2.2.2.1
theorem dX10_reset_82 : decode cX10_reset 82 = .ok (.iload_n 1, 1) := gdX10_reset_70.2.2.2.2.2.2.2.2.1
theorem dX10_reset_83 : decode cX10_reset 83 = .ok (.iconst 0, 1) := gdX10_reset_70.2.2.2.2.2.2.2.2.2.1
theorem dX10_reset_84 : decode cX10_reset 84 = .ok (.iastore, 1) := gdX10_reset_70.2.2.2.2.2.2.2.2.2.2.1
theorem dX10_reset_85 : decode cX10_reset 85 = .ok (.aload_n 0, 1) := gdX10_reset_70.2.2.2.2.2.2.2.2.2.2.2.1
theorem dX10_reset_86 : decode cX10_reset 86 = .ok (.getfield 49, 3) := gdX10_reset_70.2.2.2.2.2.2.2.2.2.2.2.2.1
theorem dX10_reset_89 : decode cX10_reset 89 = .ok (.iload_n 1, 1) := gdX10_reset_70.2.2.2.2.2.2.2.2.2.2.2.2.2.1
theorem dX10_reset_90 : decode cX10_reset 90 = .ok (.iconst 0, 1) := gdX10_reset_70.2.2.2.2.2.2.2.2.2.2.2.2.2.2.1
theorem dX10_reset_91 : decode cX10_reset 91 = .ok (.iastore, 1) := gdX10_reset_70.2.2.2.2.2.2.2.2.2.2.2.2.2.2.2
theorem gdX10_reset_92 : (decode cX10_reset 92 = .ok (.aload_n 0, 1)) ∧ (decode cX10_reset 93 = .ok (.getfield 110, 3)) ∧ (decode cX10_reset 96 = .ok (.iload_n 1, 1)) ∧ (decode cX10_reset 97 = .ok (.iconst 0, 1)) ∧ (decode cX10_reset 98 = .ok (.iastore, 1)) ∧ (decode cX10_reset 99 = .ok (.iconst 1, 1)) ∧ (decode cX10_reset 100 = .ok (.ireturn, 1)) := by decide +kernel
theorem dX10_reset_92 : decode cX10_reset 92 = .ok (.aload_n 0, 1) := gdX10_reset_92.1
theorem dX10_reset_93 : decode cX10_reset 93 = .ok (.getfield 110, 3) := gdX10_reset_92.2.1
theorem dX10_reset_96 : decode cX10_reset 96 = .ok (.iload_n 1, 1) := gdX10_reset_92.2.2.1
theorem dX10_reset_97 : decode cX10_reset 97 = .ok (.iconst 0, 1) := gdX10_reset_92.2.2.2.1
theorem dX10_reset_98 : decode cX10_reset 98 = .ok (.iastore, 1) := gdX10_reset_92.2.2.2.2.1
theorem dX10_reset_99 : decode cX10_reset 99 = .ok (.iconst 1, 1) := gdX10_reset_92.2.2.2.2.2.1
theorem dX10_reset_100 : decode cX10_reset 100 = .ok (.ireturn, 1) := gdX10_reset_92.2.2.2.2.2.2
set_option maxHeartbeats 8000000 in
set_option maxRecDepth 100000 in
theorem u_X10_reset (l : Launch) (E : EE) (z0 : Nat) (G : Nat → Nat) (hGz : ∀ q, G q ≠ 0 → z0 ≤ q) (h0 : Nat) (rf : Nat → Nat) (hR : MG G h0 rf) (t0 t1 t2 : Int32) (A : AA) (cd pk : Int32) (p0 : Int32) (hI4 : I4 (A 10) (A 20) (A 29) (A 24) (A 11) (A 12) (A 13)) (hI8 : I8 (A 20) (A 30) (A 37) (A 36)) : Met l yX10_reset [Cond.code yX10_reset cX10_reset 2 (some .boolean)] ({ frames := 1, cells := 0, slots := 0, locals := 21 } : Room) (va_Pc [.ref h0, .int p0] (fun U => MH E h0 rf t0 t1 t2 A cd pk U.heap ∧ KS E z0 U)) (va_Qi (fun (r : Int32) (u : (Nat → Int32) × (Nat → Int32) × (Nat → Int32) × (Nat → Int32) × (Nat → Int32) × (Nat → Int32) × (Nat → Int32) × (Nat → Int32) × (Nat → Int32) × (Nat → Int32) × (Nat → Int32) × (Nat → Int32) × Int32) => (I4 (u.1) (u.2.2.2.2.2.2.1) (A 29) (A 24) (A 11) (A 12) (A 13)) ∧ (I8 (u.2.2.2.2.2.2.1) (u.2.2.2.2.2.2.2.2.1) (u.2.2.2.2.2.2.2.2.2.2.2.1) (u.2.2.2.2.2.2.2.2.2.2.1)) ∧ (r = bI (0 ≤ p0.toInt ∧ p0.toInt < 4)) ∧ (D_X10_reset A cd pk p0 (uA (uA (uA (uA (uA (uA (uA (uA (uA (uA (uA (uA A 10 (u.1)) 15 (u.2.1)) 16 (u.2.2.1)) 17 (u.2.2.2.1)) 18 (u.2.2.2.2.1)) 19 (u.2.2.2.2.2.1)) 20 (u.2.2.2.2.2.2.1)) 21 (u.2.2.2.2.2.2.2.1)) 30 (u.2.2.2.2.2.2.2.2.1)) 31 (u.2.2.2.2.2.2.2.2.2.1)) 36 (u.2.2.2.2.2.2.2.2.2.2.1)) 37 (u.2.2.2.2.2.2.2.2.2.2.2.1)) (u.2.2.2.2.2.2.2.2.2.2.2.2) pk r)) (fun u t => MH E h0 rf t0 t1 t2 (uA (uA (uA (uA (uA (uA (uA (uA (uA (uA (uA (uA A 10 (u.1)) 15 (u.2.1)) 16 (u.2.2.1)) 17 (u.2.2.2.1)) 18 (u.2.2.2.2.1)) 19 (u.2.2.2.2.2.1)) 20 (u.2.2.2.2.2.2.1)) 21 (u.2.2.2.2.2.2.2.1)) 30 (u.2.2.2.2.2.2.2.2.1)) 31 (u.2.2.2.2.2.2.2.2.2.1)) 36 (u.2.2.2.2.2.2.2.2.2.2.1)) 37 (u.2.2.2.2.2.2.2.2.2.2.2.1)) (u.2.2.2.2.2.2.2.2.2.2.2.2) pk t.heap) (fun q : Nat => G q ≠ 0)) 0 0 (fun q : Nat => G q ≠ 0) := by
  refine Met.ofW (cc := cX10_reset) (maxL := 2) (ret := (some .boolean)) (by decide) rfl ?_
  intro p e s m args below meth c s₁ B hml hv
  obtain ⟨rfl, hM, hK⟩ := hv
  have hx := B.exec
  have hb := B.bytes
  have hr := B.returns
  have hts : ∀ w ∈ TS, w.before ([.ref h0, .int p0] : List Value).toArray s = true := fun w hw => hK.2.1 w hw _
  have hown : s.vm.findClass RX10 = some m.cls := findClass_of_methodNamed B.named
  have hlocks := B.notSynchronized
  have hS : va_S (fun q : Nat => G q ≠ 0) s.heap s.heap [] := va_S.rf
  have hAz : ∀ q, (fun q : Nat => G q ≠ 0) q → z0 ≤ q := hGz
  have hl := lv_entry ([.ref h0, .int p0]) (n := 2) (Nat.le_of_ble_eq_true rfl)
  rw [lg_entry_eq]
  generalize (lg_sl ([.ref h0, .int p0]) ++ List.replicate (2 - (lg_sl ([.ref h0, .int p0])).length) Slot.unset).toArray = ls at hl ⊢
  have hl : lv_has ls 2 [(0, .ref h0), (1, .int p0)] := hl
  refine lv_aload_n hx hb dX10_reset_0 rfl (lv_at hl 0 rfl) ?_
  refine lv_iconst (v := 0) hx hb dX10_reset_1 (by decide) ?_
  refine rr_put (D := DG E) (ci := 10) (v := .int 0) (ty := .int) (C := RX10) (T := TX10) (N := 49) hx hb hts iw_X10 tyX10 tyX10_ok nmX10 hown hK.1 hM.1 hS (by show G h0 ≠ 0; rw [hR.1]; decide) rfl 3 (by decide) (hts _ fl_X10_153) (fun _ h9 => h9) rfl (by decide +kernel) rfl rfl (Nat.le_of_ble_eq_true rfl) dX10_reset_2 (fun H locs hn ho hz hS => ?_)
  have hM : MH E h0 rf t0 t1 t2 A 0 pk H := hM.sc hR hn ho
  refine lv_iload_n hx hb dX10_reset_5 rfl (lv_at hl 1 rfl) ?_
  refine lv_iconst (v := 3) hx hb dX10_reset_6 (by decide) ?_
  refine W.callR (W.runS (As := [.int p0, .int 3]) (rest := []) ⟨hx, hb, hml, hown, hts⟩ (c_X10_within l p0 3) (cwS 2 hts (gdS ml_X10_156 st_X10_within in_X10 co_X10_within rfl) rfl rfl rfl (by decide +kernel) ⟨Nat.le_of_ble_eq_true rfl, Nat.le_of_ble_eq_true rfl⟩) preEq rfl rfl hl.1 rfl (lv_room (Nat.le_of_ble_eq_true rfl)) dX10_reset_7 ⟨Nat.le_of_ble_eq_true rfl, Nat.le_of_ble_eq_true rfl⟩) ?_
  refine W.eq (g2 := F0 m 10 ls [.int (bI (0 ≤ p0.toInt ∧ p0.toInt ≤ (3 : Int32).toInt))]) (by rfl) ?_
  refine lv_if_ne (tgt := 15) hx hb dX10_reset_10 (by decide) (fun c_1 => ?_) (fun c_1 => ?_)
  · have c_1 := bI_n c_1
    have c_1r := c_1
    try simp only [lt_I, le_I, eq_I, i_0, i_1, i_2, i_3, i_4, i_5, i_6, i_7, i_8, i_10, i_12, i_16, i_20, i_23, i_24, i_31, i_32, i_63, i_64, i_m1, i_9, i_11, i_13, i_25, i_60, i_75, i_79, i_80, i_96, i_100] at c_1
    refine lv_aload_n hx hb dX10_reset_15 rfl (lv_at hl 0 rfl) ?_
    refine va_get (D := DG E) (ci := 10) (v := .ref (rf 10)) (C := RX10) (T := TX10) (N := 49) hx hb hts iw_X10 hown hK.1 (va_one hM.1) 0 rfl rfl 10 (by decide) (hts _ fl_X10_28) (fun _ h9 => h9) rfl dX10_reset_16 ?_
    refine lv_iload_n hx hb dX10_reset_19 rfl (lv_at hl 1 rfl) ?_
    refine lv_iconst (v := 0) hx hb dX10_reset_20 (by decide) ?_
    have hi_2 : vp_in p0 4 := vp_in_iff.mpr (by omega)
    have ha_3 : va_at (DG E) vwCl (rf 10, .inl (E.2.2 0, 4, .inl (A 10))) _ := hM.2 10 (by decide) (by decide) (by decide)
    obtain ⟨n_4, hn_4, en_4⟩ := s_nat (x := p0) (by omega)
    refine rr_iast (D := DG E) hx hb hK.1 0 ha_3 hS (by show G (rf 10) ≠ 0; rw [hR.2 10 (by decide) (by decide) (by decide)]; decide) rfl hi_2 dX10_reset_21 (fun H locs hn ho hz hS => ?_)
    rw [en_4] at hn
    obtain ⟨g_3, eg_3⟩ : ∃ z : Nat → Int32, z = upd (A 10) n_4 0 := ⟨_, rfl⟩
    have sg_3 : g_3 n_4 = 0 := by rw [eg_3]; exact upd_s
    have ng_3 : ∀ k, k ≠ n_4 → g_3 k = (A 10) k := fun k hk => by rw [eg_3]; exact upd_n hk
    have hn : va_at (DG E) vwCl (rf 10, .inl (E.2.2 0, 4, .inl g_3)) H := by rw [eg_3]; exact hn
    have hM : MH E h0 rf t0 t1 t2 (uA A 10 g_3) 0 pk H := hM.w hR 10 (by decide) (by decide) (by decide) hn ho
    refine lv_aload_n hx hb dX10_reset_22 rfl (lv_at hl 0 rfl) ?_
    refine va_get (D := DG E) (ci := 10) (v := .ref (rf 20)) (C := RX10) (T := TX10) (N := 49) hx hb hts iw_X10 hown hK.1 (va_one hM.1) 0 rfl rfl 20 (by decide) (hts _ fl_X10_59) (fun _ h9 => h9) rfl dX10_reset_23 ?_
    refine lv_iload_n hx hb dX10_reset_26 rfl (lv_at hl 1 rfl) ?_
    refine lv_iconst (v := 0) hx hb dX10_reset_27 (by decide) ?_
    have ha_5 : va_at (DG E) vwCl (rf 20, .inl (E.2.2 0, 4, .inl (A 20))) _ := hM.2 20 (by decide) (by decide) (by decide)
    refine rr_iast (D := DG E) hx hb hK.1 0 ha_5 hS (by show G (rf 20) ≠ 0; rw [hR.2 20 (by decide) (by decide) (by decide)]; decide) rfl hi_2 dX10_reset_28 (fun H locs hn ho hz hS => ?_)
    rw [en_4] at hn
    obtain ⟨g_5, eg_5⟩ : ∃ z : Nat → Int32, z = upd (A 20) n_4 0 := ⟨_, rfl⟩
    have sg_5 : g_5 n_4 = 0 := by rw [eg_5]; exact upd_s
    have ng_5 : ∀ k, k ≠ n_4 → g_5 k = (A 20) k := fun k hk => by rw [eg_5]; exact upd_n hk
    have hn : va_at (DG E) vwCl (rf 20, .inl (E.2.2 0, 4, .inl g_5)) H := by rw [eg_5]; exact hn
    have hM : MH E h0 rf t0 t1 t2 (uA (uA A 10 g_3) 20 g_5) 0 pk H := hM.w hR 20 (by decide) (by decide) (by decide) hn ho
    refine lv_aload_n hx hb dX10_reset_29 rfl (lv_at hl 0 rfl) ?_
    refine va_get (D := DG E) (ci := 10) (v := .ref (rf 21)) (C := RX10) (T := TX10) (N := 49) hx hb hts iw_X10 hown hK.1 (va_one hM.1) 0 rfl rfl 21 (by decide) (hts _ fl_X10_62) (fun _ h9 => h9) rfl dX10_reset_30 ?_
    refine lv_iload_n hx hb dX10_reset_33 rfl (lv_at hl 1 rfl) ?_
    refine lv_iconst (v := 0) hx hb dX10_reset_34 (by decide) ?_
    have ha_6 : va_at (DG E) vwCl (rf 21, .inl (E.2.2 0, 4, .inl (A 21))) _ := hM.2 21 (by decide) (by decide) (by decide)
    refine rr_iast (D := DG E) hx hb hK.1 0 ha_6 hS (by show G (rf 21) ≠ 0; rw [hR.2 21 (by decide) (by decide) (by decide)]; decide) rfl hi_2 dX10_reset_35 (fun H locs hn ho hz hS => ?_)
    rw [en_4] at hn
    obtain ⟨g_6, eg_6⟩ : ∃ z : Nat → Int32, z = upd (A 21) n_4 0 := ⟨_, rfl⟩
    have sg_6 : g_6 n_4 = 0 := by rw [eg_6]; exact upd_s
    have ng_6 : ∀ k, k ≠ n_4 → g_6 k = (A 21) k := fun k hk => by rw [eg_6]; exact upd_n hk
    have hn : va_at (DG E) vwCl (rf 21, .inl (E.2.2 0, 4, .inl g_6)) H := by rw [eg_6]; exact hn
    have hM : MH E h0 rf t0 t1 t2 (uA (uA (uA A 10 g_3) 20 g_5) 21 g_6) 0 pk H := hM.w hR 21 (by decide) (by decide) (by decide) hn ho
    refine lv_aload_n hx hb dX10_reset_36 rfl (lv_at hl 0 rfl) ?_
    refine va_get (D := DG E) (ci := 10) (v := .ref (rf 30)) (C := RX10) (T := TX10) (N := 49) hx hb hts iw_X10 hown hK.1 (va_one hM.1) 0 rfl rfl 30 (by decide) (hts _ fl_X10_89) (fun _ h9 => h9) rfl dX10_reset_37 ?_
    refine lv_iload_n hx hb dX10_reset_40 rfl (lv_at hl 1 rfl) ?_
    refine lv_iconst (v := 0) hx hb dX10_reset_41 (by decide) ?_
    have ha_7 : va_at (DG E) vwCl (rf 30, .inl (E.2.2 0, 4, .inl (A 30))) _ := hM.2 30 (by decide) (by decide) (by decide)
    refine rr_iast (D := DG E) hx hb hK.1 0 ha_7 hS (by show G (rf 30) ≠ 0; rw [hR.2 30 (by decide) (by decide) (by decide)]; decide) rfl hi_2 dX10_reset_42 (fun H locs hn ho hz hS => ?_)
    rw [en_4] at hn
    obtain ⟨g_7, eg_7⟩ : ∃ z : Nat → Int32, z = upd (A 30) n_4 0 := ⟨_, rfl⟩
    have sg_7 : g_7 n_4 = 0 := by rw [eg_7]; exact upd_s
    have ng_7 : ∀ k, k ≠ n_4 → g_7 k = (A 30) k := fun k hk => by rw [eg_7]; exact upd_n hk
    have hn : va_at (DG E) vwCl (rf 30, .inl (E.2.2 0, 4, .inl g_7)) H := by rw [eg_7]; exact hn
    have hM : MH E h0 rf t0 t1 t2 (uA (uA (uA (uA A 10 g_3) 20 g_5) 21 g_6) 30 g_7) 0 pk H := hM.w hR 30 (by decide) (by decide) (by decide) hn ho
    refine lv_aload_n hx hb dX10_reset_43 rfl (lv_at hl 0 rfl) ?_
    refine va_get (D := DG E) (ci := 10) (v := .ref (rf 31)) (C := RX10) (T := TX10) (N := 49) hx hb hts iw_X10 hown hK.1 (va_one hM.1) 0 rfl rfl 31 (by decide) (hts _ fl_X10_92) (fun _ h9 => h9) rfl dX10_reset_44 ?_
    refine lv_iload_n hx hb dX10_reset_47 rfl (lv_at hl 1 rfl) ?_
    refine lv_iconst (v := 0) hx hb dX10_reset_48 (by decide) ?_
    have ha_8 : va_at (DG E) vwCl (rf 31, .inl (E.2.2 0, 4, .inl (A 31))) _ := hM.2 31 (by decide) (by decide) (by decide)
    refine rr_iast (D := DG E) hx hb hK.1 0 ha_8 hS (by show G (rf 31) ≠ 0; rw [hR.2 31 (by decide) (by decide) (by decide)]; decide) rfl hi_2 dX10_reset_49 (fun H locs hn ho hz hS => ?_)
    rw [en_4] at hn
    obtain ⟨g_8, eg_8⟩ : ∃ z : Nat → Int32, z = upd (A 31) n_4 0 := ⟨_, rfl⟩
    have sg_8 : g_8 n_4 = 0 := by rw [eg_8]; exact upd_s
    have ng_8 : ∀ k, k ≠ n_4 → g_8 k = (A 31) k := fun k hk => by rw [eg_8]; exact upd_n hk
    have hn : va_at (DG E) vwCl (rf 31, .inl (E.2.2 0, 4, .inl g_8)) H := by rw [eg_8]; exact hn
    have hM : MH E h0 rf t0 t1 t2 (uA (uA (uA (uA (uA A 10 g_3) 20 g_5) 21 g_6) 30 g_7) 31 g_8) 0 pk H := hM.w hR 31 (by decide) (by decide) (by decide) hn ho
    refine lv_aload_n hx hb dX10_reset_50 rfl (lv_at hl 0 rfl) ?_
    refine va_get (D := DG E) (ci := 10) (v := .ref (rf 36)) (C := RX10) (T := TX10) (N := 49) hx hb hts iw_X10 hown hK.1 (va_one hM.1) 0 rfl rfl 36 (by decide) (hts _ fl_X10_107) (fun _ h9 => h9) rfl dX10_reset_51 ?_
    refine lv_iload_n hx hb dX10_reset_54 rfl (lv_at hl 1 rfl) ?_
    refine lv_iconst (v := 0) hx hb dX10_reset_55 (by decide) ?_
    have ha_9 : va_at (DG E) vwCl (rf 36, .inl (E.2.2 1, 4, .inl (A 36))) _ := hM.2 36 (by decide) (by decide) (by decide)
    refine rr_zast (D := DG E) hx hb hK.1 1 ha_9 hS (by show G (rf 36) ≠ 0; rw [hR.2 36 (by decide) (by decide) (by decide)]; decide) rfl hi_2 dX10_reset_56 (fun H locs hn ho hz hS => ?_)
    rw [en_4] at hn
    obtain ⟨g_9, eg_9⟩ : ∃ z : Nat → Int32, z = upd (A 36) n_4 0 := ⟨_, rfl⟩
    have sg_9 : g_9 n_4 = 0 := by rw [eg_9]; exact upd_s
    have ng_9 : ∀ k, k ≠ n_4 → g_9 k = (A 36) k := fun k hk => by rw [eg_9]; exact upd_n hk
    have hn : va_at (DG E) vwCl (rf 36, .inl (E.2.2 1, 4, .inl g_9)) H := by rw [eg_9]; exact hn
    have hM : MH E h0 rf t0 t1 t2 (uA (uA (uA (uA (uA (uA A 10 g_3) 20 g_5) 21 g_6) 30 g_7) 31 g_8) 36 g_9) 0 pk H := hM.w hR 36 (by decide) (by decide) (by decide) hn ho
    refine lv_aload_n hx hb dX10_reset_57 rfl (lv_at hl 0 rfl) ?_
    refine va_get (D := DG E) (ci := 10) (v := .ref (rf 19)) (C := RX10) (T := TX10) (N := 49) hx hb hts iw_X10 hown hK.1 (va_one hM.1) 0 rfl rfl 19 (by decide) (hts _ fl_X10_56) (fun _ h9 => h9) rfl dX10_reset_58 ?_
    refine lv_iload_n hx hb dX10_reset_61 rfl (lv_at hl 1 rfl) ?_
    refine lv_iconst (v := 0) hx hb dX10_reset_62 (by decide) ?_
    have ha_10 : va_at (DG E) vwCl (rf 19, .inl (E.2.2 1, 4, .inl (A 19))) _ := hM.2 19 (by decide) (by decide) (by decide)
    refine rr_zast (D := DG E) hx hb hK.1 1 ha_10 hS (by show G (rf 19) ≠ 0; rw [hR.2 19 (by decide) (by decide) (by decide)]; decide) rfl hi_2 dX10_reset_63 (fun H locs hn ho hz hS => ?_)
    rw [en_4] at hn
    obtain ⟨g_10, eg_10⟩ : ∃ z : Nat → Int32, z = upd (A 19) n_4 0 := ⟨_, rfl⟩
    have sg_10 : g_10 n_4 = 0 := by rw [eg_10]; exact upd_s
    have ng_10 : ∀ k, k ≠ n_4 → g_10 k = (A 19) k := fun k hk => by rw [eg_10]; exact upd_n hk
    have hn : va_at (DG E) vwCl (rf 19, .inl (E.2.2 1, 4, .inl g_10)) H := by rw [eg_10]; exact hn
    have hM : MH E h0 rf t0 t1 t2 (uA (uA (uA (uA (uA (uA (uA A 10 g_3) 20 g_5) 21 g_6) 30 g_7) 31 g_8) 36 g_9) 19 g_10) 0 pk H := hM.w hR 19 (by decide) (by decide) (by decide) hn ho
    refine lv_aload_n hx hb dX10_reset_64 rfl (lv_at hl 0 rfl) ?_
    refine va_get (D := DG E) (ci := 10) (v := .ref (rf 18)) (C := RX10) (T := TX10) (N := 49) hx hb hts iw_X10 hown hK.1 (va_one hM.1) 0 rfl rfl 18 (by decide) (hts _ fl_X10_52) (fun _ h9 => h9) rfl dX10_reset_65 ?_
    refine lv_iload_n hx hb dX10_reset_68 rfl (lv_at hl 1 rfl) ?_
    refine lv_iconst (v := 0) hx hb dX10_reset_69 (by decide) ?_
    have ha_11 : va_at (DG E) vwCl (rf 18, .inl (E.2.2 1, 4, .inl (A 18))) _ := hM.2 18 (by decide) (by decide) (by decide)
    refine rr_zast (D := DG E) hx hb hK.1 1 ha_11 hS (by show G (rf 18) ≠ 0; rw [hR.2 18 (by decide) (by decide) (by decide)]; decide) rfl hi_2 dX10_reset_70 (fun H locs hn ho hz hS => ?_)
    rw [en_4] at hn
    obtain ⟨g_11, eg_11⟩ : ∃ z : Nat → Int32, z = upd (A 18) n_4 0 := ⟨_, rfl⟩
    have sg_11 : g_11 n_4 = 0 := by rw [eg_11]; exact upd_s
    have ng_11 : ∀ k, k ≠ n_4 → g_11 k = (A 18) k := fun k hk => by rw [eg_11]; exact upd_n hk
    have hn : va_at (DG E) vwCl (rf 18, .inl (E.2.2 1, 4, .inl g_11)) H := by rw [eg_11]; exact hn
    have hM : MH E h0 rf t0 t1 t2 (uA (uA (uA (uA (uA (uA (uA (uA A 10 g_3) 20 g_5) 21 g_6) 30 g_7) 31 g_8) 36 g_9) 19 g_10) 18 g_11) 0 pk H := hM.w hR 18 (by decide) (by decide) (by decide) hn ho
    refine lv_aload_n hx hb dX10_reset_71 rfl (lv_at hl 0 rfl) ?_
    refine va_get (D := DG E) (ci := 10) (v := .ref (rf 15)) (C := RX10) (T := TX10) (N := 49) hx hb hts iw_X10 hown hK.1 (va_one hM.1) 0 rfl rfl 15 (by decide) (hts _ fl_X10_43) (fun _ h9 => h9) rfl dX10_reset_72 ?_
    refine lv_iload_n hx hb dX10_reset_75 rfl (lv_at hl 1 rfl) ?_
    refine lv_iconst (v := 0) hx hb dX10_reset_76 (by decide) ?_
    have ha_12 : va_at (DG E) vwCl (rf 15, .inl (E.2.2 0, 4, .inl (A 15))) _ := hM.2 15 (by decide) (by decide) (by decide)
    refine rr_iast (D := DG E) hx hb hK.1 0 ha_12 hS (by show G (rf 15) ≠ 0; rw [hR.2 15 (by decide) (by decide) (by decide)]; decide) rfl hi_2 dX10_reset_77 (fun H locs hn ho hz hS => ?_)
    rw [en_4] at hn
    obtain ⟨g_12, eg_12⟩ : ∃ z : Nat → Int32, z = upd (A 15) n_4 0 := ⟨_, rfl⟩
    have sg_12 : g_12 n_4 = 0 := by rw [eg_12]; exact upd_s
    have ng_12 : ∀ k, k ≠ n_4 → g_12 k = (A 15) k := fun k hk => by rw [eg_12]; exact upd_n hk
    have hn : va_at (DG E) vwCl (rf 15, .inl (E.2.2 0, 4, .inl g_12)) H := by rw [eg_12]; exact hn
    have hM : MH E h0 rf t0 t1 t2 (uA (uA (uA (uA (uA (uA (uA (uA (uA A 10 g_3) 20 g_5) 21 g_6) 30 g_7) 31 g_8) 36 g_9) 19 g_10) 18 g_11) 15 g_12) 0 pk H := hM.w hR 15 (by decide) (by decide) (by decide) hn ho
    refine lv_aload_n hx hb dX10_reset_78 rfl (lv_at hl 0 rfl) ?_
    refine va_get (D := DG E) (ci := 10) (v := .ref (rf 16)) (C := RX10) (T := TX10) (N := 49) hx hb hts iw_X10 hown hK.1 (va_one hM.1) 0 rfl rfl 16 (by decide) (hts _ fl_X10_46) (fun _ h9 => h9) rfl dX10_reset_79 ?_
    refine lv_iload_n hx hb dX10_reset_82 rfl (lv_at hl 1 rfl) ?_
    refine lv_iconst (v := 0) hx hb dX10_reset_83 (by decide) ?_
    have ha_13 : va_at (DG E) vwCl (rf 16, .inl (E.2.2 0, 4, .inl (A 16))) _ := hM.2 16 (by decide) (by decide) (by decide)
    refine rr_iast (D := DG E) hx hb hK.1 0 ha_13 hS (by show G (rf 16) ≠ 0; rw [hR.2 16 (by decide) (by decide) (by decide)]; decide) rfl hi_2 dX10_reset_84 (fun H locs hn ho hz hS => ?_)
    rw [en_4] at hn
    obtain ⟨g_13, eg_13⟩ : ∃ z : Nat → Int32, z = upd (A 16) n_4 0 := ⟨_, rfl⟩
    have sg_13 : g_13 n_4 = 0 := by rw [eg_13]; exact upd_s
    have ng_13 : ∀ k, k ≠ n_4 → g_13 k = (A 16) k := fun k hk => by rw [eg_13]; exact upd_n hk
    have hn : va_at (DG E) vwCl (rf 16, .inl (E.2.2 0, 4, .inl g_13)) H := by rw [eg_13]; exact hn
    have hM : MH E h0 rf t0 t1 t2 (uA (uA (uA (uA (uA (uA (uA (uA (uA (uA A 10 g_3) 20 g_5) 21 g_6) 30 g_7) 31 g_8) 36 g_9) 19 g_10) 18 g_11) 15 g_12) 16 g_13) 0 pk H := hM.w hR 16 (by decide) (by decide) (by decide) hn ho
    refine lv_aload_n hx hb dX10_reset_85 rfl (lv_at hl 0 rfl) ?_
    refine va_get (D := DG E) (ci := 10) (v := .ref (rf 17)) (C := RX10) (T := TX10) (N := 49) hx hb hts iw_X10 hown hK.1 (va_one hM.1) 0 rfl rfl 17 (by decide) (hts _ fl_X10_49) (fun _ h9 => h9) rfl dX10_reset_86 ?_
    refine lv_iload_n hx hb dX10_reset_89 rfl (lv_at hl 1 rfl) ?_
    refine lv_iconst (v := 0) hx hb dX10_reset_90 (by decide) ?_
    have ha_14 : va_at (DG E) vwCl (rf 17, .inl (E.2.2 0, 4, .inl (A 17))) _ := hM.2 17 (by decide) (by decide) (by decide)
    refine rr_iast (D := DG E) hx hb hK.1 0 ha_14 hS (by show G (rf 17) ≠ 0; rw [hR.2 17 (by decide) (by decide) (by decide)]; decide) rfl hi_2 dX10_reset_91 (fun H locs hn ho hz hS => ?_)
    rw [en_4] at hn
    obtain ⟨g_14, eg_14⟩ : ∃ z : Nat → Int32, z = upd (A 17) n_4 0 := ⟨_, rfl⟩
    have sg_14 : g_14 n_4 = 0 := by rw [eg_14]; exact upd_s
    have ng_14 : ∀ k, k ≠ n_4 → g_14 k = (A 17) k := fun k hk => by rw [eg_14]; exact upd_n hk
    have hn : va_at (DG E) vwCl (rf 17, .inl (E.2.2 0, 4, .inl g_14)) H := by rw [eg_14]; exact hn
    have hM : MH E h0 rf t0 t1 t2 (uA (uA (uA (uA (uA (uA (uA (uA (uA (uA (uA A 10 g_3) 20 g_5) 21 g_6) 30 g_7) 31 g_8) 36 g_9) 19 g_10) 18 g_11) 15 g_12) 16 g_13) 17 g_14) 0 pk H := hM.w hR 17 (by decide) (by decide) (by decide) hn ho
    refine lv_aload_n hx hb dX10_reset_92 rfl (lv_at hl 0 rfl) ?_
    refine va_get (D := DG E) (ci := 10) (v := .ref (rf 37)) (C := RX10) (T := TX10) (N := 49) hx hb hts iw_X10 hown hK.1 (va_one hM.1) 0 rfl rfl 37 (by decide) (hts _ fl_X10_110) (fun _ h9 => h9) rfl dX10_reset_93 ?_
    refine lv_iload_n hx hb dX10_reset_96 rfl (lv_at hl 1 rfl) ?_
    refine lv_iconst (v := 0) hx hb dX10_reset_97 (by decide) ?_
    have ha_15 : va_at (DG E) vwCl (rf 37, .inl (E.2.2 0, 4, .inl (A 37))) _ := hM.2 37 (by decide) (by decide) (by decide)
    refine rr_iast (D := DG E) hx hb hK.1 0 ha_15 hS (by show G (rf 37) ≠ 0; rw [hR.2 37 (by decide) (by decide) (by decide)]; decide) rfl hi_2 dX10_reset_98 (fun H locs hn ho hz hS => ?_)
    rw [en_4] at hn
    obtain ⟨g_15, eg_15⟩ : ∃ z : Nat → Int32, z = upd (A 37) n_4 0 := ⟨_, rfl⟩
    have sg_15 : g_15 n_4 = 0 := by rw [eg_15]; exact upd_s
    have ng_15 : ∀ k, k ≠ n_4 → g_15 k = (A 37) k := fun k hk => by rw [eg_15]; exact upd_n hk
    have hn : va_at (DG E) vwCl (rf 37, .inl (E.2.2 0, 4, .inl g_15)) H := by rw [eg_15]; exact hn
    have hM : MH E h0 rf t0 t1 t2 (uA (uA (uA (uA (uA (uA (uA (uA (uA (uA (uA (uA A 10 g_3) 20 g_5) 21 g_6) 30 g_7) 31 g_8) 36 g_9) 19 g_10) 18 g_11) 15 g_12) 16 g_13) 17 g_14) 37 g_15) 0 pk H := hM.w hR 37 (by decide) (by decide) (by decide) hn ho
    refine lv_iconst (v := 1) hx hb dX10_reset_99 (by decide) ?_
    have hI4_16 : I4 g_3 g_5 (A 29) (A 24) (A 11) (A 12) (A 13) := by
      intro k hk
      by_cases e : k = n_4
      · rw [e]
        refine ⟨fun hs => absurd hs (by rw [sg_3]; decide), Or.inr (by rw [sg_5]; decide)⟩
      · exact (hI4 k hk).cg (ng_3 k e) (ng_5 k e) (fun _ _ => rfl) (fun _ _ => rfl) rfl rfl rfl
    have hI8_17 : I8 g_5 g_7 g_15 g_9 := by
      intro n9 hn9
      have h9 : 0 ≤ ((A 20) n9).toInt ∧ ((A 20) n9).toInt ≤ 4 ∧ 0 ≤ ((A 30) n9).toInt ∧ ((A 30) n9).toInt ≤ 4 ∧ 0 ≤ ((A 37) n9).toInt ∧ ((A 37) n9).toInt ≤ 2 ∧ (((A 36) n9).toInt = 0 ∨ 1 ≤ ((A 30) n9).toInt) := hI8 n9 hn9
      show 0 ≤ (g_5 n9).toInt ∧ (g_5 n9).toInt ≤ 4 ∧ 0 ≤ (g_7 n9).toInt ∧ (g_7 n9).toInt ≤ 4 ∧ 0 ≤ (g_15 n9).toInt ∧ (g_15 n9).toInt ≤ 2 ∧ ((g_9 n9).toInt = 0 ∨ 1 ≤ (g_7 n9).toInt)
      by_cases ezn_4 : n9 = n_4
      · rw [ezn_4] at h9 ⊢
        rw [sg_5]
        rw [sg_7]
        rw [sg_15]
        rw [sg_9]
        have := i_0
        clear h9
        exact ⟨by omega, by omega, by omega, by omega, by omega, by omega, by omega⟩
      · rw [ng_5 n9 ezn_4]
        rw [ng_7 n9 ezn_4]
        rw [ng_15 n9 ezn_4]
        rw [ng_9 n9 ezn_4]
        exact h9
    exact W.zret (v := 1) (ty := .boolean) hx hb hr rfl (fun t ht hW => ⟨⟨1, (g_3, g_12, g_13, g_14, g_11, g_10, g_5, g_6, g_7, g_8, g_9, g_15, 0), rfl, ⟨hI4_16, hI8_17, (show (1 : Int32) = bI (0 ≤ p0.toInt ∧ p0.toInt < 4) from (by rw [bI_t (by omega)])), (Or.inl ⟨c_1r, n_4, hn_4, g_3, eg_3, g_5, eg_5, g_6, eg_6, g_7, eg_7, g_8, eg_8, g_9, eg_9, g_10, eg_10, g_11, eg_11, g_12, eg_12, g_13, eg_13, g_14, eg_14, g_15, eg_15, rfl, rfl, rfl, rfl⟩)⟩, (by show MH E h0 rf t0 t1 t2 (uA (uA (uA (uA (uA (uA (uA (uA (uA (uA (uA (uA A 10 g_3) 15 g_12) 16 g_13) 17 g_14) 18 g_11) 19 g_10) 20 g_5) 21 g_6) 30 g_7) 31 g_8) 36 g_9) 37 g_15) 0 pk t.heap; rw [ht]; exact hM.cge (funext fun j => (cgj j 37 rfl (fun a0 => (cgj j 36 rfl (fun a1 => (cgj j 31 rfl (fun a2 => (cgj j 30 rfl (fun a3 => (cgj j 21 rfl (fun a4 => (cgj j 20 rfl (fun a5 => (cgj j 19 rfl (fun a6 => (cgj j 18 rfl (fun a7 => (cgj j 17 rfl (fun a8 => (cgj j 16 rfl (fun a9 => (cgj j 15 rfl (fun a10 => (cgj j 10 rfl (fun a11 => (by simp only [uA_n a0, uA_n a1, uA_n a2, uA_n a3, uA_n a4, uA_n a5, uA_n a6, uA_n a7, uA_n a8, uA_n a9, uA_n a10, uA_n a11])))))))))))))))))))))))))))⟩, hS.F ht⟩) hS.2.2 dX10_reset_100
  · have c_1 := bI_0 c_1
    have c_1r := c_1
    try simp only [lt_I, le_I, eq_I, i_0, i_1, i_2, i_3, i_4, i_5, i_6, i_7, i_8, i_10, i_12, i_16, i_20, i_23, i_24, i_31, i_32, i_63, i_64, i_m1, i_9, i_11, i_13, i_25, i_60, i_75, i_79, i_80, i_96, i_100] at c_1
    refine lv_iconst (v := 0) hx hb dX10_reset_13 (by decide) ?_
    exact W.zret (v := 0) (ty := .boolean) hx hb hr rfl (fun t ht hW => ⟨⟨0, ((A 10), (A 15), (A 16), (A 17), (A 18), (A 19), (A 20), (A 21), (A 30), (A 31), (A 36), (A 37), 0), rfl, ⟨hI4, hI8, (show (0 : Int32) = bI (0 ≤ p0.toInt ∧ p0.toInt < 4) from (by rw [bI_f (by omega)])), (Or.inr ⟨c_1r, rfl, rfl, rfl, rfl⟩)⟩, (by show MH E h0 rf t0 t1 t2 (uA (uA (uA (uA (uA (uA (uA (uA (uA (uA (uA (uA A 10 (A 10)) 15 (A 15)) 16 (A 16)) 17 (A 17)) 18 (A 18)) 19 (A 19)) 20 (A 20)) 21 (A 21)) 30 (A 30)) 31 (A 31)) 36 (A 36)) 37 (A 37)) 0 pk t.heap; rw [ht]; exact hM.cge (funext fun j => (cgj j 37 rfl (fun a0 => (cgj j 36 rfl (fun a1 => (cgj j 31 rfl (fun a2 => (cgj j 30 rfl (fun a3 => (cgj j 21 rfl (fun a4 => (cgj j 20 rfl (fun a5 => (cgj j 19 rfl (fun a6 => (cgj j 18 rfl (fun a7 => (cgj j 17 rfl (fun a8 => (cgj j 16 rfl (fun a9 => (cgj j 15 rfl (fun a10 => (cgj j 10 rfl (fun a11 => (by simp only [uA_n a0, uA_n a1, uA_n a2, uA_n a3, uA_n a4, uA_n a5, uA_n a6, uA_n a7, uA_n a8, uA_n a9, uA_n a10, uA_n a11])))))))))))))))))))))))))))⟩, hS.F ht⟩) hS.2.2 dX10_reset_14
theorem dX10_packets_0 : decode cX10_packets 0 = .ok (.aload_n 0, 1) := by decide +kernel
theorem dX10_packets_1 : decode cX10_packets 1 = .ok (.iconst 0, 1) := by decide +kernel
theorem dX10_packets_2 : decode cX10_packets 2 = .ok (.putfield 153, 3) := by decide +kernel
theorem dX10_packets_5 : decode cX10_packets 5 = .ok (.aload_n 0, 1) := by decide +kernel
theorem dX10_packets_6 : decode cX10_packets 6 = .ok (.getfield 164, 3) := by decide +kernel
theorem dX10_packets_9 : decode cX10_packets 9 = .ok (.ireturn, 1) := by decide +kernel
set_option maxHeartbeats 8000000 in
set_option maxRecDepth 100000 in
theorem u_X10_packets (l : Launch) (E : EE) (z0 : Nat) (G : Nat → Nat) (hGz : ∀ q, G q ≠ 0 → z0 ≤ q) (h0 : Nat) (rf : Nat → Nat) (hR : MG G h0 rf) (t0 t1 t2 : Int32) (A : AA) (cd pk : Int32)  : Met l yX10_packets [Cond.code yX10_packets cX10_packets 1 (some .int)] ({ frames := 0, cells := 0, slots := 0, locals := 0 } : Room) (va_Pc [.ref h0] (fun U => MH E h0 rf t0 t1 t2 A cd pk U.heap ∧ KS E z0 U)) (va_Qi (fun (r : Int32) (u : Int32) => D_X10_packets A cd pk A (u) pk r) (fun u t => MH E h0 rf t0 t1 t2 A (u) pk t.heap) (fun q : Nat => G q ≠ 0)) 0 0 (fun q : Nat => G q ≠ 0) := by
  refine Met.ofW (cc := cX10_packets) (maxL := 1) (ret := (some .int)) (by decide) rfl ?_
  intro p e s m args below meth c s₁ B hml hv
  obtain ⟨rfl, hM, hK⟩ := hv
  have hx := B.exec
  have hb := B.bytes
  have hr := B.returns
  have hts : ∀ w ∈ TS, w.before ([.ref h0] : List Value).toArray s = true := fun w hw => hK.2.1 w hw _
  have hown : s.vm.findClass RX10 = some m.cls := findClass_of_methodNamed B.named
  have hlocks := B.notSynchronized
  have hS : va_S (fun q : Nat => G q ≠ 0) s.heap s.heap [] := va_S.rf
  have hAz : ∀ q, (fun q : Nat => G q ≠ 0) q → z0 ≤ q := hGz
  have hl := lv_entry ([.ref h0]) (n := 1) (Nat.le_of_ble_eq_true rfl)
  rw [lg_entry_eq]
  generalize (lg_sl ([.ref h0]) ++ List.replicate (1 - (lg_sl ([.ref h0])).length) Slot.unset).toArray = ls at hl ⊢
  have hl : lv_has ls 1 [(0, .ref h0)] := hl
  refine lv_aload_n hx hb dX10_packets_0 rfl (lv_at hl 0 rfl) ?_
  refine lv_iconst (v := 0) hx hb dX10_packets_1 (by decide) ?_
  refine rr_put (D := DG E) (ci := 10) (v := .int 0) (ty := .int) (C := RX10) (T := TX10) (N := 49) hx hb hts iw_X10 tyX10 tyX10_ok nmX10 hown hK.1 hM.1 hS (by show G h0 ≠ 0; rw [hR.1]; decide) rfl 3 (by decide) (hts _ fl_X10_153) (fun _ h9 => h9) rfl (by decide +kernel) rfl rfl (Nat.le_of_ble_eq_true rfl) dX10_packets_2 (fun H locs hn ho hz hS => ?_)
  have hM : MH E h0 rf t0 t1 t2 A 0 pk H := hM.sc hR hn ho
  refine lv_aload_n hx hb dX10_packets_5 rfl (lv_at hl 0 rfl) ?_
  refine va_get (D := DG E) (ci := 10) (v := .int pk) (C := RX10) (T := TX10) (N := 49) hx hb hts iw_X10 hown hK.1 (va_one hM.1) 0 rfl rfl 40 (by decide) (hts _ fl_X10_164) (fun _ h9 => h9) rfl dX10_packets_6 ?_
  exact W.iret (v := pk) hx hb hr (fun t ht hW => ⟨⟨pk, 0, rfl, ⟨rfl, rfl, rfl, rfl⟩, (by show MH E h0 rf t0 t1 t2 A 0 pk t.heap; rw [ht]; exact hM)⟩, hS.F ht⟩) hS.2.2 dX10_packets_9
theorem gdX10_packet_0 : (decode cX10_packet 0 = .ok (.aload_n 0, 1)) ∧ (decode cX10_packet 1 = .ok (.iconst 0, 1)) ∧ (decode cX10_packet 2 = .ok (.putfield 153, 3)) ∧ (decode cX10_packet 5 = .ok (.iload_n 1, 1)) ∧ (decode cX10_packet 6 = .ok (.ifCond .lt 11, 3)) ∧ (decode cX10_packet 9 = .ok (.iload_n 1, 1)) ∧ (decode cX10_packet 10 = .ok (.aload_n 0, 1)) ∧ (decode cX10_packet 11 = .ok (.getfield 164, 3)) ∧ (decode cX10_packet 14 = .ok (.if_icmp .lt 5, 3)) ∧ (decode cX10_packet 17 = .ok (.iconst (-1), 1)) ∧ (decode cX10_packet 18 = .ok (.ireturn, 1)) ∧ (decode cX10_packet 19 = .ok (.iload_n 2, 1)) ∧ (decode cX10_packet 20 = .ok (.tableswitch 82 0 5 #[40, 47, 54, 61, 68, 75], 40)) ∧ (decode cX10_packet 60 = .ok (.aload_n 0, 1)) ∧ (decode cX10_packet 61 = .ok (.getfield 119, 3)) ∧ (decode cX10_packet 64 = .ok (.iload_n 1, 1)) := by decide +kernel
theorem dX10_packet_0 : decode cX10_packet 0 = .ok (.aload_n 0, 1) := gdX10_packet_0.1
theorem dX10_packet_1 : decode cX10_packet 1 = .ok (.iconst 0, 1) := gdX10_packet_0.2.1
theorem dX10_packet_2 : decode cX10_packet 2 = .ok (.putfield 153, 3) := gdX10_packet_0.2.2.1
theorem dX10_packet_5 : decode cX10_packet 5 = .ok (.iload_n 1, 1) := gdX10_packet_0.2.2.2.1
theorem dX10_packet_6 : decode cX10_packet 6 = .ok (.ifCond .lt 11, 3) := gdX10_packet_0.2.2.2.2.1
theorem dX10_packet_9 : decode cX10_packet 9 = .ok (.iload_n 1, 1) := gdX10_packet_0.2.2.2.2.2.1
theorem dX10_packet_10 : decode cX10_packet 10 = .ok (.aload_n 0, 1) := gdX10_packet_0.2.2.2.2.2.2.1
theorem dX10_packet_11 : decode cX10_packet 11 = .ok (.getfield 164, 3) := gdX10_packet_0.2.2.2.2.2.2.2.1
theorem dX10_packet_14 : decode cX10_packet 14 = .ok (.if_icmp .lt 5, 3) := gdX10_packet_0.2.2.2.2.2.2.2.2.1
theorem dX10_packet_17 : decode cX10_packet 17 = .ok (.iconst (-1), 1) := gdX10_packet_0.2.2.2.2.2.2.2.2.2.1
theorem dX10_packet_18 : decode cX10_packet 18 = .ok (.ireturn, 1) := gdX10_packet_0.2.2.2.2.2.2.2.2.2.2.1
theorem dX10_packet_19 : decode cX10_packet 19 = .ok (.iload_n 2, 1) := gdX10_packet_0.2.2.2.2.2.2.2.2.2.2.2.1
theorem dX10_packet_20 : decode cX10_packet 20 = .ok (.tableswitch 82 0 5 #[40, 47, 54, 61, 68, 75], 40) := gdX10_packet_0.2.2.2.2.2.2.2.2.2.2.2.2.1
theorem dX10_packet_60 : decode cX10_packet 60 = .ok (.aload_n 0, 1) := gdX10_packet_0.2.2.2.2.2.2.2.2.2.2.2.2.2.1
theorem dX10_packet_61 : decode cX10_packet 61 = .ok (.getfield 119, 3) := gdX10_packet_0.2.2.2.2.2.2.2.2.2.2.2.2.2.2.1
theorem dX10_packet_64 : decode cX10_packet 64 = .ok (.iload_n 1, 1) := gdX10_packet_0.2.2.2.2.2.2.2.2.2.2.2.2.2.2.2
theorem gdX10_packet_65 : (decode cX10_packet 65 = .ok (.iaload, 1)) ∧ (decode cX10_packet 66 = .ok (.ireturn, 1)) ∧ (decode cX10_packet 67 = .ok (.aload_n 0, 1)) ∧ (decode cX10_packet 68 = .ok (.getfield 122, 3)) ∧ (decode cX10_packet 71 = .ok (.iload_n 1, 1)) ∧ (decode cX10_packet 72 = .ok (.iaload, 1)) ∧ (decode cX10_packet 73 = .ok (.ireturn, 1)) ∧ (decode cX10_packet 74 = .ok (.aload_n 0, 1)) ∧ (decode cX10_packet 75 = .ok (.getfield 125, 3)) ∧ (decode cX10_packet 78 = .ok (.iload_n 1, 1)) ∧ (decode cX10_packet 79 = .ok (.iaload, 1)) ∧ (decode cX10_packet 80 = .ok (.ireturn, 1)) ∧ (decode cX10_packet 81 = .ok (.aload_n 0, 1)) ∧ (decode cX10_packet 82 = .ok (.getfield 128, 3)) ∧ (decode cX10_packet 85 = .ok (.iload_n 1, 1)) ∧ (decode cX10_packet 86 = .ok (.iaload, 1)) := by decide +kernel
theorem dX10_packet_65 : decode cX10_packet 65 = .ok (.iaload, 1) := gdX10_packet_65.1
theorem dX10_packet_66 : decode cX10_packet 66 = .ok (.ireturn, 1) := gdX10_packet_65.2.1
theorem dX10_packet_67 : decode cX10_packet 67 = .ok (.aload_n 0, 1) := gdX10_packet_65.2.2.1
theorem dX10_packet_68 : decode cX10_packet 68 = .ok (.getfield 122, 3) := gdX10_packet_65.2.2.2.1
theorem dX10_packet_71 : decode cX10_packet 71 = .ok (.iload_n 1, 1) := gdX10_packet_65.2.2.2.2.1
theorem dX10_packet_72 : decode cX10_packet 72 = .ok (.iaload, 1) := gdX10_packet_65.2.2.2.2.2.1
theorem dX10_packet_73 : decode cX10_packet 73 = .ok (.ireturn, 1) := gdX10_packet_65.2.2.2.2.2.2.1
theorem dX10_packet_74 : decode cX10_packet 74 = .ok (.aload_n 0, 1) := gdX10_packet_65.2.2.2.2.2.2.2.1
theorem dX10_packet_75 : decode cX10_packet 75 = .ok (.getfield 125, 3) := gdX10_packet_65.2.2.2.2.2.2.2.2.1
theorem dX10_packet_78 : decode cX10_packet 78 = .ok (.iload_n 1, 1) := gdX10_packet_65.2.2.2.2.2.2.2.2.2.1
theorem dX10_packet_79 : decode cX10_packet 79 = .ok (.iaload, 1) := gdX10_packet_65.2.2.2.2.2.2.2.2.2.2.1
theorem dX10_packet_80 : decode cX10_packet 80 = .ok (.ireturn, 1) := gdX10_packet_65.2.2.2.2.2.2.2.2.2.2.2.1
theorem dX10_packet_81 : decode cX10_packet 81 = .ok (.aload_n 0, 1) := gdX10_packet_65.2.2.2.2.2.2.2.2.2.2.2.2.1
theorem dX10_packet_82 : decode cX10_packet 82 = .ok (.getfield 128, 3) := gdX10_packet_65.2.2.2.2.2.2.2.2.2.2.2.2.2.1
theorem dX10_packet_85 : decode cX10_packet 85 = .ok (.iload_n 1, 1) := gdX10_packet_65.2.2.2.2.2.2.2.2.2.2.2.2.2.2.1
theorem dX10_packet_86 : decode cX10_packet 86 = .ok (.iaload, 1) := gdX10_packet_65.2.2.2.2.2.2.2.2.2.2.2.2.2.2.2
theorem gdX10_packet_87 : (decode cX10_packet 87 = .ok (.ireturn, 1)) ∧ (decode cX10_packet 88 = .ok (.aload_n 0, 1)) ∧ (decode cX10_packet 89 = .ok (.getfield 131, 3)) ∧ (decode cX10_packet 92 = .ok (.iload_n 1, 1)) ∧ (decode cX10_packet 93 = .ok (.iaload, 1)) ∧ (decode cX10_packet 94 = .ok (.ireturn, 1)) ∧ (decode cX10_packet 95 = .ok (.aload_n 0, 1)) ∧ (decode cX10_packet 96 = .ok (.getfield 134, 3)) ∧ (decode cX10_packet 99 = .ok (.iload_n 1, 1)) ∧ (decode cX10_packet 100 = .ok (.iaload, 1)) ∧ (decode cX10_packet 101 = .ok (.ireturn, 1)) ∧ (decode cX10_packet 102 = .ok (.iconst (-1), 1)) ∧ (decode cX10_packet 103 = .ok (.ireturn, 1)) := by decide +kernel
theorem dX10_packet_87 : decode cX10_packet 87 = .ok (.ireturn, 1) := gdX10_packet_87.1
theorem dX10_packet_88 : decode cX10_packet 88 = .ok (.aload_n 0, 1) := gdX10_packet_87.2.1
theorem dX10_packet_89 : decode cX10_packet 89 = .ok (.getfield 131, 3) := gdX10_packet_87.2.2.1
theorem dX10_packet_92 : decode cX10_packet 92 = .ok (.iload_n 1, 1) := gdX10_packet_87.2.2.2.1
theorem dX10_packet_93 : decode cX10_packet 93 = .ok (.iaload, 1) := gdX10_packet_87.2.2.2.2.1
theorem dX10_packet_94 : decode cX10_packet 94 = .ok (.ireturn, 1) := gdX10_packet_87.2.2.2.2.2.1
theorem dX10_packet_95 : decode cX10_packet 95 = .ok (.aload_n 0, 1) := gdX10_packet_87.2.2.2.2.2.2.1
theorem dX10_packet_96 : decode cX10_packet 96 = .ok (.getfield 134, 3) := gdX10_packet_87.2.2.2.2.2.2.2.1
theorem dX10_packet_99 : decode cX10_packet 99 = .ok (.iload_n 1, 1) := gdX10_packet_87.2.2.2.2.2.2.2.2.1
theorem dX10_packet_100 : decode cX10_packet 100 = .ok (.iaload, 1) := gdX10_packet_87.2.2.2.2.2.2.2.2.2.1
theorem dX10_packet_101 : decode cX10_packet 101 = .ok (.ireturn, 1) := gdX10_packet_87.2.2.2.2.2.2.2.2.2.2.1
theorem dX10_packet_102 : decode cX10_packet 102 = .ok (.iconst (-1), 1) := gdX10_packet_87.2.2.2.2.2.2.2.2.2.2.2.1
theorem dX10_packet_103 : decode cX10_packet 103 = .ok (.ireturn, 1) := gdX10_packet_87.2.2.2.2.2.2.2.2.2.2.2.2
set_option maxHeartbeats 8000000 in
set_option maxRecDepth 100000 in
theorem u_X10_packet (l : Launch) (E : EE) (z0 : Nat) (G : Nat → Nat) (hGz : ∀ q, G q ≠ 0 → z0 ≤ q) (h0 : Nat) (rf : Nat → Nat) (hR : MG G h0 rf) (t0 t1 t2 : Int32) (A : AA) (cd pk : Int32) (p0 : Int32) (p1 : Int32) (hy0 : 0 ≤ pk.toInt ∧ pk.toInt ≤ 24) : Met l yX10_packet [Cond.code yX10_packet cX10_packet 3 (some .int)] ({ frames := 0, cells := 0, slots := 0, locals := 0 } : Room) (va_Pc [.ref h0, .int p0, .int p1] (fun U => MH E h0 rf t0 t1 t2 A cd pk U.heap ∧ KS E z0 U)) (va_Qi (fun (r : Int32) (u : Int32) => D_X10_packet A cd pk p0 p1 A (u) pk r) (fun u t => MH E h0 rf t0 t1 t2 A (u) pk t.heap) (fun q : Nat => G q ≠ 0)) 0 0 (fun q : Nat => G q ≠ 0) := by
  refine Met.ofW (cc := cX10_packet) (maxL := 3) (ret := (some .int)) (by decide) rfl ?_
  intro p e s m args below meth c s₁ B hml hv
  obtain ⟨rfl, hM, hK⟩ := hv
  have hx := B.exec
  have hb := B.bytes
  have hr := B.returns
  have hts : ∀ w ∈ TS, w.before ([.ref h0, .int p0, .int p1] : List Value).toArray s = true := fun w hw => hK.2.1 w hw _
  have hown : s.vm.findClass RX10 = some m.cls := findClass_of_methodNamed B.named
  have hlocks := B.notSynchronized
  have hS : va_S (fun q : Nat => G q ≠ 0) s.heap s.heap [] := va_S.rf
  have hAz : ∀ q, (fun q : Nat => G q ≠ 0) q → z0 ≤ q := hGz
  have hl := lv_entry ([.ref h0, .int p0, .int p1]) (n := 3) (Nat.le_of_ble_eq_true rfl)
  rw [lg_entry_eq]
  generalize (lg_sl ([.ref h0, .int p0, .int p1]) ++ List.replicate (3 - (lg_sl ([.ref h0, .int p0, .int p1])).length) Slot.unset).toArray = ls at hl ⊢
  have hl : lv_has ls 3 [(0, .ref h0), (1, .int p0), (2, .int p1)] := hl
  refine lv_aload_n hx hb dX10_packet_0 rfl (lv_at hl 0 rfl) ?_
  refine lv_iconst (v := 0) hx hb dX10_packet_1 (by decide) ?_
  refine rr_put (D := DG E) (ci := 10) (v := .int 0) (ty := .int) (C := RX10) (T := TX10) (N := 49) hx hb hts iw_X10 tyX10 tyX10_ok nmX10 hown hK.1 hM.1 hS (by show G h0 ≠ 0; rw [hR.1]; decide) rfl 3 (by decide) (hts _ fl_X10_153) (fun _ h9 => h9) rfl (by decide +kernel) rfl rfl (Nat.le_of_ble_eq_true rfl) dX10_packet_2 (fun H locs hn ho hz hS => ?_)
  have hM : MH E h0 rf t0 t1 t2 A 0 pk H := hM.sc hR hn ho
  refine lv_iload_n hx hb dX10_packet_5 rfl (lv_at hl 1 rfl) ?_
  refine lv_if_lt (tgt := 17) hx hb dX10_packet_6 (by decide) (fun c_1 => ?_) (fun c_1 => ?_)
  · simp only [lt_I, le_I, eq_I, i_0, i_1, i_2, i_3, i_4, i_5, i_6, i_7, i_8, i_10, i_12, i_16, i_20, i_23, i_24, i_31, i_32, i_63, i_64, i_m1, i_9, i_11, i_13, i_25, i_60, i_75, i_79, i_80, i_96, i_100] at c_1
    refine lv_iconst (v := (-1)) hx hb dX10_packet_17 (by decide) ?_
    exact W.iret (v := (-1)) hx hb hr (fun t ht hW => ⟨⟨(-1), 0, rfl, (Or.inl ⟨c_1, rfl, rfl, rfl, rfl⟩), (by show MH E h0 rf t0 t1 t2 A 0 pk t.heap; rw [ht]; exact hM)⟩, hS.F ht⟩) hS.2.2 dX10_packet_18
  · simp only [lt_I, le_I, eq_I, i_0, i_1, i_2, i_3, i_4, i_5, i_6, i_7, i_8, i_10, i_12, i_16, i_20, i_23, i_24, i_31, i_32, i_63, i_64, i_m1, i_9, i_11, i_13, i_25, i_60, i_75, i_79, i_80, i_96, i_100] at c_1
    refine lv_iload_n hx hb dX10_packet_9 rfl (lv_at hl 1 rfl) ?_
    refine lv_aload_n hx hb dX10_packet_10 rfl (lv_at hl 0 rfl) ?_
    refine va_get (D := DG E) (ci := 10) (v := .int pk) (C := RX10) (T := TX10) (N := 49) hx hb hts iw_X10 hown hK.1 (va_one hM.1) 0 rfl rfl 40 (by decide) (hts _ fl_X10_164) (fun _ h9 => h9) rfl dX10_packet_11 ?_
    refine lv_icmp_lt (tgt := 19) hx hb dX10_packet_14 (by decide) (fun c_2 => ?_) (fun c_2 => ?_)
    · simp only [lt_I, le_I, eq_I, i_0, i_1, i_2, i_3, i_4, i_5, i_6, i_7, i_8, i_10, i_12, i_16, i_20, i_23, i_24, i_31, i_32, i_63, i_64, i_m1, i_9, i_11, i_13, i_25, i_60, i_75, i_79, i_80, i_96, i_100] at c_2
      refine lv_iload_n hx hb dX10_packet_19 rfl (lv_at hl 2 rfl) ?_
      rcases (show p1.toInt = 0 ∨ p1.toInt = 1 ∨ p1.toInt = 2 ∨ p1.toInt = 3 ∨ p1.toInt = 4 ∨ p1.toInt = 5 ∨ (p1.toInt < 0 ∨ 5 < p1.toInt) by omega) with c_3 | c_3 | c_3 | c_3 | c_3 | c_3 | c_3
      · refine lv_tableIn (tgt := 60) (off := 40) hx hb dX10_packet_20 (by omega) (by omega) (by rw [c_3]; rfl) (by decide) ?_
        refine lv_aload_n hx hb dX10_packet_60 rfl (lv_at hl 0 rfl) ?_
        refine va_get (D := DG E) (ci := 10) (v := .ref (rf 41)) (C := RX10) (T := TX10) (N := 49) hx hb hts iw_X10 hown hK.1 (va_one hM.1) 0 rfl rfl 41 (by decide) (hts _ fl_X10_119) (fun _ h9 => h9) rfl dX10_packet_61 ?_
        refine lv_iload_n hx hb dX10_packet_64 rfl (lv_at hl 1 rfl) ?_
        have hi_4 : vp_in p0 25 := vp_in_iff.mpr (by omega)
        have ha_5 : va_at (DG E) vwCl (rf 41, .inl (E.2.2 0, 25, .inl (A 41))) _ := hM.2 41 (by decide) (by decide) (by decide)
        obtain ⟨n_6, hn_6, en_6⟩ := s_nat (x := p0) (by omega)
        refine va_iald (D := DG E) hx hb hK.1 (va_one ha_5) 0 0 rfl rfl hi_4 dX10_packet_65 ?_
        refine W.eq (g2 := F0 m 66 ls [.int ((A 41) n_6)]) (by rw [en_6]) ?_
        exact W.iret (v := ((A 41) n_6)) hx hb hr (fun t ht hW => ⟨⟨((A 41) n_6), 0, rfl, (Or.inr (Or.inl ⟨c_1, c_2, c_3, n_6, hn_6, rfl, rfl, rfl, rfl⟩)), (by show MH E h0 rf t0 t1 t2 A 0 pk t.heap; rw [ht]; exact hM)⟩, hS.F ht⟩) hS.2.2 dX10_packet_66
      · refine lv_tableIn (tgt := 67) (off := 47) hx hb dX10_packet_20 (by omega) (by omega) (by rw [c_3]; rfl) (by decide) ?_
        refine lv_aload_n hx hb dX10_packet_67 rfl (lv_at hl 0 rfl) ?_
        refine va_get (D := DG E) (ci := 10) (v := .ref (rf 42)) (C := RX10) (T := TX10) (N := 49) hx hb hts iw_X10 hown hK.1 (va_one hM.1) 0 rfl rfl 42 (by decide) (hts _ fl_X10_122) (fun _ h9 => h9) rfl dX10_packet_68 ?_
        refine lv_iload_n hx hb dX10_packet_71 rfl (lv_at hl 1 rfl) ?_
        have hi_7 : vp_in p0 25 := vp_in_iff.mpr (by omega)
        have ha_8 : va_at (DG E) vwCl (rf 42, .inl (E.2.2 0, 25, .inl (A 42))) _ := hM.2 42 (by decide) (by decide) (by decide)
        obtain ⟨n_9, hn_9, en_9⟩ := s_nat (x := p0) (by omega)
        refine va_iald (D := DG E) hx hb hK.1 (va_one ha_8) 0 0 rfl rfl hi_7 dX10_packet_72 ?_
        refine W.eq (g2 := F0 m 73 ls [.int ((A 42) n_9)]) (by rw [en_9]) ?_
        exact W.iret (v := ((A 42) n_9)) hx hb hr (fun t ht hW => ⟨⟨((A 42) n_9), 0, rfl, (Or.inr (Or.inr (Or.inl ⟨c_1, c_2, c_3, n_9, hn_9, rfl, rfl, rfl, rfl⟩))), (by show MH E h0 rf t0 t1 t2 A 0 pk t.heap; rw [ht]; exact hM)⟩, hS.F ht⟩) hS.2.2 dX10_packet_73
      · refine lv_tableIn (tgt := 74) (off := 54) hx hb dX10_packet_20 (by omega) (by omega) (by rw [c_3]; rfl) (by decide) ?_
        refine lv_aload_n hx hb dX10_packet_74 rfl (lv_at hl 0 rfl) ?_
        refine va_get (D := DG E) (ci := 10) (v := .ref (rf 43)) (C := RX10) (T := TX10) (N := 49) hx hb hts iw_X10 hown hK.1 (va_one hM.1) 0 rfl rfl 43 (by decide) (hts _ fl_X10_125) (fun _ h9 => h9) rfl dX10_packet_75 ?_
        refine lv_iload_n hx hb dX10_packet_78 rfl (lv_at hl 1 rfl) ?_
        have hi_10 : vp_in p0 25 := vp_in_iff.mpr (by omega)
        have ha_11 : va_at (DG E) vwCl (rf 43, .inl (E.2.2 0, 25, .inl (A 43))) _ := hM.2 43 (by decide) (by decide) (by decide)
        obtain ⟨n_12, hn_12, en_12⟩ := s_nat (x := p0) (by omega)
        refine va_iald (D := DG E) hx hb hK.1 (va_one ha_11) 0 0 rfl rfl hi_10 dX10_packet_79 ?_
        refine W.eq (g2 := F0 m 80 ls [.int ((A 43) n_12)]) (by rw [en_12]) ?_
        exact W.iret (v := ((A 43) n_12)) hx hb hr (fun t ht hW => ⟨⟨((A 43) n_12), 0, rfl, (Or.inr (Or.inr (Or.inr (Or.inl ⟨c_1, c_2, c_3, n_12, hn_12, rfl, rfl, rfl, rfl⟩)))), (by show MH E h0 rf t0 t1 t2 A 0 pk t.heap; rw [ht]; exact hM)⟩, hS.F ht⟩) hS.2.2 dX10_packet_80
      · refine lv_tableIn (tgt := 81) (off := 61) hx hb dX10_packet_20 (by omega) (by omega) (by rw [c_3]; rfl) (by decide) ?_
        refine lv_aload_n hx hb dX10_packet_81 rfl (lv_at hl 0 rfl) ?_
        refine va_get (D := DG E) (ci := 10) (v := .ref (rf 44)) (C := RX10) (T := TX10) (N := 49) hx hb hts iw_X10 hown hK.1 (va_one hM.1) 0 rfl rfl 44 (by decide) (hts _ fl_X10_128) (fun _ h9 => h9) rfl dX10_packet_82 ?_
        refine lv_iload_n hx hb dX10_packet_85 rfl (lv_at hl 1 rfl) ?_
        have hi_13 : vp_in p0 25 := vp_in_iff.mpr (by omega)
        have ha_14 : va_at (DG E) vwCl (rf 44, .inl (E.2.2 0, 25, .inl (A 44))) _ := hM.2 44 (by decide) (by decide) (by decide)
        obtain ⟨n_15, hn_15, en_15⟩ := s_nat (x := p0) (by omega)
        refine va_iald (D := DG E) hx hb hK.1 (va_one ha_14) 0 0 rfl rfl hi_13 dX10_packet_86 ?_
        refine W.eq (g2 := F0 m 87 ls [.int ((A 44) n_15)]) (by rw [en_15]) ?_
        exact W.iret (v := ((A 44) n_15)) hx hb hr (fun t ht hW => ⟨⟨((A 44) n_15), 0, rfl, (Or.inr (Or.inr (Or.inr (Or.inr (Or.inl ⟨c_1, c_2, c_3, n_15, hn_15, rfl, rfl, rfl, rfl⟩))))), (by show MH E h0 rf t0 t1 t2 A 0 pk t.heap; rw [ht]; exact hM)⟩, hS.F ht⟩) hS.2.2 dX10_packet_87
      · refine lv_tableIn (tgt := 88) (off := 68) hx hb dX10_packet_20 (by omega) (by omega) (by rw [c_3]; rfl) (by decide) ?_
        refine lv_aload_n hx hb dX10_packet_88 rfl (lv_at hl 0 rfl) ?_
        refine va_get (D := DG E) (ci := 10) (v := .ref (rf 45)) (C := RX10) (T := TX10) (N := 49) hx hb hts iw_X10 hown hK.1 (va_one hM.1) 0 rfl rfl 45 (by decide) (hts _ fl_X10_131) (fun _ h9 => h9) rfl dX10_packet_89 ?_
        refine lv_iload_n hx hb dX10_packet_92 rfl (lv_at hl 1 rfl) ?_
        have hi_16 : vp_in p0 25 := vp_in_iff.mpr (by omega)
        have ha_17 : va_at (DG E) vwCl (rf 45, .inl (E.2.2 0, 25, .inl (A 45))) _ := hM.2 45 (by decide) (by decide) (by decide)
        obtain ⟨n_18, hn_18, en_18⟩ := s_nat (x := p0) (by omega)
        refine va_iald (D := DG E) hx hb hK.1 (va_one ha_17) 0 0 rfl rfl hi_16 dX10_packet_93 ?_
        refine W.eq (g2 := F0 m 94 ls [.int ((A 45) n_18)]) (by rw [en_18]) ?_
        exact W.iret (v := ((A 45) n_18)) hx hb hr (fun t ht hW => ⟨⟨((A 45) n_18), 0, rfl, (Or.inr (Or.inr (Or.inr (Or.inr (Or.inr (Or.inl ⟨c_1, c_2, c_3, n_18, hn_18, rfl, rfl, rfl, rfl⟩)))))), (by show MH E h0 rf t0 t1 t2 A 0 pk t.heap; rw [ht]; exact hM)⟩, hS.F ht⟩) hS.2.2 dX10_packet_94
      · refine lv_tableIn (tgt := 95) (off := 75) hx hb dX10_packet_20 (by omega) (by omega) (by rw [c_3]; rfl) (by decide) ?_
        refine lv_aload_n hx hb dX10_packet_95 rfl (lv_at hl 0 rfl) ?_
        refine va_get (D := DG E) (ci := 10) (v := .ref (rf 46)) (C := RX10) (T := TX10) (N := 49) hx hb hts iw_X10 hown hK.1 (va_one hM.1) 0 rfl rfl 46 (by decide) (hts _ fl_X10_134) (fun _ h9 => h9) rfl dX10_packet_96 ?_
        refine lv_iload_n hx hb dX10_packet_99 rfl (lv_at hl 1 rfl) ?_
        have hi_19 : vp_in p0 25 := vp_in_iff.mpr (by omega)
        have ha_20 : va_at (DG E) vwCl (rf 46, .inl (E.2.2 0, 25, .inl (A 46))) _ := hM.2 46 (by decide) (by decide) (by decide)
        obtain ⟨n_21, hn_21, en_21⟩ := s_nat (x := p0) (by omega)
        refine va_iald (D := DG E) hx hb hK.1 (va_one ha_20) 0 0 rfl rfl hi_19 dX10_packet_100 ?_
        refine W.eq (g2 := F0 m 101 ls [.int ((A 46) n_21)]) (by rw [en_21]) ?_
        exact W.iret (v := ((A 46) n_21)) hx hb hr (fun t ht hW => ⟨⟨((A 46) n_21), 0, rfl, (Or.inr (Or.inr (Or.inr (Or.inr (Or.inr (Or.inr (Or.inl ⟨c_1, c_2, c_3, n_21, hn_21, rfl, rfl, rfl, rfl⟩))))))), (by show MH E h0 rf t0 t1 t2 A 0 pk t.heap; rw [ht]; exact hM)⟩, hS.F ht⟩) hS.2.2 dX10_packet_101
      · refine lv_tableOut (tgt := 102) hx hb dX10_packet_20 c_3 (by decide) ?_
        refine lv_iconst (v := (-1)) hx hb dX10_packet_102 (by decide) ?_
        exact W.iret (v := (-1)) hx hb hr (fun t ht hW => ⟨⟨(-1), 0, rfl, (Or.inr (Or.inr (Or.inr (Or.inr (Or.inr (Or.inr (Or.inr (Or.inl ⟨c_1, c_2, c_3, rfl, rfl, rfl, rfl⟩)))))))), (by show MH E h0 rf t0 t1 t2 A 0 pk t.heap; rw [ht]; exact hM)⟩, hS.F ht⟩) hS.2.2 dX10_packet_103
    · simp only [lt_I, le_I, eq_I, i_0, i_1, i_2, i_3, i_4, i_5, i_6, i_7, i_8, i_10, i_12, i_16, i_20, i_23, i_24, i_31, i_32, i_63, i_64, i_m1, i_9, i_11, i_13, i_25, i_60, i_75, i_79, i_80, i_96, i_100] at c_2
      refine lv_iconst (v := (-1)) hx hb dX10_packet_17 (by decide) ?_
      exact W.iret (v := (-1)) hx hb hr (fun t ht hW => ⟨⟨(-1), 0, rfl, (Or.inr (Or.inr (Or.inr (Or.inr (Or.inr (Or.inr (Or.inr (Or.inr ⟨c_1, c_2, rfl, rfl, rfl, rfl⟩)))))))), (by show MH E h0 rf t0 t1 t2 A 0 pk t.heap; rw [ht]; exact hM)⟩, hS.F ht⟩) hS.2.2 dX10_packet_18
theorem gdX10_pair_0 : (decode cX10_pair 0 = .ok (.aload_n 0, 1)) ∧ (decode cX10_pair 1 = .ok (.iconst 0, 1)) ∧ (decode cX10_pair 2 = .ok (.putfield 153, 3)) ∧ (decode cX10_pair 5 = .ok (.iload_n 1, 1)) ∧ (decode cX10_pair 6 = .ok (.iconst 3, 1)) ∧ (decode cX10_pair 7 = .ok (.invokestatic 156, 3)) ∧ (decode cX10_pair 10 = .ok (.ifCond .ne 5, 3)) ∧ (decode cX10_pair 13 = .ok (.iconst (-1), 1)) ∧ (decode cX10_pair 14 = .ok (.ireturn, 1)) ∧ (decode cX10_pair 15 = .ok (.aload_n 0, 1)) ∧ (decode cX10_pair 16 = .ok (.getfield 28, 3)) ∧ (decode cX10_pair 19 = .ok (.iload_n 1, 1)) ∧ (decode cX10_pair 20 = .ok (.iaload, 1)) ∧ (decode cX10_pair 21 = .ok (.iconst 1, 1)) ∧ (decode cX10_pair 22 = .ok (.if_icmp .ne 7, 3)) ∧ (decode cX10_pair 25 = .ok (.iconst 1, 1)) := by decide +kernel
theorem dX10_pair_0 : decode cX10_pair 0 = .ok (.aload_n 0, 1) := gdX10_pair_0.1
theorem dX10_pair_1 : decode cX10_pair 1 = .ok (.iconst 0, 1) := gdX10_pair_0.2.1
theorem dX10_pair_2 : decode cX10_pair 2 = .ok (.putfield 153, 3) := gdX10_pair_0.2.2.1
theorem dX10_pair_5 : decode cX10_pair 5 = .ok (.iload_n 1, 1) := gdX10_pair_0.2.2.2.1
theorem dX10_pair_6 : decode cX10_pair 6 = .ok (.iconst 3, 1) := gdX10_pair_0.2.2.2.2.1
theorem dX10_pair_7 : decode cX10_pair 7 = .ok (.invokestatic 156, 3) := gdX10_pair_0.2.2.2.2.2.1
theorem dX10_pair_10 : decode cX10_pair 10 = .ok (.ifCond .ne 5, 3) := gdX10_pair_0.2.2.2.2.2.2.1
theorem dX10_pair_13 : decode cX10_pair 13 = .ok (.iconst (-1), 1) := gdX10_pair_0.2.2.2.2.2.2.2.1
theorem dX10_pair_14 : decode cX10_pair 14 = .ok (.ireturn, 1) := gdX10_pair_0.2.2.2.2.2.2.2.2.1
theorem dX10_pair_15 : decode cX10_pair 15 = .ok (.aload_n 0, 1) := gdX10_pair_0.2.2.2.2.2.2.2.2.2.1
theorem dX10_pair_16 : decode cX10_pair 16 = .ok (.getfield 28, 3) := gdX10_pair_0.2.2.2.2.2.2.2.2.2.2.1
theorem dX10_pair_19 : decode cX10_pair 19 = .ok (.iload_n 1, 1) := gdX10_pair_0.2.2.2.2.2.2.2.2.2.2.2.1
theorem dX10_pair_20 : decode cX10_pair 20 = .ok (.iaload, 1) := gdX10_pair_0.2.2.2.2.2.2.2.2.2.2.2.2.1
theorem dX10_pair_21 : decode cX10_pair 21 = .ok (.iconst 1, 1) := gdX10_pair_0.2.2.2.2.2.2.2.2.2.2.2.2.2.1
theorem dX10_pair_22 : decode cX10_pair 22 = .ok (.if_icmp .ne 7, 3) := gdX10_pair_0.2.2.2.2.2.2.2.2.2.2.2.2.2.2.1
theorem dX10_pair_25 : decode cX10_pair 25 = .ok (.iconst 1, 1) := gdX10_pair_0.2.2.2.2.2.2.2.2.2.2.2.2.2.2.2
theorem gdX10_pair_26 : (decode cX10_pair 26 = .ok (.goto 4, 3)) ∧ (decode cX10_pair 29 = .ok (.iconst 0, 1)) ∧ (decode cX10_pair 30 = .ok (.istore_n 3, 1)) ∧ (decode cX10_pair 31 = .ok (.iload_n 2, 1)) ∧ (decode cX10_pair 32 = .ok (.tableswitch 144 0 7 #[48, 55, 70, 85, 100, 115, 122, 129], 48)) ∧ (decode cX10_pair 80 = .ok (.aload_n 0, 1)) ∧ (decode cX10_pair 81 = .ok (.getfield 28, 3)) ∧ (decode cX10_pair 84 = .ok (.iload_n 1, 1)) ∧ (decode cX10_pair 85 = .ok (.iaload, 1)) ∧ (decode cX10_pair 86 = .ok (.ireturn, 1)) ∧ (decode cX10_pair 87 = .ok (.iload_n 3, 1)) ∧ (decode cX10_pair 88 = .ok (.ifCond .eq 12, 3)) ∧ (decode cX10_pair 91 = .ok (.aload_n 0, 1)) ∧ (decode cX10_pair 92 = .ok (.getfield 31, 3)) ∧ (decode cX10_pair 95 = .ok (.iload_n 1, 1)) ∧ (decode cX10_pair 96 = .ok (.iaload, 1)) := by decide +kernel
theorem dX10_pair_26 : decode cX10_pair 26 = .ok (.goto 4, 3) := gdX10_pair_26.1
theorem dX10_pair_29 : decode cX10_pair 29 = .ok (.iconst 0, 1) := gdX10_pair_26.2.1
theorem dX10_pair_30 : decode cX10_pair 30 = .ok (.istore_n 3, 1) := gdX10_pair_26.2.2.1
theorem dX10_pair_31 : decode cX10_pair 31 = .ok (.iload_n 2, 1) := gdX10_pair_26.2.2.2.1
theorem dX10_pair_32 : decode cX10_pair 32 = .ok (.tableswitch 144 0 7 #[48, 55, 70, 85, 100, 115, 122, 129], 48) := gdX10_pair_26.2.2.2.2.1
theorem dX10_pair_80 : decode cX10_pair 80 = .ok (.aload_n 0, 1) := gdX10_pair_26.2.2.2.2.2.1
theorem dX10_pair_81 : decode cX10_pair 81 = .ok (.getfield 28, 3) := gdX10_pair_26.2.2.2.2.2.2.1
theorem dX10_pair_84 : decode cX10_pair 84 = .ok (.iload_n 1, 1) := gdX10_pair_26.2.2.2.2.2.2.2.1
theorem dX10_pair_85 : decode cX10_pair 85 = .ok (.iaload, 1) := gdX10_pair_26.2.2.2.2.2.2.2.2.1
theorem dX10_pair_86 : decode cX10_pair 86 = .ok (.ireturn, 1) := gdX10_pair_26.2.2.2.2.2.2.2.2.2.1
theorem dX10_pair_87 : decode cX10_pair 87 = .ok (.iload_n 3, 1) := gdX10_pair_26.2.2.2.2.2.2.2.2.2.2.1
theorem dX10_pair_88 : decode cX10_pair 88 = .ok (.ifCond .eq 12, 3) := gdX10_pair_26.2.2.2.2.2.2.2.2.2.2.2.1
theorem dX10_pair_91 : decode cX10_pair 91 = .ok (.aload_n 0, 1) := gdX10_pair_26.2.2.2.2.2.2.2.2.2.2.2.2.1
theorem dX10_pair_92 : decode cX10_pair 92 = .ok (.getfield 31, 3) := gdX10_pair_26.2.2.2.2.2.2.2.2.2.2.2.2.2.1
theorem dX10_pair_95 : decode cX10_pair 95 = .ok (.iload_n 1, 1) := gdX10_pair_26.2.2.2.2.2.2.2.2.2.2.2.2.2.2.1
theorem dX10_pair_96 : decode cX10_pair 96 = .ok (.iaload, 1) := gdX10_pair_26.2.2.2.2.2.2.2.2.2.2.2.2.2.2.2
theorem gdX10_pair_97 : (decode cX10_pair 97 = .ok (.goto 4, 3)) ∧ (decode cX10_pair 100 = .ok (.iconst (-1), 1)) ∧ (decode cX10_pair 101 = .ok (.ireturn, 1)) ∧ (decode cX10_pair 102 = .ok (.iload_n 3, 1)) ∧ (decode cX10_pair 103 = .ok (.ifCond .eq 12, 3)) ∧ (decode cX10_pair 106 = .ok (.aload_n 0, 1)) ∧ (decode cX10_pair 107 = .ok (.getfield 34, 3)) ∧ (decode cX10_pair 110 = .ok (.iload_n 1, 1)) ∧ (decode cX10_pair 111 = .ok (.iaload, 1)) ∧ (decode cX10_pair 112 = .ok (.goto 4, 3)) ∧ (decode cX10_pair 115 = .ok (.iconst (-1), 1)) ∧ (decode cX10_pair 116 = .ok (.ireturn, 1)) ∧ (decode cX10_pair 117 = .ok (.iload_n 3, 1)) ∧ (decode cX10_pair 118 = .ok (.ifCond .eq 12, 3)) ∧ (decode cX10_pair 121 = .ok (.aload_n 0, 1)) ∧ (decode cX10_pair 122 = .ok (.getfield 37, 3)) := by decide +kernel
theorem dX10_pair_97 : decode cX10_pair 97 = .ok (.goto 4, 3) := gdX10_pair_97.1
theorem dX10_pair_100 : decode cX10_pair 100 = .ok (.iconst (-1), 1) := gdX10_pair_97.2.1
theorem dX10_pair_101 : decode cX10_pair 101 = .ok (.ireturn, 1) := gdX10_pair_97.2.2.1
theorem dX10_pair_102 : decode cX10_pair 102 = .ok (.iload_n 3, 1) := gdX10_pair_97.2.2.2.1
theorem dX10_pair_103 : decode cX10_pair 103 = .ok (.ifCond .eq 12, 3) := gdX10_pair_97.2.2.2.2.1
theorem dX10_pair_106 : decode cX10_pair 106 = .ok (.aload_n 0, 1) := gdX10_pair_97.2.2.2.2.2.1
theorem dX10_pair_107 : decode cX10_pair 107 = .ok (.getfield 34, 3) := gdX10_pair_97.2.2.2.2.2.2.1
theorem dX10_pair_110 : decode cX10_pair 110 = .ok (.iload_n 1, 1) := gdX10_pair_97.2.2.2.2.2.2.2.1
theorem dX10_pair_111 : decode cX10_pair 111 = .ok (.iaload, 1) := gdX10_pair_97.2.2.2.2.2.2.2.2.1
theorem dX10_pair_112 : decode cX10_pair 112 = .ok (.goto 4, 3) := gdX10_pair_97.2.2.2.2.2.2.2.2.2.1
theorem dX10_pair_115 : decode cX10_pair 115 = .ok (.iconst (-1), 1) := gdX10_pair_97.2.2.2.2.2.2.2.2.2.2.1
theorem dX10_pair_116 : decode cX10_pair 116 = .ok (.ireturn, 1) := gdX10_pair_97.2.2.2.2.2.2.2.2.2.2.2.1
theorem dX10_pair_117 : decode cX10_pair 117 = .ok (.iload_n 3, 1) := gdX10_pair_97.2.2.2.2.2.2.2.2.2.2.2.2.1
theorem dX10_pair_118 : decode cX10_pair 118 = .ok (.ifCond .eq 12, 3) := gdX10_pair_97.2.2.2.2.2.2.2.2.2.2.2.2.2.1
theorem dX10_pair_121 : decode cX10_pair 121 = .ok (.aload_n 0, 1) := gdX10_pair_97.2.2.2.2.2.2.2.2.2.2.2.2.2.2.1
theorem dX10_pair_122 : decode cX10_pair 122 = .ok (.getfield 37, 3) := gdX10_pair_97.2.2.2.2.2.2.2.2.2.2.2.2.2.2.2
theorem gdX10_pair_125 : (decode cX10_pair 125 = .ok (.iload_n 1, 1)) ∧ (decode cX10_pair 126 = .ok (.iaload, 1)) ∧ (decode cX10_pair 127 = .ok (.goto 4, 3)) ∧ (decode cX10_pair 130 = .ok (.iconst (-1), 1)) ∧ (decode cX10_pair 131 = .ok (.ireturn, 1)) ∧ (decode cX10_pair 132 = .ok (.iload_n 3, 1)) ∧ (decode cX10_pair 133 = .ok (.ifCond .eq 12, 3)) ∧ (decode cX10_pair 136 = .ok (.aload_n 0, 1)) ∧ (decode cX10_pair 137 = .ok (.getfield 40, 3)) ∧ (decode cX10_pair 140 = .ok (.iload_n 1, 1)) ∧ (decode cX10_pair 141 = .ok (.iaload, 1)) ∧ (decode cX10_pair 142 = .ok (.goto 4, 3)) ∧ (decode cX10_pair 145 = .ok (.iconst (-1), 1)) ∧ (decode cX10_pair 146 = .ok (.ireturn, 1)) ∧ (decode cX10_pair 147 = .ok (.aload_n 0, 1)) ∧ (decode cX10_pair 148 = .ok (.getfield 59, 3)) := by decide +kernel
theorem dX10_pair_125 : decode cX10_pair 125 = .ok (.iload_n 1, 1) := gdX10_pair_125.1
theorem dX10_pair_126 : decode cX10_pair 126 = .ok (.iaload, 1) := gdX10_pair_125.2.1
theorem dX10_pair_127 : decode cX10_pair 127 = .ok (.goto 4, 3) := gdX10_pair_125.2.2.1
theorem dX10_pair_130 : decode cX10_pair 130 = .ok (.iconst (-1), 1) := gdX10_pair_125.2.2.2.1
theorem dX10_pair_131 : decode cX10_pair 131 = .ok (.ireturn, 1) := gdX10_pair_125.2.2.2.2.1
theorem dX10_pair_132 : decode cX10_pair 132 = .ok (.iload_n 3, 1) := gdX10_pair_125.2.2.2.2.2.1
theorem dX10_pair_133 : decode cX10_pair 133 = .ok (.ifCond .eq 12, 3) := gdX10_pair_125.2.2.2.2.2.2.1
theorem dX10_pair_136 : decode cX10_pair 136 = .ok (.aload_n 0, 1) := gdX10_pair_125.2.2.2.2.2.2.2.1
theorem dX10_pair_137 : decode cX10_pair 137 = .ok (.getfield 40, 3) := gdX10_pair_125.2.2.2.2.2.2.2.2.1
theorem dX10_pair_140 : decode cX10_pair 140 = .ok (.iload_n 1, 1) := gdX10_pair_125.2.2.2.2.2.2.2.2.2.1
theorem dX10_pair_141 : decode cX10_pair 141 = .ok (.iaload, 1) := gdX10_pair_125.2.2.2.2.2.2.2.2.2.2.1
theorem dX10_pair_142 : decode cX10_pair 142 = .ok (.goto 4, 3) := gdX10_pair_125.2.2.2.2.2.2.2.2.2.2.2.1
theorem dX10_pair_145 : decode cX10_pair 145 = .ok (.iconst (-1), 1) := gdX10_pair_125.2.2.2.2.2.2.2.2.2.2.2.2.1
theorem dX10_pair_146 : decode cX10_pair 146 = .ok (.ireturn, 1) := gdX10_pair_125.2.2.2.2.2.2.2.2.2.2.2.2.2.1
theorem dX10_pair_147 : decode cX10_pair 147 = .ok (.aload_n 0, 1) := gdX10_pair_125.2.2.2.2.2.2.2.2.2.2.2.2.2.2.1
theorem dX10_pair_148 : decode cX10_pair 148 = .ok (.getfield 59, 3) := gdX10_pair_125.2.2.2.2.2.2.2.2.2.2.2.2.2.2.2
theorem gdX10_pair_151 : (decode cX10_pair 151 = .ok (.iload_n 1, 1)) ∧ (decode cX10_pair 152 = .ok (.iaload, 1)) ∧ (decode cX10_pair 153 = .ok (.ireturn, 1)) ∧ (decode cX10_pair 154 = .ok (.aload_n 0, 1)) ∧ (decode cX10_pair 155 = .ok (.getfield 89, 3)) ∧ (decode cX10_pair 158 = .ok (.iload_n 1, 1)) ∧ (decode cX10_pair 159 = .ok (.iaload, 1)) ∧ (decode cX10_pair 160 = .ok (.ireturn, 1)) ∧ (decode cX10_pair 161 = .ok (.aload_n 0, 1)) ∧ (decode cX10_pair 162 = .ok (.getfield 52, 3)) ∧ (decode cX10_pair 165 = .ok (.iload_n 1, 1)) ∧ (decode cX10_pair 166 = .ok (.baload, 1)) ∧ (decode cX10_pair 167 = .ok (.ifCond .eq 7, 3)) ∧ (decode cX10_pair 170 = .ok (.iconst 1, 1)) ∧ (decode cX10_pair 171 = .ok (.goto 4, 3)) ∧ (decode cX10_pair 174 = .ok (.iconst 0, 1)) := by decide +kernel
theorem dX10_pair_151 : decode cX10_pair 151 = .ok (.iload_n 1, 1) := gdX10_pair_151.1
theorem dX10_pair_152 : decode cX10_pair 152 = .ok (.iaload, 1) := gdX10_pair_151.2.1
theorem dX10_pair_153 : decode cX10_pair 153 = .ok (.ireturn, 1) := gdX10_pair_151.2.2.1
theorem dX10_pair_154 : decode cX10_pair 154 = .ok (.aload_n 0, 1) := gdX10_pair_151.2.2.2.1
theorem dX10_pair_155 : decode cX10_pair 155 = .ok (.getfield 89, 3) := gdX10_pair_151.2.2.2.2.1
theorem dX10_pair_158 : decode cX10_pair 158 = .ok (.iload_n 1, 1) := gdX10_pair_151.2.2.2.2.2.1
theorem dX10_pair_159 : decode cX10_pair 159 = .ok (.iaload, 1) := gdX10_pair_151.2.2.2.2.2.2.1
theorem dX10_pair_160 : decode cX10_pair 160 = .ok (.ireturn, 1) := gdX10_pair_151.2.2.2.2.2.2.2.1
theorem dX10_pair_161 : decode cX10_pair 161 = .ok (.aload_n 0, 1) := gdX10_pair_151.2.2.2.2.2.2.2.2.1
theorem dX10_pair_162 : decode cX10_pair 162 = .ok (.getfield 52, 3) := gdX10_pair_151.2.2.2.2.2.2.2.2.2.1
theorem dX10_pair_165 : decode cX10_pair 165 = .ok (.iload_n 1, 1) := gdX10_pair_151.2.2.2.2.2.2.2.2.2.2.1
theorem dX10_pair_166 : decode cX10_pair 166 = .ok (.baload, 1) := gdX10_pair_151.2.2.2.2.2.2.2.2.2.2.2.1
theorem dX10_pair_167 : decode cX10_pair 167 = .ok (.ifCond .eq 7, 3) := gdX10_pair_151.2.2.2.2.2.2.2.2.2.2.2.2.1
theorem dX10_pair_170 : decode cX10_pair 170 = .ok (.iconst 1, 1) := gdX10_pair_151.2.2.2.2.2.2.2.2.2.2.2.2.2.1
theorem dX10_pair_171 : decode cX10_pair 171 = .ok (.goto 4, 3) := gdX10_pair_151.2.2.2.2.2.2.2.2.2.2.2.2.2.2.1
theorem dX10_pair_174 : decode cX10_pair 174 = .ok (.iconst 0, 1) := gdX10_pair_151.2.2.2.2.2.2.2.2.2.2.2.2.2.2.2
theorem gdX10_pair_175 : (decode cX10_pair 175 = .ok (.ireturn, 1)) ∧ (decode cX10_pair 176 = .ok (.iconst (-1), 1)) ∧ (decode cX10_pair 177 = .ok (.ireturn, 1)) := by decide +kernel
theorem dX10_pair_175 : decode cX10_pair 175 = .ok (.ireturn, 1) := gdX10_pair_175.1
theorem dX10_pair_176 : decode cX10_pair 176 = .ok (.iconst (-1), 1) := gdX10_pair_175.2.1
theorem dX10_pair_177 : decode cX10_pair 177 = .ok (.ireturn, 1) := gdX10_pair_175.2.2
set_option maxHeartbeats 8000000 in
set_option maxRecDepth 100000 in
theorem u_X10_pair (l : Launch) (E : EE) (z0 : Nat) (G : Nat → Nat) (hGz : ∀ q, G q ≠ 0 → z0 ≤ q) (h0 : Nat) (rf : Nat → Nat) (hR : MG G h0 rf) (t0 t1 t2 : Int32) (A : AA) (cd pk : Int32) (p0 : Int32) (p1 : Int32) : Met l yX10_pair [Cond.code yX10_pair cX10_pair 4 (some .int)] ({ frames := 1, cells := 0, slots := 0, locals := 21 } : Room) (va_Pc [.ref h0, .int p0, .int p1] (fun U => MH E h0 rf t0 t1 t2 A cd pk U.heap ∧ KS E z0 U)) (va_Qi (fun (r : Int32) (u : Int32) => D_X10_pair A cd pk p0 p1 A (u) pk r) (fun u t => MH E h0 rf t0 t1 t2 A (u) pk t.heap) (fun q : Nat => G q ≠ 0)) 0 0 (fun q : Nat => G q ≠ 0) := by
  refine Met.ofW (cc := cX10_pair) (maxL := 4) (ret := (some .int)) (by decide) rfl ?_
  intro p e s m args below meth c s₁ B hml hv
  obtain ⟨rfl, hM, hK⟩ := hv
  have hx := B.exec
  have hb := B.bytes
  have hr := B.returns
  have hts : ∀ w ∈ TS, w.before ([.ref h0, .int p0, .int p1] : List Value).toArray s = true := fun w hw => hK.2.1 w hw _
  have hown : s.vm.findClass RX10 = some m.cls := findClass_of_methodNamed B.named
  have hlocks := B.notSynchronized
  have hS : va_S (fun q : Nat => G q ≠ 0) s.heap s.heap [] := va_S.rf
  have hAz : ∀ q, (fun q : Nat => G q ≠ 0) q → z0 ≤ q := hGz
  have hl := lv_entry ([.ref h0, .int p0, .int p1]) (n := 4) (Nat.le_of_ble_eq_true rfl)
  rw [lg_entry_eq]
  generalize (lg_sl ([.ref h0, .int p0, .int p1]) ++ List.replicate (4 - (lg_sl ([.ref h0, .int p0, .int p1])).length) Slot.unset).toArray = ls at hl ⊢
  have hl : lv_has ls 4 [(0, .ref h0), (1, .int p0), (2, .int p1)] := hl
  refine lv_aload_n hx hb dX10_pair_0 rfl (lv_at hl 0 rfl) ?_
  refine lv_iconst (v := 0) hx hb dX10_pair_1 (by decide) ?_
  refine rr_put (D := DG E) (ci := 10) (v := .int 0) (ty := .int) (C := RX10) (T := TX10) (N := 49) hx hb hts iw_X10 tyX10 tyX10_ok nmX10 hown hK.1 hM.1 hS (by show G h0 ≠ 0; rw [hR.1]; decide) rfl 3 (by decide) (hts _ fl_X10_153) (fun _ h9 => h9) rfl (by decide +kernel) rfl rfl (Nat.le_of_ble_eq_true rfl) dX10_pair_2 (fun H locs hn ho hz hS => ?_)
  have hM : MH E h0 rf t0 t1 t2 A 0 pk H := hM.sc hR hn ho
  refine lv_iload_n hx hb dX10_pair_5 rfl (lv_at hl 1 rfl) ?_
  refine lv_iconst (v := 3) hx hb dX10_pair_6 (by decide) ?_
  refine W.callR (W.runS (As := [.int p0, .int 3]) (rest := []) ⟨hx, hb, hml, hown, hts⟩ (c_X10_within l p0 3) (cwS 2 hts (gdS ml_X10_156 st_X10_within in_X10 co_X10_within rfl) rfl rfl rfl (by decide +kernel) ⟨Nat.le_of_ble_eq_true rfl, Nat.le_of_ble_eq_true rfl⟩) preEq rfl rfl hl.1 rfl (lv_room (Nat.le_of_ble_eq_true rfl)) dX10_pair_7 ⟨Nat.le_of_ble_eq_true rfl, Nat.le_of_ble_eq_true rfl⟩) ?_
  refine W.eq (g2 := F0 m 10 ls [.int (bI (0 ≤ p0.toInt ∧ p0.toInt ≤ (3 : Int32).toInt))]) (by rfl) ?_
  refine lv_if_ne (tgt := 15) hx hb dX10_pair_10 (by decide) (fun c_1 => ?_) (fun c_1 => ?_)
  · have c_1 := bI_n c_1
    have c_1r := c_1
    try simp only [lt_I, le_I, eq_I, i_0, i_1, i_2, i_3, i_4, i_5, i_6, i_7, i_8, i_10, i_12, i_16, i_20, i_23, i_24, i_31, i_32, i_63, i_64, i_m1, i_9, i_11, i_13, i_25, i_60, i_75, i_79, i_80, i_96, i_100] at c_1
    refine lv_aload_n hx hb dX10_pair_15 rfl (lv_at hl 0 rfl) ?_
    refine va_get (D := DG E) (ci := 10) (v := .ref (rf 10)) (C := RX10) (T := TX10) (N := 49) hx hb hts iw_X10 hown hK.1 (va_one hM.1) 0 rfl rfl 10 (by decide) (hts _ fl_X10_28) (fun _ h9 => h9) rfl dX10_pair_16 ?_
    refine lv_iload_n hx hb dX10_pair_19 rfl (lv_at hl 1 rfl) ?_
    have hi_2 : vp_in p0 4 := vp_in_iff.mpr (by omega)
    have ha_3 : va_at (DG E) vwCl (rf 10, .inl (E.2.2 0, 4, .inl (A 10))) _ := hM.2 10 (by decide) (by decide) (by decide)
    obtain ⟨n_4, hn_4, en_4⟩ := s_nat (x := p0) (by omega)
    refine va_iald (D := DG E) hx hb hK.1 (va_one ha_3) 0 0 rfl rfl hi_2 dX10_pair_20 ?_
    refine W.eq (g2 := F0 m 21 ls [.int ((A 10) n_4)]) (by rw [en_4]) ?_
    refine lv_iconst (v := 1) hx hb dX10_pair_21 (by decide) ?_
    refine lv_icmp_ne (tgt := 29) hx hb dX10_pair_22 (by decide) (fun c_5 => ?_) (fun c_5 => ?_)
    · simp only [lt_I, le_I, eq_I, i_0, i_1, i_2, i_3, i_4, i_5, i_6, i_7, i_8, i_10, i_12, i_16, i_20, i_23, i_24, i_31, i_32, i_63, i_64, i_m1, i_9, i_11, i_13, i_25, i_60, i_75, i_79, i_80, i_96, i_100] at c_5
      refine lv_iconst (v := 0) hx hb dX10_pair_29 (by decide) ?_
      refine lv_istore_n (lv' := [(3, .int 0), (0, .ref h0), (1, .int p0), (2, .int p1)]) hx hb dX10_pair_30 rfl hl (by decide) rfl (fun ls hl => ?_)
      refine lv_iload_n hx hb dX10_pair_31 rfl (lv_at hl 3 rfl) ?_
      rcases (show p1.toInt = 0 ∨ p1.toInt = 1 ∨ p1.toInt = 2 ∨ p1.toInt = 3 ∨ p1.toInt = 4 ∨ p1.toInt = 5 ∨ p1.toInt = 6 ∨ p1.toInt = 7 ∨ (p1.toInt < 0 ∨ 7 < p1.toInt) by omega) with c_6 | c_6 | c_6 | c_6 | c_6 | c_6 | c_6 | c_6 | c_6
      · refine lv_tableIn (tgt := 80) (off := 48) hx hb dX10_pair_32 (by omega) (by omega) (by rw [c_6]; rfl) (by decide) ?_
        refine lv_aload_n hx hb dX10_pair_80 rfl (lv_at hl 1 rfl) ?_
        refine va_get (D := DG E) (ci := 10) (v := .ref (rf 10)) (C := RX10) (T := TX10) (N := 49) hx hb hts iw_X10 hown hK.1 (va_one hM.1) 0 rfl rfl 10 (by decide) (hts _ fl_X10_28) (fun _ h9 => h9) rfl dX10_pair_81 ?_
        refine lv_iload_n hx hb dX10_pair_84 rfl (lv_at hl 2 rfl) ?_
        have ha_7 : va_at (DG E) vwCl (rf 10, .inl (E.2.2 0, 4, .inl (A 10))) _ := hM.2 10 (by decide) (by decide) (by decide)
        refine va_iald (D := DG E) hx hb hK.1 (va_one ha_7) 0 0 rfl rfl hi_2 dX10_pair_85 ?_
        refine W.eq (g2 := F0 m 86 ls [.int ((A 10) n_4)]) (by rw [en_4]) ?_
        exact W.iret (v := ((A 10) n_4)) hx hb hr (fun t ht hW => ⟨⟨((A 10) n_4), 0, rfl, (Or.inl ⟨c_1r, n_4, hn_4, c_5, c_6, rfl, rfl, rfl, rfl⟩), (by show MH E h0 rf t0 t1 t2 A 0 pk t.heap; rw [ht]; exact hM)⟩, hS.F ht⟩) hS.2.2 dX10_pair_86
      · refine lv_tableIn (tgt := 87) (off := 55) hx hb dX10_pair_32 (by omega) (by omega) (by rw [c_6]; rfl) (by decide) ?_
        refine lv_iload_n hx hb dX10_pair_87 rfl (lv_at hl 0 rfl) ?_
        refine lv_if_eq (tgt := 100) hx hb dX10_pair_88 (by decide) (fun c_8 => ?_) (fun c_8 => absurd c_8 (by decide))
        refine lv_iconst (v := (-1)) hx hb dX10_pair_100 (by decide) ?_
        exact W.iret (v := (-1)) hx hb hr (fun t ht hW => ⟨⟨(-1), 0, rfl, (Or.inr (Or.inl ⟨c_1r, n_4, hn_4, c_5, c_6, rfl, rfl, rfl, rfl⟩)), (by show MH E h0 rf t0 t1 t2 A 0 pk t.heap; rw [ht]; exact hM)⟩, hS.F ht⟩) hS.2.2 dX10_pair_101
      · refine lv_tableIn (tgt := 102) (off := 70) hx hb dX10_pair_32 (by omega) (by omega) (by rw [c_6]; rfl) (by decide) ?_
        refine lv_iload_n hx hb dX10_pair_102 rfl (lv_at hl 0 rfl) ?_
        refine lv_if_eq (tgt := 115) hx hb dX10_pair_103 (by decide) (fun c_9 => ?_) (fun c_9 => absurd c_9 (by decide))
        refine lv_iconst (v := (-1)) hx hb dX10_pair_115 (by decide) ?_
        exact W.iret (v := (-1)) hx hb hr (fun t ht hW => ⟨⟨(-1), 0, rfl, (Or.inr (Or.inr (Or.inl ⟨c_1r, n_4, hn_4, c_5, c_6, rfl, rfl, rfl, rfl⟩))), (by show MH E h0 rf t0 t1 t2 A 0 pk t.heap; rw [ht]; exact hM)⟩, hS.F ht⟩) hS.2.2 dX10_pair_116
      · refine lv_tableIn (tgt := 117) (off := 85) hx hb dX10_pair_32 (by omega) (by omega) (by rw [c_6]; rfl) (by decide) ?_
        refine lv_iload_n hx hb dX10_pair_117 rfl (lv_at hl 0 rfl) ?_
        refine lv_if_eq (tgt := 130) hx hb dX10_pair_118 (by decide) (fun c_10 => ?_) (fun c_10 => absurd c_10 (by decide))
        refine lv_iconst (v := (-1)) hx hb dX10_pair_130 (by decide) ?_
        exact W.iret (v := (-1)) hx hb hr (fun t ht hW => ⟨⟨(-1), 0, rfl, (Or.inr (Or.inr (Or.inr (Or.inl ⟨c_1r, n_4, hn_4, c_5, c_6, rfl, rfl, rfl, rfl⟩)))), (by show MH E h0 rf t0 t1 t2 A 0 pk t.heap; rw [ht]; exact hM)⟩, hS.F ht⟩) hS.2.2 dX10_pair_131
      · refine lv_tableIn (tgt := 132) (off := 100) hx hb dX10_pair_32 (by omega) (by omega) (by rw [c_6]; rfl) (by decide) ?_
        refine lv_iload_n hx hb dX10_pair_132 rfl (lv_at hl 0 rfl) ?_
        refine lv_if_eq (tgt := 145) hx hb dX10_pair_133 (by decide) (fun c_11 => ?_) (fun c_11 => absurd c_11 (by decide))
        refine lv_iconst (v := (-1)) hx hb dX10_pair_145 (by decide) ?_
        exact W.iret (v := (-1)) hx hb hr (fun t ht hW => ⟨⟨(-1), 0, rfl, (Or.inr (Or.inr (Or.inr (Or.inr (Or.inl ⟨c_1r, n_4, hn_4, c_5, c_6, rfl, rfl, rfl, rfl⟩))))), (by show MH E h0 rf t0 t1 t2 A 0 pk t.heap; rw [ht]; exact hM)⟩, hS.F ht⟩) hS.2.2 dX10_pair_146
      · refine lv_tableIn (tgt := 147) (off := 115) hx hb dX10_pair_32 (by omega) (by omega) (by rw [c_6]; rfl) (by decide) ?_
        refine lv_aload_n hx hb dX10_pair_147 rfl (lv_at hl 1 rfl) ?_
        refine va_get (D := DG E) (ci := 10) (v := .ref (rf 20)) (C := RX10) (T := TX10) (N := 49) hx hb hts iw_X10 hown hK.1 (va_one hM.1) 0 rfl rfl 20 (by decide) (hts _ fl_X10_59) (fun _ h9 => h9) rfl dX10_pair_148 ?_
        refine lv_iload_n hx hb dX10_pair_151 rfl (lv_at hl 2 rfl) ?_
        have ha_12 : va_at (DG E) vwCl (rf 20, .inl (E.2.2 0, 4, .inl (A 20))) _ := hM.2 20 (by decide) (by decide) (by decide)
        refine va_iald (D := DG E) hx hb hK.1 (va_one ha_12) 0 0 rfl rfl hi_2 dX10_pair_152 ?_
        refine W.eq (g2 := F0 m 153 ls [.int ((A 20) n_4)]) (by rw [en_4]) ?_
        exact W.iret (v := ((A 20) n_4)) hx hb hr (fun t ht hW => ⟨⟨((A 20) n_4), 0, rfl, (Or.inr (Or.inr (Or.inr (Or.inr (Or.inr (Or.inl ⟨c_1r, n_4, hn_4, c_5, c_6, rfl, rfl, rfl, rfl⟩)))))), (by show MH E h0 rf t0 t1 t2 A 0 pk t.heap; rw [ht]; exact hM)⟩, hS.F ht⟩) hS.2.2 dX10_pair_153
      · refine lv_tableIn (tgt := 154) (off := 122) hx hb dX10_pair_32 (by omega) (by omega) (by rw [c_6]; rfl) (by decide) ?_
        refine lv_aload_n hx hb dX10_pair_154 rfl (lv_at hl 1 rfl) ?_
        refine va_get (D := DG E) (ci := 10) (v := .ref (rf 30)) (C := RX10) (T := TX10) (N := 49) hx hb hts iw_X10 hown hK.1 (va_one hM.1) 0 rfl rfl 30 (by decide) (hts _ fl_X10_89) (fun _ h9 => h9) rfl dX10_pair_155 ?_
        refine lv_iload_n hx hb dX10_pair_158 rfl (lv_at hl 2 rfl) ?_
        have ha_13 : va_at (DG E) vwCl (rf 30, .inl (E.2.2 0, 4, .inl (A 30))) _ := hM.2 30 (by decide) (by decide) (by decide)
        refine va_iald (D := DG E) hx hb hK.1 (va_one ha_13) 0 0 rfl rfl hi_2 dX10_pair_159 ?_
        refine W.eq (g2 := F0 m 160 ls [.int ((A 30) n_4)]) (by rw [en_4]) ?_
        exact W.iret (v := ((A 30) n_4)) hx hb hr (fun t ht hW => ⟨⟨((A 30) n_4), 0, rfl, (Or.inr (Or.inr (Or.inr (Or.inr (Or.inr (Or.inr (Or.inl ⟨c_1r, n_4, hn_4, c_5, c_6, rfl, rfl, rfl, rfl⟩))))))), (by show MH E h0 rf t0 t1 t2 A 0 pk t.heap; rw [ht]; exact hM)⟩, hS.F ht⟩) hS.2.2 dX10_pair_160
      · refine lv_tableIn (tgt := 161) (off := 129) hx hb dX10_pair_32 (by omega) (by omega) (by rw [c_6]; rfl) (by decide) ?_
        refine lv_aload_n hx hb dX10_pair_161 rfl (lv_at hl 1 rfl) ?_
        refine va_get (D := DG E) (ci := 10) (v := .ref (rf 18)) (C := RX10) (T := TX10) (N := 49) hx hb hts iw_X10 hown hK.1 (va_one hM.1) 0 rfl rfl 18 (by decide) (hts _ fl_X10_52) (fun _ h9 => h9) rfl dX10_pair_162 ?_
        refine lv_iload_n hx hb dX10_pair_165 rfl (lv_at hl 2 rfl) ?_
        have ha_14 : va_at (DG E) vwCl (rf 18, .inl (E.2.2 1, 4, .inl (A 18))) _ := hM.2 18 (by decide) (by decide) (by decide)
        refine va_zald (D := DG E) hx hb hK.1 (va_one ha_14) 0 1 rfl rfl hi_2 dX10_pair_166 ?_
        refine W.eq (g2 := F0 m 167 ls [.int ((A 18) n_4)]) (by rw [en_4]) ?_
        refine lv_if_eq (tgt := 174) hx hb dX10_pair_167 (by decide) (fun c_15 => ?_) (fun c_15 => ?_)
        · simp only [lt_I, le_I, eq_I, i_0, i_1, i_2, i_3, i_4, i_5, i_6, i_7, i_8, i_10, i_12, i_16, i_20, i_23, i_24, i_31, i_32, i_63, i_64, i_m1, i_9, i_11, i_13, i_25, i_60, i_75, i_79, i_80, i_96, i_100] at c_15
          refine lv_iconst (v := 0) hx hb dX10_pair_174 (by decide) ?_
          exact W.iret (v := 0) hx hb hr (fun t ht hW => ⟨⟨0, 0, rfl, (Or.inr (Or.inr (Or.inr (Or.inr (Or.inr (Or.inr (Or.inr (Or.inl ⟨c_1r, n_4, hn_4, c_5, c_6, c_15, rfl, rfl, rfl, rfl⟩)))))))), (by show MH E h0 rf t0 t1 t2 A 0 pk t.heap; rw [ht]; exact hM)⟩, hS.F ht⟩) hS.2.2 dX10_pair_175
        · simp only [lt_I, le_I, eq_I, i_0, i_1, i_2, i_3, i_4, i_5, i_6, i_7, i_8, i_10, i_12, i_16, i_20, i_23, i_24, i_31, i_32, i_63, i_64, i_m1, i_9, i_11, i_13, i_25, i_60, i_75, i_79, i_80, i_96, i_100] at c_15
          refine lv_iconst (v := 1) hx hb dX10_pair_170 (by decide) ?_
          refine lv_goto (tgt := 175) hx hb dX10_pair_171 (by decide) ?_
          exact W.iret (v := 1) hx hb hr (fun t ht hW => ⟨⟨1, 0, rfl, (Or.inr (Or.inr (Or.inr (Or.inr (Or.inr (Or.inr (Or.inr (Or.inr (Or.inl ⟨c_1r, n_4, hn_4, c_5, c_6, c_15, rfl, rfl, rfl, rfl⟩))))))))), (by show MH E h0 rf t0 t1 t2 A 0 pk t.heap; rw [ht]; exact hM)⟩, hS.F ht⟩) hS.2.2 dX10_pair_175
      · refine lv_tableOut (tgt := 176) hx hb dX10_pair_32 c_6 (by decide) ?_
        refine lv_iconst (v := (-1)) hx hb dX10_pair_176 (by decide) ?_
        exact W.iret (v := (-1)) hx hb hr (fun t ht hW => ⟨⟨(-1), 0, rfl, (Or.inr (Or.inr (Or.inr (Or.inr (Or.inr (Or.inr (Or.inr (Or.inr (Or.inr (Or.inl ⟨c_1r, n_4, hn_4, c_5, c_6, rfl, rfl, rfl, rfl⟩)))))))))), (by show MH E h0 rf t0 t1 t2 A 0 pk t.heap; rw [ht]; exact hM)⟩, hS.F ht⟩) hS.2.2 dX10_pair_177
    · simp only [lt_I, le_I, eq_I, i_0, i_1, i_2, i_3, i_4, i_5, i_6, i_7, i_8, i_10, i_12, i_16, i_20, i_23, i_24, i_31, i_32, i_63, i_64, i_m1, i_9, i_11, i_13, i_25, i_60, i_75, i_79, i_80, i_96, i_100] at c_5
      refine lv_iconst (v := 1) hx hb dX10_pair_25 (by decide) ?_
      refine lv_goto (tgt := 30) hx hb dX10_pair_26 (by decide) ?_
      refine lv_istore_n (lv' := [(3, .int 1), (0, .ref h0), (1, .int p0), (2, .int p1)]) hx hb dX10_pair_30 rfl hl (by decide) rfl (fun ls hl => ?_)
      refine lv_iload_n hx hb dX10_pair_31 rfl (lv_at hl 3 rfl) ?_
      rcases (show p1.toInt = 0 ∨ p1.toInt = 1 ∨ p1.toInt = 2 ∨ p1.toInt = 3 ∨ p1.toInt = 4 ∨ p1.toInt = 5 ∨ p1.toInt = 6 ∨ p1.toInt = 7 ∨ (p1.toInt < 0 ∨ 7 < p1.toInt) by omega) with c_16 | c_16 | c_16 | c_16 | c_16 | c_16 | c_16 | c_16 | c_16
      · refine lv_tableIn (tgt := 80) (off := 48) hx hb dX10_pair_32 (by omega) (by omega) (by rw [c_16]; rfl) (by decide) ?_
        refine lv_aload_n hx hb dX10_pair_80 rfl (lv_at hl 1 rfl) ?_
        refine va_get (D := DG E) (ci := 10) (v := .ref (rf 10)) (C := RX10) (T := TX10) (N := 49) hx hb hts iw_X10 hown hK.1 (va_one hM.1) 0 rfl rfl 10 (by decide) (hts _ fl_X10_28) (fun _ h9 => h9) rfl dX10_pair_81 ?_
        refine lv_iload_n hx hb dX10_pair_84 rfl (lv_at hl 2 rfl) ?_
        have ha_17 : va_at (DG E) vwCl (rf 10, .inl (E.2.2 0, 4, .inl (A 10))) _ := hM.2 10 (by decide) (by decide) (by decide)
        refine va_iald (D := DG E) hx hb hK.1 (va_one ha_17) 0 0 rfl rfl hi_2 dX10_pair_85 ?_
        refine W.eq (g2 := F0 m 86 ls [.int ((A 10) n_4)]) (by rw [en_4]) ?_
        exact W.iret (v := ((A 10) n_4)) hx hb hr (fun t ht hW => ⟨⟨((A 10) n_4), 0, rfl, (Or.inr (Or.inr (Or.inr (Or.inr (Or.inr (Or.inr (Or.inr (Or.inr (Or.inr (Or.inr (Or.inl ⟨c_1r, n_4, hn_4, c_5, c_16, rfl, rfl, rfl, rfl⟩))))))))))), (by show MH E h0 rf t0 t1 t2 A 0 pk t.heap; rw [ht]; exact hM)⟩, hS.F ht⟩) hS.2.2 dX10_pair_86
      · refine lv_tableIn (tgt := 87) (off := 55) hx hb dX10_pair_32 (by omega) (by omega) (by rw [c_16]; rfl) (by decide) ?_
        refine lv_iload_n hx hb dX10_pair_87 rfl (lv_at hl 0 rfl) ?_
        refine lv_if_eq (tgt := 100) hx hb dX10_pair_88 (by decide) (fun c_18 => absurd c_18 (by decide)) (fun c_18 => ?_)
        refine lv_aload_n hx hb dX10_pair_91 rfl (lv_at hl 1 rfl) ?_
        refine va_get (D := DG E) (ci := 10) (v := .ref (rf 11)) (C := RX10) (T := TX10) (N := 49) hx hb hts iw_X10 hown hK.1 (va_one hM.1) 0 rfl rfl 11 (by decide) (hts _ fl_X10_31) (fun _ h9 => h9) rfl dX10_pair_92 ?_
        refine lv_iload_n hx hb dX10_pair_95 rfl (lv_at hl 2 rfl) ?_
        have ha_19 : va_at (DG E) vwCl (rf 11, .inl (E.2.2 0, 4, .inl (A 11))) _ := hM.2 11 (by decide) (by decide) (by decide)
        refine va_iald (D := DG E) hx hb hK.1 (va_one ha_19) 0 0 rfl rfl hi_2 dX10_pair_96 ?_
        refine W.eq (g2 := F0 m 97 ls [.int ((A 11) n_4)]) (by rw [en_4]) ?_
        refine lv_goto (tgt := 101) hx hb dX10_pair_97 (by decide) ?_
        exact W.iret (v := ((A 11) n_4)) hx hb hr (fun t ht hW => ⟨⟨((A 11) n_4), 0, rfl, (Or.inr (Or.inr (Or.inr (Or.inr (Or.inr (Or.inr (Or.inr (Or.inr (Or.inr (Or.inr (Or.inr (Or.inl ⟨c_1r, n_4, hn_4, c_5, c_16, rfl, rfl, rfl, rfl⟩)))))))))))), (by show MH E h0 rf t0 t1 t2 A 0 pk t.heap; rw [ht]; exact hM)⟩, hS.F ht⟩) hS.2.2 dX10_pair_101
      · refine lv_tableIn (tgt := 102) (off := 70) hx hb dX10_pair_32 (by omega) (by omega) (by rw [c_16]; rfl) (by decide) ?_
        refine lv_iload_n hx hb dX10_pair_102 rfl (lv_at hl 0 rfl) ?_
        refine lv_if_eq (tgt := 115) hx hb dX10_pair_103 (by decide) (fun c_20 => absurd c_20 (by decide)) (fun c_20 => ?_)
        refine lv_aload_n hx hb dX10_pair_106 rfl (lv_at hl 1 rfl) ?_
        refine va_get (D := DG E) (ci := 10) (v := .ref (rf 12)) (C := RX10) (T := TX10) (N := 49) hx hb hts iw_X10 hown hK.1 (va_one hM.1) 0 rfl rfl 12 (by decide) (hts _ fl_X10_34) (fun _ h9 => h9) rfl dX10_pair_107 ?_
        refine lv_iload_n hx hb dX10_pair_110 rfl (lv_at hl 2 rfl) ?_
        have ha_21 : va_at (DG E) vwCl (rf 12, .inl (E.2.2 0, 4, .inl (A 12))) _ := hM.2 12 (by decide) (by decide) (by decide)
        refine va_iald (D := DG E) hx hb hK.1 (va_one ha_21) 0 0 rfl rfl hi_2 dX10_pair_111 ?_
        refine W.eq (g2 := F0 m 112 ls [.int ((A 12) n_4)]) (by rw [en_4]) ?_
        refine lv_goto (tgt := 116) hx hb dX10_pair_112 (by decide) ?_
        exact W.iret (v := ((A 12) n_4)) hx hb hr (fun t ht hW => ⟨⟨((A 12) n_4), 0, rfl, (Or.inr (Or.inr (Or.inr (Or.inr (Or.inr (Or.inr (Or.inr (Or.inr (Or.inr (Or.inr (Or.inr (Or.inr (Or.inl ⟨c_1r, n_4, hn_4, c_5, c_16, rfl, rfl, rfl, rfl⟩))))))))))))), (by show MH E h0 rf t0 t1 t2 A 0 pk t.heap; rw [ht]; exact hM)⟩, hS.F ht⟩) hS.2.2 dX10_pair_116
      · refine lv_tableIn (tgt := 117) (off := 85) hx hb dX10_pair_32 (by omega) (by omega) (by rw [c_16]; rfl) (by decide) ?_
        refine lv_iload_n hx hb dX10_pair_117 rfl (lv_at hl 0 rfl) ?_
        refine lv_if_eq (tgt := 130) hx hb dX10_pair_118 (by decide) (fun c_22 => absurd c_22 (by decide)) (fun c_22 => ?_)
        refine lv_aload_n hx hb dX10_pair_121 rfl (lv_at hl 1 rfl) ?_
        refine va_get (D := DG E) (ci := 10) (v := .ref (rf 13)) (C := RX10) (T := TX10) (N := 49) hx hb hts iw_X10 hown hK.1 (va_one hM.1) 0 rfl rfl 13 (by decide) (hts _ fl_X10_37) (fun _ h9 => h9) rfl dX10_pair_122 ?_
        refine lv_iload_n hx hb dX10_pair_125 rfl (lv_at hl 2 rfl) ?_
        have ha_23 : va_at (DG E) vwCl (rf 13, .inl (E.2.2 0, 4, .inl (A 13))) _ := hM.2 13 (by decide) (by decide) (by decide)
        refine va_iald (D := DG E) hx hb hK.1 (va_one ha_23) 0 0 rfl rfl hi_2 dX10_pair_126 ?_
        refine W.eq (g2 := F0 m 127 ls [.int ((A 13) n_4)]) (by rw [en_4]) ?_
        refine lv_goto (tgt := 131) hx hb dX10_pair_127 (by decide) ?_
        exact W.iret (v := ((A 13) n_4)) hx hb hr (fun t ht hW => ⟨⟨((A 13) n_4), 0, rfl, (Or.inr (Or.inr (Or.inr (Or.inr (Or.inr (Or.inr (Or.inr (Or.inr (Or.inr (Or.inr (Or.inr (Or.inr (Or.inr (Or.inl ⟨c_1r, n_4, hn_4, c_5, c_16, rfl, rfl, rfl, rfl⟩)))))))))))))), (by show MH E h0 rf t0 t1 t2 A 0 pk t.heap; rw [ht]; exact hM)⟩, hS.F ht⟩) hS.2.2 dX10_pair_131
      · refine lv_tableIn (tgt := 132) (off := 100) hx hb dX10_pair_32 (by omega) (by omega) (by rw [c_16]; rfl) (by decide) ?_
        refine lv_iload_n hx hb dX10_pair_132 rfl (lv_at hl 0 rfl) ?_
        refine lv_if_eq (tgt := 145) hx hb dX10_pair_133 (by decide) (fun c_24 => absurd c_24 (by decide)) (fun c_24 => ?_)
        refine lv_aload_n hx hb dX10_pair_136 rfl (lv_at hl 1 rfl) ?_
        refine va_get (D := DG E) (ci := 10) (v := .ref (rf 14)) (C := RX10) (T := TX10) (N := 49) hx hb hts iw_X10 hown hK.1 (va_one hM.1) 0 rfl rfl 14 (by decide) (hts _ fl_X10_40) (fun _ h9 => h9) rfl dX10_pair_137 ?_
        refine lv_iload_n hx hb dX10_pair_140 rfl (lv_at hl 2 rfl) ?_
        have ha_25 : va_at (DG E) vwCl (rf 14, .inl (E.2.2 0, 4, .inl (A 14))) _ := hM.2 14 (by decide) (by decide) (by decide)
        refine va_iald (D := DG E) hx hb hK.1 (va_one ha_25) 0 0 rfl rfl hi_2 dX10_pair_141 ?_
        refine W.eq (g2 := F0 m 142 ls [.int ((A 14) n_4)]) (by rw [en_4]) ?_
        refine lv_goto (tgt := 146) hx hb dX10_pair_142 (by decide) ?_
        exact W.iret (v := ((A 14) n_4)) hx hb hr (fun t ht hW => ⟨⟨((A 14) n_4), 0, rfl, (Or.inr (Or.inr (Or.inr (Or.inr (Or.inr (Or.inr (Or.inr (Or.inr (Or.inr (Or.inr (Or.inr (Or.inr (Or.inr (Or.inr (Or.inl ⟨c_1r, n_4, hn_4, c_5, c_16, rfl, rfl, rfl, rfl⟩))))))))))))))), (by show MH E h0 rf t0 t1 t2 A 0 pk t.heap; rw [ht]; exact hM)⟩, hS.F ht⟩) hS.2.2 dX10_pair_146
      · refine lv_tableIn (tgt := 147) (off := 115) hx hb dX10_pair_32 (by omega) (by omega) (by rw [c_16]; rfl) (by decide) ?_
        refine lv_aload_n hx hb dX10_pair_147 rfl (lv_at hl 1 rfl) ?_
        refine va_get (D := DG E) (ci := 10) (v := .ref (rf 20)) (C := RX10) (T := TX10) (N := 49) hx hb hts iw_X10 hown hK.1 (va_one hM.1) 0 rfl rfl 20 (by decide) (hts _ fl_X10_59) (fun _ h9 => h9) rfl dX10_pair_148 ?_
        refine lv_iload_n hx hb dX10_pair_151 rfl (lv_at hl 2 rfl) ?_
        have ha_26 : va_at (DG E) vwCl (rf 20, .inl (E.2.2 0, 4, .inl (A 20))) _ := hM.2 20 (by decide) (by decide) (by decide)
        refine va_iald (D := DG E) hx hb hK.1 (va_one ha_26) 0 0 rfl rfl hi_2 dX10_pair_152 ?_
        refine W.eq (g2 := F0 m 153 ls [.int ((A 20) n_4)]) (by rw [en_4]) ?_
        exact W.iret (v := ((A 20) n_4)) hx hb hr (fun t ht hW => ⟨⟨((A 20) n_4), 0, rfl, (Or.inr (Or.inr (Or.inr (Or.inr (Or.inr (Or.inr (Or.inr (Or.inr (Or.inr (Or.inr (Or.inr (Or.inr (Or.inr (Or.inr (Or.inr (Or.inl ⟨c_1r, n_4, hn_4, c_5, c_16, rfl, rfl, rfl, rfl⟩)))))))))))))))), (by show MH E h0 rf t0 t1 t2 A 0 pk t.heap; rw [ht]; exact hM)⟩, hS.F ht⟩) hS.2.2 dX10_pair_153
      · refine lv_tableIn (tgt := 154) (off := 122) hx hb dX10_pair_32 (by omega) (by omega) (by rw [c_16]; rfl) (by decide) ?_
        refine lv_aload_n hx hb dX10_pair_154 rfl (lv_at hl 1 rfl) ?_
        refine va_get (D := DG E) (ci := 10) (v := .ref (rf 30)) (C := RX10) (T := TX10) (N := 49) hx hb hts iw_X10 hown hK.1 (va_one hM.1) 0 rfl rfl 30 (by decide) (hts _ fl_X10_89) (fun _ h9 => h9) rfl dX10_pair_155 ?_
        refine lv_iload_n hx hb dX10_pair_158 rfl (lv_at hl 2 rfl) ?_
        have ha_27 : va_at (DG E) vwCl (rf 30, .inl (E.2.2 0, 4, .inl (A 30))) _ := hM.2 30 (by decide) (by decide) (by decide)
        refine va_iald (D := DG E) hx hb hK.1 (va_one ha_27) 0 0 rfl rfl hi_2 dX10_pair_159 ?_
        refine W.eq (g2 := F0 m 160 ls [.int ((A 30) n_4)]) (by rw [en_4]) ?_
        exact W.iret (v := ((A 30) n_4)) hx hb hr (fun t ht hW => ⟨⟨((A 30) n_4), 0, rfl, (Or.inr (Or.inr (Or.inr (Or.inr (Or.inr (Or.inr (Or.inr (Or.inr (Or.inr (Or.inr (Or.inr (Or.inr (Or.inr (Or.inr (Or.inr (Or.inr (Or.inl ⟨c_1r, n_4, hn_4, c_5, c_16, rfl, rfl, rfl, rfl⟩))))))))))))))))), (by show MH E h0 rf t0 t1 t2 A 0 pk t.heap; rw [ht]; exact hM)⟩, hS.F ht⟩) hS.2.2 dX10_pair_160
      · refine lv_tableIn (tgt := 161) (off := 129) hx hb dX10_pair_32 (by omega) (by omega) (by rw [c_16]; rfl) (by decide) ?_
        refine lv_aload_n hx hb dX10_pair_161 rfl (lv_at hl 1 rfl) ?_
        refine va_get (D := DG E) (ci := 10) (v := .ref (rf 18)) (C := RX10) (T := TX10) (N := 49) hx hb hts iw_X10 hown hK.1 (va_one hM.1) 0 rfl rfl 18 (by decide) (hts _ fl_X10_52) (fun _ h9 => h9) rfl dX10_pair_162 ?_
        refine lv_iload_n hx hb dX10_pair_165 rfl (lv_at hl 2 rfl) ?_
        have ha_28 : va_at (DG E) vwCl (rf 18, .inl (E.2.2 1, 4, .inl (A 18))) _ := hM.2 18 (by decide) (by decide) (by decide)
        refine va_zald (D := DG E) hx hb hK.1 (va_one ha_28) 0 1 rfl rfl hi_2 dX10_pair_166 ?_
        refine W.eq (g2 := F0 m 167 ls [.int ((A 18) n_4)]) (by rw [en_4]) ?_
        refine lv_if_eq (tgt := 174) hx hb dX10_pair_167 (by decide) (fun c_29 => ?_) (fun c_29 => ?_)
        · simp only [lt_I, le_I, eq_I, i_0, i_1, i_2, i_3, i_4, i_5, i_6, i_7, i_8, i_10, i_12, i_16, i_20, i_23, i_24, i_31, i_32, i_63, i_64, i_m1, i_9, i_11, i_13, i_25, i_60, i_75, i_79, i_80, i_96, i_100] at c_29
          refine lv_iconst (v := 0) hx hb dX10_pair_174 (by decide) ?_
          exact W.iret (v := 0) hx hb hr (fun t ht hW => ⟨⟨0, 0, rfl, (Or.inr (Or.inr (Or.inr (Or.inr (Or.inr (Or.inr (Or.inr (Or.inr (Or.inr (Or.inr (Or.inr (Or.inr (Or.inr (Or.inr (Or.inr (Or.inr (Or.inr (Or.inl ⟨c_1r, n_4, hn_4, c_5, c_16, c_29, rfl, rfl, rfl, rfl⟩)))))))))))))))))), (by show MH E h0 rf t0 t1 t2 A 0 pk t.heap; rw [ht]; exact hM)⟩, hS.F ht⟩) hS.2.2 dX10_pair_175
        · simp only [lt_I, le_I, eq_I, i_0, i_1, i_2, i_3, i_4, i_5, i_6, i_7, i_8, i_10, i_12, i_16, i_20, i_23, i_24, i_31, i_32, i_63, i_64, i_m1, i_9, i_11, i_13, i_25, i_60, i_75, i_79, i_80, i_96, i_100] at c_29
          refine lv_iconst (v := 1) hx hb dX10_pair_170 (by decide) ?_
          refine lv_goto (tgt := 175) hx hb dX10_pair_171 (by decide) ?_
          exact W.iret (v := 1) hx hb hr (fun t ht hW => ⟨⟨1, 0, rfl, (Or.inr (Or.inr (Or.inr (Or.inr (Or.inr (Or.inr (Or.inr (Or.inr (Or.inr (Or.inr (Or.inr (Or.inr (Or.inr (Or.inr (Or.inr (Or.inr (Or.inr (Or.inr (Or.inl ⟨c_1r, n_4, hn_4, c_5, c_16, c_29, rfl, rfl, rfl, rfl⟩))))))))))))))))))), (by show MH E h0 rf t0 t1 t2 A 0 pk t.heap; rw [ht]; exact hM)⟩, hS.F ht⟩) hS.2.2 dX10_pair_175
      · refine lv_tableOut (tgt := 176) hx hb dX10_pair_32 c_16 (by decide) ?_
        refine lv_iconst (v := (-1)) hx hb dX10_pair_176 (by decide) ?_
        exact W.iret (v := (-1)) hx hb hr (fun t ht hW => ⟨⟨(-1), 0, rfl, (Or.inr (Or.inr (Or.inr (Or.inr (Or.inr (Or.inr (Or.inr (Or.inr (Or.inr (Or.inr (Or.inr (Or.inr (Or.inr (Or.inr (Or.inr (Or.inr (Or.inr (Or.inr (Or.inr (Or.inl ⟨c_1r, n_4, hn_4, c_5, c_16, rfl, rfl, rfl, rfl⟩)))))))))))))))))))), (by show MH E h0 rf t0 t1 t2 A 0 pk t.heap; rw [ht]; exact hM)⟩, hS.F ht⟩) hS.2.2 dX10_pair_177
  · have c_1 := bI_0 c_1
    have c_1r := c_1
    try simp only [lt_I, le_I, eq_I, i_0, i_1, i_2, i_3, i_4, i_5, i_6, i_7, i_8, i_10, i_12, i_16, i_20, i_23, i_24, i_31, i_32, i_63, i_64, i_m1, i_9, i_11, i_13, i_25, i_60, i_75, i_79, i_80, i_96, i_100] at c_1
    refine lv_iconst (v := (-1)) hx hb dX10_pair_13 (by decide) ?_
    exact W.iret (v := (-1)) hx hb hr (fun t ht hW => ⟨⟨(-1), 0, rfl, (Or.inr (Or.inr (Or.inr (Or.inr (Or.inr (Or.inr (Or.inr (Or.inr (Or.inr (Or.inr (Or.inr (Or.inr (Or.inr (Or.inr (Or.inr (Or.inr (Or.inr (Or.inr (Or.inr (Or.inr ⟨c_1r, rfl, rfl, rfl, rfl⟩)))))))))))))))))))), (by show MH E h0 rf t0 t1 t2 A 0 pk t.heap; rw [ht]; exact hM)⟩, hS.F ht⟩) hS.2.2 dX10_pair_14
theorem dX10_completions_0 : decode cX10_completions 0 = .ok (.aload_n 0, 1) := by decide +kernel
theorem dX10_completions_1 : decode cX10_completions 1 = .ok (.iconst 0, 1) := by decide +kernel
theorem dX10_completions_2 : decode cX10_completions 2 = .ok (.putfield 153, 3) := by decide +kernel
theorem dX10_completions_5 : decode cX10_completions 5 = .ok (.iload_n 1, 1) := by decide +kernel
theorem dX10_completions_6 : decode cX10_completions 6 = .ok (.iconst 1, 1) := by decide +kernel
theorem dX10_completions_7 : decode cX10_completions 7 = .ok (.invokestatic 156, 3) := by decide +kernel
theorem dX10_completions_10 : decode cX10_completions 10 = .ok (.ifCond .eq 12, 3) := by decide +kernel
theorem dX10_completions_13 : decode cX10_completions 13 = .ok (.aload_n 0, 1) := by decide +kernel
theorem dX10_completions_14 : decode cX10_completions 14 = .ok (.getfield 22, 3) := by decide +kernel
theorem dX10_completions_17 : decode cX10_completions 17 = .ok (.iload_n 1, 1) := by decide +kernel
theorem dX10_completions_18 : decode cX10_completions 18 = .ok (.iaload, 1) := by decide +kernel
theorem dX10_completions_19 : decode cX10_completions 19 = .ok (.goto 4, 3) := by decide +kernel
theorem dX10_completions_22 : decode cX10_completions 22 = .ok (.iconst (-1), 1) := by decide +kernel
theorem dX10_completions_23 : decode cX10_completions 23 = .ok (.ireturn, 1) := by decide +kernel
set_option maxHeartbeats 8000000 in
set_option maxRecDepth 100000 in
theorem u_X10_completions (l : Launch) (E : EE) (z0 : Nat) (G : Nat → Nat) (hGz : ∀ q, G q ≠ 0 → z0 ≤ q) (h0 : Nat) (rf : Nat → Nat) (hR : MG G h0 rf) (t0 t1 t2 : Int32) (A : AA) (cd pk : Int32) (p0 : Int32) : Met l yX10_completions [Cond.code yX10_completions cX10_completions 2 (some .int)] ({ frames := 1, cells := 0, slots := 0, locals := 21 } : Room) (va_Pc [.ref h0, .int p0] (fun U => MH E h0 rf t0 t1 t2 A cd pk U.heap ∧ KS E z0 U)) (va_Qi (fun (r : Int32) (u : Int32) => D_X10_completions A cd pk p0 A (u) pk r) (fun u t => MH E h0 rf t0 t1 t2 A (u) pk t.heap) (fun q : Nat => G q ≠ 0)) 0 0 (fun q : Nat => G q ≠ 0) := by
  refine Met.ofW (cc := cX10_completions) (maxL := 2) (ret := (some .int)) (by decide) rfl ?_
  intro p e s m args below meth c s₁ B hml hv
  obtain ⟨rfl, hM, hK⟩ := hv
  have hx := B.exec
  have hb := B.bytes
  have hr := B.returns
  have hts : ∀ w ∈ TS, w.before ([.ref h0, .int p0] : List Value).toArray s = true := fun w hw => hK.2.1 w hw _
  have hown : s.vm.findClass RX10 = some m.cls := findClass_of_methodNamed B.named
  have hlocks := B.notSynchronized
  have hS : va_S (fun q : Nat => G q ≠ 0) s.heap s.heap [] := va_S.rf
  have hAz : ∀ q, (fun q : Nat => G q ≠ 0) q → z0 ≤ q := hGz
  have hl := lv_entry ([.ref h0, .int p0]) (n := 2) (Nat.le_of_ble_eq_true rfl)
  rw [lg_entry_eq]
  generalize (lg_sl ([.ref h0, .int p0]) ++ List.replicate (2 - (lg_sl ([.ref h0, .int p0])).length) Slot.unset).toArray = ls at hl ⊢
  have hl : lv_has ls 2 [(0, .ref h0), (1, .int p0)] := hl
  refine lv_aload_n hx hb dX10_completions_0 rfl (lv_at hl 0 rfl) ?_
  refine lv_iconst (v := 0) hx hb dX10_completions_1 (by decide) ?_
  refine rr_put (D := DG E) (ci := 10) (v := .int 0) (ty := .int) (C := RX10) (T := TX10) (N := 49) hx hb hts iw_X10 tyX10 tyX10_ok nmX10 hown hK.1 hM.1 hS (by show G h0 ≠ 0; rw [hR.1]; decide) rfl 3 (by decide) (hts _ fl_X10_153) (fun _ h9 => h9) rfl (by decide +kernel) rfl rfl (Nat.le_of_ble_eq_true rfl) dX10_completions_2 (fun H locs hn ho hz hS => ?_)
  have hM : MH E h0 rf t0 t1 t2 A 0 pk H := hM.sc hR hn ho
  refine lv_iload_n hx hb dX10_completions_5 rfl (lv_at hl 1 rfl) ?_
  refine lv_iconst (v := 1) hx hb dX10_completions_6 (by decide) ?_
  refine W.callR (W.runS (As := [.int p0, .int 1]) (rest := []) ⟨hx, hb, hml, hown, hts⟩ (c_X10_within l p0 1) (cwS 2 hts (gdS ml_X10_156 st_X10_within in_X10 co_X10_within rfl) rfl rfl rfl (by decide +kernel) ⟨Nat.le_of_ble_eq_true rfl, Nat.le_of_ble_eq_true rfl⟩) preEq rfl rfl hl.1 rfl (lv_room (Nat.le_of_ble_eq_true rfl)) dX10_completions_7 ⟨Nat.le_of_ble_eq_true rfl, Nat.le_of_ble_eq_true rfl⟩) ?_
  refine W.eq (g2 := F0 m 10 ls [.int (bI (0 ≤ p0.toInt ∧ p0.toInt ≤ (1 : Int32).toInt))]) (by rfl) ?_
  refine lv_if_eq (tgt := 22) hx hb dX10_completions_10 (by decide) (fun c_1 => ?_) (fun c_1 => ?_)
  · have c_1 := bI_0 c_1
    have c_1r := c_1
    try simp only [lt_I, le_I, eq_I, i_0, i_1, i_2, i_3, i_4, i_5, i_6, i_7, i_8, i_10, i_12, i_16, i_20, i_23, i_24, i_31, i_32, i_63, i_64, i_m1, i_9, i_11, i_13, i_25, i_60, i_75, i_79, i_80, i_96, i_100] at c_1
    refine lv_iconst (v := (-1)) hx hb dX10_completions_22 (by decide) ?_
    exact W.iret (v := (-1)) hx hb hr (fun t ht hW => ⟨⟨(-1), 0, rfl, (Or.inl ⟨c_1r, rfl, rfl, rfl, rfl⟩), (by show MH E h0 rf t0 t1 t2 A 0 pk t.heap; rw [ht]; exact hM)⟩, hS.F ht⟩) hS.2.2 dX10_completions_23
  · have c_1 := bI_n c_1
    have c_1r := c_1
    try simp only [lt_I, le_I, eq_I, i_0, i_1, i_2, i_3, i_4, i_5, i_6, i_7, i_8, i_10, i_12, i_16, i_20, i_23, i_24, i_31, i_32, i_63, i_64, i_m1, i_9, i_11, i_13, i_25, i_60, i_75, i_79, i_80, i_96, i_100] at c_1
    refine lv_aload_n hx hb dX10_completions_13 rfl (lv_at hl 0 rfl) ?_
    refine va_get (D := DG E) (ci := 10) (v := .ref (rf 8)) (C := RX10) (T := TX10) (N := 49) hx hb hts iw_X10 hown hK.1 (va_one hM.1) 0 rfl rfl 8 (by decide) (hts _ fl_X10_22) (fun _ h9 => h9) rfl dX10_completions_14 ?_
    refine lv_iload_n hx hb dX10_completions_17 rfl (lv_at hl 1 rfl) ?_
    have hi_2 : vp_in p0 2 := vp_in_iff.mpr (by omega)
    have ha_3 : va_at (DG E) vwCl (rf 8, .inl (E.2.2 0, 2, .inl (A 8))) _ := hM.2 8 (by decide) (by decide) (by decide)
    obtain ⟨n_4, hn_4, en_4⟩ := s_nat (x := p0) (by omega)
    refine va_iald (D := DG E) hx hb hK.1 (va_one ha_3) 0 0 rfl rfl hi_2 dX10_completions_18 ?_
    refine W.eq (g2 := F0 m 19 ls [.int ((A 8) n_4)]) (by rw [en_4]) ?_
    refine lv_goto (tgt := 23) hx hb dX10_completions_19 (by decide) ?_
    exact W.iret (v := ((A 8) n_4)) hx hb hr (fun t ht hW => ⟨⟨((A 8) n_4), 0, rfl, (Or.inr ⟨c_1r, n_4, hn_4, rfl, rfl, rfl, rfl⟩), (by show MH E h0 rf t0 t1 t2 A 0 pk t.heap; rw [ht]; exact hM)⟩, hS.F ht⟩) hS.2.2 dX10_completions_23
theorem dX10_dropEnd_0 : decode cX10_dropEnd 0 = .ok (.aload_n 0, 1) := by decide +kernel
theorem dX10_dropEnd_1 : decode cX10_dropEnd 1 = .ok (.getfield 22, 3) := by decide +kernel
theorem dX10_dropEnd_4 : decode cX10_dropEnd 4 = .ok (.iload_n 1, 1) := by decide +kernel
theorem dX10_dropEnd_5 : decode cX10_dropEnd 5 = .ok (.dup2, 1) := by decide +kernel
theorem dX10_dropEnd_6 : decode cX10_dropEnd 6 = .ok (.iaload, 1) := by decide +kernel
theorem dX10_dropEnd_7 : decode cX10_dropEnd 7 = .ok (.iconst 1, 1) := by decide +kernel
theorem dX10_dropEnd_8 : decode cX10_dropEnd 8 = .ok (.isub, 1) := by decide +kernel
theorem dX10_dropEnd_9 : decode cX10_dropEnd 9 = .ok (.iastore, 1) := by decide +kernel
theorem dX10_dropEnd_10 : decode cX10_dropEnd 10 = .ok (.bipush 80, 2) := by decide +kernel
theorem dX10_dropEnd_12 : decode cX10_dropEnd 12 = .ok (.iload_n 1, 1) := by decide +kernel
theorem dX10_dropEnd_13 : decode cX10_dropEnd 13 = .ok (.imul, 1) := by decide +kernel
theorem dX10_dropEnd_14 : decode cX10_dropEnd 14 = .ok (.istore_n 2, 1) := by decide +kernel
theorem dX10_dropEnd_15 : decode cX10_dropEnd 15 = .ok (.iload_n 2, 1) := by decide +kernel
theorem dX10_dropEnd_16 : decode cX10_dropEnd 16 = .ok (.bipush 80, 2) := by decide +kernel
theorem dX10_dropEnd_18 : decode cX10_dropEnd 18 = .ok (.iload_n 1, 1) := by decide +kernel
theorem dX10_dropEnd_19 : decode cX10_dropEnd 19 = .ok (.imul, 1) := by decide +kernel
theorem dX10_dropEnd_20 : decode cX10_dropEnd 20 = .ok (.iconst 5, 1) := by decide +kernel
theorem dX10_dropEnd_21 : decode cX10_dropEnd 21 = .ok (.aload_n 0, 1) := by decide +kernel
theorem dX10_dropEnd_22 : decode cX10_dropEnd 22 = .ok (.getfield 22, 3) := by decide +kernel
theorem dX10_dropEnd_25 : decode cX10_dropEnd 25 = .ok (.iload_n 1, 1) := by decide +kernel
theorem dX10_dropEnd_26 : decode cX10_dropEnd 26 = .ok (.iaload, 1) := by decide +kernel
theorem dX10_dropEnd_27 : decode cX10_dropEnd 27 = .ok (.imul, 1) := by decide +kernel
theorem dX10_dropEnd_28 : decode cX10_dropEnd 28 = .ok (.iadd, 1) := by decide +kernel
theorem dX10_dropEnd_29 : decode cX10_dropEnd 29 = .ok (.if_icmp .ge 23, 3) := by decide +kernel
theorem dX10_dropEnd_32 : decode cX10_dropEnd 32 = .ok (.aload_n 0, 1) := by decide +kernel
theorem dX10_dropEnd_33 : decode cX10_dropEnd 33 = .ok (.getfield 25, 3) := by decide +kernel
theorem dX10_dropEnd_36 : decode cX10_dropEnd 36 = .ok (.iload_n 2, 1) := by decide +kernel
theorem dX10_dropEnd_37 : decode cX10_dropEnd 37 = .ok (.aload_n 0, 1) := by decide +kernel
theorem dX10_dropEnd_38 : decode cX10_dropEnd 38 = .ok (.getfield 25, 3) := by decide +kernel
theorem dX10_dropEnd_41 : decode cX10_dropEnd 41 = .ok (.iload_n 2, 1) := by decide +kernel
theorem dX10_dropEnd_42 : decode cX10_dropEnd 42 = .ok (.iconst 5, 1) := by decide +kernel
theorem dX10_dropEnd_43 : decode cX10_dropEnd 43 = .ok (.iadd, 1) := by decide +kernel
theorem dX10_dropEnd_44 : decode cX10_dropEnd 44 = .ok (.iaload, 1) := by decide +kernel
theorem dX10_dropEnd_45 : decode cX10_dropEnd 45 = .ok (.iastore, 1) := by decide +kernel
theorem dX10_dropEnd_46 : decode cX10_dropEnd 46 = .ok (.iinc 2 1, 3) := by decide +kernel
theorem dX10_dropEnd_49 : decode cX10_dropEnd 49 = .ok (.goto (-34), 3) := by decide +kernel
theorem dX10_dropEnd_52 : decode cX10_dropEnd 52 = .ok (.iconst 0, 1) := by decide +kernel
theorem dX10_dropEnd_53 : decode cX10_dropEnd 53 = .ok (.ireturn, 1) := by decide +kernel
set_option maxHeartbeats 8000000 in
set_option maxRecDepth 100000 in
theorem u_X10_dropEnd (l : Launch) (E : EE) (z0 : Nat) (G : Nat → Nat) (hGz : ∀ q, G q ≠ 0 → z0 ≤ q) (h0 : Nat) (rf : Nat → Nat) (hR : MG G h0 rf) (t0 t1 t2 : Int32) (A : AA) (cd pk : Int32) (p0 : Int32) (hI3 : I3 (A 8)) (hy0 : 0 ≤ p0.toInt ∧ p0.toInt ≤ 1) (hy1 : ∀ n : Nat, (n : Int) = p0.toInt → 1 ≤ ((A 8) n).toInt) : Met l yX10_dropEnd [Cond.code yX10_dropEnd cX10_dropEnd 3 (some .int)] ({ frames := 0, cells := 0, slots := 0, locals := 0 } : Room) (va_Pc [.ref h0, .int p0] (fun U => MH E h0 rf t0 t1 t2 A cd pk U.heap ∧ KS E z0 U)) (va_Qi (fun (r : Int32) (u : (Nat → Int32) × (Nat → Int32)) => (I3 (u.1)) ∧ (D_X10_dropEnd A cd pk p0 (uA (uA A 8 (u.1)) 9 (u.2)) cd pk r)) (fun u t => MH E h0 rf t0 t1 t2 (uA (uA A 8 (u.1)) 9 (u.2)) cd pk t.heap) (fun q : Nat => G q ≠ 0)) 0 0 (fun q : Nat => G q ≠ 0) := by
  refine Met.ofW (cc := cX10_dropEnd) (maxL := 3) (ret := (some .int)) (by decide) rfl ?_
  intro p e s m args below meth c s₁ B hml hv
  obtain ⟨rfl, hM, hK⟩ := hv
  have hx := B.exec
  have hb := B.bytes
  have hr := B.returns
  have hts : ∀ w ∈ TS, w.before ([.ref h0, .int p0] : List Value).toArray s = true := fun w hw => hK.2.1 w hw _
  have hown : s.vm.findClass RX10 = some m.cls := findClass_of_methodNamed B.named
  have hlocks := B.notSynchronized
  have hS : va_S (fun q : Nat => G q ≠ 0) s.heap s.heap [] := va_S.rf
  have hAz : ∀ q, (fun q : Nat => G q ≠ 0) q → z0 ≤ q := hGz
  have hl := lv_entry ([.ref h0, .int p0]) (n := 3) (Nat.le_of_ble_eq_true rfl)
  rw [lg_entry_eq]
  generalize (lg_sl ([.ref h0, .int p0]) ++ List.replicate (3 - (lg_sl ([.ref h0, .int p0])).length) Slot.unset).toArray = ls at hl ⊢
  have hl : lv_has ls 3 [(0, .ref h0), (1, .int p0)] := hl
  obtain ⟨n_1, hn_1, en_1⟩ := s_nat (x := p0) (by omega)
  have hd0 := hy1 n_1 (by omega)
  refine lv_aload_n hx hb dX10_dropEnd_0 rfl (lv_at hl 0 rfl) ?_
  refine va_get (D := DG E) (ci := 10) (v := .ref (rf 8)) (C := RX10) (T := TX10) (N := 49) hx hb hts iw_X10 hown hK.1 (va_one hM.1) 0 rfl rfl 8 (by decide) (hts _ fl_X10_22) (fun _ h9 => h9) rfl dX10_dropEnd_1 ?_
  refine lv_iload_n hx hb dX10_dropEnd_4 rfl (lv_at hl 1 rfl) ?_
  refine lv_dup2_11 hx hb dX10_dropEnd_5 rfl rfl ?_
  have hi_2 : vp_in p0 2 := vp_in_iff.mpr (by omega)
  have ha_3 : va_at (DG E) vwCl (rf 8, .inl (E.2.2 0, 2, .inl (A 8))) _ := hM.2 8 (by decide) (by decide) (by decide)
  refine va_iald (D := DG E) hx hb hK.1 (va_one ha_3) 0 0 rfl rfl hi_2 dX10_dropEnd_6 ?_
  refine W.eq (g2 := F0 m 7 ls [.int ((A 8) n_1), .int p0, .ref (rf 8)]) (by rw [en_1]) ?_
  have hk_4 : n_1 < 2 := by omega
  have q_5 : 0 ≤ ((A 8) n_1).toInt := (hI3 n_1 hk_4).1
  have q_6 : ((A 8) n_1).toInt ≤ 16 := (hI3 n_1 hk_4).2
  refine lv_iconst (v := 1) hx hb dX10_dropEnd_7 (by decide) ?_
  refine lv_isub hx hb dX10_dropEnd_8 ?_
  refine lv_topi (fun x_7 ex_7 => ?_)
  have fx_7 : x_7.toInt = ((A 8) n_1).toInt - 1 := by have h9 := s_sub (x := ((A 8) n_1)) (y := 1) (by rw [i_1]; omega) (by rw [i_1]; omega); rw [i_1] at h9; rw [ex_7]; exact h9
  have ha_8 : va_at (DG E) vwCl (rf 8, .inl (E.2.2 0, 2, .inl (A 8))) _ := hM.2 8 (by decide) (by decide) (by decide)
  refine rr_iast (D := DG E) hx hb hK.1 0 ha_8 hS (by show G (rf 8) ≠ 0; rw [hR.2 8 (by decide) (by decide) (by decide)]; decide) rfl hi_2 dX10_dropEnd_9 (fun H locs hn ho hz hS => ?_)
  rw [en_1] at hn
  obtain ⟨g_8, eg_8⟩ : ∃ z : Nat → Int32, z = upd (A 8) n_1 x_7 := ⟨_, rfl⟩
  have sg_8 : g_8 n_1 = x_7 := by rw [eg_8]; exact upd_s
  have ng_8 : ∀ k, k ≠ n_1 → g_8 k = (A 8) k := fun k hk => by rw [eg_8]; exact upd_n hk
  have hn : va_at (DG E) vwCl (rf 8, .inl (E.2.2 0, 2, .inl g_8)) H := by rw [eg_8]; exact hn
  have hM : MH E h0 rf t0 t1 t2 (uA A 8 g_8) cd pk H := hM.w hR 8 (by decide) (by decide) (by decide) hn ho
  refine lv_bipush (v := 80) hx hb dX10_dropEnd_10 (by decide) ?_
  refine lv_iload_n hx hb dX10_dropEnd_12 rfl (lv_at hl 1 rfl) ?_
  refine lv_imul hx hb dX10_dropEnd_13 ?_
  refine lv_topi (fun x_9 ex_9 => ?_)
  have fx_9 : x_9.toInt = 80 * p0.toInt := by rw [ex_9]; exact s_mulK i_80 (by omega) (by omega)
  refine lv_istore_n (lv' := [(2, .int x_9), (0, .ref h0), (1, .int p0)]) hx hb dX10_dropEnd_14 rfl hl (by decide) rfl (fun ls hl => ?_)
  have hX_11 : ∃ b : Nat, (b : Int) = x_9.toInt ∧ Sh5 (A 9) (A 9) (80 * n_1) b := ⟨80 * n_1, by omega, Sh5.z⟩
  refine lp_nat (fun n H locs ls => ∃ (ix_10 : Int32) (u_10 : (Nat → Int32)), (80 * p0.toInt ≤ ix_10.toInt ∧ ix_10.toInt ≤ 80 * p0.toInt + 5 * x_7.toInt) ∧ (80 * p0.toInt + 5 * x_7.toInt - ix_10.toInt).toNat = n ∧ MH E h0 rf t0 t1 t2 (uA (uA A 8 g_8) 9 u_10) cd pk H ∧ (∃ b : Nat, (b : Int) = ix_10.toInt ∧ Sh5 (A 9) u_10 (80 * n_1) b) ∧ va_S (fun q : Nat => G q ≠ 0) s.heap H locs ∧ lv_has ls 3 [(2, .int ix_10), (0, .ref h0), (1, .int p0)]) (fun n_10 H locs ls ih_10 hI => ?_) ⟨x_9, (A 9), (by first | omega | decide), rfl, (by show MH E h0 rf t0 t1 t2 (uA (uA A 8 g_8) 9 (A 9)) cd pk _; exact hM.cge (funext fun j => (cgj j 9 rfl (fun a0 => (cgj j 8 rfl (fun a1 => (by simp only [uA_n a0, uA_n a1]))))))), hX_11, hS, hl⟩
  obtain ⟨ix_10, u_10, hb_10, hn_10, hM, hx_10, hS, hl⟩ := hI
  refine lv_iload_n hx hb dX10_dropEnd_15 rfl (lv_at hl 0 rfl) ?_
  refine lv_bipush (v := 80) hx hb dX10_dropEnd_16 (by decide) ?_
  refine lv_iload_n hx hb dX10_dropEnd_18 rfl (lv_at hl 2 rfl) ?_
  refine lv_imul hx hb dX10_dropEnd_19 ?_
  refine W.eq (g2 := F0 m 20 ls [.int x_9, .int ix_10]) (by rw [ex_9]) ?_
  refine lv_iconst (v := 5) hx hb dX10_dropEnd_20 (by decide) ?_
  refine lv_aload_n hx hb dX10_dropEnd_21 rfl (lv_at hl 1 rfl) ?_
  refine va_get (D := DG E) (ci := 10) (v := .ref (rf 8)) (C := RX10) (T := TX10) (N := 49) hx hb hts iw_X10 hown hK.1 (va_one hM.1) 0 rfl rfl 8 (by decide) (hts _ fl_X10_22) (fun _ h9 => h9) rfl dX10_dropEnd_22 ?_
  refine lv_iload_n hx hb dX10_dropEnd_25 rfl (lv_at hl 2 rfl) ?_
  have ha_12 : va_at (DG E) vwCl (rf 8, .inl (E.2.2 0, 2, .inl g_8)) _ := hM.2 8 (by decide) (by decide) (by decide)
  refine va_iald (D := DG E) hx hb hK.1 (va_one ha_12) 0 0 rfl rfl hi_2 dX10_dropEnd_26 ?_
  refine W.eq (g2 := F0 m 27 ls [.int x_7, .int 5, .int x_9, .int ix_10]) (by rw [en_1, sg_8]) ?_
  refine lv_imul hx hb dX10_dropEnd_27 ?_
  refine lv_topi (fun x_13 ex_13 => ?_)
  have fx_13 : x_13.toInt = 5 * x_7.toInt := by rw [ex_13]; exact s_mulK i_5 (by omega) (by omega)
  refine lv_iadd hx hb dX10_dropEnd_28 ?_
  refine lv_topi (fun x_14 ex_14 => ?_)
  have fx_14 : x_14.toInt = x_9.toInt + x_13.toInt := by have h9 := s_add (x := x_9) (y := x_13) (by omega) (by omega); rw [ex_14]; exact h9
  refine lv_icmp_ge (tgt := 52) hx hb dX10_dropEnd_29 (by decide) (fun c_15 => ?_) (fun c_15 => ?_)
  · simp only [lt_I, le_I, eq_I, i_0, i_1, i_2, i_3, i_4, i_5, i_6, i_7, i_8, i_10, i_12, i_16, i_20, i_23, i_24, i_31, i_32, i_63, i_64, i_m1, i_9, i_11, i_13, i_25, i_60, i_75, i_79, i_80, i_96, i_100] at c_15
    refine lv_iconst (v := 0) hx hb dX10_dropEnd_52 (by decide) ?_
    have hI3_16 : I3 g_8 := by
      intro n9 hn9
      have h9 : 0 ≤ ((A 8) n9).toInt ∧ ((A 8) n9).toInt ≤ 16 := hI3 n9 hn9
      show 0 ≤ (g_8 n9).toInt ∧ (g_8 n9).toInt ≤ 16
      by_cases ezn_1 : n9 = n_1
      · rw [ezn_1] at h9 ⊢
        rw [sg_8]
        clear h9
        exact ⟨by omega, by omega⟩
      · rw [ng_8 n9 ezn_1]
        exact h9
    exact W.iret (v := 0) hx hb hr (fun t ht hW => ⟨⟨0, (g_8, u_10), rfl, ⟨hI3_16, ⟨n_1, hn_1, x_7, ex_7, fx_7, g_8, eg_8, x_9, ex_9, fx_9, ix_10, u_10, hb_10, hx_10, x_13, ex_13, fx_13, x_14, ex_14, fx_14, c_15, rfl, rfl, rfl, rfl⟩⟩, (by show MH E h0 rf t0 t1 t2 (uA (uA A 8 g_8) 9 u_10) cd pk t.heap; rw [ht]; exact hM)⟩, hS.F ht⟩) hS.2.2 dX10_dropEnd_53
  · simp only [lt_I, le_I, eq_I, i_0, i_1, i_2, i_3, i_4, i_5, i_6, i_7, i_8, i_10, i_12, i_16, i_20, i_23, i_24, i_31, i_32, i_63, i_64, i_m1, i_9, i_11, i_13, i_25, i_60, i_75, i_79, i_80, i_96, i_100] at c_15
    refine lv_aload_n hx hb dX10_dropEnd_32 rfl (lv_at hl 1 rfl) ?_
    refine va_get (D := DG E) (ci := 10) (v := .ref (rf 9)) (C := RX10) (T := TX10) (N := 49) hx hb hts iw_X10 hown hK.1 (va_one hM.1) 0 rfl rfl 9 (by decide) (hts _ fl_X10_25) (fun _ h9 => h9) rfl dX10_dropEnd_33 ?_
    refine lv_iload_n hx hb dX10_dropEnd_36 rfl (lv_at hl 0 rfl) ?_
    refine lv_aload_n hx hb dX10_dropEnd_37 rfl (lv_at hl 1 rfl) ?_
    refine va_get (D := DG E) (ci := 10) (v := .ref (rf 9)) (C := RX10) (T := TX10) (N := 49) hx hb hts iw_X10 hown hK.1 (va_one hM.1) 0 rfl rfl 9 (by decide) (hts _ fl_X10_25) (fun _ h9 => h9) rfl dX10_dropEnd_38 ?_
    refine lv_iload_n hx hb dX10_dropEnd_41 rfl (lv_at hl 0 rfl) ?_
    refine lv_iconst (v := 5) hx hb dX10_dropEnd_42 (by decide) ?_
    refine lv_iadd hx hb dX10_dropEnd_43 ?_
    refine lv_topi (fun x_17 ex_17 => ?_)
    have fx_17 : x_17.toInt = ix_10.toInt + 5 := by have h9 := s_add (x := ix_10) (y := 5) (by rw [i_5]; omega) (by rw [i_5]; omega); rw [i_5] at h9; rw [ex_17]; exact h9
    have hi_18 : vp_in x_17 160 := vp_in_iff.mpr (by omega)
    have ha_19 : va_at (DG E) vwCl (rf 9, .inl (E.2.2 0, 160, .inl u_10)) _ := hM.2 9 (by decide) (by decide) (by decide)
    obtain ⟨n_20, hn_20, en_20⟩ := s_nat (x := x_17) (by omega)
    refine va_iald (D := DG E) hx hb hK.1 (va_one ha_19) 0 0 rfl rfl hi_18 dX10_dropEnd_44 ?_
    refine W.eq (g2 := F0 m 45 ls [.int (u_10 n_20), .int ix_10, .ref (rf 9)]) (by rw [en_20]) ?_
    have hi_21 : vp_in ix_10 160 := vp_in_iff.mpr (by omega)
    have ha_22 : va_at (DG E) vwCl (rf 9, .inl (E.2.2 0, 160, .inl u_10)) _ := hM.2 9 (by decide) (by decide) (by decide)
    obtain ⟨n_23, hn_23, en_23⟩ := s_nat (x := ix_10) (by omega)
    refine rr_iast (D := DG E) hx hb hK.1 0 ha_22 hS (by show G (rf 9) ≠ 0; rw [hR.2 9 (by decide) (by decide) (by decide)]; decide) rfl hi_21 dX10_dropEnd_45 (fun H locs hn ho hz hS => ?_)
    rw [en_23] at hn
    obtain ⟨g_22, eg_22⟩ : ∃ z : Nat → Int32, z = upd u_10 n_23 (u_10 n_20) := ⟨_, rfl⟩
    have sg_22 : g_22 n_23 = (u_10 n_20) := by rw [eg_22]; exact upd_s
    have ng_22 : ∀ k, k ≠ n_23 → g_22 k = u_10 k := fun k hk => by rw [eg_22]; exact upd_n hk
    have hn : va_at (DG E) vwCl (rf 9, .inl (E.2.2 0, 160, .inl g_22)) H := by rw [eg_22]; exact hn
    have hM : MH E h0 rf t0 t1 t2 (uA (uA (uA A 8 g_8) 9 u_10) 9 g_22) cd pk H := hM.w hR 9 (by decide) (by decide) (by decide) hn ho
    obtain ⟨x_24, ex_24⟩ : ∃ z : Int32, ix_10 + Int32.ofInt 1 = z := ⟨_, rfl⟩
    have fx_24 : x_24.toInt = ix_10.toInt + 1 := by have h9 := s_add (x := ix_10) (y := 1) (by rw [i_1]; omega) (by rw [i_1]; omega); rw [i_1] at h9; rw [← ex_24]; exact h9
    refine lv_iinc (v := x_24) (lv' := [(2, .int x_24), (0, .ref h0), (1, .int p0)]) hx hb dX10_dropEnd_46 hl (k := 0) rfl ex_24 (by decide) rfl (fun ls hl => ?_)
    refine lv_goto (tgt := 15) hx hb dX10_dropEnd_49 (by decide) ?_
    obtain ⟨b9, hb9, s9⟩ := hx_10
    obtain rfl : b9 = n_23 := by omega
    have e9 : n_20 = b9 + 5 := by omega
    have hX_25 : ∃ b : Nat, (b : Int) = x_24.toInt ∧ Sh5 (A 9) g_22 (80 * n_1) b := ⟨b9 + 1, by omega, s9.s (by omega) (by rw [sg_22, e9]) (ng_22)⟩
    exact ih_10 _ (by omega) _ _ _ ⟨x_24, g_22, (by first | omega | decide), rfl, (by show MH E h0 rf t0 t1 t2 (uA (uA A 8 g_8) 9 g_22) cd pk _; exact hM.cge (funext fun j => (cgj j 9 rfl (fun a0 => (cgj j 8 rfl (fun a1 => (by simp only [uA_n a0, uA_n a1]))))))), hX_25, hS, hl⟩
theorem gdX10_poll_0 : (decode cX10_poll 0 = .ok (.aload_n 0, 1)) ∧ (decode cX10_poll 1 = .ok (.iconst 0, 1)) ∧ (decode cX10_poll 2 = .ok (.putfield 153, 3)) ∧ (decode cX10_poll 5 = .ok (.iload_n 1, 1)) ∧ (decode cX10_poll 6 = .ok (.iconst 1, 1)) ∧ (decode cX10_poll 7 = .ok (.invokestatic 156, 3)) ∧ (decode cX10_poll 10 = .ok (.ifCond .eq 13, 3)) ∧ (decode cX10_poll 13 = .ok (.iload_n 2, 1)) ∧ (decode cX10_poll 14 = .ok (.iconst (-1), 1)) ∧ (decode cX10_poll 15 = .ok (.if_icmp .lt 8, 3)) ∧ (decode cX10_poll 18 = .ok (.iload_n 2, 1)) ∧ (decode cX10_poll 19 = .ok (.iconst 4, 1)) ∧ (decode cX10_poll 20 = .ok (.if_icmp .le 9, 3)) ∧ (decode cX10_poll 23 = .ok (.aload_n 0, 1)) ∧ (decode cX10_poll 24 = .ok (.iconst 1, 1)) ∧ (decode cX10_poll 25 = .ok (.invokevirtual 185, 3)) := by decide +kernel
theorem dX10_poll_0 : decode cX10_poll 0 = .ok (.aload_n 0, 1) := gdX10_poll_0.1
theorem dX10_poll_1 : decode cX10_poll 1 = .ok (.iconst 0, 1) := gdX10_poll_0.2.1
theorem dX10_poll_2 : decode cX10_poll 2 = .ok (.putfield 153, 3) := gdX10_poll_0.2.2.1
theorem dX10_poll_5 : decode cX10_poll 5 = .ok (.iload_n 1, 1) := gdX10_poll_0.2.2.2.1
theorem dX10_poll_6 : decode cX10_poll 6 = .ok (.iconst 1, 1) := gdX10_poll_0.2.2.2.2.1
theorem dX10_poll_7 : decode cX10_poll 7 = .ok (.invokestatic 156, 3) := gdX10_poll_0.2.2.2.2.2.1
theorem dX10_poll_10 : decode cX10_poll 10 = .ok (.ifCond .eq 13, 3) := gdX10_poll_0.2.2.2.2.2.2.1
theorem dX10_poll_13 : decode cX10_poll 13 = .ok (.iload_n 2, 1) := gdX10_poll_0.2.2.2.2.2.2.2.1
theorem dX10_poll_14 : decode cX10_poll 14 = .ok (.iconst (-1), 1) := gdX10_poll_0.2.2.2.2.2.2.2.2.1
theorem dX10_poll_15 : decode cX10_poll 15 = .ok (.if_icmp .lt 8, 3) := gdX10_poll_0.2.2.2.2.2.2.2.2.2.1
theorem dX10_poll_18 : decode cX10_poll 18 = .ok (.iload_n 2, 1) := gdX10_poll_0.2.2.2.2.2.2.2.2.2.2.1
theorem dX10_poll_19 : decode cX10_poll 19 = .ok (.iconst 4, 1) := gdX10_poll_0.2.2.2.2.2.2.2.2.2.2.2.1
theorem dX10_poll_20 : decode cX10_poll 20 = .ok (.if_icmp .le 9, 3) := gdX10_poll_0.2.2.2.2.2.2.2.2.2.2.2.2.1
theorem dX10_poll_23 : decode cX10_poll 23 = .ok (.aload_n 0, 1) := gdX10_poll_0.2.2.2.2.2.2.2.2.2.2.2.2.2.1
theorem dX10_poll_24 : decode cX10_poll 24 = .ok (.iconst 1, 1) := gdX10_poll_0.2.2.2.2.2.2.2.2.2.2.2.2.2.2.1
theorem dX10_poll_25 : decode cX10_poll 25 = .ok (.invokevirtual 185, 3) := gdX10_poll_0.2.2.2.2.2.2.2.2.2.2.2.2.2.2.2
theorem gdX10_poll_28 : (decode cX10_poll 28 = .ok (.ireturn, 1)) ∧ (decode cX10_poll 29 = .ok (.aload_n 0, 1)) ∧ (decode cX10_poll 30 = .ok (.getfield 22, 3)) ∧ (decode cX10_poll 33 = .ok (.iload_n 1, 1)) ∧ (decode cX10_poll 34 = .ok (.iaload, 1)) ∧ (decode cX10_poll 35 = .ok (.ifCond .ne 9, 3)) ∧ (decode cX10_poll 38 = .ok (.aload_n 0, 1)) ∧ (decode cX10_poll 39 = .ok (.iconst 2, 1)) ∧ (decode cX10_poll 40 = .ok (.invokevirtual 185, 3)) ∧ (decode cX10_poll 43 = .ok (.ireturn, 1)) ∧ (decode cX10_poll 44 = .ok (.iload_n 2, 1)) ∧ (decode cX10_poll 45 = .ok (.ifCond .ge 11, 3)) ∧ (decode cX10_poll 48 = .ok (.aload_n 0, 1)) ∧ (decode cX10_poll 49 = .ok (.iload_n 1, 1)) ∧ (decode cX10_poll 50 = .ok (.invokevirtual 280, 3)) ∧ (decode cX10_poll 53 = .ok (.goto 14, 3)) := by decide +kernel
theorem dX10_poll_28 : decode cX10_poll 28 = .ok (.ireturn, 1) := gdX10_poll_28.1
theorem dX10_poll_29 : decode cX10_poll 29 = .ok (.aload_n 0, 1) := gdX10_poll_28.2.1
theorem dX10_poll_30 : decode cX10_poll 30 = .ok (.getfield 22, 3) := gdX10_poll_28.2.2.1
theorem dX10_poll_33 : decode cX10_poll 33 = .ok (.iload_n 1, 1) := gdX10_poll_28.2.2.2.1
theorem dX10_poll_34 : decode cX10_poll 34 = .ok (.iaload, 1) := gdX10_poll_28.2.2.2.2.1
theorem dX10_poll_35 : decode cX10_poll 35 = .ok (.ifCond .ne 9, 3) := gdX10_poll_28.2.2.2.2.2.1
theorem dX10_poll_38 : decode cX10_poll 38 = .ok (.aload_n 0, 1) := gdX10_poll_28.2.2.2.2.2.2.1
theorem dX10_poll_39 : decode cX10_poll 39 = .ok (.iconst 2, 1) := gdX10_poll_28.2.2.2.2.2.2.2.1
theorem dX10_poll_40 : decode cX10_poll 40 = .ok (.invokevirtual 185, 3) := gdX10_poll_28.2.2.2.2.2.2.2.2.1
theorem dX10_poll_43 : decode cX10_poll 43 = .ok (.ireturn, 1) := gdX10_poll_28.2.2.2.2.2.2.2.2.2.1
theorem dX10_poll_44 : decode cX10_poll 44 = .ok (.iload_n 2, 1) := gdX10_poll_28.2.2.2.2.2.2.2.2.2.2.1
theorem dX10_poll_45 : decode cX10_poll 45 = .ok (.ifCond .ge 11, 3) := gdX10_poll_28.2.2.2.2.2.2.2.2.2.2.2.1
theorem dX10_poll_48 : decode cX10_poll 48 = .ok (.aload_n 0, 1) := gdX10_poll_28.2.2.2.2.2.2.2.2.2.2.2.2.1
theorem dX10_poll_49 : decode cX10_poll 49 = .ok (.iload_n 1, 1) := gdX10_poll_28.2.2.2.2.2.2.2.2.2.2.2.2.2.1
theorem dX10_poll_50 : decode cX10_poll 50 = .ok (.invokevirtual 280, 3) := gdX10_poll_28.2.2.2.2.2.2.2.2.2.2.2.2.2.2.1
theorem dX10_poll_53 : decode cX10_poll 53 = .ok (.goto 14, 3) := gdX10_poll_28.2.2.2.2.2.2.2.2.2.2.2.2.2.2.2
theorem gdX10_poll_56 : (decode cX10_poll 56 = .ok (.aload_n 0, 1)) ∧ (decode cX10_poll 57 = .ok (.getfield 25, 3)) ∧ (decode cX10_poll 60 = .ok (.bipush 80, 2)) ∧ (decode cX10_poll 62 = .ok (.iload_n 1, 1)) ∧ (decode cX10_poll 63 = .ok (.imul, 1)) ∧ (decode cX10_poll 64 = .ok (.iload_n 2, 1)) ∧ (decode cX10_poll 65 = .ok (.iadd, 1)) ∧ (decode cX10_poll 66 = .ok (.iaload, 1)) ∧ (decode cX10_poll 67 = .ok (.ireturn, 1)) := by decide +kernel
theorem dX10_poll_56 : decode cX10_poll 56 = .ok (.aload_n 0, 1) := gdX10_poll_56.1
theorem dX10_poll_57 : decode cX10_poll 57 = .ok (.getfield 25, 3) := gdX10_poll_56.2.1
theorem dX10_poll_60 : decode cX10_poll 60 = .ok (.bipush 80, 2) := gdX10_poll_56.2.2.1
theorem dX10_poll_62 : decode cX10_poll 62 = .ok (.iload_n 1, 1) := gdX10_poll_56.2.2.2.1
theorem dX10_poll_63 : decode cX10_poll 63 = .ok (.imul, 1) := gdX10_poll_56.2.2.2.2.1
theorem dX10_poll_64 : decode cX10_poll 64 = .ok (.iload_n 2, 1) := gdX10_poll_56.2.2.2.2.2.1
theorem dX10_poll_65 : decode cX10_poll 65 = .ok (.iadd, 1) := gdX10_poll_56.2.2.2.2.2.2.1
theorem dX10_poll_66 : decode cX10_poll 66 = .ok (.iaload, 1) := gdX10_poll_56.2.2.2.2.2.2.2.1
theorem dX10_poll_67 : decode cX10_poll 67 = .ok (.ireturn, 1) := gdX10_poll_56.2.2.2.2.2.2.2.2
set_option maxHeartbeats 8000000 in
set_option maxRecDepth 100000 in
theorem u_X10_poll (l : Launch) (E : EE) (z0 : Nat) (G : Nat → Nat) (hGz : ∀ q, G q ≠ 0 → z0 ≤ q) (h0 : Nat) (rf : Nat → Nat) (hR : MG G h0 rf) (t0 t1 t2 : Int32) (A : AA) (cd pk : Int32) (p0 : Int32) (p1 : Int32) (hI3 : I3 (A 8)) : Met l yX10_poll [Cond.code yX10_poll cX10_poll 3 (some .int)] ({ frames := 1, cells := 0, slots := 0, locals := 22 } : Room) (va_Pc [.ref h0, .int p0, .int p1] (fun U => MH E h0 rf t0 t1 t2 A cd pk U.heap ∧ KS E z0 U)) (va_Qi (fun (r : Int32) (u : (Nat → Int32) × (Nat → Int32) × Int32) => (I3 (u.1)) ∧ (D_X10_poll A cd pk p0 p1 (uA (uA A 8 (u.1)) 9 (u.2.1)) (u.2.2) pk r)) (fun u t => MH E h0 rf t0 t1 t2 (uA (uA A 8 (u.1)) 9 (u.2.1)) (u.2.2) pk t.heap) (fun q : Nat => G q ≠ 0)) 0 0 (fun q : Nat => G q ≠ 0) := by
  refine Met.ofW (cc := cX10_poll) (maxL := 3) (ret := (some .int)) (by decide) rfl ?_
  intro p e s m args below meth c s₁ B hml hv
  obtain ⟨rfl, hM, hK⟩ := hv
  have hx := B.exec
  have hb := B.bytes
  have hr := B.returns
  have hts : ∀ w ∈ TS, w.before ([.ref h0, .int p0, .int p1] : List Value).toArray s = true := fun w hw => hK.2.1 w hw _
  have hown : s.vm.findClass RX10 = some m.cls := findClass_of_methodNamed B.named
  have hlocks := B.notSynchronized
  have hS : va_S (fun q : Nat => G q ≠ 0) s.heap s.heap [] := va_S.rf
  have hAz : ∀ q, (fun q : Nat => G q ≠ 0) q → z0 ≤ q := hGz
  have hl := lv_entry ([.ref h0, .int p0, .int p1]) (n := 3) (Nat.le_of_ble_eq_true rfl)
  rw [lg_entry_eq]
  generalize (lg_sl ([.ref h0, .int p0, .int p1]) ++ List.replicate (3 - (lg_sl ([.ref h0, .int p0, .int p1])).length) Slot.unset).toArray = ls at hl ⊢
  have hl : lv_has ls 3 [(0, .ref h0), (1, .int p0), (2, .int p1)] := hl
  refine lv_aload_n hx hb dX10_poll_0 rfl (lv_at hl 0 rfl) ?_
  refine lv_iconst (v := 0) hx hb dX10_poll_1 (by decide) ?_
  refine rr_put (D := DG E) (ci := 10) (v := .int 0) (ty := .int) (C := RX10) (T := TX10) (N := 49) hx hb hts iw_X10 tyX10 tyX10_ok nmX10 hown hK.1 hM.1 hS (by show G h0 ≠ 0; rw [hR.1]; decide) rfl 3 (by decide) (hts _ fl_X10_153) (fun _ h9 => h9) rfl (by decide +kernel) rfl rfl (Nat.le_of_ble_eq_true rfl) dX10_poll_2 (fun H locs hn ho hz hS => ?_)
  have hM : MH E h0 rf t0 t1 t2 A 0 pk H := hM.sc hR hn ho
  refine lv_iload_n hx hb dX10_poll_5 rfl (lv_at hl 1 rfl) ?_
  refine lv_iconst (v := 1) hx hb dX10_poll_6 (by decide) ?_
  refine W.callR (W.runS (As := [.int p0, .int 1]) (rest := []) ⟨hx, hb, hml, hown, hts⟩ (c_X10_within l p0 1) (cwS 2 hts (gdS ml_X10_156 st_X10_within in_X10 co_X10_within rfl) rfl rfl rfl (by decide +kernel) ⟨Nat.le_of_ble_eq_true rfl, Nat.le_of_ble_eq_true rfl⟩) preEq rfl rfl hl.1 rfl (lv_room (Nat.le_of_ble_eq_true rfl)) dX10_poll_7 ⟨Nat.le_of_ble_eq_true rfl, Nat.le_of_ble_eq_true rfl⟩) ?_
  refine W.eq (g2 := F0 m 10 ls [.int (bI (0 ≤ p0.toInt ∧ p0.toInt ≤ (1 : Int32).toInt))]) (by rfl) ?_
  refine lv_if_eq (tgt := 23) hx hb dX10_poll_10 (by decide) (fun c_1 => ?_) (fun c_1 => ?_)
  · have c_1 := bI_0 c_1
    have c_1r := c_1
    try simp only [lt_I, le_I, eq_I, i_0, i_1, i_2, i_3, i_4, i_5, i_6, i_7, i_8, i_10, i_12, i_16, i_20, i_23, i_24, i_31, i_32, i_63, i_64, i_m1, i_9, i_11, i_13, i_25, i_60, i_75, i_79, i_80, i_96, i_100] at c_1
    refine lv_aload_n hx hb dX10_poll_23 rfl (lv_at hl 0 rfl) ?_
    refine lv_iconst (v := 1) hx hb dX10_poll_24 (by decide) ?_
    refine va_calli (rnV (fun H => MH E h0 rf t0 t1 t2 A 0 pk H) (As := [.int 1]) (rest := []) ⟨hx, hb, hml, hown, hts⟩ (u_X10_fail l E z0 G hGz h0 rf hR t0 t1 t2 A 0 pk 1) (cwV 1 hts (gdV ml_X10_185 im_X10_fail se_X10_X10_fail in_X10 co_X10_fail rfl) rfl rfl rfl (by decide +kernel) ⟨Nat.le_of_ble_eq_true rfl, Nat.le_of_ble_eq_true rfl⟩) hM (fun U hU hW => hK.go hW hS hAz hU) (va_recv hK.1 (va_one hM.1) (ci := 10) (q0 := 0) rfl rfl) rfl rfl hl.1 rfl (lv_room (Nat.le_of_ble_eq_true rfl)) dX10_poll_25 ⟨Nat.le_of_ble_eq_true rfl, Nat.le_of_ble_eq_true rfl⟩) hS (fun q _ h => h) (fun q h => h) (fun r_2 ur_2 t H locs ht hvm hwr_2 hB hz hk hS => ?_)
    have hM : MH E h0 rf t0 t1 t2 A ur_2 pk H := by rw [ht] at hB; exact hB
    have hDr_2 : D_X10_fail A (0 : Int32) pk (1 : Int32) A ur_2 pk r_2 := hwr_2.2
    have hpr_2_0 : ur_2 = (1 : Int32) := hwr_2.1
    have := i_1
    exact W.iret (v := r_2) hx hb hr (fun t ht hW => ⟨⟨r_2, ((A 8), (A 9), ur_2), rfl, ⟨hI3, (Or.inl ⟨c_1r, ur_2, r_2, hDr_2, hpr_2_0, rfl, rfl, rfl, rfl⟩)⟩, (by show MH E h0 rf t0 t1 t2 (uA (uA A 8 (A 8)) 9 (A 9)) ur_2 pk t.heap; rw [ht]; exact hM.cge (funext fun j => (cgj j 9 rfl (fun a0 => (cgj j 8 rfl (fun a1 => (by simp only [uA_n a0, uA_n a1])))))))⟩, hS.F ht⟩) hS.2.2 dX10_poll_28
  · have c_1 := bI_n c_1
    have c_1r := c_1
    try simp only [lt_I, le_I, eq_I, i_0, i_1, i_2, i_3, i_4, i_5, i_6, i_7, i_8, i_10, i_12, i_16, i_20, i_23, i_24, i_31, i_32, i_63, i_64, i_m1, i_9, i_11, i_13, i_25, i_60, i_75, i_79, i_80, i_96, i_100] at c_1
    refine lv_iload_n hx hb dX10_poll_13 rfl (lv_at hl 2 rfl) ?_
    refine lv_iconst (v := (-1)) hx hb dX10_poll_14 (by decide) ?_
    refine lv_icmp_lt (tgt := 23) hx hb dX10_poll_15 (by decide) (fun c_3 => ?_) (fun c_3 => ?_)
    · simp only [lt_I, le_I, eq_I, i_0, i_1, i_2, i_3, i_4, i_5, i_6, i_7, i_8, i_10, i_12, i_16, i_20, i_23, i_24, i_31, i_32, i_63, i_64, i_m1, i_9, i_11, i_13, i_25, i_60, i_75, i_79, i_80, i_96, i_100] at c_3
      refine lv_aload_n hx hb dX10_poll_23 rfl (lv_at hl 0 rfl) ?_
      refine lv_iconst (v := 1) hx hb dX10_poll_24 (by decide) ?_
      refine va_calli (rnV (fun H => MH E h0 rf t0 t1 t2 A 0 pk H) (As := [.int 1]) (rest := []) ⟨hx, hb, hml, hown, hts⟩ (u_X10_fail l E z0 G hGz h0 rf hR t0 t1 t2 A 0 pk 1) (cwV 1 hts (gdV ml_X10_185 im_X10_fail se_X10_X10_fail in_X10 co_X10_fail rfl) rfl rfl rfl (by decide +kernel) ⟨Nat.le_of_ble_eq_true rfl, Nat.le_of_ble_eq_true rfl⟩) hM (fun U hU hW => hK.go hW hS hAz hU) (va_recv hK.1 (va_one hM.1) (ci := 10) (q0 := 0) rfl rfl) rfl rfl hl.1 rfl (lv_room (Nat.le_of_ble_eq_true rfl)) dX10_poll_25 ⟨Nat.le_of_ble_eq_true rfl, Nat.le_of_ble_eq_true rfl⟩) hS (fun q _ h => h) (fun q h => h) (fun r_4 ur_4 t H locs ht hvm hwr_4 hB hz hk hS => ?_)
      have hM : MH E h0 rf t0 t1 t2 A ur_4 pk H := by rw [ht] at hB; exact hB
      have hDr_4 : D_X10_fail A (0 : Int32) pk (1 : Int32) A ur_4 pk r_4 := hwr_4.2
      have hpr_4_0 : ur_4 = (1 : Int32) := hwr_4.1
      have := i_1
      exact W.iret (v := r_4) hx hb hr (fun t ht hW => ⟨⟨r_4, ((A 8), (A 9), ur_4), rfl, ⟨hI3, (Or.inr (Or.inl ⟨c_1r, c_3, ur_4, r_4, hDr_4, hpr_4_0, rfl, rfl, rfl, rfl⟩))⟩, (by show MH E h0 rf t0 t1 t2 (uA (uA A 8 (A 8)) 9 (A 9)) ur_4 pk t.heap; rw [ht]; exact hM.cge (funext fun j => (cgj j 9 rfl (fun a0 => (cgj j 8 rfl (fun a1 => (by simp only [uA_n a0, uA_n a1])))))))⟩, hS.F ht⟩) hS.2.2 dX10_poll_28
    · simp only [lt_I, le_I, eq_I, i_0, i_1, i_2, i_3, i_4, i_5, i_6, i_7, i_8, i_10, i_12, i_16, i_20, i_23, i_24, i_31, i_32, i_63, i_64, i_m1, i_9, i_11, i_13, i_25, i_60, i_75, i_79, i_80, i_96, i_100] at c_3
      refine lv_iload_n hx hb dX10_poll_18 rfl (lv_at hl 2 rfl) ?_
      refine lv_iconst (v := 4) hx hb dX10_poll_19 (by decide) ?_
      refine lv_icmp_le (tgt := 29) hx hb dX10_poll_20 (by decide) (fun c_5 => ?_) (fun c_5 => ?_)
      · simp only [lt_I, le_I, eq_I, i_0, i_1, i_2, i_3, i_4, i_5, i_6, i_7, i_8, i_10, i_12, i_16, i_20, i_23, i_24, i_31, i_32, i_63, i_64, i_m1, i_9, i_11, i_13, i_25, i_60, i_75, i_79, i_80, i_96, i_100] at c_5
        refine lv_aload_n hx hb dX10_poll_29 rfl (lv_at hl 0 rfl) ?_
        refine va_get (D := DG E) (ci := 10) (v := .ref (rf 8)) (C := RX10) (T := TX10) (N := 49) hx hb hts iw_X10 hown hK.1 (va_one hM.1) 0 rfl rfl 8 (by decide) (hts _ fl_X10_22) (fun _ h9 => h9) rfl dX10_poll_30 ?_
        refine lv_iload_n hx hb dX10_poll_33 rfl (lv_at hl 1 rfl) ?_
        have hi_6 : vp_in p0 2 := vp_in_iff.mpr (by omega)
        have ha_7 : va_at (DG E) vwCl (rf 8, .inl (E.2.2 0, 2, .inl (A 8))) _ := hM.2 8 (by decide) (by decide) (by decide)
        obtain ⟨n_8, hn_8, en_8⟩ := s_nat (x := p0) (by omega)
        refine va_iald (D := DG E) hx hb hK.1 (va_one ha_7) 0 0 rfl rfl hi_6 dX10_poll_34 ?_
        refine W.eq (g2 := F0 m 35 ls [.int ((A 8) n_8)]) (by rw [en_8]) ?_
        have hk_9 : n_8 < 2 := by omega
        have q_10 : 0 ≤ ((A 8) n_8).toInt := (hI3 n_8 hk_9).1
        have q_11 : ((A 8) n_8).toInt ≤ 16 := (hI3 n_8 hk_9).2
        refine lv_if_ne (tgt := 44) hx hb dX10_poll_35 (by decide) (fun c_12 => ?_) (fun c_12 => ?_)
        · simp only [lt_I, le_I, eq_I, i_0, i_1, i_2, i_3, i_4, i_5, i_6, i_7, i_8, i_10, i_12, i_16, i_20, i_23, i_24, i_31, i_32, i_63, i_64, i_m1, i_9, i_11, i_13, i_25, i_60, i_75, i_79, i_80, i_96, i_100] at c_12
          refine lv_iload_n hx hb dX10_poll_44 rfl (lv_at hl 2 rfl) ?_
          refine lv_if_ge (tgt := 56) hx hb dX10_poll_45 (by decide) (fun c_13 => ?_) (fun c_13 => ?_)
          · simp only [lt_I, le_I, eq_I, i_0, i_1, i_2, i_3, i_4, i_5, i_6, i_7, i_8, i_10, i_12, i_16, i_20, i_23, i_24, i_31, i_32, i_63, i_64, i_m1, i_9, i_11, i_13, i_25, i_60, i_75, i_79, i_80, i_96, i_100] at c_13
            refine lv_aload_n hx hb dX10_poll_56 rfl (lv_at hl 0 rfl) ?_
            refine va_get (D := DG E) (ci := 10) (v := .ref (rf 9)) (C := RX10) (T := TX10) (N := 49) hx hb hts iw_X10 hown hK.1 (va_one hM.1) 0 rfl rfl 9 (by decide) (hts _ fl_X10_25) (fun _ h9 => h9) rfl dX10_poll_57 ?_
            refine lv_bipush (v := 80) hx hb dX10_poll_60 (by decide) ?_
            refine lv_iload_n hx hb dX10_poll_62 rfl (lv_at hl 1 rfl) ?_
            refine lv_imul hx hb dX10_poll_63 ?_
            refine lv_topi (fun x_14 ex_14 => ?_)
            have fx_14 : x_14.toInt = 80 * p0.toInt := by rw [ex_14]; exact s_mulK i_80 (by omega) (by omega)
            refine lv_iload_n hx hb dX10_poll_64 rfl (lv_at hl 2 rfl) ?_
            refine lv_iadd hx hb dX10_poll_65 ?_
            refine lv_topi (fun x_15 ex_15 => ?_)
            have fx_15 : x_15.toInt = x_14.toInt + p1.toInt := by have h9 := s_add (x := x_14) (y := p1) (by omega) (by omega); rw [ex_15]; exact h9
            have hi_16 : vp_in x_15 160 := vp_in_iff.mpr (by omega)
            have ha_17 : va_at (DG E) vwCl (rf 9, .inl (E.2.2 0, 160, .inl (A 9))) _ := hM.2 9 (by decide) (by decide) (by decide)
            obtain ⟨n_18, hn_18, en_18⟩ := s_nat (x := x_15) (by omega)
            refine va_iald (D := DG E) hx hb hK.1 (va_one ha_17) 0 0 rfl rfl hi_16 dX10_poll_66 ?_
            refine W.eq (g2 := F0 m 67 ls [.int ((A 9) n_18)]) (by rw [en_18]) ?_
            exact W.iret (v := ((A 9) n_18)) hx hb hr (fun t ht hW => ⟨⟨((A 9) n_18), ((A 8), (A 9), 0), rfl, ⟨hI3, (Or.inr (Or.inr (Or.inl ⟨c_1r, c_3, c_5, n_8, hn_8, c_12, c_13, x_14, ex_14, fx_14, x_15, ex_15, fx_15, n_18, hn_18, rfl, rfl, rfl, rfl⟩)))⟩, (by show MH E h0 rf t0 t1 t2 (uA (uA A 8 (A 8)) 9 (A 9)) 0 pk t.heap; rw [ht]; exact hM.cge (funext fun j => (cgj j 9 rfl (fun a0 => (cgj j 8 rfl (fun a1 => (by simp only [uA_n a0, uA_n a1])))))))⟩, hS.F ht⟩) hS.2.2 dX10_poll_67
          · simp only [lt_I, le_I, eq_I, i_0, i_1, i_2, i_3, i_4, i_5, i_6, i_7, i_8, i_10, i_12, i_16, i_20, i_23, i_24, i_31, i_32, i_63, i_64, i_m1, i_9, i_11, i_13, i_25, i_60, i_75, i_79, i_80, i_96, i_100] at c_13
            refine lv_aload_n hx hb dX10_poll_48 rfl (lv_at hl 0 rfl) ?_
            refine lv_iload_n hx hb dX10_poll_49 rfl (lv_at hl 1 rfl) ?_
            refine va_calli (rnV (fun H => MH E h0 rf t0 t1 t2 A 0 pk H) (As := [.int p0]) (rest := []) ⟨hx, hb, hml, hown, hts⟩ (u_X10_dropEnd l E z0 G hGz h0 rf hR t0 t1 t2 A 0 pk p0 hI3 (show 0 ≤ p0.toInt ∧ p0.toInt ≤ 1 from by first | decide | omega) (show ∀ n : Nat, (n : Int) = p0.toInt → 1 ≤ ((A 8) n).toInt from (fun n hn => by
        obtain rfl : n_8 = n := by omega
        omega))) (cwV 1 hts (gdV ml_X10_280 im_X10_dropEnd se_X10_X10_dropEnd in_X10 co_X10_dropEnd rfl) rfl rfl rfl (by decide +kernel) ⟨Nat.le_of_ble_eq_true rfl, Nat.le_of_ble_eq_true rfl⟩) hM (fun U hU hW => hK.go hW hS hAz hU) (va_recv hK.1 (va_one hM.1) (ci := 10) (q0 := 0) rfl rfl) rfl rfl hl.1 rfl (lv_room (Nat.le_of_ble_eq_true rfl)) dX10_poll_50 ⟨Nat.le_of_ble_eq_true rfl, Nat.le_of_ble_eq_true rfl⟩) hS (fun q _ h => h) (fun q h => h) (fun r_19 ur_19 t H locs ht hvm hwr_19 hB hz hk hS => ?_)
            have hM : MH E h0 rf t0 t1 t2 (uA (uA A 8 (ur_19.1)) 9 (ur_19.2)) 0 pk H := by rw [ht] at hB; exact hB
            have hDr_19 : D_X10_dropEnd A (0 : Int32) pk p0 (uA (uA A 8 (ur_19.1)) 9 (ur_19.2)) (0 : Int32) pk r_19 := hwr_19.2
            have hpr_19_0 : I3 (ur_19.1) := hwr_19.1
            refine lv_goto (tgt := 67) hx hb dX10_poll_53 (by decide) ?_
            exact W.iret (v := r_19) hx hb hr (fun t ht hW => ⟨⟨r_19, ((ur_19.1), (ur_19.2), 0), rfl, ⟨hpr_19_0, (Or.inr (Or.inr (Or.inr (Or.inl ⟨c_1r, c_3, c_5, n_8, hn_8, c_12, c_13, ur_19, r_19, hDr_19, hpr_19_0, rfl, rfl, rfl, rfl⟩))))⟩, (by show MH E h0 rf t0 t1 t2 (uA (uA A 8 (ur_19.1)) 9 (ur_19.2)) 0 pk t.heap; rw [ht]; exact hM)⟩, hS.F ht⟩) hS.2.2 dX10_poll_67
        · simp only [lt_I, le_I, eq_I, i_0, i_1, i_2, i_3, i_4, i_5, i_6, i_7, i_8, i_10, i_12, i_16, i_20, i_23, i_24, i_31, i_32, i_63, i_64, i_m1, i_9, i_11, i_13, i_25, i_60, i_75, i_79, i_80, i_96, i_100] at c_12
          refine lv_aload_n hx hb dX10_poll_38 rfl (lv_at hl 0 rfl) ?_
          refine lv_iconst (v := 2) hx hb dX10_poll_39 (by decide) ?_
          refine va_calli (rnV (fun H => MH E h0 rf t0 t1 t2 A 0 pk H) (As := [.int 2]) (rest := []) ⟨hx, hb, hml, hown, hts⟩ (u_X10_fail l E z0 G hGz h0 rf hR t0 t1 t2 A 0 pk 2) (cwV 1 hts (gdV ml_X10_185 im_X10_fail se_X10_X10_fail in_X10 co_X10_fail rfl) rfl rfl rfl (by decide +kernel) ⟨Nat.le_of_ble_eq_true rfl, Nat.le_of_ble_eq_true rfl⟩) hM (fun U hU hW => hK.go hW hS hAz hU) (va_recv hK.1 (va_one hM.1) (ci := 10) (q0 := 0) rfl rfl) rfl rfl hl.1 rfl (lv_room (Nat.le_of_ble_eq_true rfl)) dX10_poll_40 ⟨Nat.le_of_ble_eq_true rfl, Nat.le_of_ble_eq_true rfl⟩) hS (fun q _ h => h) (fun q h => h) (fun r_20 ur_20 t H locs ht hvm hwr_20 hB hz hk hS => ?_)
          have hM : MH E h0 rf t0 t1 t2 A ur_20 pk H := by rw [ht] at hB; exact hB
          have hDr_20 : D_X10_fail A (0 : Int32) pk (2 : Int32) A ur_20 pk r_20 := hwr_20.2
          have hpr_20_0 : ur_20 = (2 : Int32) := hwr_20.1
          have := i_2
          exact W.iret (v := r_20) hx hb hr (fun t ht hW => ⟨⟨r_20, ((A 8), (A 9), ur_20), rfl, ⟨hI3, (Or.inr (Or.inr (Or.inr (Or.inr (Or.inl ⟨c_1r, c_3, c_5, n_8, hn_8, c_12, ur_20, r_20, hDr_20, hpr_20_0, rfl, rfl, rfl, rfl⟩)))))⟩, (by show MH E h0 rf t0 t1 t2 (uA (uA A 8 (A 8)) 9 (A 9)) ur_20 pk t.heap; rw [ht]; exact hM.cge (funext fun j => (cgj j 9 rfl (fun a0 => (cgj j 8 rfl (fun a1 => (by simp only [uA_n a0, uA_n a1])))))))⟩, hS.F ht⟩) hS.2.2 dX10_poll_43
      · simp only [lt_I, le_I, eq_I, i_0, i_1, i_2, i_3, i_4, i_5, i_6, i_7, i_8, i_10, i_12, i_16, i_20, i_23, i_24, i_31, i_32, i_63, i_64, i_m1, i_9, i_11, i_13, i_25, i_60, i_75, i_79, i_80, i_96, i_100] at c_5
        refine lv_aload_n hx hb dX10_poll_23 rfl (lv_at hl 0 rfl) ?_
        refine lv_iconst (v := 1) hx hb dX10_poll_24 (by decide) ?_
        refine va_calli (rnV (fun H => MH E h0 rf t0 t1 t2 A 0 pk H) (As := [.int 1]) (rest := []) ⟨hx, hb, hml, hown, hts⟩ (u_X10_fail l E z0 G hGz h0 rf hR t0 t1 t2 A 0 pk 1) (cwV 1 hts (gdV ml_X10_185 im_X10_fail se_X10_X10_fail in_X10 co_X10_fail rfl) rfl rfl rfl (by decide +kernel) ⟨Nat.le_of_ble_eq_true rfl, Nat.le_of_ble_eq_true rfl⟩) hM (fun U hU hW => hK.go hW hS hAz hU) (va_recv hK.1 (va_one hM.1) (ci := 10) (q0 := 0) rfl rfl) rfl rfl hl.1 rfl (lv_room (Nat.le_of_ble_eq_true rfl)) dX10_poll_25 ⟨Nat.le_of_ble_eq_true rfl, Nat.le_of_ble_eq_true rfl⟩) hS (fun q _ h => h) (fun q h => h) (fun r_21 ur_21 t H locs ht hvm hwr_21 hB hz hk hS => ?_)
        have hM : MH E h0 rf t0 t1 t2 A ur_21 pk H := by rw [ht] at hB; exact hB
        have hDr_21 : D_X10_fail A (0 : Int32) pk (1 : Int32) A ur_21 pk r_21 := hwr_21.2
        have hpr_21_0 : ur_21 = (1 : Int32) := hwr_21.1
        have := i_1
        exact W.iret (v := r_21) hx hb hr (fun t ht hW => ⟨⟨r_21, ((A 8), (A 9), ur_21), rfl, ⟨hI3, (Or.inr (Or.inr (Or.inr (Or.inr (Or.inr ⟨c_1r, c_3, c_5, ur_21, r_21, hDr_21, hpr_21_0, rfl, rfl, rfl, rfl⟩)))))⟩, (by show MH E h0 rf t0 t1 t2 (uA (uA A 8 (A 8)) 9 (A 9)) ur_21 pk t.heap; rw [ht]; exact hM.cge (funext fun j => (cgj j 9 rfl (fun a0 => (cgj j 8 rfl (fun a1 => (by simp only [uA_n a0, uA_n a1])))))))⟩, hS.F ht⟩) hS.2.2 dX10_poll_28
end
section
theorem gdX10_failPair_0 : (decode cX10_failPair 0 = .ok (.aload_n 0, 1)) ∧ (decode cX10_failPair 1 = .ok (.getfield 28, 3)) ∧ (decode cX10_failPair 4 = .ok (.iload_n 1, 1)) ∧ (decode cX10_failPair 5 = .ok (.iconst 2, 1)) ∧ (decode cX10_failPair 6 = .ok (.iastore, 1)) ∧ (decode cX10_failPair 7 = .ok (.iconst 0, 1)) ∧ (decode cX10_failPair 8 = .ok (.istore 4, 2)) ∧ (decode cX10_failPair 10 = .ok (.iload 4, 2)) ∧ (decode cX10_failPair 12 = .ok (.aload_n 0, 1)) ∧ (decode cX10_failPair 13 = .ok (.getfield 59, 3)) ∧ (decode cX10_failPair 16 = .ok (.iload_n 1, 1)) ∧ (decode cX10_failPair 17 = .ok (.iaload, 1)) ∧ (decode cX10_failPair 18 = .ok (.if_icmp .ge 57, 3)) ∧ (decode cX10_failPair 21 = .ok (.iconst 4, 1)) ∧ (decode cX10_failPair 22 = .ok (.iload_n 1, 1)) ∧ (decode cX10_failPair 23 = .ok (.imul, 1)) := by decide +kernel
theorem dX10_failPair_0 : decode cX10_failPair 0 = .ok (.aload_n 0, 1) := gdX10_failPair_0.1
theorem dX10_failPair_1 : decode cX10_failPair 1 = .ok (.getfield 28, 3) := gdX10_failPair_0.2.1
theorem dX10_failPair_4 : decode cX10_failPair 4 = .ok (.iload_n 1, 1) := gdX10_failPair_0.2.2.1
theorem dX10_failPair_5 : decode cX10_failPair 5 = .ok (.iconst 2, 1) := gdX10_failPair_0.2.2.2.1
theorem dX10_failPair_6 : decode cX10_failPair 6 = .ok (.iastore, 1) := gdX10_failPair_0.2.2.2.2.1
theorem dX10_failPair_7 : decode cX10_failPair 7 = .ok (.iconst 0, 1) := gdX10_failPair_0.2.2.2.2.2.1
theorem dX10_failPair_8 : decode cX10_failPair 8 = .ok (.istore 4, 2) := gdX10_failPair_0.2.2.2.2.2.2.1
theorem dX10_failPair_10 : decode cX10_failPair 10 = .ok (.iload 4, 2) := gdX10_failPair_0.2.2.2.2.2.2.2.1
theorem dX10_failPair_12 : decode cX10_failPair 12 = .ok (.aload_n 0, 1) := gdX10_failPair_0.2.2.2.2.2.2.2.2.1
theorem dX10_failPair_13 : decode cX10_failPair 13 = .ok (.getfield 59, 3) := gdX10_failPair_0.2.2.2.2.2.2.2.2.2.1
theorem dX10_failPair_16 : decode cX10_failPair 16 = .ok (.iload_n 1, 1) := gdX10_failPair_0.2.2.2.2.2.2.2.2.2.2.1
theorem dX10_failPair_17 : decode cX10_failPair 17 = .ok (.iaload, 1) := gdX10_failPair_0.2.2.2.2.2.2.2.2.2.2.2.1
theorem dX10_failPair_18 : decode cX10_failPair 18 = .ok (.if_icmp .ge 57, 3) := gdX10_failPair_0.2.2.2.2.2.2.2.2.2.2.2.2.1
theorem dX10_failPair_21 : decode cX10_failPair 21 = .ok (.iconst 4, 1) := gdX10_failPair_0.2.2.2.2.2.2.2.2.2.2.2.2.2.1
theorem dX10_failPair_22 : decode cX10_failPair 22 = .ok (.iload_n 1, 1) := gdX10_failPair_0.2.2.2.2.2.2.2.2.2.2.2.2.2.2.1
theorem dX10_failPair_23 : decode cX10_failPair 23 = .ok (.imul, 1) := gdX10_failPair_0.2.2.2.2.2.2.2.2.2.2.2.2.2.2.2
theorem gdX10_failPair_24 : (decode cX10_failPair 24 = .ok (.iload 4, 2)) ∧ (decode cX10_failPair 26 = .ok (.iadd, 1)) ∧ (decode cX10_failPair 27 = .ok (.istore 5, 2)) ∧ (decode cX10_failPair 29 = .ok (.aload_n 0, 1)) ∧ (decode cX10_failPair 30 = .ok (.iload_n 1, 1)) ∧ (decode cX10_failPair 31 = .ok (.aload_n 0, 1)) ∧ (decode cX10_failPair 32 = .ok (.getfield 65, 3)) ∧ (decode cX10_failPair 35 = .ok (.iload 5, 2)) ∧ (decode cX10_failPair 37 = .ok (.iaload, 1)) ∧ (decode cX10_failPair 38 = .ok (.aload_n 0, 1)) ∧ (decode cX10_failPair 39 = .ok (.getfield 83, 3)) ∧ (decode cX10_failPair 42 = .ok (.iload 5, 2)) ∧ (decode cX10_failPair 44 = .ok (.iaload, 1)) ∧ (decode cX10_failPair 45 = .ok (.iload 4, 2)) ∧ (decode cX10_failPair 47 = .ok (.ifCond .ne 11, 3)) ∧ (decode cX10_failPair 50 = .ok (.iload_n 2, 1)) := by decide +kernel
theorem dX10_failPair_24 : decode cX10_failPair 24 = .ok (.iload 4, 2) := gdX10_failPair_24.1
theorem dX10_failPair_26 : decode cX10_failPair 26 = .ok (.iadd, 1) := gdX10_failPair_24.2.1
theorem dX10_failPair_27 : decode cX10_failPair 27 = .ok (.istore 5, 2) := gdX10_failPair_24.2.2.1
theorem dX10_failPair_29 : decode cX10_failPair 29 = .ok (.aload_n 0, 1) := gdX10_failPair_24.2.2.2.1
theorem dX10_failPair_30 : decode cX10_failPair 30 = .ok (.iload_n 1, 1) := gdX10_failPair_24.2.2.2.2.1
theorem dX10_failPair_31 : decode cX10_failPair 31 = .ok (.aload_n 0, 1) := gdX10_failPair_24.2.2.2.2.2.1
theorem dX10_failPair_32 : decode cX10_failPair 32 = .ok (.getfield 65, 3) := gdX10_failPair_24.2.2.2.2.2.2.1
theorem dX10_failPair_35 : decode cX10_failPair 35 = .ok (.iload 5, 2) := gdX10_failPair_24.2.2.2.2.2.2.2.1
theorem dX10_failPair_37 : decode cX10_failPair 37 = .ok (.iaload, 1) := gdX10_failPair_24.2.2.2.2.2.2.2.2.1
theorem dX10_failPair_38 : decode cX10_failPair 38 = .ok (.aload_n 0, 1) := gdX10_failPair_24.2.2.2.2.2.2.2.2.2.1
theorem dX10_failPair_39 : decode cX10_failPair 39 = .ok (.getfield 83, 3) := gdX10_failPair_24.2.2.2.2.2.2.2.2.2.2.1
theorem dX10_failPair_42 : decode cX10_failPair 42 = .ok (.iload 5, 2) := gdX10_failPair_24.2.2.2.2.2.2.2.2.2.2.2.1
theorem dX10_failPair_44 : decode cX10_failPair 44 = .ok (.iaload, 1) := gdX10_failPair_24.2.2.2.2.2.2.2.2.2.2.2.2.1
theorem dX10_failPair_45 : decode cX10_failPair 45 = .ok (.iload 4, 2) := gdX10_failPair_24.2.2.2.2.2.2.2.2.2.2.2.2.2.1
theorem dX10_failPair_47 : decode cX10_failPair 47 = .ok (.ifCond .ne 11, 3) := gdX10_failPair_24.2.2.2.2.2.2.2.2.2.2.2.2.2.2.1
theorem dX10_failPair_50 : decode cX10_failPair 50 = .ok (.iload_n 2, 1) := gdX10_failPair_24.2.2.2.2.2.2.2.2.2.2.2.2.2.2.2
theorem gdX10_failPair_51 : (decode cX10_failPair 51 = .ok (.ifCond .le 7, 3)) ∧ (decode cX10_failPair 54 = .ok (.iload_n 2, 1)) ∧ (decode cX10_failPair 55 = .ok (.goto 4, 3)) ∧ (decode cX10_failPair 58 = .ok (.iconst 5, 1)) ∧ (decode cX10_failPair 59 = .ok (.aload_n 0, 1)) ∧ (decode cX10_failPair 60 = .ok (.getfield 71, 3)) ∧ (decode cX10_failPair 63 = .ok (.iload 5, 2)) ∧ (decode cX10_failPair 65 = .ok (.iaload, 1)) ∧ (decode cX10_failPair 66 = .ok (.invokevirtual 207, 3)) ∧ (decode cX10_failPair 69 = .ok (.iinc 4 1, 3)) ∧ (decode cX10_failPair 72 = .ok (.goto (-62), 3)) ∧ (decode cX10_failPair 75 = .ok (.iconst 0, 1)) ∧ (decode cX10_failPair 76 = .ok (.istore 4, 2)) ∧ (decode cX10_failPair 78 = .ok (.iload 4, 2)) ∧ (decode cX10_failPair 80 = .ok (.aload_n 0, 1)) ∧ (decode cX10_failPair 81 = .ok (.getfield 89, 3)) := by decide +kernel
theorem dX10_failPair_51 : decode cX10_failPair 51 = .ok (.ifCond .le 7, 3) := gdX10_failPair_51.1
theorem dX10_failPair_54 : decode cX10_failPair 54 = .ok (.iload_n 2, 1) := gdX10_failPair_51.2.1
theorem dX10_failPair_55 : decode cX10_failPair 55 = .ok (.goto 4, 3) := gdX10_failPair_51.2.2.1
theorem dX10_failPair_58 : decode cX10_failPair 58 = .ok (.iconst 5, 1) := gdX10_failPair_51.2.2.2.1
theorem dX10_failPair_59 : decode cX10_failPair 59 = .ok (.aload_n 0, 1) := gdX10_failPair_51.2.2.2.2.1
theorem dX10_failPair_60 : decode cX10_failPair 60 = .ok (.getfield 71, 3) := gdX10_failPair_51.2.2.2.2.2.1
theorem dX10_failPair_63 : decode cX10_failPair 63 = .ok (.iload 5, 2) := gdX10_failPair_51.2.2.2.2.2.2.1
theorem dX10_failPair_65 : decode cX10_failPair 65 = .ok (.iaload, 1) := gdX10_failPair_51.2.2.2.2.2.2.2.1
theorem dX10_failPair_66 : decode cX10_failPair 66 = .ok (.invokevirtual 207, 3) := gdX10_failPair_51.2.2.2.2.2.2.2.2.1
theorem dX10_failPair_69 : decode cX10_failPair 69 = .ok (.iinc 4 1, 3) := gdX10_failPair_51.2.2.2.2.2.2.2.2.2.1
theorem dX10_failPair_72 : decode cX10_failPair 72 = .ok (.goto (-62), 3) := gdX10_failPair_51.2.2.2.2.2.2.2.2.2.2.1
theorem dX10_failPair_75 : decode cX10_failPair 75 = .ok (.iconst 0, 1) := gdX10_failPair_51.2.2.2.2.2.2.2.2.2.2.2.1
theorem dX10_failPair_76 : decode cX10_failPair 76 = .ok (.istore 4, 2) := gdX10_failPair_51.2.2.2.2.2.2.2.2.2.2.2.2.1
theorem dX10_failPair_78 : decode cX10_failPair 78 = .ok (.iload 4, 2) := gdX10_failPair_51.2.2.2.2.2.2.2.2.2.2.2.2.2.1
theorem dX10_failPair_80 : decode cX10_failPair 80 = .ok (.aload_n 0, 1) := gdX10_failPair_51.2.2.2.2.2.2.2.2.2.2.2.2.2.2.1
theorem dX10_failPair_81 : decode cX10_failPair 81 = .ok (.getfield 89, 3) := gdX10_failPair_51.2.2.2.2.2.2.2.2.2.2.2.2.2.2.2
theorem gdX10_failPair_84 : (decode cX10_failPair 84 = .ok (.iload_n 1, 1)) ∧ (decode cX10_failPair 85 = .ok (.iaload, 1)) ∧ (decode cX10_failPair 86 = .ok (.if_icmp .ge 60, 3)) ∧ (decode cX10_failPair 89 = .ok (.iconst 4, 1)) ∧ (decode cX10_failPair 90 = .ok (.iload_n 1, 1)) ∧ (decode cX10_failPair 91 = .ok (.imul, 1)) ∧ (decode cX10_failPair 92 = .ok (.iload 4, 2)) ∧ (decode cX10_failPair 94 = .ok (.iadd, 1)) ∧ (decode cX10_failPair 95 = .ok (.istore 5, 2)) ∧ (decode cX10_failPair 97 = .ok (.aload_n 0, 1)) ∧ (decode cX10_failPair 98 = .ok (.iload_n 1, 1)) ∧ (decode cX10_failPair 99 = .ok (.iconst 4, 1)) ∧ (decode cX10_failPair 100 = .ok (.aload_n 0, 1)) ∧ (decode cX10_failPair 101 = .ok (.getfield 101, 3)) ∧ (decode cX10_failPair 104 = .ok (.iload 5, 2)) ∧ (decode cX10_failPair 106 = .ok (.iaload, 1)) := by decide +kernel
theorem dX10_failPair_84 : decode cX10_failPair 84 = .ok (.iload_n 1, 1) := gdX10_failPair_84.1
theorem dX10_failPair_85 : decode cX10_failPair 85 = .ok (.iaload, 1) := gdX10_failPair_84.2.1
theorem dX10_failPair_86 : decode cX10_failPair 86 = .ok (.if_icmp .ge 60, 3) := gdX10_failPair_84.2.2.1
theorem dX10_failPair_89 : decode cX10_failPair 89 = .ok (.iconst 4, 1) := gdX10_failPair_84.2.2.2.1
theorem dX10_failPair_90 : decode cX10_failPair 90 = .ok (.iload_n 1, 1) := gdX10_failPair_84.2.2.2.2.1
theorem dX10_failPair_91 : decode cX10_failPair 91 = .ok (.imul, 1) := gdX10_failPair_84.2.2.2.2.2.1
theorem dX10_failPair_92 : decode cX10_failPair 92 = .ok (.iload 4, 2) := gdX10_failPair_84.2.2.2.2.2.2.1
theorem dX10_failPair_94 : decode cX10_failPair 94 = .ok (.iadd, 1) := gdX10_failPair_84.2.2.2.2.2.2.2.1
theorem dX10_failPair_95 : decode cX10_failPair 95 = .ok (.istore 5, 2) := gdX10_failPair_84.2.2.2.2.2.2.2.2.1
theorem dX10_failPair_97 : decode cX10_failPair 97 = .ok (.aload_n 0, 1) := gdX10_failPair_84.2.2.2.2.2.2.2.2.2.1
theorem dX10_failPair_98 : decode cX10_failPair 98 = .ok (.iload_n 1, 1) := gdX10_failPair_84.2.2.2.2.2.2.2.2.2.2.1
theorem dX10_failPair_99 : decode cX10_failPair 99 = .ok (.iconst 4, 1) := gdX10_failPair_84.2.2.2.2.2.2.2.2.2.2.2.1
theorem dX10_failPair_100 : decode cX10_failPair 100 = .ok (.aload_n 0, 1) := gdX10_failPair_84.2.2.2.2.2.2.2.2.2.2.2.2.1
theorem dX10_failPair_101 : decode cX10_failPair 101 = .ok (.getfield 101, 3) := gdX10_failPair_84.2.2.2.2.2.2.2.2.2.2.2.2.2.1
theorem dX10_failPair_104 : decode cX10_failPair 104 = .ok (.iload 5, 2) := gdX10_failPair_84.2.2.2.2.2.2.2.2.2.2.2.2.2.2.1
theorem dX10_failPair_106 : decode cX10_failPair 106 = .ok (.iaload, 1) := gdX10_failPair_84.2.2.2.2.2.2.2.2.2.2.2.2.2.2.2
theorem gdX10_failPair_107 : (decode cX10_failPair 107 = .ok (.iload 4, 2)) ∧ (decode cX10_failPair 109 = .ok (.ifCond .ne 20, 3)) ∧ (decode cX10_failPair 112 = .ok (.aload_n 0, 1)) ∧ (decode cX10_failPair 113 = .ok (.getfield 107, 3)) ∧ (decode cX10_failPair 116 = .ok (.iload_n 1, 1)) ∧ (decode cX10_failPair 117 = .ok (.baload, 1)) ∧ (decode cX10_failPair 118 = .ok (.ifCond .eq 11, 3)) ∧ (decode cX10_failPair 121 = .ok (.iload_n 3, 1)) ∧ (decode cX10_failPair 122 = .ok (.ifCond .le 7, 3)) ∧ (decode cX10_failPair 125 = .ok (.iload_n 3, 1)) ∧ (decode cX10_failPair 126 = .ok (.goto 4, 3)) ∧ (decode cX10_failPair 129 = .ok (.iconst 5, 1)) ∧ (decode cX10_failPair 130 = .ok (.aload_n 0, 1)) ∧ (decode cX10_failPair 131 = .ok (.getfield 104, 3)) ∧ (decode cX10_failPair 134 = .ok (.iload 5, 2)) ∧ (decode cX10_failPair 136 = .ok (.iaload, 1)) := by decide +kernel
theorem dX10_failPair_107 : decode cX10_failPair 107 = .ok (.iload 4, 2) := gdX10_failPair_107.1
theorem dX10_failPair_109 : decode cX10_failPair 109 = .ok (.ifCond .ne 20, 3) := gdX10_failPair_107.2.1
theorem dX10_failPair_112 : decode cX10_failPair 112 = .ok (.aload_n 0, 1) := gdX10_failPair_107.2.2.1
theorem dX10_failPair_113 : decode cX10_failPair 113 = .ok (.getfield 107, 3) := gdX10_failPair_107.2.2.2.1
theorem dX10_failPair_116 : decode cX10_failPair 116 = .ok (.iload_n 1, 1) := gdX10_failPair_107.2.2.2.2.1
theorem dX10_failPair_117 : decode cX10_failPair 117 = .ok (.baload, 1) := gdX10_failPair_107.2.2.2.2.2.1
theorem dX10_failPair_118 : decode cX10_failPair 118 = .ok (.ifCond .eq 11, 3) := gdX10_failPair_107.2.2.2.2.2.2.1
theorem dX10_failPair_121 : decode cX10_failPair 121 = .ok (.iload_n 3, 1) := gdX10_failPair_107.2.2.2.2.2.2.2.1
theorem dX10_failPair_122 : decode cX10_failPair 122 = .ok (.ifCond .le 7, 3) := gdX10_failPair_107.2.2.2.2.2.2.2.2.1
theorem dX10_failPair_125 : decode cX10_failPair 125 = .ok (.iload_n 3, 1) := gdX10_failPair_107.2.2.2.2.2.2.2.2.2.1
theorem dX10_failPair_126 : decode cX10_failPair 126 = .ok (.goto 4, 3) := gdX10_failPair_107.2.2.2.2.2.2.2.2.2.2.1
theorem dX10_failPair_129 : decode cX10_failPair 129 = .ok (.iconst 5, 1) := gdX10_failPair_107.2.2.2.2.2.2.2.2.2.2.2.1
theorem dX10_failPair_130 : decode cX10_failPair 130 = .ok (.aload_n 0, 1) := gdX10_failPair_107.2.2.2.2.2.2.2.2.2.2.2.2.1
theorem dX10_failPair_131 : decode cX10_failPair 131 = .ok (.getfield 104, 3) := gdX10_failPair_107.2.2.2.2.2.2.2.2.2.2.2.2.2.1
theorem dX10_failPair_134 : decode cX10_failPair 134 = .ok (.iload 5, 2) := gdX10_failPair_107.2.2.2.2.2.2.2.2.2.2.2.2.2.2.1
theorem dX10_failPair_136 : decode cX10_failPair 136 = .ok (.iaload, 1) := gdX10_failPair_107.2.2.2.2.2.2.2.2.2.2.2.2.2.2.2
theorem gdX10_failPair_137 : (decode cX10_failPair 137 = .ok (.invokevirtual 207, 3)) ∧ (decode cX10_failPair 140 = .ok (.iinc 4 1, 3)) ∧ (decode cX10_failPair 143 = .ok (.goto (-65), 3)) ∧ (decode cX10_failPair 146 = .ok (.aload_n 0, 1)) ∧ (decode cX10_failPair 147 = .ok (.getfield 59, 3)) ∧ (decode cX10_failPair 150 = .ok (.iload_n 1, 1)) ∧ (decode cX10_failPair 151 = .ok (.iconst 0, 1)) ∧ (decode cX10_failPair 152 = .ok (.iastore, 1)) ∧ (decode cX10_failPair 153 = .ok (.aload_n 0, 1)) ∧ (decode cX10_failPair 154 = .ok (.getfield 89, 3)) ∧ (decode cX10_failPair 157 = .ok (.iload_n 1, 1)) ∧ (decode cX10_failPair 158 = .ok (.iconst 0, 1)) ∧ (decode cX10_failPair 159 = .ok (.iastore, 1)) ∧ (decode cX10_failPair 160 = .ok (.aload_n 0, 1)) ∧ (decode cX10_failPair 161 = .ok (.getfield 107, 3)) ∧ (decode cX10_failPair 164 = .ok (.iload_n 1, 1)) := by decide +kernel
theorem dX10_failPair_137 : decode cX10_failPair 137 = .ok (.invokevirtual 207, 3) := gdX10_failPair_137.1
theorem dX10_failPair_140 : decode cX10_failPair 140 = .ok (.iinc 4 1, 3) := gdX10_failPair_137.2.1
theorem dX10_failPair_143 : decode cX10_failPair 143 = .ok (.goto (-65), 3) := gdX10_failPair_137.2.2.1
theorem dX10_failPair_146 : decode cX10_failPair 146 = .ok (.aload_n 0, 1) := gdX10_failPair_137.2.2.2.1
theorem dX10_failPair_147 : decode cX10_failPair 147 = .ok (.getfield 59, 3) := gdX10_failPair_137.2.2.2.2.1
theorem dX10_failPair_150 : decode cX10_failPair 150 = .ok (.iload_n 1, 1) := gdX10_failPair_137.2.2.2.2.2.1
theorem dX10_failPair_151 : decode cX10_failPair 151 = .ok (.iconst 0, 1) := gdX10_failPair_137.2.2.2.2.2.2.1
theorem dX10_failPair_152 : decode cX10_failPair 152 = .ok (.iastore, 1) := gdX10_failPair_137.2.2.2.2.2.2.2.1
theorem dX10_failPair_153 : decode cX10_failPair 153 = .ok (.aload_n 0, 1) := gdX10_failPair_137.2.2.2.2.2.2.2.2.1
theorem dX10_failPair_154 : decode cX10_failPair 154 = .ok (.getfield 89, 3) := gdX10_failPair_137.2.2.2.2.2.2.2.2.2.1
theorem dX10_failPair_157 : decode cX10_failPair 157 = .ok (.iload_n 1, 1) := gdX10_failPair_137.2.2.2.2.2.2.2.2.2.2.1
theorem dX10_failPair_158 : decode cX10_failPair 158 = .ok (.iconst 0, 1) := gdX10_failPair_137.2.2.2.2.2.2.2.2.2.2.2.1
theorem dX10_failPair_159 : decode cX10_failPair 159 = .ok (.iastore, 1) := gdX10_failPair_137.2.2.2.2.2.2.2.2.2.2.2.2.1
theorem dX10_failPair_160 : decode cX10_failPair 160 = .ok (.aload_n 0, 1) := gdX10_failPair_137.2.2.2.2.2.2.2.2.2.2.2.2.2.1
theorem dX10_failPair_161 : decode cX10_failPair 161 = .ok (.getfield 107, 3) := gdX10_failPair_137.2.2.2.2.2.2.2.2.2.2.2.2.2.2.1
theorem dX10_failPair_164 : decode cX10_failPair 164 = .ok (.iload_n 1, 1) := gdX10_failPair_137.2.2.2.2.2.2.2.2.2.2.2.2.2.2.2
theorem gdX10_failPair_165 : (decode cX10_failPair 165 = .ok (.iconst 0, 1)) ∧ (decode cX10_failPair 166 = .ok (.bastore, 1)) ∧ (decode cX10_failPair 167 = .ok (.aload_n 0, 1)) ∧ (decode cX10_failPair 168 = .ok (.getfield 52, 3)) ∧ (decode cX10_failPair 171 = .ok (.iload_n 1, 1)) ∧ (decode cX10_failPair 172 = .ok (.iconst 0, 1)) ∧ (decode cX10_failPair 173 = .ok (.bastore, 1)) ∧ (decode cX10_failPair 174 = .ok (.return_, 1)) := by decide +kernel
theorem dX10_failPair_165 : decode cX10_failPair 165 = .ok (.iconst 0, 1) := gdX10_failPair_165.1
theorem dX10_failPair_166 : decode cX10_failPair 166 = .ok (.bastore, 1) := gdX10_failPair_165.2.1
theorem dX10_failPair_167 : decode cX10_failPair 167 = .ok (.aload_n 0, 1) := gdX10_failPair_165.2.2.1
theorem dX10_failPair_168 : decode cX10_failPair 168 = .ok (.getfield 52, 3) := gdX10_failPair_165.2.2.2.1
theorem dX10_failPair_171 : decode cX10_failPair 171 = .ok (.iload_n 1, 1) := gdX10_failPair_165.2.2.2.2.1
theorem dX10_failPair_172 : decode cX10_failPair 172 = .ok (.iconst 0, 1) := gdX10_failPair_165.2.2.2.2.2.1
theorem dX10_failPair_173 : decode cX10_failPair 173 = .ok (.bastore, 1) := gdX10_failPair_165.2.2.2.2.2.2.1
theorem dX10_failPair_174 : decode cX10_failPair 174 = .ok (.return_, 1) := gdX10_failPair_165.2.2.2.2.2.2.2
set_option maxHeartbeats 8000000 in
set_option maxRecDepth 100000 in
theorem u_X10_failPair (l : Launch) (E : EE) (z0 : Nat) (G : Nat → Nat) (hGz : ∀ q, G q ≠ 0 → z0 ≤ q) (h0 : Nat) (rf : Nat → Nat) (hR : MG G h0 rf) (t0 t1 t2 : Int32) (A : AA) (cd pk : Int32) (p0 : Int32) (p1 : Int32) (p2 : Int32) (hI3 : I3 (A 8)) (hI4 : I4 (A 10) (A 20) (A 29) (A 24) (A 11) (A 12) (A 13)) (hI8 : I8 (A 20) (A 30) (A 37) (A 36)) (hy0 : 0 ≤ p0.toInt ∧ p0.toInt ≤ 3) : Met l yX10_failPair [Cond.code yX10_failPair cX10_failPair 6 none] ({ frames := 2, cells := 0, slots := 0, locals := 47 } : Room) (va_Pc [.ref h0, .int p0, .int p1, .int p2] (fun U => MH E h0 rf t0 t1 t2 A cd pk U.heap ∧ KS E z0 U)) (va_Qv (fun (u : (Nat → Int32) × (Nat → Int32) × (Nat → Int32) × (Nat → Int32) × (Nat → Int32) × (Nat → Int32) × (Nat → Int32)) => (I3 (u.1)) ∧ (I4 (u.2.2.1) (u.2.2.2.2.1) (A 29) (A 24) (A 11) (A 12) (A 13)) ∧ (I8 (u.2.2.2.2.1) (u.2.2.2.2.2.1) (A 37) (u.2.2.2.2.2.2)) ∧ (D_X10_failPair A cd pk p0 p1 p2 (uA (uA (uA (uA (uA (uA (uA A 8 (u.1)) 9 (u.2.1)) 10 (u.2.2.1)) 18 (u.2.2.2.1)) 20 (u.2.2.2.2.1)) 30 (u.2.2.2.2.2.1)) 36 (u.2.2.2.2.2.2)) cd pk)) (fun u t => MH E h0 rf t0 t1 t2 (uA (uA (uA (uA (uA (uA (uA A 8 (u.1)) 9 (u.2.1)) 10 (u.2.2.1)) 18 (u.2.2.2.1)) 20 (u.2.2.2.2.1)) 30 (u.2.2.2.2.2.1)) 36 (u.2.2.2.2.2.2)) cd pk t.heap) (fun q : Nat => G q ≠ 0)) 0 0 (fun q : Nat => G q ≠ 0) := by
  refine Met.ofW (cc := cX10_failPair) (maxL := 6) (ret := none) (by decide) rfl ?_
  intro p e s m args below meth c s₁ B hml hv
  obtain ⟨rfl, hM, hK⟩ := hv
  have hx := B.exec
  have hb := B.bytes
  have hr := B.returns
  have hts : ∀ w ∈ TS, w.before ([.ref h0, .int p0, .int p1, .int p2] : List Value).toArray s = true := fun w hw => hK.2.1 w hw _
  have hown : s.vm.findClass RX10 = some m.cls := findClass_of_methodNamed B.named
  have hlocks := B.notSynchronized
  have hS : va_S (fun q : Nat => G q ≠ 0) s.heap s.heap [] := va_S.rf
  have hAz : ∀ q, (fun q : Nat => G q ≠ 0) q → z0 ≤ q := hGz
  have hl := lv_entry ([.ref h0, .int p0, .int p1, .int p2]) (n := 6) (Nat.le_of_ble_eq_true rfl)
  rw [lg_entry_eq]
  generalize (lg_sl ([.ref h0, .int p0, .int p1, .int p2]) ++ List.replicate (6 - (lg_sl ([.ref h0, .int p0, .int p1, .int p2])).length) Slot.unset).toArray = ls at hl ⊢
  have hl : lv_has ls 6 [(0, .ref h0), (1, .int p0), (2, .int p1), (3, .int p2)] := hl
  obtain ⟨n_1, hn_1, en_1⟩ := s_nat (x := p0) (by omega)
  have h8a := (hI8 n_1 (by omega)).1
  have h8b := (hI8 n_1 (by omega)).2.2.1
  refine lv_aload_n hx hb dX10_failPair_0 rfl (lv_at hl 0 rfl) ?_
  refine va_get (D := DG E) (ci := 10) (v := .ref (rf 10)) (C := RX10) (T := TX10) (N := 49) hx hb hts iw_X10 hown hK.1 (va_one hM.1) 0 rfl rfl 10 (by decide) (hts _ fl_X10_28) (fun _ h9 => h9) rfl dX10_failPair_1 ?_
  refine lv_iload_n hx hb dX10_failPair_4 rfl (lv_at hl 1 rfl) ?_
  refine lv_iconst (v := 2) hx hb dX10_failPair_5 (by decide) ?_
  have hi_2 : vp_in p0 4 := vp_in_iff.mpr (by omega)
  have ha_3 : va_at (DG E) vwCl (rf 10, .inl (E.2.2 0, 4, .inl (A 10))) _ := hM.2 10 (by decide) (by decide) (by decide)
  refine rr_iast (D := DG E) hx hb hK.1 0 ha_3 hS (by show G (rf 10) ≠ 0; rw [hR.2 10 (by decide) (by decide) (by decide)]; decide) rfl hi_2 dX10_failPair_6 (fun H locs hn ho hz hS => ?_)
  rw [en_1] at hn
  obtain ⟨g_3, eg_3⟩ : ∃ z : Nat → Int32, z = upd (A 10) n_1 2 := ⟨_, rfl⟩
  have sg_3 : g_3 n_1 = 2 := by rw [eg_3]; exact upd_s
  have ng_3 : ∀ k, k ≠ n_1 → g_3 k = (A 10) k := fun k hk => by rw [eg_3]; exact upd_n hk
  have hn : va_at (DG E) vwCl (rf 10, .inl (E.2.2 0, 4, .inl g_3)) H := by rw [eg_3]; exact hn
  have hM : MH E h0 rf t0 t1 t2 (uA A 10 g_3) cd pk H := hM.w hR 10 (by decide) (by decide) (by decide) hn ho
  refine lv_iconst (v := 0) hx hb dX10_failPair_7 (by decide) ?_
  refine lv_istore (lv' := [(4, .int 0), (0, .ref h0), (1, .int p0), (2, .int p1), (3, .int p2)]) hx hb dX10_failPair_8 hl (by decide) rfl (fun ls hl => ?_)
  have hX_5 : ∃ b : Nat, (b : Int) = (0 : Int32).toInt ∧ FPQ (uA A 10 g_3) cd pk p0 p1 n_1 b (uA (uA (uA A 10 g_3) 8 (A 8)) 9 (A 9)) := ⟨0, by have := i_0; omega, (by show (uA (uA (uA A 10 g_3) 8 (A 8)) 9 (A 9)) = (uA A 10 g_3); exact uu_id)⟩
  refine lp_nat (fun n H locs ls => ∃ (ix_4 : Int32) (u_4 : (Nat → Int32) × (Nat → Int32)), (0 ≤ ix_4.toInt ∧ ix_4.toInt ≤ ((A 20) n_1).toInt ∧ ix_4.toInt ≤ 4) ∧ (4 - ix_4.toInt).toNat = n ∧ MH E h0 rf t0 t1 t2 (uA (uA (uA A 10 g_3) 8 (u_4.1)) 9 (u_4.2)) cd pk H ∧ (I3 (u_4.1)) ∧ (∃ b : Nat, (b : Int) = ix_4.toInt ∧ FPQ (uA A 10 g_3) cd pk p0 p1 n_1 b (uA (uA (uA A 10 g_3) 8 (u_4.1)) 9 (u_4.2))) ∧ va_S (fun q : Nat => G q ≠ 0) s.heap H locs ∧ lv_has ls 6 [(4, .int ix_4), (0, .ref h0), (1, .int p0), (2, .int p1), (3, .int p2)]) (fun n_4 H locs ls ih_4 hI => ?_) ⟨0, ((A 8), (A 9)), (by have := i_0; first | omega | decide), rfl, (by show MH E h0 rf t0 t1 t2 (uA (uA (uA A 10 g_3) 8 (A 8)) 9 (A 9)) cd pk _; exact hM.cge (funext fun j => (cgj j 10 rfl (fun a0 => (cgj j 9 rfl (fun a1 => (cgj j 8 rfl (fun a2 => (by simp only [uA_n a0, uA_n a1, uA_n a2]))))))))), hI3, hX_5, hS, hl⟩
  obtain ⟨ix_4, u_4, hb_4, hn_4, hM, hI3_4, hx_4, hS, hl⟩ := hI
  refine lv_iload hx hb dX10_failPair_10 (lv_at hl 0 rfl) ?_
  refine lv_aload_n hx hb dX10_failPair_12 rfl (lv_at hl 1 rfl) ?_
  refine va_get (D := DG E) (ci := 10) (v := .ref (rf 20)) (C := RX10) (T := TX10) (N := 49) hx hb hts iw_X10 hown hK.1 (va_one hM.1) 0 rfl rfl 20 (by decide) (hts _ fl_X10_59) (fun _ h9 => h9) rfl dX10_failPair_13 ?_
  refine lv_iload_n hx hb dX10_failPair_16 rfl (lv_at hl 2 rfl) ?_
  have ha_6 : va_at (DG E) vwCl (rf 20, .inl (E.2.2 0, 4, .inl (A 20))) _ := hM.2 20 (by decide) (by decide) (by decide)
  refine va_iald (D := DG E) hx hb hK.1 (va_one ha_6) 0 0 rfl rfl hi_2 dX10_failPair_17 ?_
  refine W.eq (g2 := F0 m 18 ls [.int ((A 20) n_1), .int ix_4]) (by rw [en_1]) ?_
  have hk_7 : n_1 < 4 := by omega
  have q_8 : 0 ≤ ((A 20) n_1).toInt := (hI8 n_1 hk_7).1
  have q_9 : ((A 20) n_1).toInt ≤ 4 := (hI8 n_1 hk_7).2.1
  refine lv_icmp_ge (tgt := 75) hx hb dX10_failPair_18 (by decide) (fun c_10 => ?_) (fun c_10 => ?_)
  · simp only [lt_I, le_I, eq_I, i_0, i_1, i_2, i_3, i_4, i_5, i_6, i_7, i_8, i_10, i_12, i_16, i_20, i_23, i_24, i_31, i_32, i_63, i_64, i_m1, i_9, i_11, i_13, i_25, i_60, i_75, i_79, i_80, i_96, i_100] at c_10
    refine lv_iconst (v := 0) hx hb dX10_failPair_75 (by decide) ?_
    refine lv_istore (lv' := [(4, .int 0), (0, .ref h0), (1, .int p0), (2, .int p1), (3, .int p2)]) hx hb dX10_failPair_76 hl (by decide) rfl (fun ls hl => ?_)
    have hX_12 : ∃ b : Nat, (b : Int) = (0 : Int32).toInt ∧ FPV (uA (uA (uA A 10 g_3) 8 (u_4.1)) 9 (u_4.2)) cd pk p0 p2 n_1 b (uA (uA (uA (uA (uA A 10 g_3) 8 (u_4.1)) 9 (u_4.2)) 8 (u_4.1)) 9 (u_4.2)) := ⟨0, by have := i_0; omega, (by show (uA (uA (uA (uA (uA A 10 g_3) 8 (u_4.1)) 9 (u_4.2)) 8 (u_4.1)) 9 (u_4.2)) = (uA (uA (uA A 10 g_3) 8 (u_4.1)) 9 (u_4.2)); exact uu_id)⟩
    refine lp_nat (fun n H locs ls => ∃ (ix_11 : Int32) (u_11 : (Nat → Int32) × (Nat → Int32)), (0 ≤ ix_11.toInt ∧ ix_11.toInt ≤ ((A 30) n_1).toInt ∧ ix_11.toInt ≤ 4) ∧ (4 - ix_11.toInt).toNat = n ∧ MH E h0 rf t0 t1 t2 (uA (uA (uA (uA (uA A 10 g_3) 8 (u_4.1)) 9 (u_4.2)) 8 (u_11.1)) 9 (u_11.2)) cd pk H ∧ (I3 (u_11.1)) ∧ (∃ b : Nat, (b : Int) = ix_11.toInt ∧ FPV (uA (uA (uA A 10 g_3) 8 (u_4.1)) 9 (u_4.2)) cd pk p0 p2 n_1 b (uA (uA (uA (uA (uA A 10 g_3) 8 (u_4.1)) 9 (u_4.2)) 8 (u_11.1)) 9 (u_11.2))) ∧ va_S (fun q : Nat => G q ≠ 0) s.heap H locs ∧ lv_has ls 6 [(4, .int ix_11), (0, .ref h0), (1, .int p0), (2, .int p1), (3, .int p2)]) (fun n_11 H locs ls ih_11 hI => ?_) ⟨0, ((u_4.1), (u_4.2)), (by have := i_0; first | omega | decide), rfl, (by show MH E h0 rf t0 t1 t2 (uA (uA (uA (uA (uA A 10 g_3) 8 (u_4.1)) 9 (u_4.2)) 8 (u_4.1)) 9 (u_4.2)) cd pk _; exact hM.cge (funext fun j => (cgj j 10 rfl (fun a0 => (cgj j 9 rfl (fun a1 => (cgj j 8 rfl (fun a2 => (by simp only [uA_n a0, uA_n a1, uA_n a2]))))))))), hI3_4, hX_12, hS, hl⟩
    obtain ⟨ix_11, u_11, hb_11, hn_11, hM, hI3_11, hx_11, hS, hl⟩ := hI
    refine lv_iload hx hb dX10_failPair_78 (lv_at hl 0 rfl) ?_
    refine lv_aload_n hx hb dX10_failPair_80 rfl (lv_at hl 1 rfl) ?_
    refine va_get (D := DG E) (ci := 10) (v := .ref (rf 30)) (C := RX10) (T := TX10) (N := 49) hx hb hts iw_X10 hown hK.1 (va_one hM.1) 0 rfl rfl 30 (by decide) (hts _ fl_X10_89) (fun _ h9 => h9) rfl dX10_failPair_81 ?_
    refine lv_iload_n hx hb dX10_failPair_84 rfl (lv_at hl 2 rfl) ?_
    have ha_13 : va_at (DG E) vwCl (rf 30, .inl (E.2.2 0, 4, .inl (A 30))) _ := hM.2 30 (by decide) (by decide) (by decide)
    refine va_iald (D := DG E) hx hb hK.1 (va_one ha_13) 0 0 rfl rfl hi_2 dX10_failPair_85 ?_
    refine W.eq (g2 := F0 m 86 ls [.int ((A 30) n_1), .int ix_11]) (by rw [en_1]) ?_
    have q_14 : 0 ≤ ((A 30) n_1).toInt := (hI8 n_1 hk_7).2.2.1
    have q_15 : ((A 30) n_1).toInt ≤ 4 := (hI8 n_1 hk_7).2.2.2.1
    refine lv_icmp_ge (tgt := 146) hx hb dX10_failPair_86 (by decide) (fun c_16 => ?_) (fun c_16 => ?_)
    · simp only [lt_I, le_I, eq_I, i_0, i_1, i_2, i_3, i_4, i_5, i_6, i_7, i_8, i_10, i_12, i_16, i_20, i_23, i_24, i_31, i_32, i_63, i_64, i_m1, i_9, i_11, i_13, i_25, i_60, i_75, i_79, i_80, i_96, i_100] at c_16
      refine lv_aload_n hx hb dX10_failPair_146 rfl (lv_at hl 1 rfl) ?_
      refine va_get (D := DG E) (ci := 10) (v := .ref (rf 20)) (C := RX10) (T := TX10) (N := 49) hx hb hts iw_X10 hown hK.1 (va_one hM.1) 0 rfl rfl 20 (by decide) (hts _ fl_X10_59) (fun _ h9 => h9) rfl dX10_failPair_147 ?_
      refine lv_iload_n hx hb dX10_failPair_150 rfl (lv_at hl 2 rfl) ?_
      refine lv_iconst (v := 0) hx hb dX10_failPair_151 (by decide) ?_
      have ha_17 : va_at (DG E) vwCl (rf 20, .inl (E.2.2 0, 4, .inl (A 20))) _ := hM.2 20 (by decide) (by decide) (by decide)
      refine rr_iast (D := DG E) hx hb hK.1 0 ha_17 hS (by show G (rf 20) ≠ 0; rw [hR.2 20 (by decide) (by decide) (by decide)]; decide) rfl hi_2 dX10_failPair_152 (fun H locs hn ho hz hS => ?_)
      rw [en_1] at hn
      obtain ⟨g_17, eg_17⟩ : ∃ z : Nat → Int32, z = upd (A 20) n_1 0 := ⟨_, rfl⟩
      have sg_17 : g_17 n_1 = 0 := by rw [eg_17]; exact upd_s
      have ng_17 : ∀ k, k ≠ n_1 → g_17 k = (A 20) k := fun k hk => by rw [eg_17]; exact upd_n hk
      have hn : va_at (DG E) vwCl (rf 20, .inl (E.2.2 0, 4, .inl g_17)) H := by rw [eg_17]; exact hn
      have hM : MH E h0 rf t0 t1 t2 (uA (uA (uA (uA (uA (uA A 10 g_3) 8 (u_4.1)) 9 (u_4.2)) 8 (u_11.1)) 9 (u_11.2)) 20 g_17) cd pk H := hM.w hR 20 (by decide) (by decide) (by decide) hn ho
      refine lv_aload_n hx hb dX10_failPair_153 rfl (lv_at hl 1 rfl) ?_
      refine va_get (D := DG E) (ci := 10) (v := .ref (rf 30)) (C := RX10) (T := TX10) (N := 49) hx hb hts iw_X10 hown hK.1 (va_one hM.1) 0 rfl rfl 30 (by decide) (hts _ fl_X10_89) (fun _ h9 => h9) rfl dX10_failPair_154 ?_
      refine lv_iload_n hx hb dX10_failPair_157 rfl (lv_at hl 2 rfl) ?_
      refine lv_iconst (v := 0) hx hb dX10_failPair_158 (by decide) ?_
      have ha_18 : va_at (DG E) vwCl (rf 30, .inl (E.2.2 0, 4, .inl (A 30))) _ := hM.2 30 (by decide) (by decide) (by decide)
      refine rr_iast (D := DG E) hx hb hK.1 0 ha_18 hS (by show G (rf 30) ≠ 0; rw [hR.2 30 (by decide) (by decide) (by decide)]; decide) rfl hi_2 dX10_failPair_159 (fun H locs hn ho hz hS => ?_)
      rw [en_1] at hn
      obtain ⟨g_18, eg_18⟩ : ∃ z : Nat → Int32, z = upd (A 30) n_1 0 := ⟨_, rfl⟩
      have sg_18 : g_18 n_1 = 0 := by rw [eg_18]; exact upd_s
      have ng_18 : ∀ k, k ≠ n_1 → g_18 k = (A 30) k := fun k hk => by rw [eg_18]; exact upd_n hk
      have hn : va_at (DG E) vwCl (rf 30, .inl (E.2.2 0, 4, .inl g_18)) H := by rw [eg_18]; exact hn
      have hM : MH E h0 rf t0 t1 t2 (uA (uA (uA (uA (uA (uA (uA A 10 g_3) 8 (u_4.1)) 9 (u_4.2)) 8 (u_11.1)) 9 (u_11.2)) 20 g_17) 30 g_18) cd pk H := hM.w hR 30 (by decide) (by decide) (by decide) hn ho
      refine lv_aload_n hx hb dX10_failPair_160 rfl (lv_at hl 1 rfl) ?_
      refine va_get (D := DG E) (ci := 10) (v := .ref (rf 36)) (C := RX10) (T := TX10) (N := 49) hx hb hts iw_X10 hown hK.1 (va_one hM.1) 0 rfl rfl 36 (by decide) (hts _ fl_X10_107) (fun _ h9 => h9) rfl dX10_failPair_161 ?_
      refine lv_iload_n hx hb dX10_failPair_164 rfl (lv_at hl 2 rfl) ?_
      refine lv_iconst (v := 0) hx hb dX10_failPair_165 (by decide) ?_
      have ha_19 : va_at (DG E) vwCl (rf 36, .inl (E.2.2 1, 4, .inl (A 36))) _ := hM.2 36 (by decide) (by decide) (by decide)
      refine rr_zast (D := DG E) hx hb hK.1 1 ha_19 hS (by show G (rf 36) ≠ 0; rw [hR.2 36 (by decide) (by decide) (by decide)]; decide) rfl hi_2 dX10_failPair_166 (fun H locs hn ho hz hS => ?_)
      rw [en_1] at hn
      obtain ⟨g_19, eg_19⟩ : ∃ z : Nat → Int32, z = upd (A 36) n_1 0 := ⟨_, rfl⟩
      have sg_19 : g_19 n_1 = 0 := by rw [eg_19]; exact upd_s
      have ng_19 : ∀ k, k ≠ n_1 → g_19 k = (A 36) k := fun k hk => by rw [eg_19]; exact upd_n hk
      have hn : va_at (DG E) vwCl (rf 36, .inl (E.2.2 1, 4, .inl g_19)) H := by rw [eg_19]; exact hn
      have hM : MH E h0 rf t0 t1 t2 (uA (uA (uA (uA (uA (uA (uA (uA A 10 g_3) 8 (u_4.1)) 9 (u_4.2)) 8 (u_11.1)) 9 (u_11.2)) 20 g_17) 30 g_18) 36 g_19) cd pk H := hM.w hR 36 (by decide) (by decide) (by decide) hn ho
      refine lv_aload_n hx hb dX10_failPair_167 rfl (lv_at hl 1 rfl) ?_
      refine va_get (D := DG E) (ci := 10) (v := .ref (rf 18)) (C := RX10) (T := TX10) (N := 49) hx hb hts iw_X10 hown hK.1 (va_one hM.1) 0 rfl rfl 18 (by decide) (hts _ fl_X10_52) (fun _ h9 => h9) rfl dX10_failPair_168 ?_
      refine lv_iload_n hx hb dX10_failPair_171 rfl (lv_at hl 2 rfl) ?_
      refine lv_iconst (v := 0) hx hb dX10_failPair_172 (by decide) ?_
      have ha_20 : va_at (DG E) vwCl (rf 18, .inl (E.2.2 1, 4, .inl (A 18))) _ := hM.2 18 (by decide) (by decide) (by decide)
      refine rr_zast (D := DG E) hx hb hK.1 1 ha_20 hS (by show G (rf 18) ≠ 0; rw [hR.2 18 (by decide) (by decide) (by decide)]; decide) rfl hi_2 dX10_failPair_173 (fun H locs hn ho hz hS => ?_)
      rw [en_1] at hn
      obtain ⟨g_20, eg_20⟩ : ∃ z : Nat → Int32, z = upd (A 18) n_1 0 := ⟨_, rfl⟩
      have sg_20 : g_20 n_1 = 0 := by rw [eg_20]; exact upd_s
      have ng_20 : ∀ k, k ≠ n_1 → g_20 k = (A 18) k := fun k hk => by rw [eg_20]; exact upd_n hk
      have hn : va_at (DG E) vwCl (rf 18, .inl (E.2.2 1, 4, .inl g_20)) H := by rw [eg_20]; exact hn
      have hM : MH E h0 rf t0 t1 t2 (uA (uA (uA (uA (uA (uA (uA (uA (uA A 10 g_3) 8 (u_4.1)) 9 (u_4.2)) 8 (u_11.1)) 9 (u_11.2)) 20 g_17) 30 g_18) 36 g_19) 18 g_20) cd pk H := hM.w hR 18 (by decide) (by decide) (by decide) hn ho
      have hI4_21 : I4 g_3 g_17 (A 29) (A 24) (A 11) (A 12) (A 13) := by
        intro k hk
        by_cases e : k = n_1
        · rw [e]
          refine ⟨fun hs => absurd hs (by rw [sg_3]; decide), Or.inr (by rw [sg_17]; decide)⟩
        · exact (hI4 k hk).cg (ng_3 k e) (ng_17 k e) (fun _ _ => rfl) (fun _ _ => rfl) rfl rfl rfl
      have hI8_22 : I8 g_17 g_18 (A 37) g_19 := by
        intro n9 hn9
        have h9 : 0 ≤ ((A 20) n9).toInt ∧ ((A 20) n9).toInt ≤ 4 ∧ 0 ≤ ((A 30) n9).toInt ∧ ((A 30) n9).toInt ≤ 4 ∧ 0 ≤ ((A 37) n9).toInt ∧ ((A 37) n9).toInt ≤ 2 ∧ (((A 36) n9).toInt = 0 ∨ 1 ≤ ((A 30) n9).toInt) := hI8 n9 hn9
        show 0 ≤ (g_17 n9).toInt ∧ (g_17 n9).toInt ≤ 4 ∧ 0 ≤ (g_18 n9).toInt ∧ (g_18 n9).toInt ≤ 4 ∧ 0 ≤ ((A 37) n9).toInt ∧ ((A 37) n9).toInt ≤ 2 ∧ ((g_19 n9).toInt = 0 ∨ 1 ≤ (g_18 n9).toInt)
        by_cases ezn_1 : n9 = n_1
        · rw [ezn_1] at h9 ⊢
          rw [sg_17]
          rw [sg_18]
          rw [sg_19]
          have := i_0
          exact ⟨by first | exact h9.1 | omega, by first | exact h9.2.1 | omega, by first | exact h9.2.2.1 | omega, by first | exact h9.2.2.2.1 | omega, by first | exact h9.2.2.2.2.1 | omega, by first | exact h9.2.2.2.2.2.1 | omega, by first | exact h9.2.2.2.2.2.2 | omega⟩
        · rw [ng_17 n9 ezn_1]
          rw [ng_18 n9 ezn_1]
          rw [ng_19 n9 ezn_1]
          exact h9
      exact W.vret hx hb hr (fun t ht hW => ⟨⟨((u_11.1), (u_11.2), g_3, g_20, g_17, g_18, g_19), rfl, ⟨hI3_11, hI4_21, hI8_22, ⟨n_1, hn_1, g_3, eg_3, ix_4, u_4, hb_4, hI3_4, hx_4, c_10, ix_11, u_11, hb_11, hI3_11, hx_11, c_16, g_17, eg_17, g_18, eg_18, g_19, eg_19, g_20, eg_20, rfl, rfl, rfl⟩⟩, (by show MH E h0 rf t0 t1 t2 (uA (uA (uA (uA (uA (uA (uA A 8 (u_11.1)) 9 (u_11.2)) 10 g_3) 18 g_20) 20 g_17) 30 g_18) 36 g_19) cd pk t.heap; rw [ht]; exact hM.cge (funext fun j => (cgj j 36 rfl (fun a0 => (cgj j 30 rfl (fun a1 => (cgj j 20 rfl (fun a2 => (cgj j 18 rfl (fun a3 => (cgj j 10 rfl (fun a4 => (cgj j 9 rfl (fun a5 => (cgj j 8 rfl (fun a6 => (by simp only [uA_n a0, uA_n a1, uA_n a2, uA_n a3, uA_n a4, uA_n a5, uA_n a6])))))))))))))))))⟩, hS.F ht⟩) hS.2.2 dX10_failPair_174
    · simp only [lt_I, le_I, eq_I, i_0, i_1, i_2, i_3, i_4, i_5, i_6, i_7, i_8, i_10, i_12, i_16, i_20, i_23, i_24, i_31, i_32, i_63, i_64, i_m1, i_9, i_11, i_13, i_25, i_60, i_75, i_79, i_80, i_96, i_100] at c_16
      refine lv_iconst (v := 4) hx hb dX10_failPair_89 (by decide) ?_
      refine lv_iload_n hx hb dX10_failPair_90 rfl (lv_at hl 2 rfl) ?_
      refine lv_imul hx hb dX10_failPair_91 ?_
      refine lv_topi (fun x_23 ex_23 => ?_)
      have fx_23 : x_23.toInt = 4 * p0.toInt := by rw [ex_23]; exact s_mulK i_4 (by omega) (by omega)
      refine lv_iload hx hb dX10_failPair_92 (lv_at hl 0 rfl) ?_
      refine lv_iadd hx hb dX10_failPair_94 ?_
      refine lv_topi (fun x_24 ex_24 => ?_)
      have fx_24 : x_24.toInt = x_23.toInt + ix_11.toInt := by have h9 := s_add (x := x_23) (y := ix_11) (by omega) (by omega); rw [ex_24]; exact h9
      refine lv_istore (lv' := [(5, .int x_24), (4, .int ix_11), (0, .ref h0), (1, .int p0), (2, .int p1), (3, .int p2)]) hx hb dX10_failPair_95 hl (by decide) rfl (fun ls hl => ?_)
      refine lv_aload_n hx hb dX10_failPair_97 rfl (lv_at hl 2 rfl) ?_
      refine lv_iload_n hx hb dX10_failPair_98 rfl (lv_at hl 3 rfl) ?_
      refine lv_iconst (v := 4) hx hb dX10_failPair_99 (by decide) ?_
      refine lv_aload_n hx hb dX10_failPair_100 rfl (lv_at hl 2 rfl) ?_
      refine va_get (D := DG E) (ci := 10) (v := .ref (rf 34)) (C := RX10) (T := TX10) (N := 49) hx hb hts iw_X10 hown hK.1 (va_one hM.1) 0 rfl rfl 34 (by decide) (hts _ fl_X10_101) (fun _ h9 => h9) rfl dX10_failPair_101 ?_
      refine lv_iload hx hb dX10_failPair_104 (lv_at hl 0 rfl) ?_
      have hi_25 : vp_in x_24 16 := vp_in_iff.mpr (by omega)
      have ha_26 : va_at (DG E) vwCl (rf 34, .inl (E.2.2 0, 16, .inl (A 34))) _ := hM.2 34 (by decide) (by decide) (by decide)
      obtain ⟨n_27, hn_27, en_27⟩ := s_nat (x := x_24) (by omega)
      refine va_iald (D := DG E) hx hb hK.1 (va_one ha_26) 0 0 rfl rfl hi_25 dX10_failPair_106 ?_
      refine W.eq (g2 := F0 m 107 ls [.int ((A 34) n_27), .int 4, .int p0, .ref h0]) (by rw [en_27]) ?_
      refine W.jv (P := fun v_28 : Int32 => v_28 = if ix_11.toInt = 0 ∧ ((A 36) n_1).toInt ≠ 0 ∧ 0 < p2.toInt then p2 else 5) (f := fun v_28 => F0 m 130 ls ([.int v_28, .int ((A 34) n_27), .int 4, .int p0, .ref h0])) (fun v_28 hv_28 => ?_) (fun key_28 => ?_)
      · have hv_28 : v_28 = if ix_11.toInt = 0 ∧ ((A 36) n_1).toInt ≠ 0 ∧ 0 < p2.toInt then p2 else 5 := hv_28
        refine lv_aload_n hx hb dX10_failPair_130 rfl (lv_at hl 2 rfl) ?_
        refine va_get (D := DG E) (ci := 10) (v := .ref (rf 35)) (C := RX10) (T := TX10) (N := 49) hx hb hts iw_X10 hown hK.1 (va_one hM.1) 0 rfl rfl 35 (by decide) (hts _ fl_X10_104) (fun _ h9 => h9) rfl dX10_failPair_131 ?_
        refine lv_iload hx hb dX10_failPair_134 (lv_at hl 0 rfl) ?_
        have ha_29 : va_at (DG E) vwCl (rf 35, .inl (E.2.2 0, 16, .inl (A 35))) _ := hM.2 35 (by decide) (by decide) (by decide)
        refine va_iald (D := DG E) hx hb hK.1 (va_one ha_29) 0 0 rfl rfl hi_25 dX10_failPair_136 ?_
        refine W.eq (g2 := F0 m 137 ls [.int ((A 35) n_27), .int v_28, .int ((A 34) n_27), .int 4, .int p0, .ref h0]) (by rw [en_27]) ?_
        refine va_callv (rnV (fun H => MH E h0 rf t0 t1 t2 (uA (uA (uA (uA (uA A 10 g_3) 8 (u_4.1)) 9 (u_4.2)) 8 (u_11.1)) 9 (u_11.2)) cd pk H) (As := [.int p0, .int 4, .int ((A 34) n_27), .int v_28, .int ((A 35) n_27)]) (rest := []) ⟨hx, hb, hml, hown, hts⟩ (u_X10_complete l E z0 G hGz h0 rf hR t0 t1 t2 (uA (uA (uA (uA (uA A 10 g_3) 8 (u_4.1)) 9 (u_4.2)) 8 (u_11.1)) 9 (u_11.2)) cd pk p0 4 ((A 34) n_27) v_28 ((A 35) n_27) hI3_11 (show 0 ≤ p0.toInt ∧ p0.toInt ≤ 3 from by have := i_4; first | decide | omega)) (cwV 5 hts (gdV ml_X10_207 im_X10_complete se_X10_X10_complete in_X10 co_X10_complete rfl) rfl rfl rfl (by decide +kernel) ⟨Nat.le_of_ble_eq_true rfl, Nat.le_of_ble_eq_true rfl⟩) hM (fun U hU hW => hK.go hW hS hAz hU) (va_recv hK.1 (va_one hM.1) (ci := 10) (q0 := 0) rfl rfl) rfl rfl hl.1 rfl (lv_room (Nat.le_of_ble_eq_true rfl)) dX10_failPair_137 ⟨Nat.le_of_ble_eq_true rfl, Nat.le_of_ble_eq_true rfl⟩) hS (fun q _ h => h) (fun q h => h) (fun ur_30 t H locs ht hvm hwr_30 hB hz hk hS => ?_)
        have hM : MH E h0 rf t0 t1 t2 (uA (uA (uA (uA (uA (uA (uA A 10 g_3) 8 (u_4.1)) 9 (u_4.2)) 8 (u_11.1)) 9 (u_11.2)) 8 (ur_30.1)) 9 (ur_30.2)) cd pk H := by rw [ht] at hB; exact hB
        have hDr_30 : D_X10_complete (uA (uA (uA (uA (uA A 10 g_3) 8 (u_4.1)) 9 (u_4.2)) 8 (u_11.1)) 9 (u_11.2)) cd pk p0 (4 : Int32) ((A 34) n_27) v_28 ((A 35) n_27) (uA (uA (uA (uA (uA (uA (uA A 10 g_3) 8 (u_4.1)) 9 (u_4.2)) 8 (u_11.1)) 9 (u_11.2)) 8 (ur_30.1)) 9 (ur_30.2)) cd pk := hwr_30.2
        have hpr_30_0 : I3 (ur_30.1) := hwr_30.1
        have := i_4
        obtain ⟨x_31, ex_31⟩ : ∃ z : Int32, ix_11 + Int32.ofInt 1 = z := ⟨_, rfl⟩
        have fx_31 : x_31.toInt = ix_11.toInt + 1 := by have h9 := s_add (x := ix_11) (y := 1) (by rw [i_1]; omega) (by rw [i_1]; omega); rw [i_1] at h9; rw [← ex_31]; exact h9
        refine lv_iinc (v := x_31) (lv' := [(4, .int x_31), (5, .int x_24), (0, .ref h0), (1, .int p0), (2, .int p1), (3, .int p2)]) hx hb dX10_failPair_140 hl (k := 1) rfl ex_31 (by decide) rfl (fun ls hl => ?_)
        refine lv_goto (tgt := 78) hx hb dX10_failPair_143 (by decide) ?_
        obtain ⟨b9, hb9, f9⟩ := hx_11
        have e9 : n_27 = 4 * n_1 + b9 := by omega
        subst e9
        have v9 : v_28 = if ix_11.toInt = 0 ∧ ((uA (uA (uA A 10 g_3) 8 (u_4.1)) 9 (u_4.2)) 36 n_1).toInt ≠ 0 ∧ 0 < p2.toInt then p2 else 5 := hv_28
        rw [uu_89 (uA (uA (uA A 10 g_3) 8 (u_4.1)) 9 (u_4.2)) (u_11.1) (u_11.2) (ur_30.1) (ur_30.2)] at hDr_30
        have hX_32 : ∃ b : Nat, (b : Int) = x_31.toInt ∧ FPV (uA (uA (uA A 10 g_3) 8 (u_4.1)) 9 (u_4.2)) cd pk p0 p2 n_1 b (uA (uA (uA (uA (uA A 10 g_3) 8 (u_4.1)) 9 (u_4.2)) 8 (ur_30.1)) 9 (ur_30.2)) := ⟨b9 + 1, by omega, _, f9, _, (by rw [v9]; congr 1; apply propext; constructor <;> intro h9 <;> omega), hDr_30⟩
        exact ih_11 _ (by omega) _ _ _ ⟨x_31, ((ur_30.1), (ur_30.2)), (by first | omega | decide), rfl, (by show MH E h0 rf t0 t1 t2 (uA (uA (uA (uA (uA A 10 g_3) 8 (u_4.1)) 9 (u_4.2)) 8 (ur_30.1)) 9 (ur_30.2)) cd pk _; exact hM.cge (funext fun j => (cgj j 10 rfl (fun a0 => (cgj j 9 rfl (fun a1 => (cgj j 8 rfl (fun a2 => (by simp only [uA_n a0, uA_n a1, uA_n a2]))))))))), hpr_30_0, hX_32, hS, lv_sub hl [0, 2, 3, 4, 5] rfl⟩
      · refine lv_iload hx hb dX10_failPair_107 (lv_at hl 1 rfl) ?_
        refine lv_if_ne (tgt := 129) hx hb dX10_failPair_109 (by decide) (fun c_33 => ?_) (fun c_33 => ?_)
        · simp only [lt_I, le_I, eq_I, i_0, i_1, i_2, i_3, i_4, i_5, i_6, i_7, i_8, i_10, i_12, i_16, i_20, i_23, i_24, i_31, i_32, i_63, i_64, i_m1, i_9, i_11, i_13, i_25, i_60, i_75, i_79, i_80, i_96, i_100] at c_33
          refine lv_iconst (v := 5) hx hb dX10_failPair_129 (by decide) ?_
          exact key_28 5 (by first | rw [if_pos (by omega)] | rw [if_neg (by omega)])
        · simp only [lt_I, le_I, eq_I, i_0, i_1, i_2, i_3, i_4, i_5, i_6, i_7, i_8, i_10, i_12, i_16, i_20, i_23, i_24, i_31, i_32, i_63, i_64, i_m1, i_9, i_11, i_13, i_25, i_60, i_75, i_79, i_80, i_96, i_100] at c_33
          refine lv_aload_n hx hb dX10_failPair_112 rfl (lv_at hl 2 rfl) ?_
          refine va_get (D := DG E) (ci := 10) (v := .ref (rf 36)) (C := RX10) (T := TX10) (N := 49) hx hb hts iw_X10 hown hK.1 (va_one hM.1) 0 rfl rfl 36 (by decide) (hts _ fl_X10_107) (fun _ h9 => h9) rfl dX10_failPair_113 ?_
          refine lv_iload_n hx hb dX10_failPair_116 rfl (lv_at hl 3 rfl) ?_
          have ha_34 : va_at (DG E) vwCl (rf 36, .inl (E.2.2 1, 4, .inl (A 36))) _ := hM.2 36 (by decide) (by decide) (by decide)
          refine va_zald (D := DG E) hx hb hK.1 (va_one ha_34) 0 1 rfl rfl hi_2 dX10_failPair_117 ?_
          refine W.eq (g2 := F0 m 118 ls [.int ((A 36) n_1), .int ((A 34) n_27), .int 4, .int p0, .ref h0]) (by rw [en_1]) ?_
          refine lv_if_eq (tgt := 129) hx hb dX10_failPair_118 (by decide) (fun c_35 => ?_) (fun c_35 => ?_)
          · simp only [lt_I, le_I, eq_I, i_0, i_1, i_2, i_3, i_4, i_5, i_6, i_7, i_8, i_10, i_12, i_16, i_20, i_23, i_24, i_31, i_32, i_63, i_64, i_m1, i_9, i_11, i_13, i_25, i_60, i_75, i_79, i_80, i_96, i_100] at c_35
            refine lv_iconst (v := 5) hx hb dX10_failPair_129 (by decide) ?_
            exact key_28 5 (by first | rw [if_pos (by omega)] | rw [if_neg (by omega)])
          · simp only [lt_I, le_I, eq_I, i_0, i_1, i_2, i_3, i_4, i_5, i_6, i_7, i_8, i_10, i_12, i_16, i_20, i_23, i_24, i_31, i_32, i_63, i_64, i_m1, i_9, i_11, i_13, i_25, i_60, i_75, i_79, i_80, i_96, i_100] at c_35
            refine lv_iload_n hx hb dX10_failPair_121 rfl (lv_at hl 5 rfl) ?_
            refine lv_if_le (tgt := 129) hx hb dX10_failPair_122 (by decide) (fun c_36 => ?_) (fun c_36 => ?_)
            · simp only [lt_I, le_I, eq_I, i_0, i_1, i_2, i_3, i_4, i_5, i_6, i_7, i_8, i_10, i_12, i_16, i_20, i_23, i_24, i_31, i_32, i_63, i_64, i_m1, i_9, i_11, i_13, i_25, i_60, i_75, i_79, i_80, i_96, i_100] at c_36
              refine lv_iconst (v := 5) hx hb dX10_failPair_129 (by decide) ?_
              exact key_28 5 (by first | rw [if_pos (by omega)] | rw [if_neg (by omega)])
            · simp only [lt_I, le_I, eq_I, i_0, i_1, i_2, i_3, i_4, i_5, i_6, i_7, i_8, i_10, i_12, i_16, i_20, i_23, i_24, i_31, i_32, i_63, i_64, i_m1, i_9, i_11, i_13, i_25, i_60, i_75, i_79, i_80, i_96, i_100] at c_36
              refine lv_iload_n hx hb dX10_failPair_125 rfl (lv_at hl 5 rfl) ?_
              refine lv_goto (tgt := 130) hx hb dX10_failPair_126 (by decide) ?_
              exact key_28 p2 (by first | rw [if_pos (by omega)] | rw [if_neg (by omega)])
  · simp only [lt_I, le_I, eq_I, i_0, i_1, i_2, i_3, i_4, i_5, i_6, i_7, i_8, i_10, i_12, i_16, i_20, i_23, i_24, i_31, i_32, i_63, i_64, i_m1, i_9, i_11, i_13, i_25, i_60, i_75, i_79, i_80, i_96, i_100] at c_10
    refine lv_iconst (v := 4) hx hb dX10_failPair_21 (by decide) ?_
    refine lv_iload_n hx hb dX10_failPair_22 rfl (lv_at hl 2 rfl) ?_
    refine lv_imul hx hb dX10_failPair_23 ?_
    refine lv_topi (fun x_37 ex_37 => ?_)
    have fx_37 : x_37.toInt = 4 * p0.toInt := by rw [ex_37]; exact s_mulK i_4 (by omega) (by omega)
    refine lv_iload hx hb dX10_failPair_24 (lv_at hl 0 rfl) ?_
    refine lv_iadd hx hb dX10_failPair_26 ?_
    refine lv_topi (fun x_38 ex_38 => ?_)
    have fx_38 : x_38.toInt = x_37.toInt + ix_4.toInt := by have h9 := s_add (x := x_37) (y := ix_4) (by omega) (by omega); rw [ex_38]; exact h9
    refine lv_istore (lv' := [(5, .int x_38), (4, .int ix_4), (0, .ref h0), (1, .int p0), (2, .int p1), (3, .int p2)]) hx hb dX10_failPair_27 hl (by decide) rfl (fun ls hl => ?_)
    refine lv_aload_n hx hb dX10_failPair_29 rfl (lv_at hl 2 rfl) ?_
    refine lv_iload_n hx hb dX10_failPair_30 rfl (lv_at hl 3 rfl) ?_
    refine lv_aload_n hx hb dX10_failPair_31 rfl (lv_at hl 2 rfl) ?_
    refine va_get (D := DG E) (ci := 10) (v := .ref (rf 22)) (C := RX10) (T := TX10) (N := 49) hx hb hts iw_X10 hown hK.1 (va_one hM.1) 0 rfl rfl 22 (by decide) (hts _ fl_X10_65) (fun _ h9 => h9) rfl dX10_failPair_32 ?_
    refine lv_iload hx hb dX10_failPair_35 (lv_at hl 0 rfl) ?_
    have hi_39 : vp_in x_38 16 := vp_in_iff.mpr (by omega)
    have ha_40 : va_at (DG E) vwCl (rf 22, .inl (E.2.2 0, 16, .inl (A 22))) _ := hM.2 22 (by decide) (by decide) (by decide)
    obtain ⟨n_41, hn_41, en_41⟩ := s_nat (x := x_38) (by omega)
    refine va_iald (D := DG E) hx hb hK.1 (va_one ha_40) 0 0 rfl rfl hi_39 dX10_failPair_37 ?_
    refine W.eq (g2 := F0 m 38 ls [.int ((A 22) n_41), .int p0, .ref h0]) (by rw [en_41]) ?_
    refine lv_aload_n hx hb dX10_failPair_38 rfl (lv_at hl 2 rfl) ?_
    refine va_get (D := DG E) (ci := 10) (v := .ref (rf 28)) (C := RX10) (T := TX10) (N := 49) hx hb hts iw_X10 hown hK.1 (va_one hM.1) 0 rfl rfl 28 (by decide) (hts _ fl_X10_83) (fun _ h9 => h9) rfl dX10_failPair_39 ?_
    refine lv_iload hx hb dX10_failPair_42 (lv_at hl 0 rfl) ?_
    have ha_42 : va_at (DG E) vwCl (rf 28, .inl (E.2.2 0, 16, .inl (A 28))) _ := hM.2 28 (by decide) (by decide) (by decide)
    refine va_iald (D := DG E) hx hb hK.1 (va_one ha_42) 0 0 rfl rfl hi_39 dX10_failPair_44 ?_
    refine W.eq (g2 := F0 m 45 ls [.int ((A 28) n_41), .int ((A 22) n_41), .int p0, .ref h0]) (by rw [en_41]) ?_
    refine W.jv (P := fun v_43 : Int32 => v_43 = if ix_4.toInt = 0 ∧ 0 < p1.toInt then p1 else 5) (f := fun v_43 => F0 m 59 ls ([.int v_43, .int ((A 28) n_41), .int ((A 22) n_41), .int p0, .ref h0])) (fun v_43 hv_43 => ?_) (fun key_43 => ?_)
    · have hv_43 : v_43 = if ix_4.toInt = 0 ∧ 0 < p1.toInt then p1 else 5 := hv_43
      refine lv_aload_n hx hb dX10_failPair_59 rfl (lv_at hl 2 rfl) ?_
      refine va_get (D := DG E) (ci := 10) (v := .ref (rf 24)) (C := RX10) (T := TX10) (N := 49) hx hb hts iw_X10 hown hK.1 (va_one hM.1) 0 rfl rfl 24 (by decide) (hts _ fl_X10_71) (fun _ h9 => h9) rfl dX10_failPair_60 ?_
      refine lv_iload hx hb dX10_failPair_63 (lv_at hl 0 rfl) ?_
      have ha_44 : va_at (DG E) vwCl (rf 24, .inl (E.2.2 0, 16, .inl (A 24))) _ := hM.2 24 (by decide) (by decide) (by decide)
      refine va_iald (D := DG E) hx hb hK.1 (va_one ha_44) 0 0 rfl rfl hi_39 dX10_failPair_65 ?_
      refine W.eq (g2 := F0 m 66 ls [.int ((A 24) n_41), .int v_43, .int ((A 28) n_41), .int ((A 22) n_41), .int p0, .ref h0]) (by rw [en_41]) ?_
      refine va_callv (rnV (fun H => MH E h0 rf t0 t1 t2 (uA (uA (uA A 10 g_3) 8 (u_4.1)) 9 (u_4.2)) cd pk H) (As := [.int p0, .int ((A 22) n_41), .int ((A 28) n_41), .int v_43, .int ((A 24) n_41)]) (rest := []) ⟨hx, hb, hml, hown, hts⟩ (u_X10_complete l E z0 G hGz h0 rf hR t0 t1 t2 (uA (uA (uA A 10 g_3) 8 (u_4.1)) 9 (u_4.2)) cd pk p0 ((A 22) n_41) ((A 28) n_41) v_43 ((A 24) n_41) hI3_4 (show 0 ≤ p0.toInt ∧ p0.toInt ≤ 3 from by first | decide | omega)) (cwV 5 hts (gdV ml_X10_207 im_X10_complete se_X10_X10_complete in_X10 co_X10_complete rfl) rfl rfl rfl (by decide +kernel) ⟨Nat.le_of_ble_eq_true rfl, Nat.le_of_ble_eq_true rfl⟩) hM (fun U hU hW => hK.go hW hS hAz hU) (va_recv hK.1 (va_one hM.1) (ci := 10) (q0 := 0) rfl rfl) rfl rfl hl.1 rfl (lv_room (Nat.le_of_ble_eq_true rfl)) dX10_failPair_66 ⟨Nat.le_of_ble_eq_true rfl, Nat.le_of_ble_eq_true rfl⟩) hS (fun q _ h => h) (fun q h => h) (fun ur_45 t H locs ht hvm hwr_45 hB hz hk hS => ?_)
      have hM : MH E h0 rf t0 t1 t2 (uA (uA (uA (uA (uA A 10 g_3) 8 (u_4.1)) 9 (u_4.2)) 8 (ur_45.1)) 9 (ur_45.2)) cd pk H := by rw [ht] at hB; exact hB
      have hDr_45 : D_X10_complete (uA (uA (uA A 10 g_3) 8 (u_4.1)) 9 (u_4.2)) cd pk p0 ((A 22) n_41) ((A 28) n_41) v_43 ((A 24) n_41) (uA (uA (uA (uA (uA A 10 g_3) 8 (u_4.1)) 9 (u_4.2)) 8 (ur_45.1)) 9 (ur_45.2)) cd pk := hwr_45.2
      have hpr_45_0 : I3 (ur_45.1) := hwr_45.1
      obtain ⟨x_46, ex_46⟩ : ∃ z : Int32, ix_4 + Int32.ofInt 1 = z := ⟨_, rfl⟩
      have fx_46 : x_46.toInt = ix_4.toInt + 1 := by have h9 := s_add (x := ix_4) (y := 1) (by rw [i_1]; omega) (by rw [i_1]; omega); rw [i_1] at h9; rw [← ex_46]; exact h9
      refine lv_iinc (v := x_46) (lv' := [(4, .int x_46), (5, .int x_38), (0, .ref h0), (1, .int p0), (2, .int p1), (3, .int p2)]) hx hb dX10_failPair_69 hl (k := 1) rfl ex_46 (by decide) rfl (fun ls hl => ?_)
      refine lv_goto (tgt := 10) hx hb dX10_failPair_72 (by decide) ?_
      obtain ⟨b9, hb9, f9⟩ := hx_4
      have e9 : n_41 = 4 * n_1 + b9 := by omega
      subst e9
      have v9 : v_43 = if ix_4.toInt = 0 ∧ 0 < p1.toInt then p1 else 5 := hv_43
      rw [uu_89 (uA A 10 g_3) (u_4.1) (u_4.2) (ur_45.1) (ur_45.2)] at hDr_45
      have hX_47 : ∃ b : Nat, (b : Int) = x_46.toInt ∧ FPQ (uA A 10 g_3) cd pk p0 p1 n_1 b (uA (uA (uA A 10 g_3) 8 (ur_45.1)) 9 (ur_45.2)) := ⟨b9 + 1, by omega, _, f9, _, (by rw [v9]; congr 1; apply propext; constructor <;> intro h9 <;> omega), hDr_45⟩
      exact ih_4 _ (by omega) _ _ _ ⟨x_46, ((ur_45.1), (ur_45.2)), (by first | omega | decide), rfl, (by show MH E h0 rf t0 t1 t2 (uA (uA (uA A 10 g_3) 8 (ur_45.1)) 9 (ur_45.2)) cd pk _; exact hM.cge (funext fun j => (cgj j 10 rfl (fun a0 => (cgj j 9 rfl (fun a1 => (cgj j 8 rfl (fun a2 => (by simp only [uA_n a0, uA_n a1, uA_n a2]))))))))), hpr_45_0, hX_47, hS, lv_sub hl [0, 2, 3, 4, 5] rfl⟩
    · refine lv_iload hx hb dX10_failPair_45 (lv_at hl 1 rfl) ?_
      refine lv_if_ne (tgt := 58) hx hb dX10_failPair_47 (by decide) (fun c_48 => ?_) (fun c_48 => ?_)
      · simp only [lt_I, le_I, eq_I, i_0, i_1, i_2, i_3, i_4, i_5, i_6, i_7, i_8, i_10, i_12, i_16, i_20, i_23, i_24, i_31, i_32, i_63, i_64, i_m1, i_9, i_11, i_13, i_25, i_60, i_75, i_79, i_80, i_96, i_100] at c_48
        refine lv_iconst (v := 5) hx hb dX10_failPair_58 (by decide) ?_
        exact key_43 5 (by first | rw [if_pos (by omega)] | rw [if_neg (by omega)])
      · simp only [lt_I, le_I, eq_I, i_0, i_1, i_2, i_3, i_4, i_5, i_6, i_7, i_8, i_10, i_12, i_16, i_20, i_23, i_24, i_31, i_32, i_63, i_64, i_m1, i_9, i_11, i_13, i_25, i_60, i_75, i_79, i_80, i_96, i_100] at c_48
        refine lv_iload_n hx hb dX10_failPair_50 rfl (lv_at hl 4 rfl) ?_
        refine lv_if_le (tgt := 58) hx hb dX10_failPair_51 (by decide) (fun c_49 => ?_) (fun c_49 => ?_)
        · simp only [lt_I, le_I, eq_I, i_0, i_1, i_2, i_3, i_4, i_5, i_6, i_7, i_8, i_10, i_12, i_16, i_20, i_23, i_24, i_31, i_32, i_63, i_64, i_m1, i_9, i_11, i_13, i_25, i_60, i_75, i_79, i_80, i_96, i_100] at c_49
          refine lv_iconst (v := 5) hx hb dX10_failPair_58 (by decide) ?_
          exact key_43 5 (by first | rw [if_pos (by omega)] | rw [if_neg (by omega)])
        · simp only [lt_I, le_I, eq_I, i_0, i_1, i_2, i_3, i_4, i_5, i_6, i_7, i_8, i_10, i_12, i_16, i_20, i_23, i_24, i_31, i_32, i_63, i_64, i_m1, i_9, i_11, i_13, i_25, i_60, i_75, i_79, i_80, i_96, i_100] at c_49
          refine lv_iload_n hx hb dX10_failPair_54 rfl (lv_at hl 4 rfl) ?_
          refine lv_goto (tgt := 59) hx hb dX10_failPair_55 (by decide) ?_
          exact key_43 p1 (by first | rw [if_pos (by omega)] | rw [if_neg (by omega)])
theorem gdX10_dropRequest_0 : (decode cX10_dropRequest 0 = .ok (.aload_n 0, 1)) ∧ (decode cX10_dropRequest 1 = .ok (.getfield 59, 3)) ∧ (decode cX10_dropRequest 4 = .ok (.iload_n 1, 1)) ∧ (decode cX10_dropRequest 5 = .ok (.dup2, 1)) ∧ (decode cX10_dropRequest 6 = .ok (.iaload, 1)) ∧ (decode cX10_dropRequest 7 = .ok (.iconst 1, 1)) ∧ (decode cX10_dropRequest 8 = .ok (.isub, 1)) ∧ (decode cX10_dropRequest 9 = .ok (.iastore, 1)) ∧ (decode cX10_dropRequest 10 = .ok (.iconst 4, 1)) ∧ (decode cX10_dropRequest 11 = .ok (.iload_n 1, 1)) ∧ (decode cX10_dropRequest 12 = .ok (.imul, 1)) ∧ (decode cX10_dropRequest 13 = .ok (.istore_n 2, 1)) ∧ (decode cX10_dropRequest 14 = .ok (.iload_n 2, 1)) ∧ (decode cX10_dropRequest 15 = .ok (.iconst 4, 1)) ∧ (decode cX10_dropRequest 16 = .ok (.iload_n 1, 1)) ∧ (decode cX10_dropRequest 17 = .ok (.imul, 1)) := by decide +kernel
theorem dX10_dropRequest_0 : decode cX10_dropRequest 0 = .ok (.aload_n 0, 1) := gdX10_dropRequest_0.1
theorem dX10_dropRequest_1 : decode cX10_dropRequest 1 = .ok (.getfield 59, 3) := gdX10_dropRequest_0.2.1
theorem dX10_dropRequest_4 : decode cX10_dropRequest 4 = .ok (.iload_n 1, 1) := gdX10_dropRequest_0.2.2.1
theorem dX10_dropRequest_5 : decode cX10_dropRequest 5 = .ok (.dup2, 1) := gdX10_dropRequest_0.2.2.2.1
theorem dX10_dropRequest_6 : decode cX10_dropRequest 6 = .ok (.iaload, 1) := gdX10_dropRequest_0.2.2.2.2.1
theorem dX10_dropRequest_7 : decode cX10_dropRequest 7 = .ok (.iconst 1, 1) := gdX10_dropRequest_0.2.2.2.2.2.1
theorem dX10_dropRequest_8 : decode cX10_dropRequest 8 = .ok (.isub, 1) := gdX10_dropRequest_0.2.2.2.2.2.2.1
theorem dX10_dropRequest_9 : decode cX10_dropRequest 9 = .ok (.iastore, 1) := gdX10_dropRequest_0.2.2.2.2.2.2.2.1
theorem dX10_dropRequest_10 : decode cX10_dropRequest 10 = .ok (.iconst 4, 1) := gdX10_dropRequest_0.2.2.2.2.2.2.2.2.1
theorem dX10_dropRequest_11 : decode cX10_dropRequest 11 = .ok (.iload_n 1, 1) := gdX10_dropRequest_0.2.2.2.2.2.2.2.2.2.1
theorem dX10_dropRequest_12 : decode cX10_dropRequest 12 = .ok (.imul, 1) := gdX10_dropRequest_0.2.2.2.2.2.2.2.2.2.2.1
theorem dX10_dropRequest_13 : decode cX10_dropRequest 13 = .ok (.istore_n 2, 1) := gdX10_dropRequest_0.2.2.2.2.2.2.2.2.2.2.2.1
theorem dX10_dropRequest_14 : decode cX10_dropRequest 14 = .ok (.iload_n 2, 1) := gdX10_dropRequest_0.2.2.2.2.2.2.2.2.2.2.2.2.1
theorem dX10_dropRequest_15 : decode cX10_dropRequest 15 = .ok (.iconst 4, 1) := gdX10_dropRequest_0.2.2.2.2.2.2.2.2.2.2.2.2.2.1
theorem dX10_dropRequest_16 : decode cX10_dropRequest 16 = .ok (.iload_n 1, 1) := gdX10_dropRequest_0.2.2.2.2.2.2.2.2.2.2.2.2.2.2.1
theorem dX10_dropRequest_17 : decode cX10_dropRequest 17 = .ok (.imul, 1) := gdX10_dropRequest_0.2.2.2.2.2.2.2.2.2.2.2.2.2.2.2
theorem gdX10_dropRequest_18 : (decode cX10_dropRequest 18 = .ok (.aload_n 0, 1)) ∧ (decode cX10_dropRequest 19 = .ok (.getfield 59, 3)) ∧ (decode cX10_dropRequest 22 = .ok (.iload_n 1, 1)) ∧ (decode cX10_dropRequest 23 = .ok (.iaload, 1)) ∧ (decode cX10_dropRequest 24 = .ok (.iadd, 1)) ∧ (decode cX10_dropRequest 25 = .ok (.if_icmp .ge 121, 3)) ∧ (decode cX10_dropRequest 28 = .ok (.aload_n 0, 1)) ∧ (decode cX10_dropRequest 29 = .ok (.getfield 65, 3)) ∧ (decode cX10_dropRequest 32 = .ok (.iload_n 2, 1)) ∧ (decode cX10_dropRequest 33 = .ok (.aload_n 0, 1)) ∧ (decode cX10_dropRequest 34 = .ok (.getfield 65, 3)) ∧ (decode cX10_dropRequest 37 = .ok (.iload_n 2, 1)) ∧ (decode cX10_dropRequest 38 = .ok (.iconst 1, 1)) ∧ (decode cX10_dropRequest 39 = .ok (.iadd, 1)) ∧ (decode cX10_dropRequest 40 = .ok (.iaload, 1)) ∧ (decode cX10_dropRequest 41 = .ok (.iastore, 1)) := by decide +kernel
theorem dX10_dropRequest_18 : decode cX10_dropRequest 18 = .ok (.aload_n 0, 1) := gdX10_dropRequest_18.1
theorem dX10_dropRequest_19 : decode cX10_dropRequest 19 = .ok (.getfield 59, 3) := gdX10_dropRequest_18.2.1
theorem dX10_dropRequest_22 : decode cX10_dropRequest 22 = .ok (.iload_n 1, 1) := gdX10_dropRequest_18.2.2.1
theorem dX10_dropRequest_23 : decode cX10_dropRequest 23 = .ok (.iaload, 1) := gdX10_dropRequest_18.2.2.2.1
theorem dX10_dropRequest_24 : decode cX10_dropRequest 24 = .ok (.iadd, 1) := gdX10_dropRequest_18.2.2.2.2.1
theorem dX10_dropRequest_25 : decode cX10_dropRequest 25 = .ok (.if_icmp .ge 121, 3) := gdX10_dropRequest_18.2.2.2.2.2.1
theorem dX10_dropRequest_28 : decode cX10_dropRequest 28 = .ok (.aload_n 0, 1) := gdX10_dropRequest_18.2.2.2.2.2.2.1
theorem dX10_dropRequest_29 : decode cX10_dropRequest 29 = .ok (.getfield 65, 3) := gdX10_dropRequest_18.2.2.2.2.2.2.2.1
theorem dX10_dropRequest_32 : decode cX10_dropRequest 32 = .ok (.iload_n 2, 1) := gdX10_dropRequest_18.2.2.2.2.2.2.2.2.1
theorem dX10_dropRequest_33 : decode cX10_dropRequest 33 = .ok (.aload_n 0, 1) := gdX10_dropRequest_18.2.2.2.2.2.2.2.2.2.1
theorem dX10_dropRequest_34 : decode cX10_dropRequest 34 = .ok (.getfield 65, 3) := gdX10_dropRequest_18.2.2.2.2.2.2.2.2.2.2.1
theorem dX10_dropRequest_37 : decode cX10_dropRequest 37 = .ok (.iload_n 2, 1) := gdX10_dropRequest_18.2.2.2.2.2.2.2.2.2.2.2.1
theorem dX10_dropRequest_38 : decode cX10_dropRequest 38 = .ok (.iconst 1, 1) := gdX10_dropRequest_18.2.2.2.2.2.2.2.2.2.2.2.2.1
theorem dX10_dropRequest_39 : decode cX10_dropRequest 39 = .ok (.iadd, 1) := gdX10_dropRequest_18.2.2.2.2.2.2.2.2.2.2.2.2.2.1
theorem dX10_dropRequest_40 : decode cX10_dropRequest 40 = .ok (.iaload, 1) := gdX10_dropRequest_18.2.2.2.2.2.2.2.2.2.2.2.2.2.2.1
theorem dX10_dropRequest_41 : decode cX10_dropRequest 41 = .ok (.iastore, 1) := gdX10_dropRequest_18.2.2.2.2.2.2.2.2.2.2.2.2.2.2.2
theorem gdX10_dropRequest_42 : (decode cX10_dropRequest 42 = .ok (.aload_n 0, 1)) ∧ (decode cX10_dropRequest 43 = .ok (.getfield 68, 3)) ∧ (decode cX10_dropRequest 46 = .ok (.iload_n 2, 1)) ∧ (decode cX10_dropRequest 47 = .ok (.aload_n 0, 1)) ∧ (decode cX10_dropRequest 48 = .ok (.getfield 68, 3)) ∧ (decode cX10_dropRequest 51 = .ok (.iload_n 2, 1)) ∧ (decode cX10_dropRequest 52 = .ok (.iconst 1, 1)) ∧ (decode cX10_dropRequest 53 = .ok (.iadd, 1)) ∧ (decode cX10_dropRequest 54 = .ok (.iaload, 1)) ∧ (decode cX10_dropRequest 55 = .ok (.iastore, 1)) ∧ (decode cX10_dropRequest 56 = .ok (.aload_n 0, 1)) ∧ (decode cX10_dropRequest 57 = .ok (.getfield 71, 3)) ∧ (decode cX10_dropRequest 60 = .ok (.iload_n 2, 1)) ∧ (decode cX10_dropRequest 61 = .ok (.aload_n 0, 1)) ∧ (decode cX10_dropRequest 62 = .ok (.getfield 71, 3)) ∧ (decode cX10_dropRequest 65 = .ok (.iload_n 2, 1)) := by decide +kernel
theorem dX10_dropRequest_42 : decode cX10_dropRequest 42 = .ok (.aload_n 0, 1) := gdX10_dropRequest_42.1
theorem dX10_dropRequest_43 : decode cX10_dropRequest 43 = .ok (.getfield 68, 3) := gdX10_dropRequest_42.2.1
theorem dX10_dropRequest_46 : decode cX10_dropRequest 46 = .ok (.iload_n 2, 1) := gdX10_dropRequest_42.2.2.1
theorem dX10_dropRequest_47 : decode cX10_dropRequest 47 = .ok (.aload_n 0, 1) := gdX10_dropRequest_42.2.2.2.1
theorem dX10_dropRequest_48 : decode cX10_dropRequest 48 = .ok (.getfield 68, 3) := gdX10_dropRequest_42.2.2.2.2.1
theorem dX10_dropRequest_51 : decode cX10_dropRequest 51 = .ok (.iload_n 2, 1) := gdX10_dropRequest_42.2.2.2.2.2.1
theorem dX10_dropRequest_52 : decode cX10_dropRequest 52 = .ok (.iconst 1, 1) := gdX10_dropRequest_42.2.2.2.2.2.2.1
theorem dX10_dropRequest_53 : decode cX10_dropRequest 53 = .ok (.iadd, 1) := gdX10_dropRequest_42.2.2.2.2.2.2.2.1
theorem dX10_dropRequest_54 : decode cX10_dropRequest 54 = .ok (.iaload, 1) := gdX10_dropRequest_42.2.2.2.2.2.2.2.2.1
theorem dX10_dropRequest_55 : decode cX10_dropRequest 55 = .ok (.iastore, 1) := gdX10_dropRequest_42.2.2.2.2.2.2.2.2.2.1
theorem dX10_dropRequest_56 : decode cX10_dropRequest 56 = .ok (.aload_n 0, 1) := gdX10_dropRequest_42.2.2.2.2.2.2.2.2.2.2.1
theorem dX10_dropRequest_57 : decode cX10_dropRequest 57 = .ok (.getfield 71, 3) := gdX10_dropRequest_42.2.2.2.2.2.2.2.2.2.2.2.1
theorem dX10_dropRequest_60 : decode cX10_dropRequest 60 = .ok (.iload_n 2, 1) := gdX10_dropRequest_42.2.2.2.2.2.2.2.2.2.2.2.2.1
theorem dX10_dropRequest_61 : decode cX10_dropRequest 61 = .ok (.aload_n 0, 1) := gdX10_dropRequest_42.2.2.2.2.2.2.2.2.2.2.2.2.2.1
theorem dX10_dropRequest_62 : decode cX10_dropRequest 62 = .ok (.getfield 71, 3) := gdX10_dropRequest_42.2.2.2.2.2.2.2.2.2.2.2.2.2.2.1
theorem dX10_dropRequest_65 : decode cX10_dropRequest 65 = .ok (.iload_n 2, 1) := gdX10_dropRequest_42.2.2.2.2.2.2.2.2.2.2.2.2.2.2.2
theorem gdX10_dropRequest_66 : (decode cX10_dropRequest 66 = .ok (.iconst 1, 1)) ∧ (decode cX10_dropRequest 67 = .ok (.iadd, 1)) ∧ (decode cX10_dropRequest 68 = .ok (.iaload, 1)) ∧ (decode cX10_dropRequest 69 = .ok (.iastore, 1)) ∧ (decode cX10_dropRequest 70 = .ok (.aload_n 0, 1)) ∧ (decode cX10_dropRequest 71 = .ok (.getfield 74, 3)) ∧ (decode cX10_dropRequest 74 = .ok (.iload_n 2, 1)) ∧ (decode cX10_dropRequest 75 = .ok (.aload_n 0, 1)) ∧ (decode cX10_dropRequest 76 = .ok (.getfield 74, 3)) ∧ (decode cX10_dropRequest 79 = .ok (.iload_n 2, 1)) ∧ (decode cX10_dropRequest 80 = .ok (.iconst 1, 1)) ∧ (decode cX10_dropRequest 81 = .ok (.iadd, 1)) ∧ (decode cX10_dropRequest 82 = .ok (.iaload, 1)) ∧ (decode cX10_dropRequest 83 = .ok (.iastore, 1)) ∧ (decode cX10_dropRequest 84 = .ok (.aload_n 0, 1)) ∧ (decode cX10_dropRequest 85 = .ok (.getfield 77, 3)) := by decide +kernel
theorem dX10_dropRequest_66 : decode cX10_dropRequest 66 = .ok (.iconst 1, 1) := gdX10_dropRequest_66.1
theorem dX10_dropRequest_67 : decode cX10_dropRequest 67 = .ok (.iadd, 1) := gdX10_dropRequest_66.2.1
theorem dX10_dropRequest_68 : decode cX10_dropRequest 68 = .ok (.iaload, 1) := gdX10_dropRequest_66.2.2.1
theorem dX10_dropRequest_69 : decode cX10_dropRequest 69 = .ok (.iastore, 1) := gdX10_dropRequest_66.2.2.2.1
theorem dX10_dropRequest_70 : decode cX10_dropRequest 70 = .ok (.aload_n 0, 1) := gdX10_dropRequest_66.2.2.2.2.1
theorem dX10_dropRequest_71 : decode cX10_dropRequest 71 = .ok (.getfield 74, 3) := gdX10_dropRequest_66.2.2.2.2.2.1
theorem dX10_dropRequest_74 : decode cX10_dropRequest 74 = .ok (.iload_n 2, 1) := gdX10_dropRequest_66.2.2.2.2.2.2.1
theorem dX10_dropRequest_75 : decode cX10_dropRequest 75 = .ok (.aload_n 0, 1) := gdX10_dropRequest_66.2.2.2.2.2.2.2.1
theorem dX10_dropRequest_76 : decode cX10_dropRequest 76 = .ok (.getfield 74, 3) := gdX10_dropRequest_66.2.2.2.2.2.2.2.2.1
theorem dX10_dropRequest_79 : decode cX10_dropRequest 79 = .ok (.iload_n 2, 1) := gdX10_dropRequest_66.2.2.2.2.2.2.2.2.2.1
theorem dX10_dropRequest_80 : decode cX10_dropRequest 80 = .ok (.iconst 1, 1) := gdX10_dropRequest_66.2.2.2.2.2.2.2.2.2.2.1
theorem dX10_dropRequest_81 : decode cX10_dropRequest 81 = .ok (.iadd, 1) := gdX10_dropRequest_66.2.2.2.2.2.2.2.2.2.2.2.1
theorem dX10_dropRequest_82 : decode cX10_dropRequest 82 = .ok (.iaload, 1) := gdX10_dropRequest_66.2.2.2.2.2.2.2.2.2.2.2.2.1
theorem dX10_dropRequest_83 : decode cX10_dropRequest 83 = .ok (.iastore, 1) := gdX10_dropRequest_66.2.2.2.2.2.2.2.2.2.2.2.2.2.1
theorem dX10_dropRequest_84 : decode cX10_dropRequest 84 = .ok (.aload_n 0, 1) := gdX10_dropRequest_66.2.2.2.2.2.2.2.2.2.2.2.2.2.2.1
theorem dX10_dropRequest_85 : decode cX10_dropRequest 85 = .ok (.getfield 77, 3) := gdX10_dropRequest_66.2.2.2.2.2.2.2.2.2.2.2.2.2.2.2
theorem gdX10_dropRequest_88 : (decode cX10_dropRequest 88 = .ok (.iload_n 2, 1)) ∧ (decode cX10_dropRequest 89 = .ok (.aload_n 0, 1)) ∧ (decode cX10_dropRequest 90 = .ok (.getfield 77, 3)) ∧ (decode cX10_dropRequest 93 = .ok (.iload_n 2, 1)) ∧ (decode cX10_dropRequest 94 = .ok (.iconst 1, 1)) ∧ (decode cX10_dropRequest 95 = .ok (.iadd, 1)) ∧ (decode cX10_dropRequest 96 = .ok (.iaload, 1)) ∧ (decode cX10_dropRequest 97 = .ok (.iastore, 1)) ∧ (decode cX10_dropRequest 98 = .ok (.aload_n 0, 1)) ∧ (decode cX10_dropRequest 99 = .ok (.getfield 80, 3)) ∧ (decode cX10_dropRequest 102 = .ok (.iload_n 2, 1)) ∧ (decode cX10_dropRequest 103 = .ok (.aload_n 0, 1)) ∧ (decode cX10_dropRequest 104 = .ok (.getfield 80, 3)) ∧ (decode cX10_dropRequest 107 = .ok (.iload_n 2, 1)) ∧ (decode cX10_dropRequest 108 = .ok (.iconst 1, 1)) ∧ (decode cX10_dropRequest 109 = .ok (.iadd, 1)) := by decide +kernel
theorem dX10_dropRequest_88 : decode cX10_dropRequest 88 = .ok (.iload_n 2, 1) := gdX10_dropRequest_88.1
theorem dX10_dropRequest_89 : decode cX10_dropRequest 89 = .ok (.aload_n 0, 1) := gdX10_dropRequest_88.2.1
theorem dX10_dropRequest_90 : decode cX10_dropRequest 90 = .ok (.getfield 77, 3) := gdX10_dropRequest_88.2.2.1
theorem dX10_dropRequest_93 : decode cX10_dropRequest 93 = .ok (.iload_n 2, 1) := gdX10_dropRequest_88.2.2.2.1
theorem dX10_dropRequest_94 : decode cX10_dropRequest 94 = .ok (.iconst 1, 1) := gdX10_dropRequest_88.2.2.2.2.1
theorem dX10_dropRequest_95 : decode cX10_dropRequest 95 = .ok (.iadd, 1) := gdX10_dropRequest_88.2.2.2.2.2.1
theorem dX10_dropRequest_96 : decode cX10_dropRequest 96 = .ok (.iaload, 1) := gdX10_dropRequest_88.2.2.2.2.2.2.1
theorem dX10_dropRequest_97 : decode cX10_dropRequest 97 = .ok (.iastore, 1) := gdX10_dropRequest_88.2.2.2.2.2.2.2.1
theorem dX10_dropRequest_98 : decode cX10_dropRequest 98 = .ok (.aload_n 0, 1) := gdX10_dropRequest_88.2.2.2.2.2.2.2.2.1
theorem dX10_dropRequest_99 : decode cX10_dropRequest 99 = .ok (.getfield 80, 3) := gdX10_dropRequest_88.2.2.2.2.2.2.2.2.2.1
theorem dX10_dropRequest_102 : decode cX10_dropRequest 102 = .ok (.iload_n 2, 1) := gdX10_dropRequest_88.2.2.2.2.2.2.2.2.2.2.1
theorem dX10_dropRequest_103 : decode cX10_dropRequest 103 = .ok (.aload_n 0, 1) := gdX10_dropRequest_88.2.2.2.2.2.2.2.2.2.2.2.1
theorem dX10_dropRequest_104 : decode cX10_dropRequest 104 = .ok (.getfield 80, 3) := gdX10_dropRequest_88.2.2.2.2.2.2.2.2.2.2.2.2.1
theorem dX10_dropRequest_107 : decode cX10_dropRequest 107 = .ok (.iload_n 2, 1) := gdX10_dropRequest_88.2.2.2.2.2.2.2.2.2.2.2.2.2.1
theorem dX10_dropRequest_108 : decode cX10_dropRequest 108 = .ok (.iconst 1, 1) := gdX10_dropRequest_88.2.2.2.2.2.2.2.2.2.2.2.2.2.2.1
theorem dX10_dropRequest_109 : decode cX10_dropRequest 109 = .ok (.iadd, 1) := gdX10_dropRequest_88.2.2.2.2.2.2.2.2.2.2.2.2.2.2.2
theorem gdX10_dropRequest_110 : (decode cX10_dropRequest 110 = .ok (.iaload, 1)) ∧ (decode cX10_dropRequest 111 = .ok (.iastore, 1)) ∧ (decode cX10_dropRequest 112 = .ok (.aload_n 0, 1)) ∧ (decode cX10_dropRequest 113 = .ok (.getfield 83, 3)) ∧ (decode cX10_dropRequest 116 = .ok (.iload_n 2, 1)) ∧ (decode cX10_dropRequest 117 = .ok (.aload_n 0, 1)) ∧ (decode cX10_dropRequest 118 = .ok (.getfield 83, 3)) ∧ (decode cX10_dropRequest 121 = .ok (.iload_n 2, 1)) ∧ (decode cX10_dropRequest 122 = .ok (.iconst 1, 1)) ∧ (decode cX10_dropRequest 123 = .ok (.iadd, 1)) ∧ (decode cX10_dropRequest 124 = .ok (.iaload, 1)) ∧ (decode cX10_dropRequest 125 = .ok (.iastore, 1)) ∧ (decode cX10_dropRequest 126 = .ok (.aload_n 0, 1)) ∧ (decode cX10_dropRequest 127 = .ok (.getfield 86, 3)) ∧ (decode cX10_dropRequest 130 = .ok (.iload_n 2, 1)) ∧ (decode cX10_dropRequest 131 = .ok (.aload_n 0, 1)) := by decide +kernel
theorem dX10_dropRequest_110 : decode cX10_dropRequest 110 = .ok (.iaload, 1) := gdX10_dropRequest_110.1
theorem dX10_dropRequest_111 : decode cX10_dropRequest 111 = .ok (.iastore, 1) := gdX10_dropRequest_110.2.1
theorem dX10_dropRequest_112 : decode cX10_dropRequest 112 = .ok (.aload_n 0, 1) := gdX10_dropRequest_110.2.2.1
theorem dX10_dropRequest_113 : decode cX10_dropRequest 113 = .ok (.getfield 83, 3) := gdX10_dropRequest_110.2.2.2.1
theorem dX10_dropRequest_116 : decode cX10_dropRequest 116 = .ok (.iload_n 2, 1) := gdX10_dropRequest_110.2.2.2.2.1
theorem dX10_dropRequest_117 : decode cX10_dropRequest 117 = .ok (.aload_n 0, 1) := gdX10_dropRequest_110.2.2.2.2.2.1
theorem dX10_dropRequest_118 : decode cX10_dropRequest 118 = .ok (.getfield 83, 3) := gdX10_dropRequest_110.2.2.2.2.2.2.1
theorem dX10_dropRequest_121 : decode cX10_dropRequest 121 = .ok (.iload_n 2, 1) := gdX10_dropRequest_110.2.2.2.2.2.2.2.1
theorem dX10_dropRequest_122 : decode cX10_dropRequest 122 = .ok (.iconst 1, 1) := gdX10_dropRequest_110.2.2.2.2.2.2.2.2.1
theorem dX10_dropRequest_123 : decode cX10_dropRequest 123 = .ok (.iadd, 1) := gdX10_dropRequest_110.2.2.2.2.2.2.2.2.2.1
theorem dX10_dropRequest_124 : decode cX10_dropRequest 124 = .ok (.iaload, 1) := gdX10_dropRequest_110.2.2.2.2.2.2.2.2.2.2.1
theorem dX10_dropRequest_125 : decode cX10_dropRequest 125 = .ok (.iastore, 1) := gdX10_dropRequest_110.2.2.2.2.2.2.2.2.2.2.2.1
theorem dX10_dropRequest_126 : decode cX10_dropRequest 126 = .ok (.aload_n 0, 1) := gdX10_dropRequest_110.2.2.2.2.2.2.2.2.2.2.2.2.1
theorem dX10_dropRequest_127 : decode cX10_dropRequest 127 = .ok (.getfield 86, 3) := gdX10_dropRequest_110.2.2.2.2.2.2.2.2.2.2.2.2.2.1
theorem dX10_dropRequest_130 : decode cX10_dropRequest 130 = .ok (.iload_n 2, 1) := gdX10_dropRequest_110.2.2.2.2.2.2.2.2.2.2.2.2.2.2.1
theorem dX10_dropRequest_131 : decode cX10_dropRequest 131 = .ok (.aload_n 0, 1) := gdX10_dropRequest_110.2.2.2.2.2.2.2.2.2.2.2.2.2.2.2
theorem gdX10_dropRequest_132 : (decode cX10_dropRequest 132 = .ok (.getfield 86, 3)) ∧ (decode cX10_dropRequest 135 = .ok (.iload_n 2, 1)) ∧ (decode cX10_dropRequest 136 = .ok (.iconst 1, 1)) ∧ (decode cX10_dropRequest 137 = .ok (.iadd, 1)) ∧ (decode cX10_dropRequest 138 = .ok (.iaload, 1)) ∧ (decode cX10_dropRequest 139 = .ok (.iastore, 1)) ∧ (decode cX10_dropRequest 140 = .ok (.iinc 2 1, 3)) ∧ (decode cX10_dropRequest 143 = .ok (.goto (-129), 3)) ∧ (decode cX10_dropRequest 146 = .ok (.return_, 1)) := by decide +kernel
theorem dX10_dropRequest_132 : decode cX10_dropRequest 132 = .ok (.getfield 86, 3) := gdX10_dropRequest_132.1
theorem dX10_dropRequest_135 : decode cX10_dropRequest 135 = .ok (.iload_n 2, 1) := gdX10_dropRequest_132.2.1
theorem dX10_dropRequest_136 : decode cX10_dropRequest 136 = .ok (.iconst 1, 1) := gdX10_dropRequest_132.2.2.1
theorem dX10_dropRequest_137 : decode cX10_dropRequest 137 = .ok (.iadd, 1) := gdX10_dropRequest_132.2.2.2.1
theorem dX10_dropRequest_138 : decode cX10_dropRequest 138 = .ok (.iaload, 1) := gdX10_dropRequest_132.2.2.2.2.1
theorem dX10_dropRequest_139 : decode cX10_dropRequest 139 = .ok (.iastore, 1) := gdX10_dropRequest_132.2.2.2.2.2.1
theorem dX10_dropRequest_140 : decode cX10_dropRequest 140 = .ok (.iinc 2 1, 3) := gdX10_dropRequest_132.2.2.2.2.2.2.1
theorem dX10_dropRequest_143 : decode cX10_dropRequest 143 = .ok (.goto (-129), 3) := gdX10_dropRequest_132.2.2.2.2.2.2.2.1
theorem dX10_dropRequest_146 : decode cX10_dropRequest 146 = .ok (.return_, 1) := gdX10_dropRequest_132.2.2.2.2.2.2.2.2
set_option maxHeartbeats 8000000 in
set_option maxRecDepth 100000 in
theorem u_X10_dropRequest (l : Launch) (E : EE) (z0 : Nat) (G : Nat → Nat) (hGz : ∀ q, G q ≠ 0 → z0 ≤ q) (h0 : Nat) (rf : Nat → Nat) (hR : MG G h0 rf) (t0 t1 t2 : Int32) (A : AA) (cd pk : Int32) (p0 : Int32) (hI6 : I6 (A 22) (A 23) (A 24) (A 25) (A 26)) (hI8 : I8 (A 20) (A 30) (A 37) (A 36)) (hy0 : 0 ≤ p0.toInt ∧ p0.toInt ≤ 3) (hy1 : ∀ n : Nat, (n : Int) = p0.toInt → 1 ≤ ((A 20) n).toInt) : Met l yX10_dropRequest [Cond.code yX10_dropRequest cX10_dropRequest 3 none] ({ frames := 0, cells := 0, slots := 0, locals := 0 } : Room) (va_Pc [.ref h0, .int p0] (fun U => MH E h0 rf t0 t1 t2 A cd pk U.heap ∧ KS E z0 U)) (va_Qv (fun (u : (Nat → Int32) × (Nat → Int32) × (Nat → Int32) × (Nat → Int32) × (Nat → Int32) × (Nat → Int32) × (Nat → Int32) × (Nat → Int32) × (Nat → Int32)) => (I6 (u.2.1) (u.2.2.1) (u.2.2.2.1) (u.2.2.2.2.1) (u.2.2.2.2.2.1)) ∧ (I8 (u.1) (A 30) (A 37) (A 36)) ∧ (∀ n : Nat, (n : Int) = p0.toInt → ((u.1) n).toInt = ((A 20) n).toInt - 1 ∧ (∀ k, k ≠ n → (u.1) k = (A 20) k) ∧ ∃ b : Nat, (b : Int) = 4 * (n : Int) + ((A 20) n).toInt - 1 ∧ Sh (A 29) (u.2.2.2.2.2.2.2.2) (4 * n) b ∧ Sh (A 24) (u.2.2.2.1) (4 * n) b) ∧ (D_X10_dropRequest A cd pk p0 (uA (uA (uA (uA (uA (uA (uA (uA (uA A 20 (u.1)) 22 (u.2.1)) 23 (u.2.2.1)) 24 (u.2.2.2.1)) 25 (u.2.2.2.2.1)) 26 (u.2.2.2.2.2.1)) 27 (u.2.2.2.2.2.2.1)) 28 (u.2.2.2.2.2.2.2.1)) 29 (u.2.2.2.2.2.2.2.2)) cd pk)) (fun u t => MH E h0 rf t0 t1 t2 (uA (uA (uA (uA (uA (uA (uA (uA (uA A 20 (u.1)) 22 (u.2.1)) 23 (u.2.2.1)) 24 (u.2.2.2.1)) 25 (u.2.2.2.2.1)) 26 (u.2.2.2.2.2.1)) 27 (u.2.2.2.2.2.2.1)) 28 (u.2.2.2.2.2.2.2.1)) 29 (u.2.2.2.2.2.2.2.2)) cd pk t.heap) (fun q : Nat => G q ≠ 0)) 0 0 (fun q : Nat => G q ≠ 0) := by
  refine Met.ofW (cc := cX10_dropRequest) (maxL := 3) (ret := none) (by decide) rfl ?_
  intro p e s m args below meth c s₁ B hml hv
  obtain ⟨rfl, hM, hK⟩ := hv
  have hx := B.exec
  have hb := B.bytes
  have hr := B.returns
  have hts : ∀ w ∈ TS, w.before ([.ref h0, .int p0] : List Value).toArray s = true := fun w hw => hK.2.1 w hw _
  have hown : s.vm.findClass RX10 = some m.cls := findClass_of_methodNamed B.named
  have hlocks := B.notSynchronized
  have hS : va_S (fun q : Nat => G q ≠ 0) s.heap s.heap [] := va_S.rf
  have hAz : ∀ q, (fun q : Nat => G q ≠ 0) q → z0 ≤ q := hGz
  have hl := lv_entry ([.ref h0, .int p0]) (n := 3) (Nat.le_of_ble_eq_true rfl)
  rw [lg_entry_eq]
  generalize (lg_sl ([.ref h0, .int p0]) ++ List.replicate (3 - (lg_sl ([.ref h0, .int p0])).length) Slot.unset).toArray = ls at hl ⊢
  have hl : lv_has ls 3 [(0, .ref h0), (1, .int p0)] := hl
  obtain ⟨n_1, hn_1, en_1⟩ := s_nat (x := p0) (by omega)
  have hd0 := hy1 n_1 (by omega)
  refine lv_aload_n hx hb dX10_dropRequest_0 rfl (lv_at hl 0 rfl) ?_
  refine va_get (D := DG E) (ci := 10) (v := .ref (rf 20)) (C := RX10) (T := TX10) (N := 49) hx hb hts iw_X10 hown hK.1 (va_one hM.1) 0 rfl rfl 20 (by decide) (hts _ fl_X10_59) (fun _ h9 => h9) rfl dX10_dropRequest_1 ?_
  refine lv_iload_n hx hb dX10_dropRequest_4 rfl (lv_at hl 1 rfl) ?_
  refine lv_dup2_11 hx hb dX10_dropRequest_5 rfl rfl ?_
  have hi_2 : vp_in p0 4 := vp_in_iff.mpr (by omega)
  have ha_3 : va_at (DG E) vwCl (rf 20, .inl (E.2.2 0, 4, .inl (A 20))) _ := hM.2 20 (by decide) (by decide) (by decide)
  refine va_iald (D := DG E) hx hb hK.1 (va_one ha_3) 0 0 rfl rfl hi_2 dX10_dropRequest_6 ?_
  refine W.eq (g2 := F0 m 7 ls [.int ((A 20) n_1), .int p0, .ref (rf 20)]) (by rw [en_1]) ?_
  have hk_4 : n_1 < 4 := by omega
  have q_5 : 0 ≤ ((A 20) n_1).toInt := (hI8 n_1 hk_4).1
  have q_6 : ((A 20) n_1).toInt ≤ 4 := (hI8 n_1 hk_4).2.1
  refine lv_iconst (v := 1) hx hb dX10_dropRequest_7 (by decide) ?_
  refine lv_isub hx hb dX10_dropRequest_8 ?_
  refine lv_topi (fun x_7 ex_7 => ?_)
  have fx_7 : x_7.toInt = ((A 20) n_1).toInt - 1 := by have h9 := s_sub (x := ((A 20) n_1)) (y := 1) (by rw [i_1]; omega) (by rw [i_1]; omega); rw [i_1] at h9; rw [ex_7]; exact h9
  have ha_8 : va_at (DG E) vwCl (rf 20, .inl (E.2.2 0, 4, .inl (A 20))) _ := hM.2 20 (by decide) (by decide) (by decide)
  refine rr_iast (D := DG E) hx hb hK.1 0 ha_8 hS (by show G (rf 20) ≠ 0; rw [hR.2 20 (by decide) (by decide) (by decide)]; decide) rfl hi_2 dX10_dropRequest_9 (fun H locs hn ho hz hS => ?_)
  rw [en_1] at hn
  obtain ⟨g_8, eg_8⟩ : ∃ z : Nat → Int32, z = upd (A 20) n_1 x_7 := ⟨_, rfl⟩
  have sg_8 : g_8 n_1 = x_7 := by rw [eg_8]; exact upd_s
  have ng_8 : ∀ k, k ≠ n_1 → g_8 k = (A 20) k := fun k hk => by rw [eg_8]; exact upd_n hk
  have hn : va_at (DG E) vwCl (rf 20, .inl (E.2.2 0, 4, .inl g_8)) H := by rw [eg_8]; exact hn
  have hM : MH E h0 rf t0 t1 t2 (uA A 20 g_8) cd pk H := hM.w hR 20 (by decide) (by decide) (by decide) hn ho
  refine lv_iconst (v := 4) hx hb dX10_dropRequest_10 (by decide) ?_
  refine lv_iload_n hx hb dX10_dropRequest_11 rfl (lv_at hl 1 rfl) ?_
  refine lv_imul hx hb dX10_dropRequest_12 ?_
  refine lv_topi (fun x_9 ex_9 => ?_)
  have fx_9 : x_9.toInt = 4 * p0.toInt := by rw [ex_9]; exact s_mulK i_4 (by omega) (by omega)
  refine lv_istore_n (lv' := [(2, .int x_9), (0, .ref h0), (1, .int p0)]) hx hb dX10_dropRequest_13 rfl hl (by decide) rfl (fun ls hl => ?_)
  have hX_11 : ∃ b : Nat, (b : Int) = x_9.toInt ∧ Sh (A 29) (A 29) (4 * n_1) b ∧ Sh (A 24) (A 24) (4 * n_1) b ∧ Sh (A 22) (A 22) (4 * n_1) b ∧ Sh (A 23) (A 23) (4 * n_1) b ∧ Sh (A 25) (A 25) (4 * n_1) b ∧ Sh (A 26) (A 26) (4 * n_1) b ∧ Sh (A 27) (A 27) (4 * n_1) b ∧ Sh (A 28) (A 28) (4 * n_1) b := ⟨4 * n_1, by omega, Sh.z, Sh.z, Sh.z, Sh.z, Sh.z, Sh.z, Sh.z, Sh.z⟩
  refine lp_nat (fun n H locs ls => ∃ (ix_10 : Int32) (u_10 : (Nat → Int32) × (Nat → Int32) × (Nat → Int32) × (Nat → Int32) × (Nat → Int32) × (Nat → Int32) × (Nat → Int32) × (Nat → Int32)), (4 * p0.toInt ≤ ix_10.toInt ∧ ix_10.toInt ≤ 4 * p0.toInt + x_7.toInt) ∧ (4 * p0.toInt + x_7.toInt - ix_10.toInt).toNat = n ∧ MH E h0 rf t0 t1 t2 (uA (uA (uA (uA (uA (uA (uA (uA (uA A 20 g_8) 22 (u_10.1)) 23 (u_10.2.1)) 24 (u_10.2.2.1)) 25 (u_10.2.2.2.1)) 26 (u_10.2.2.2.2.1)) 27 (u_10.2.2.2.2.2.1)) 28 (u_10.2.2.2.2.2.2.1)) 29 (u_10.2.2.2.2.2.2.2)) cd pk H ∧ (I6 (u_10.1) (u_10.2.1) (u_10.2.2.1) (u_10.2.2.2.1) (u_10.2.2.2.2.1)) ∧ (∃ b : Nat, (b : Int) = ix_10.toInt ∧ Sh (A 29) (u_10.2.2.2.2.2.2.2) (4 * n_1) b ∧ Sh (A 24) (u_10.2.2.1) (4 * n_1) b ∧ Sh (A 22) (u_10.1) (4 * n_1) b ∧ Sh (A 23) (u_10.2.1) (4 * n_1) b ∧ Sh (A 25) (u_10.2.2.2.1) (4 * n_1) b ∧ Sh (A 26) (u_10.2.2.2.2.1) (4 * n_1) b ∧ Sh (A 27) (u_10.2.2.2.2.2.1) (4 * n_1) b ∧ Sh (A 28) (u_10.2.2.2.2.2.2.1) (4 * n_1) b) ∧ va_S (fun q : Nat => G q ≠ 0) s.heap H locs ∧ lv_has ls 3 [(2, .int ix_10), (0, .ref h0), (1, .int p0)]) (fun n_10 H locs ls ih_10 hI => ?_) ⟨x_9, ((A 22), (A 23), (A 24), (A 25), (A 26), (A 27), (A 28), (A 29)), (by first | omega | decide), rfl, (by show MH E h0 rf t0 t1 t2 (uA (uA (uA (uA (uA (uA (uA (uA (uA A 20 g_8) 22 (A 22)) 23 (A 23)) 24 (A 24)) 25 (A 25)) 26 (A 26)) 27 (A 27)) 28 (A 28)) 29 (A 29)) cd pk _; exact hM.cge (funext fun j => (cgj j 29 rfl (fun a0 => (cgj j 28 rfl (fun a1 => (cgj j 27 rfl (fun a2 => (cgj j 26 rfl (fun a3 => (cgj j 25 rfl (fun a4 => (cgj j 24 rfl (fun a5 => (cgj j 23 rfl (fun a6 => (cgj j 22 rfl (fun a7 => (cgj j 20 rfl (fun a8 => (by simp only [uA_n a0, uA_n a1, uA_n a2, uA_n a3, uA_n a4, uA_n a5, uA_n a6, uA_n a7, uA_n a8]))))))))))))))))))))), hI6, hX_11, hS, hl⟩
  obtain ⟨ix_10, u_10, hb_10, hn_10, hM, hI6_10, hx_10, hS, hl⟩ := hI
  refine lv_iload_n hx hb dX10_dropRequest_14 rfl (lv_at hl 0 rfl) ?_
  refine lv_iconst (v := 4) hx hb dX10_dropRequest_15 (by decide) ?_
  refine lv_iload_n hx hb dX10_dropRequest_16 rfl (lv_at hl 2 rfl) ?_
  refine lv_imul hx hb dX10_dropRequest_17 ?_
  refine W.eq (g2 := F0 m 18 ls [.int x_9, .int ix_10]) (by rw [ex_9]) ?_
  refine lv_aload_n hx hb dX10_dropRequest_18 rfl (lv_at hl 1 rfl) ?_
  refine va_get (D := DG E) (ci := 10) (v := .ref (rf 20)) (C := RX10) (T := TX10) (N := 49) hx hb hts iw_X10 hown hK.1 (va_one hM.1) 0 rfl rfl 20 (by decide) (hts _ fl_X10_59) (fun _ h9 => h9) rfl dX10_dropRequest_19 ?_
  refine lv_iload_n hx hb dX10_dropRequest_22 rfl (lv_at hl 2 rfl) ?_
  have ha_12 : va_at (DG E) vwCl (rf 20, .inl (E.2.2 0, 4, .inl g_8)) _ := hM.2 20 (by decide) (by decide) (by decide)
  refine va_iald (D := DG E) hx hb hK.1 (va_one ha_12) 0 0 rfl rfl hi_2 dX10_dropRequest_23 ?_
  refine W.eq (g2 := F0 m 24 ls [.int x_7, .int x_9, .int ix_10]) (by rw [en_1, sg_8]) ?_
  refine lv_iadd hx hb dX10_dropRequest_24 ?_
  refine lv_topi (fun x_13 ex_13 => ?_)
  have fx_13 : x_13.toInt = x_9.toInt + x_7.toInt := by have h9 := s_add (x := x_9) (y := x_7) (by omega) (by omega); rw [ex_13]; exact h9
  refine lv_icmp_ge (tgt := 146) hx hb dX10_dropRequest_25 (by decide) (fun c_14 => ?_) (fun c_14 => ?_)
  · simp only [lt_I, le_I, eq_I, i_0, i_1, i_2, i_3, i_4, i_5, i_6, i_7, i_8, i_10, i_12, i_16, i_20, i_23, i_24, i_31, i_32, i_63, i_64, i_m1, i_9, i_11, i_13, i_25, i_60, i_75, i_79, i_80, i_96, i_100] at c_14
    have hI8_15 : I8 g_8 (A 30) (A 37) (A 36) := by
      intro n9 hn9
      have h9 : 0 ≤ ((A 20) n9).toInt ∧ ((A 20) n9).toInt ≤ 4 ∧ 0 ≤ ((A 30) n9).toInt ∧ ((A 30) n9).toInt ≤ 4 ∧ 0 ≤ ((A 37) n9).toInt ∧ ((A 37) n9).toInt ≤ 2 ∧ (((A 36) n9).toInt = 0 ∨ 1 ≤ ((A 30) n9).toInt) := hI8 n9 hn9
      show 0 ≤ (g_8 n9).toInt ∧ (g_8 n9).toInt ≤ 4 ∧ 0 ≤ ((A 30) n9).toInt ∧ ((A 30) n9).toInt ≤ 4 ∧ 0 ≤ ((A 37) n9).toInt ∧ ((A 37) n9).toInt ≤ 2 ∧ (((A 36) n9).toInt = 0 ∨ 1 ≤ ((A 30) n9).toInt)
      by_cases ezn_1 : n9 = n_1
      · rw [ezn_1] at h9 ⊢
        rw [sg_8]
        exact ⟨by first | exact h9.1 | omega, by first | exact h9.2.1 | omega, by first | exact h9.2.2.1 | omega, by first | exact h9.2.2.2.1 | omega, by first | exact h9.2.2.2.2.1 | omega, by first | exact h9.2.2.2.2.2.1 | omega, by first | exact h9.2.2.2.2.2.2 | omega⟩
      · rw [ng_8 n9 ezn_1]
        exact h9
    exact W.vret hx hb hr (fun t ht hW => ⟨⟨(g_8, (u_10.1), (u_10.2.1), (u_10.2.2.1), (u_10.2.2.2.1), (u_10.2.2.2.2.1), (u_10.2.2.2.2.2.1), (u_10.2.2.2.2.2.2.1), (u_10.2.2.2.2.2.2.2)), rfl, ⟨hI6_10, hI8_15, (show ∀ n : Nat, (n : Int) = p0.toInt → (g_8 n).toInt = ((A 20) n).toInt - 1 ∧ (∀ k, k ≠ n → g_8 k = (A 20) k) ∧ ∃ b : Nat, (b : Int) = 4 * (n : Int) + ((A 20) n).toInt - 1 ∧ Sh (A 29) (u_10.2.2.2.2.2.2.2) (4 * n) b ∧ Sh (A 24) (u_10.2.2.1) (4 * n) b from (fun n hn => by
        obtain rfl : n_1 = n := by omega
        obtain ⟨b9, hb9, s29, s24, -, -, -, -, -, -⟩ := hx_10
        exact ⟨by rw [sg_8]; omega, ng_8, b9, by omega, s29, s24⟩)), ⟨n_1, hn_1, x_7, ex_7, fx_7, g_8, eg_8, x_9, ex_9, fx_9, ix_10, u_10, hb_10, hI6_10, hx_10, x_13, ex_13, fx_13, c_14, rfl, rfl, rfl⟩⟩, (by show MH E h0 rf t0 t1 t2 (uA (uA (uA (uA (uA (uA (uA (uA (uA A 20 g_8) 22 (u_10.1)) 23 (u_10.2.1)) 24 (u_10.2.2.1)) 25 (u_10.2.2.2.1)) 26 (u_10.2.2.2.2.1)) 27 (u_10.2.2.2.2.2.1)) 28 (u_10.2.2.2.2.2.2.1)) 29 (u_10.2.2.2.2.2.2.2)) cd pk t.heap; rw [ht]; exact hM)⟩, hS.F ht⟩) hS.2.2 dX10_dropRequest_146
  · simp only [lt_I, le_I, eq_I, i_0, i_1, i_2, i_3, i_4, i_5, i_6, i_7, i_8, i_10, i_12, i_16, i_20, i_23, i_24, i_31, i_32, i_63, i_64, i_m1, i_9, i_11, i_13, i_25, i_60, i_75, i_79, i_80, i_96, i_100] at c_14
    refine lv_aload_n hx hb dX10_dropRequest_28 rfl (lv_at hl 1 rfl) ?_
    refine va_get (D := DG E) (ci := 10) (v := .ref (rf 22)) (C := RX10) (T := TX10) (N := 49) hx hb hts iw_X10 hown hK.1 (va_one hM.1) 0 rfl rfl 22 (by decide) (hts _ fl_X10_65) (fun _ h9 => h9) rfl dX10_dropRequest_29 ?_
    refine lv_iload_n hx hb dX10_dropRequest_32 rfl (lv_at hl 0 rfl) ?_
    refine lv_aload_n hx hb dX10_dropRequest_33 rfl (lv_at hl 1 rfl) ?_
    refine va_get (D := DG E) (ci := 10) (v := .ref (rf 22)) (C := RX10) (T := TX10) (N := 49) hx hb hts iw_X10 hown hK.1 (va_one hM.1) 0 rfl rfl 22 (by decide) (hts _ fl_X10_65) (fun _ h9 => h9) rfl dX10_dropRequest_34 ?_
    refine lv_iload_n hx hb dX10_dropRequest_37 rfl (lv_at hl 0 rfl) ?_
    refine lv_iconst (v := 1) hx hb dX10_dropRequest_38 (by decide) ?_
    refine lv_iadd hx hb dX10_dropRequest_39 ?_
    refine lv_topi (fun x_16 ex_16 => ?_)
    have fx_16 : x_16.toInt = ix_10.toInt + 1 := by have h9 := s_add (x := ix_10) (y := 1) (by rw [i_1]; omega) (by rw [i_1]; omega); rw [i_1] at h9; rw [ex_16]; exact h9
    have hi_17 : vp_in x_16 16 := vp_in_iff.mpr (by omega)
    have ha_18 : va_at (DG E) vwCl (rf 22, .inl (E.2.2 0, 16, .inl (u_10.1))) _ := hM.2 22 (by decide) (by decide) (by decide)
    obtain ⟨n_19, hn_19, en_19⟩ := s_nat (x := x_16) (by omega)
    refine va_iald (D := DG E) hx hb hK.1 (va_one ha_18) 0 0 rfl rfl hi_17 dX10_dropRequest_40 ?_
    refine W.eq (g2 := F0 m 41 ls [.int ((u_10.1) n_19), .int ix_10, .ref (rf 22)]) (by rw [en_19]) ?_
    have hk_20 : n_19 < 16 := by omega
    have q_21 : 0 ≤ ((u_10.1) n_19).toInt := (hI6_10 n_19 hk_20).1
    have q_22 : ((u_10.1) n_19).toInt ≤ 3 := (hI6_10 n_19 hk_20).2.1
    have hi_23 : vp_in ix_10 16 := vp_in_iff.mpr (by omega)
    have ha_24 : va_at (DG E) vwCl (rf 22, .inl (E.2.2 0, 16, .inl (u_10.1))) _ := hM.2 22 (by decide) (by decide) (by decide)
    obtain ⟨n_25, hn_25, en_25⟩ := s_nat (x := ix_10) (by omega)
    refine rr_iast (D := DG E) hx hb hK.1 0 ha_24 hS (by show G (rf 22) ≠ 0; rw [hR.2 22 (by decide) (by decide) (by decide)]; decide) rfl hi_23 dX10_dropRequest_41 (fun H locs hn ho hz hS => ?_)
    rw [en_25] at hn
    obtain ⟨g_24, eg_24⟩ : ∃ z : Nat → Int32, z = upd (u_10.1) n_25 ((u_10.1) n_19) := ⟨_, rfl⟩
    have sg_24 : g_24 n_25 = ((u_10.1) n_19) := by rw [eg_24]; exact upd_s
    have ng_24 : ∀ k, k ≠ n_25 → g_24 k = (u_10.1) k := fun k hk => by rw [eg_24]; exact upd_n hk
    have hn : va_at (DG E) vwCl (rf 22, .inl (E.2.2 0, 16, .inl g_24)) H := by rw [eg_24]; exact hn
    have hM : MH E h0 rf t0 t1 t2 (uA (uA (uA (uA (uA (uA (uA (uA (uA (uA A 20 g_8) 22 (u_10.1)) 23 (u_10.2.1)) 24 (u_10.2.2.1)) 25 (u_10.2.2.2.1)) 26 (u_10.2.2.2.2.1)) 27 (u_10.2.2.2.2.2.1)) 28 (u_10.2.2.2.2.2.2.1)) 29 (u_10.2.2.2.2.2.2.2)) 22 g_24) cd pk H := hM.w hR 22 (by decide) (by decide) (by decide) hn ho
    refine lv_aload_n hx hb dX10_dropRequest_42 rfl (lv_at hl 1 rfl) ?_
    refine va_get (D := DG E) (ci := 10) (v := .ref (rf 23)) (C := RX10) (T := TX10) (N := 49) hx hb hts iw_X10 hown hK.1 (va_one hM.1) 0 rfl rfl 23 (by decide) (hts _ fl_X10_68) (fun _ h9 => h9) rfl dX10_dropRequest_43 ?_
    refine lv_iload_n hx hb dX10_dropRequest_46 rfl (lv_at hl 0 rfl) ?_
    refine lv_aload_n hx hb dX10_dropRequest_47 rfl (lv_at hl 1 rfl) ?_
    refine va_get (D := DG E) (ci := 10) (v := .ref (rf 23)) (C := RX10) (T := TX10) (N := 49) hx hb hts iw_X10 hown hK.1 (va_one hM.1) 0 rfl rfl 23 (by decide) (hts _ fl_X10_68) (fun _ h9 => h9) rfl dX10_dropRequest_48 ?_
    refine lv_iload_n hx hb dX10_dropRequest_51 rfl (lv_at hl 0 rfl) ?_
    refine lv_iconst (v := 1) hx hb dX10_dropRequest_52 (by decide) ?_
    refine lv_iadd hx hb dX10_dropRequest_53 ?_
    refine W.eq (g2 := F0 m 54 ls [.int x_16, .ref (rf 23), .int ix_10, .ref (rf 23)]) (by rw [ex_16]) ?_
    have ha_26 : va_at (DG E) vwCl (rf 23, .inl (E.2.2 0, 16, .inl (u_10.2.1))) _ := hM.2 23 (by decide) (by decide) (by decide)
    refine va_iald (D := DG E) hx hb hK.1 (va_one ha_26) 0 0 rfl rfl hi_17 dX10_dropRequest_54 ?_
    refine W.eq (g2 := F0 m 55 ls [.int ((u_10.2.1) n_19), .int ix_10, .ref (rf 23)]) (by rw [en_19]) ?_
    have ha_27 : va_at (DG E) vwCl (rf 23, .inl (E.2.2 0, 16, .inl (u_10.2.1))) _ := hM.2 23 (by decide) (by decide) (by decide)
    refine rr_iast (D := DG E) hx hb hK.1 0 ha_27 hS (by show G (rf 23) ≠ 0; rw [hR.2 23 (by decide) (by decide) (by decide)]; decide) rfl hi_23 dX10_dropRequest_55 (fun H locs hn ho hz hS => ?_)
    rw [en_25] at hn
    obtain ⟨g_27, eg_27⟩ : ∃ z : Nat → Int32, z = upd (u_10.2.1) n_25 ((u_10.2.1) n_19) := ⟨_, rfl⟩
    have sg_27 : g_27 n_25 = ((u_10.2.1) n_19) := by rw [eg_27]; exact upd_s
    have ng_27 : ∀ k, k ≠ n_25 → g_27 k = (u_10.2.1) k := fun k hk => by rw [eg_27]; exact upd_n hk
    have hn : va_at (DG E) vwCl (rf 23, .inl (E.2.2 0, 16, .inl g_27)) H := by rw [eg_27]; exact hn
    have hM : MH E h0 rf t0 t1 t2 (uA (uA (uA (uA (uA (uA (uA (uA (uA (uA (uA A 20 g_8) 22 (u_10.1)) 23 (u_10.2.1)) 24 (u_10.2.2.1)) 25 (u_10.2.2.2.1)) 26 (u_10.2.2.2.2.1)) 27 (u_10.2.2.2.2.2.1)) 28 (u_10.2.2.2.2.2.2.1)) 29 (u_10.2.2.2.2.2.2.2)) 22 g_24) 23 g_27) cd pk H := hM.w hR 23 (by decide) (by decide) (by decide) hn ho
    refine lv_aload_n hx hb dX10_dropRequest_56 rfl (lv_at hl 1 rfl) ?_
    refine va_get (D := DG E) (ci := 10) (v := .ref (rf 24)) (C := RX10) (T := TX10) (N := 49) hx hb hts iw_X10 hown hK.1 (va_one hM.1) 0 rfl rfl 24 (by decide) (hts _ fl_X10_71) (fun _ h9 => h9) rfl dX10_dropRequest_57 ?_
    refine lv_iload_n hx hb dX10_dropRequest_60 rfl (lv_at hl 0 rfl) ?_
    refine lv_aload_n hx hb dX10_dropRequest_61 rfl (lv_at hl 1 rfl) ?_
    refine va_get (D := DG E) (ci := 10) (v := .ref (rf 24)) (C := RX10) (T := TX10) (N := 49) hx hb hts iw_X10 hown hK.1 (va_one hM.1) 0 rfl rfl 24 (by decide) (hts _ fl_X10_71) (fun _ h9 => h9) rfl dX10_dropRequest_62 ?_
    refine lv_iload_n hx hb dX10_dropRequest_65 rfl (lv_at hl 0 rfl) ?_
    refine lv_iconst (v := 1) hx hb dX10_dropRequest_66 (by decide) ?_
    refine lv_iadd hx hb dX10_dropRequest_67 ?_
    refine W.eq (g2 := F0 m 68 ls [.int x_16, .ref (rf 24), .int ix_10, .ref (rf 24)]) (by rw [ex_16]) ?_
    have ha_28 : va_at (DG E) vwCl (rf 24, .inl (E.2.2 0, 16, .inl (u_10.2.2.1))) _ := hM.2 24 (by decide) (by decide) (by decide)
    refine va_iald (D := DG E) hx hb hK.1 (va_one ha_28) 0 0 rfl rfl hi_17 dX10_dropRequest_68 ?_
    refine W.eq (g2 := F0 m 69 ls [.int ((u_10.2.2.1) n_19), .int ix_10, .ref (rf 24)]) (by rw [en_19]) ?_
    have ha_29 : va_at (DG E) vwCl (rf 24, .inl (E.2.2 0, 16, .inl (u_10.2.2.1))) _ := hM.2 24 (by decide) (by decide) (by decide)
    refine rr_iast (D := DG E) hx hb hK.1 0 ha_29 hS (by show G (rf 24) ≠ 0; rw [hR.2 24 (by decide) (by decide) (by decide)]; decide) rfl hi_23 dX10_dropRequest_69 (fun H locs hn ho hz hS => ?_)
    rw [en_25] at hn
    obtain ⟨g_29, eg_29⟩ : ∃ z : Nat → Int32, z = upd (u_10.2.2.1) n_25 ((u_10.2.2.1) n_19) := ⟨_, rfl⟩
    have sg_29 : g_29 n_25 = ((u_10.2.2.1) n_19) := by rw [eg_29]; exact upd_s
    have ng_29 : ∀ k, k ≠ n_25 → g_29 k = (u_10.2.2.1) k := fun k hk => by rw [eg_29]; exact upd_n hk
    have hn : va_at (DG E) vwCl (rf 24, .inl (E.2.2 0, 16, .inl g_29)) H := by rw [eg_29]; exact hn
    have hM : MH E h0 rf t0 t1 t2 (uA (uA (uA (uA (uA (uA (uA (uA (uA (uA (uA (uA A 20 g_8) 22 (u_10.1)) 23 (u_10.2.1)) 24 (u_10.2.2.1)) 25 (u_10.2.2.2.1)) 26 (u_10.2.2.2.2.1)) 27 (u_10.2.2.2.2.2.1)) 28 (u_10.2.2.2.2.2.2.1)) 29 (u_10.2.2.2.2.2.2.2)) 22 g_24) 23 g_27) 24 g_29) cd pk H := hM.w hR 24 (by decide) (by decide) (by decide) hn ho
    refine lv_aload_n hx hb dX10_dropRequest_70 rfl (lv_at hl 1 rfl) ?_
    refine va_get (D := DG E) (ci := 10) (v := .ref (rf 25)) (C := RX10) (T := TX10) (N := 49) hx hb hts iw_X10 hown hK.1 (va_one hM.1) 0 rfl rfl 25 (by decide) (hts _ fl_X10_74) (fun _ h9 => h9) rfl dX10_dropRequest_71 ?_
    refine lv_iload_n hx hb dX10_dropRequest_74 rfl (lv_at hl 0 rfl) ?_
    refine lv_aload_n hx hb dX10_dropRequest_75 rfl (lv_at hl 1 rfl) ?_
    refine va_get (D := DG E) (ci := 10) (v := .ref (rf 25)) (C := RX10) (T := TX10) (N := 49) hx hb hts iw_X10 hown hK.1 (va_one hM.1) 0 rfl rfl 25 (by decide) (hts _ fl_X10_74) (fun _ h9 => h9) rfl dX10_dropRequest_76 ?_
    refine lv_iload_n hx hb dX10_dropRequest_79 rfl (lv_at hl 0 rfl) ?_
    refine lv_iconst (v := 1) hx hb dX10_dropRequest_80 (by decide) ?_
    refine lv_iadd hx hb dX10_dropRequest_81 ?_
    refine W.eq (g2 := F0 m 82 ls [.int x_16, .ref (rf 25), .int ix_10, .ref (rf 25)]) (by rw [ex_16]) ?_
    have ha_30 : va_at (DG E) vwCl (rf 25, .inl (E.2.2 0, 16, .inl (u_10.2.2.2.1))) _ := hM.2 25 (by decide) (by decide) (by decide)
    refine va_iald (D := DG E) hx hb hK.1 (va_one ha_30) 0 0 rfl rfl hi_17 dX10_dropRequest_82 ?_
    refine W.eq (g2 := F0 m 83 ls [.int ((u_10.2.2.2.1) n_19), .int ix_10, .ref (rf 25)]) (by rw [en_19]) ?_
    have ha_31 : va_at (DG E) vwCl (rf 25, .inl (E.2.2 0, 16, .inl (u_10.2.2.2.1))) _ := hM.2 25 (by decide) (by decide) (by decide)
    refine rr_iast (D := DG E) hx hb hK.1 0 ha_31 hS (by show G (rf 25) ≠ 0; rw [hR.2 25 (by decide) (by decide) (by decide)]; decide) rfl hi_23 dX10_dropRequest_83 (fun H locs hn ho hz hS => ?_)
    rw [en_25] at hn
    obtain ⟨g_31, eg_31⟩ : ∃ z : Nat → Int32, z = upd (u_10.2.2.2.1) n_25 ((u_10.2.2.2.1) n_19) := ⟨_, rfl⟩
    have sg_31 : g_31 n_25 = ((u_10.2.2.2.1) n_19) := by rw [eg_31]; exact upd_s
    have ng_31 : ∀ k, k ≠ n_25 → g_31 k = (u_10.2.2.2.1) k := fun k hk => by rw [eg_31]; exact upd_n hk
    have hn : va_at (DG E) vwCl (rf 25, .inl (E.2.2 0, 16, .inl g_31)) H := by rw [eg_31]; exact hn
    have hM : MH E h0 rf t0 t1 t2 (uA (uA (uA (uA (uA (uA (uA (uA (uA (uA (uA (uA (uA A 20 g_8) 22 (u_10.1)) 23 (u_10.2.1)) 24 (u_10.2.2.1)) 25 (u_10.2.2.2.1)) 26 (u_10.2.2.2.2.1)) 27 (u_10.2.2.2.2.2.1)) 28 (u_10.2.2.2.2.2.2.1)) 29 (u_10.2.2.2.2.2.2.2)) 22 g_24) 23 g_27) 24 g_29) 25 g_31) cd pk H := hM.w hR 25 (by decide) (by decide) (by decide) hn ho
    refine lv_aload_n hx hb dX10_dropRequest_84 rfl (lv_at hl 1 rfl) ?_
    refine va_get (D := DG E) (ci := 10) (v := .ref (rf 26)) (C := RX10) (T := TX10) (N := 49) hx hb hts iw_X10 hown hK.1 (va_one hM.1) 0 rfl rfl 26 (by decide) (hts _ fl_X10_77) (fun _ h9 => h9) rfl dX10_dropRequest_85 ?_
    refine lv_iload_n hx hb dX10_dropRequest_88 rfl (lv_at hl 0 rfl) ?_
    refine lv_aload_n hx hb dX10_dropRequest_89 rfl (lv_at hl 1 rfl) ?_
    refine va_get (D := DG E) (ci := 10) (v := .ref (rf 26)) (C := RX10) (T := TX10) (N := 49) hx hb hts iw_X10 hown hK.1 (va_one hM.1) 0 rfl rfl 26 (by decide) (hts _ fl_X10_77) (fun _ h9 => h9) rfl dX10_dropRequest_90 ?_
    refine lv_iload_n hx hb dX10_dropRequest_93 rfl (lv_at hl 0 rfl) ?_
    refine lv_iconst (v := 1) hx hb dX10_dropRequest_94 (by decide) ?_
    refine lv_iadd hx hb dX10_dropRequest_95 ?_
    refine W.eq (g2 := F0 m 96 ls [.int x_16, .ref (rf 26), .int ix_10, .ref (rf 26)]) (by rw [ex_16]) ?_
    have ha_32 : va_at (DG E) vwCl (rf 26, .inl (E.2.2 0, 16, .inl (u_10.2.2.2.2.1))) _ := hM.2 26 (by decide) (by decide) (by decide)
    refine va_iald (D := DG E) hx hb hK.1 (va_one ha_32) 0 0 rfl rfl hi_17 dX10_dropRequest_96 ?_
    refine W.eq (g2 := F0 m 97 ls [.int ((u_10.2.2.2.2.1) n_19), .int ix_10, .ref (rf 26)]) (by rw [en_19]) ?_
    have ha_33 : va_at (DG E) vwCl (rf 26, .inl (E.2.2 0, 16, .inl (u_10.2.2.2.2.1))) _ := hM.2 26 (by decide) (by decide) (by decide)
    refine rr_iast (D := DG E) hx hb hK.1 0 ha_33 hS (by show G (rf 26) ≠ 0; rw [hR.2 26 (by decide) (by decide) (by decide)]; decide) rfl hi_23 dX10_dropRequest_97 (fun H locs hn ho hz hS => ?_)
    rw [en_25] at hn
    obtain ⟨g_33, eg_33⟩ : ∃ z : Nat → Int32, z = upd (u_10.2.2.2.2.1) n_25 ((u_10.2.2.2.2.1) n_19) := ⟨_, rfl⟩
    have sg_33 : g_33 n_25 = ((u_10.2.2.2.2.1) n_19) := by rw [eg_33]; exact upd_s
    have ng_33 : ∀ k, k ≠ n_25 → g_33 k = (u_10.2.2.2.2.1) k := fun k hk => by rw [eg_33]; exact upd_n hk
    have hn : va_at (DG E) vwCl (rf 26, .inl (E.2.2 0, 16, .inl g_33)) H := by rw [eg_33]; exact hn
    have hM : MH E h0 rf t0 t1 t2 (uA (uA (uA (uA (uA (uA (uA (uA (uA (uA (uA (uA (uA (uA A 20 g_8) 22 (u_10.1)) 23 (u_10.2.1)) 24 (u_10.2.2.1)) 25 (u_10.2.2.2.1)) 26 (u_10.2.2.2.2.1)) 27 (u_10.2.2.2.2.2.1)) 28 (u_10.2.2.2.2.2.2.1)) 29 (u_10.2.2.2.2.2.2.2)) 22 g_24) 23 g_27) 24 g_29) 25 g_31) 26 g_33) cd pk H := hM.w hR 26 (by decide) (by decide) (by decide) hn ho
    refine lv_aload_n hx hb dX10_dropRequest_98 rfl (lv_at hl 1 rfl) ?_
    refine va_get (D := DG E) (ci := 10) (v := .ref (rf 27)) (C := RX10) (T := TX10) (N := 49) hx hb hts iw_X10 hown hK.1 (va_one hM.1) 0 rfl rfl 27 (by decide) (hts _ fl_X10_80) (fun _ h9 => h9) rfl dX10_dropRequest_99 ?_
    refine lv_iload_n hx hb dX10_dropRequest_102 rfl (lv_at hl 0 rfl) ?_
    refine lv_aload_n hx hb dX10_dropRequest_103 rfl (lv_at hl 1 rfl) ?_
    refine va_get (D := DG E) (ci := 10) (v := .ref (rf 27)) (C := RX10) (T := TX10) (N := 49) hx hb hts iw_X10 hown hK.1 (va_one hM.1) 0 rfl rfl 27 (by decide) (hts _ fl_X10_80) (fun _ h9 => h9) rfl dX10_dropRequest_104 ?_
    refine lv_iload_n hx hb dX10_dropRequest_107 rfl (lv_at hl 0 rfl) ?_
    refine lv_iconst (v := 1) hx hb dX10_dropRequest_108 (by decide) ?_
    refine lv_iadd hx hb dX10_dropRequest_109 ?_
    refine W.eq (g2 := F0 m 110 ls [.int x_16, .ref (rf 27), .int ix_10, .ref (rf 27)]) (by rw [ex_16]) ?_
    have ha_34 : va_at (DG E) vwCl (rf 27, .inl (E.2.2 0, 16, .inl (u_10.2.2.2.2.2.1))) _ := hM.2 27 (by decide) (by decide) (by decide)
    refine va_iald (D := DG E) hx hb hK.1 (va_one ha_34) 0 0 rfl rfl hi_17 dX10_dropRequest_110 ?_
    refine W.eq (g2 := F0 m 111 ls [.int ((u_10.2.2.2.2.2.1) n_19), .int ix_10, .ref (rf 27)]) (by rw [en_19]) ?_
    have ha_35 : va_at (DG E) vwCl (rf 27, .inl (E.2.2 0, 16, .inl (u_10.2.2.2.2.2.1))) _ := hM.2 27 (by decide) (by decide) (by decide)
    refine rr_iast (D := DG E) hx hb hK.1 0 ha_35 hS (by show G (rf 27) ≠ 0; rw [hR.2 27 (by decide) (by decide) (by decide)]; decide) rfl hi_23 dX10_dropRequest_111 (fun H locs hn ho hz hS => ?_)
    rw [en_25] at hn
    obtain ⟨g_35, eg_35⟩ : ∃ z : Nat → Int32, z = upd (u_10.2.2.2.2.2.1) n_25 ((u_10.2.2.2.2.2.1) n_19) := ⟨_, rfl⟩
    have sg_35 : g_35 n_25 = ((u_10.2.2.2.2.2.1) n_19) := by rw [eg_35]; exact upd_s
    have ng_35 : ∀ k, k ≠ n_25 → g_35 k = (u_10.2.2.2.2.2.1) k := fun k hk => by rw [eg_35]; exact upd_n hk
    have hn : va_at (DG E) vwCl (rf 27, .inl (E.2.2 0, 16, .inl g_35)) H := by rw [eg_35]; exact hn
    have hM : MH E h0 rf t0 t1 t2 (uA (uA (uA (uA (uA (uA (uA (uA (uA (uA (uA (uA (uA (uA (uA A 20 g_8) 22 (u_10.1)) 23 (u_10.2.1)) 24 (u_10.2.2.1)) 25 (u_10.2.2.2.1)) 26 (u_10.2.2.2.2.1)) 27 (u_10.2.2.2.2.2.1)) 28 (u_10.2.2.2.2.2.2.1)) 29 (u_10.2.2.2.2.2.2.2)) 22 g_24) 23 g_27) 24 g_29) 25 g_31) 26 g_33) 27 g_35) cd pk H := hM.w hR 27 (by decide) (by decide) (by decide) hn ho
    refine lv_aload_n hx hb dX10_dropRequest_112 rfl (lv_at hl 1 rfl) ?_
    refine va_get (D := DG E) (ci := 10) (v := .ref (rf 28)) (C := RX10) (T := TX10) (N := 49) hx hb hts iw_X10 hown hK.1 (va_one hM.1) 0 rfl rfl 28 (by decide) (hts _ fl_X10_83) (fun _ h9 => h9) rfl dX10_dropRequest_113 ?_
    refine lv_iload_n hx hb dX10_dropRequest_116 rfl (lv_at hl 0 rfl) ?_
    refine lv_aload_n hx hb dX10_dropRequest_117 rfl (lv_at hl 1 rfl) ?_
    refine va_get (D := DG E) (ci := 10) (v := .ref (rf 28)) (C := RX10) (T := TX10) (N := 49) hx hb hts iw_X10 hown hK.1 (va_one hM.1) 0 rfl rfl 28 (by decide) (hts _ fl_X10_83) (fun _ h9 => h9) rfl dX10_dropRequest_118 ?_
    refine lv_iload_n hx hb dX10_dropRequest_121 rfl (lv_at hl 0 rfl) ?_
    refine lv_iconst (v := 1) hx hb dX10_dropRequest_122 (by decide) ?_
    refine lv_iadd hx hb dX10_dropRequest_123 ?_
    refine W.eq (g2 := F0 m 124 ls [.int x_16, .ref (rf 28), .int ix_10, .ref (rf 28)]) (by rw [ex_16]) ?_
    have ha_36 : va_at (DG E) vwCl (rf 28, .inl (E.2.2 0, 16, .inl (u_10.2.2.2.2.2.2.1))) _ := hM.2 28 (by decide) (by decide) (by decide)
    refine va_iald (D := DG E) hx hb hK.1 (va_one ha_36) 0 0 rfl rfl hi_17 dX10_dropRequest_124 ?_
    refine W.eq (g2 := F0 m 125 ls [.int ((u_10.2.2.2.2.2.2.1) n_19), .int ix_10, .ref (rf 28)]) (by rw [en_19]) ?_
    have ha_37 : va_at (DG E) vwCl (rf 28, .inl (E.2.2 0, 16, .inl (u_10.2.2.2.2.2.2.1))) _ := hM.2 28 (by decide) (by decide) (by decide)
    refine rr_iast (D := DG E) hx hb hK.1 0 ha_37 hS (by show G (rf 28) ≠ 0; rw [hR.2 28 (by decide) (by decide) (by decide)]; decide) rfl hi_23 dX10_dropRequest_125 (fun H locs hn ho hz hS => ?_)
    rw [en_25] at hn
    obtain ⟨g_37, eg_37⟩ : ∃ z : Nat → Int32, z = upd (u_10.2.2.2.2.2.2.1) n_25 ((u_10.2.2.2.2.2.2.1) n_19) := ⟨_, rfl⟩
    have sg_37 : g_37 n_25 = ((u_10.2.2.2.2.2.2.1) n_19) := by rw [eg_37]; exact upd_s
    have ng_37 : ∀ k, k ≠ n_25 → g_37 k = (u_10.2.2.2.2.2.2.1) k := fun k hk => by rw [eg_37]; exact upd_n hk
    have hn : va_at (DG E) vwCl (rf 28, .inl (E.2.2 0, 16, .inl g_37)) H := by rw [eg_37]; exact hn
    have hM : MH E h0 rf t0 t1 t2 (uA (uA (uA (uA (uA (uA (uA (uA (uA (uA (uA (uA (uA (uA (uA (uA A 20 g_8) 22 (u_10.1)) 23 (u_10.2.1)) 24 (u_10.2.2.1)) 25 (u_10.2.2.2.1)) 26 (u_10.2.2.2.2.1)) 27 (u_10.2.2.2.2.2.1)) 28 (u_10.2.2.2.2.2.2.1)) 29 (u_10.2.2.2.2.2.2.2)) 22 g_24) 23 g_27) 24 g_29) 25 g_31) 26 g_33) 27 g_35) 28 g_37) cd pk H := hM.w hR 28 (by decide) (by decide) (by decide) hn ho
    refine lv_aload_n hx hb dX10_dropRequest_126 rfl (lv_at hl 1 rfl) ?_
    refine va_get (D := DG E) (ci := 10) (v := .ref (rf 29)) (C := RX10) (T := TX10) (N := 49) hx hb hts iw_X10 hown hK.1 (va_one hM.1) 0 rfl rfl 29 (by decide) (hts _ fl_X10_86) (fun _ h9 => h9) rfl dX10_dropRequest_127 ?_
    refine lv_iload_n hx hb dX10_dropRequest_130 rfl (lv_at hl 0 rfl) ?_
    refine lv_aload_n hx hb dX10_dropRequest_131 rfl (lv_at hl 1 rfl) ?_
    refine va_get (D := DG E) (ci := 10) (v := .ref (rf 29)) (C := RX10) (T := TX10) (N := 49) hx hb hts iw_X10 hown hK.1 (va_one hM.1) 0 rfl rfl 29 (by decide) (hts _ fl_X10_86) (fun _ h9 => h9) rfl dX10_dropRequest_132 ?_
    refine lv_iload_n hx hb dX10_dropRequest_135 rfl (lv_at hl 0 rfl) ?_
    refine lv_iconst (v := 1) hx hb dX10_dropRequest_136 (by decide) ?_
    refine lv_iadd hx hb dX10_dropRequest_137 ?_
    refine W.eq (g2 := F0 m 138 ls [.int x_16, .ref (rf 29), .int ix_10, .ref (rf 29)]) (by rw [ex_16]) ?_
    have ha_38 : va_at (DG E) vwCl (rf 29, .inl (E.2.2 0, 16, .inl (u_10.2.2.2.2.2.2.2))) _ := hM.2 29 (by decide) (by decide) (by decide)
    refine va_iald (D := DG E) hx hb hK.1 (va_one ha_38) 0 0 rfl rfl hi_17 dX10_dropRequest_138 ?_
    refine W.eq (g2 := F0 m 139 ls [.int ((u_10.2.2.2.2.2.2.2) n_19), .int ix_10, .ref (rf 29)]) (by rw [en_19]) ?_
    have ha_39 : va_at (DG E) vwCl (rf 29, .inl (E.2.2 0, 16, .inl (u_10.2.2.2.2.2.2.2))) _ := hM.2 29 (by decide) (by decide) (by decide)
    refine rr_iast (D := DG E) hx hb hK.1 0 ha_39 hS (by show G (rf 29) ≠ 0; rw [hR.2 29 (by decide) (by decide) (by decide)]; decide) rfl hi_23 dX10_dropRequest_139 (fun H locs hn ho hz hS => ?_)
    rw [en_25] at hn
    obtain ⟨g_39, eg_39⟩ : ∃ z : Nat → Int32, z = upd (u_10.2.2.2.2.2.2.2) n_25 ((u_10.2.2.2.2.2.2.2) n_19) := ⟨_, rfl⟩
    have sg_39 : g_39 n_25 = ((u_10.2.2.2.2.2.2.2) n_19) := by rw [eg_39]; exact upd_s
    have ng_39 : ∀ k, k ≠ n_25 → g_39 k = (u_10.2.2.2.2.2.2.2) k := fun k hk => by rw [eg_39]; exact upd_n hk
    have hn : va_at (DG E) vwCl (rf 29, .inl (E.2.2 0, 16, .inl g_39)) H := by rw [eg_39]; exact hn
    have hM : MH E h0 rf t0 t1 t2 (uA (uA (uA (uA (uA (uA (uA (uA (uA (uA (uA (uA (uA (uA (uA (uA (uA A 20 g_8) 22 (u_10.1)) 23 (u_10.2.1)) 24 (u_10.2.2.1)) 25 (u_10.2.2.2.1)) 26 (u_10.2.2.2.2.1)) 27 (u_10.2.2.2.2.2.1)) 28 (u_10.2.2.2.2.2.2.1)) 29 (u_10.2.2.2.2.2.2.2)) 22 g_24) 23 g_27) 24 g_29) 25 g_31) 26 g_33) 27 g_35) 28 g_37) 29 g_39) cd pk H := hM.w hR 29 (by decide) (by decide) (by decide) hn ho
    obtain ⟨x_40, ex_40⟩ : ∃ z : Int32, ix_10 + Int32.ofInt 1 = z := ⟨_, rfl⟩
    have fx_40 : x_40.toInt = ix_10.toInt + 1 := by have h9 := s_add (x := ix_10) (y := 1) (by rw [i_1]; omega) (by rw [i_1]; omega); rw [i_1] at h9; rw [← ex_40]; exact h9
    refine lv_iinc (v := x_40) (lv' := [(2, .int x_40), (0, .ref h0), (1, .int p0)]) hx hb dX10_dropRequest_140 hl (k := 0) rfl ex_40 (by decide) rfl (fun ls hl => ?_)
    refine lv_goto (tgt := 14) hx hb dX10_dropRequest_143 (by decide) ?_
    have hI6_41 : I6 g_24 g_27 g_29 g_31 g_33 := by
      intro n9 hn9
      have h9 : 0 ≤ ((u_10.1) n9).toInt ∧ ((u_10.1) n9).toInt ≤ 3 ∧ 0 ≤ ((u_10.2.1) n9).toInt ∧ 0 ≤ ((u_10.2.2.1) n9).toInt ∧ ((u_10.2.2.1) n9).toInt ≤ 12 ∧ ((u_10.2.1) n9).toInt + ((u_10.2.2.1) n9).toInt ≤ 32 ∧ (((u_10.1) n9).toInt = 0 ∨ (0 ≤ ((u_10.2.2.2.1) n9).toInt ∧ ((u_10.2.2.2.1) n9).toInt ≤ 5)) ∧ -1 ≤ ((u_10.2.2.2.2.1) n9).toInt ∧ ((u_10.2.2.2.2.1) n9).toInt ≤ 31 := hI6_10 n9 hn9
      show 0 ≤ (g_24 n9).toInt ∧ (g_24 n9).toInt ≤ 3 ∧ 0 ≤ (g_27 n9).toInt ∧ 0 ≤ (g_29 n9).toInt ∧ (g_29 n9).toInt ≤ 12 ∧ (g_27 n9).toInt + (g_29 n9).toInt ≤ 32 ∧ ((g_24 n9).toInt = 0 ∨ (0 ≤ (g_31 n9).toInt ∧ (g_31 n9).toInt ≤ 5)) ∧ -1 ≤ (g_33 n9).toInt ∧ (g_33 n9).toInt ≤ 31
      by_cases ezn_25 : n9 = n_25
      · rw [ezn_25] at h9 ⊢
        rw [sg_24]
        rw [sg_27]
        rw [sg_29]
        rw [sg_31]
        rw [sg_33]
        exact hI6_10 n_19 (by omega)
      · rw [ng_24 n9 ezn_25]
        rw [ng_27 n9 ezn_25]
        rw [ng_29 n9 ezn_25]
        rw [ng_31 n9 ezn_25]
        rw [ng_33 n9 ezn_25]
        exact h9
    obtain ⟨b9, hb9, s29, s24, s22, s23, s25, s26, s27, s28⟩ := hx_10
    obtain rfl : b9 = n_25 := by omega
    have e9 : n_19 = b9 + 1 := by omega
    have hX_42 : ∃ b : Nat, (b : Int) = x_40.toInt ∧ Sh (A 29) g_39 (4 * n_1) b ∧ Sh (A 24) g_29 (4 * n_1) b ∧ Sh (A 22) g_24 (4 * n_1) b ∧ Sh (A 23) g_27 (4 * n_1) b ∧ Sh (A 25) g_31 (4 * n_1) b ∧ Sh (A 26) g_33 (4 * n_1) b ∧ Sh (A 27) g_35 (4 * n_1) b ∧ Sh (A 28) g_37 (4 * n_1) b := ⟨b9 + 1, by omega, s29.s (by omega) (by rw [sg_39, e9]) (ng_39), s24.s (by omega) (by rw [sg_29, e9]) (ng_29), s22.s (by omega) (by rw [sg_24, e9]) (ng_24), s23.s (by omega) (by rw [sg_27, e9]) (ng_27), s25.s (by omega) (by rw [sg_31, e9]) (ng_31), s26.s (by omega) (by rw [sg_33, e9]) (ng_33), s27.s (by omega) (by rw [sg_35, e9]) (ng_35), s28.s (by omega) (by rw [sg_37, e9]) (ng_37)⟩
    exact ih_10 _ (by omega) _ _ _ ⟨x_40, (g_24, g_27, g_29, g_31, g_33, g_35, g_37, g_39), (by first | omega | decide), rfl, (by show MH E h0 rf t0 t1 t2 (uA (uA (uA (uA (uA (uA (uA (uA (uA A 20 g_8) 22 g_24) 23 g_27) 24 g_29) 25 g_31) 26 g_33) 27 g_35) 28 g_37) 29 g_39) cd pk _; exact hM.cge (funext fun j => (cgj j 29 rfl (fun a0 => (cgj j 28 rfl (fun a1 => (cgj j 27 rfl (fun a2 => (cgj j 26 rfl (fun a3 => (cgj j 25 rfl (fun a4 => (cgj j 24 rfl (fun a5 => (cgj j 23 rfl (fun a6 => (cgj j 22 rfl (fun a7 => (cgj j 20 rfl (fun a8 => (by simp only [uA_n a0, uA_n a1, uA_n a2, uA_n a3, uA_n a4, uA_n a5, uA_n a6, uA_n a7, uA_n a8]))))))))))))))))))))), hI6_41, hX_42, hS, hl⟩
theorem gdX10_dropReceive_0 : (decode cX10_dropReceive 0 = .ok (.aload_n 0, 1)) ∧ (decode cX10_dropReceive 1 = .ok (.getfield 89, 3)) ∧ (decode cX10_dropReceive 4 = .ok (.iload_n 1, 1)) ∧ (decode cX10_dropReceive 5 = .ok (.dup2, 1)) ∧ (decode cX10_dropReceive 6 = .ok (.iaload, 1)) ∧ (decode cX10_dropReceive 7 = .ok (.iconst 1, 1)) ∧ (decode cX10_dropReceive 8 = .ok (.isub, 1)) ∧ (decode cX10_dropReceive 9 = .ok (.iastore, 1)) ∧ (decode cX10_dropReceive 10 = .ok (.iconst 4, 1)) ∧ (decode cX10_dropReceive 11 = .ok (.iload_n 1, 1)) ∧ (decode cX10_dropReceive 12 = .ok (.imul, 1)) ∧ (decode cX10_dropReceive 13 = .ok (.istore_n 2, 1)) ∧ (decode cX10_dropReceive 14 = .ok (.iload_n 2, 1)) ∧ (decode cX10_dropReceive 15 = .ok (.iconst 4, 1)) ∧ (decode cX10_dropReceive 16 = .ok (.iload_n 1, 1)) ∧ (decode cX10_dropReceive 17 = .ok (.imul, 1)) := by decide +kernel
theorem dX10_dropReceive_0 : decode cX10_dropReceive 0 = .ok (.aload_n 0, 1) := gdX10_dropReceive_0.1
theorem dX10_dropReceive_1 : decode cX10_dropReceive 1 = .ok (.getfield 89, 3) := gdX10_dropReceive_0.2.1
theorem dX10_dropReceive_4 : decode cX10_dropReceive 4 = .ok (.iload_n 1, 1) := gdX10_dropReceive_0.2.2.1
theorem dX10_dropReceive_5 : decode cX10_dropReceive 5 = .ok (.dup2, 1) := gdX10_dropReceive_0.2.2.2.1
theorem dX10_dropReceive_6 : decode cX10_dropReceive 6 = .ok (.iaload, 1) := gdX10_dropReceive_0.2.2.2.2.1
theorem dX10_dropReceive_7 : decode cX10_dropReceive 7 = .ok (.iconst 1, 1) := gdX10_dropReceive_0.2.2.2.2.2.1
theorem dX10_dropReceive_8 : decode cX10_dropReceive 8 = .ok (.isub, 1) := gdX10_dropReceive_0.2.2.2.2.2.2.1
theorem dX10_dropReceive_9 : decode cX10_dropReceive 9 = .ok (.iastore, 1) := gdX10_dropReceive_0.2.2.2.2.2.2.2.1
theorem dX10_dropReceive_10 : decode cX10_dropReceive 10 = .ok (.iconst 4, 1) := gdX10_dropReceive_0.2.2.2.2.2.2.2.2.1
theorem dX10_dropReceive_11 : decode cX10_dropReceive 11 = .ok (.iload_n 1, 1) := gdX10_dropReceive_0.2.2.2.2.2.2.2.2.2.1
theorem dX10_dropReceive_12 : decode cX10_dropReceive 12 = .ok (.imul, 1) := gdX10_dropReceive_0.2.2.2.2.2.2.2.2.2.2.1
theorem dX10_dropReceive_13 : decode cX10_dropReceive 13 = .ok (.istore_n 2, 1) := gdX10_dropReceive_0.2.2.2.2.2.2.2.2.2.2.2.1
theorem dX10_dropReceive_14 : decode cX10_dropReceive 14 = .ok (.iload_n 2, 1) := gdX10_dropReceive_0.2.2.2.2.2.2.2.2.2.2.2.2.1
theorem dX10_dropReceive_15 : decode cX10_dropReceive 15 = .ok (.iconst 4, 1) := gdX10_dropReceive_0.2.2.2.2.2.2.2.2.2.2.2.2.2.1
theorem dX10_dropReceive_16 : decode cX10_dropReceive 16 = .ok (.iload_n 1, 1) := gdX10_dropReceive_0.2.2.2.2.2.2.2.2.2.2.2.2.2.2.1
theorem dX10_dropReceive_17 : decode cX10_dropReceive 17 = .ok (.imul, 1) := gdX10_dropReceive_0.2.2.2.2.2.2.2.2.2.2.2.2.2.2.2
theorem gdX10_dropReceive_18 : (decode cX10_dropReceive 18 = .ok (.aload_n 0, 1)) ∧ (decode cX10_dropReceive 19 = .ok (.getfield 89, 3)) ∧ (decode cX10_dropReceive 22 = .ok (.iload_n 1, 1)) ∧ (decode cX10_dropReceive 23 = .ok (.iaload, 1)) ∧ (decode cX10_dropReceive 24 = .ok (.iadd, 1)) ∧ (decode cX10_dropReceive 25 = .ok (.if_icmp .ge 65, 3)) ∧ (decode cX10_dropReceive 28 = .ok (.aload_n 0, 1)) ∧ (decode cX10_dropReceive 29 = .ok (.getfield 95, 3)) ∧ (decode cX10_dropReceive 32 = .ok (.iload_n 2, 1)) ∧ (decode cX10_dropReceive 33 = .ok (.aload_n 0, 1)) ∧ (decode cX10_dropReceive 34 = .ok (.getfield 95, 3)) ∧ (decode cX10_dropReceive 37 = .ok (.iload_n 2, 1)) ∧ (decode cX10_dropReceive 38 = .ok (.iconst 1, 1)) ∧ (decode cX10_dropReceive 39 = .ok (.iadd, 1)) ∧ (decode cX10_dropReceive 40 = .ok (.iaload, 1)) ∧ (decode cX10_dropReceive 41 = .ok (.iastore, 1)) := by decide +kernel
theorem dX10_dropReceive_18 : decode cX10_dropReceive 18 = .ok (.aload_n 0, 1) := gdX10_dropReceive_18.1
theorem dX10_dropReceive_19 : decode cX10_dropReceive 19 = .ok (.getfield 89, 3) := gdX10_dropReceive_18.2.1
theorem dX10_dropReceive_22 : decode cX10_dropReceive 22 = .ok (.iload_n 1, 1) := gdX10_dropReceive_18.2.2.1
theorem dX10_dropReceive_23 : decode cX10_dropReceive 23 = .ok (.iaload, 1) := gdX10_dropReceive_18.2.2.2.1
theorem dX10_dropReceive_24 : decode cX10_dropReceive 24 = .ok (.iadd, 1) := gdX10_dropReceive_18.2.2.2.2.1
theorem dX10_dropReceive_25 : decode cX10_dropReceive 25 = .ok (.if_icmp .ge 65, 3) := gdX10_dropReceive_18.2.2.2.2.2.1
theorem dX10_dropReceive_28 : decode cX10_dropReceive 28 = .ok (.aload_n 0, 1) := gdX10_dropReceive_18.2.2.2.2.2.2.1
theorem dX10_dropReceive_29 : decode cX10_dropReceive 29 = .ok (.getfield 95, 3) := gdX10_dropReceive_18.2.2.2.2.2.2.2.1
theorem dX10_dropReceive_32 : decode cX10_dropReceive 32 = .ok (.iload_n 2, 1) := gdX10_dropReceive_18.2.2.2.2.2.2.2.2.1
theorem dX10_dropReceive_33 : decode cX10_dropReceive 33 = .ok (.aload_n 0, 1) := gdX10_dropReceive_18.2.2.2.2.2.2.2.2.2.1
theorem dX10_dropReceive_34 : decode cX10_dropReceive 34 = .ok (.getfield 95, 3) := gdX10_dropReceive_18.2.2.2.2.2.2.2.2.2.2.1
theorem dX10_dropReceive_37 : decode cX10_dropReceive 37 = .ok (.iload_n 2, 1) := gdX10_dropReceive_18.2.2.2.2.2.2.2.2.2.2.2.1
theorem dX10_dropReceive_38 : decode cX10_dropReceive 38 = .ok (.iconst 1, 1) := gdX10_dropReceive_18.2.2.2.2.2.2.2.2.2.2.2.2.1
theorem dX10_dropReceive_39 : decode cX10_dropReceive 39 = .ok (.iadd, 1) := gdX10_dropReceive_18.2.2.2.2.2.2.2.2.2.2.2.2.2.1
theorem dX10_dropReceive_40 : decode cX10_dropReceive 40 = .ok (.iaload, 1) := gdX10_dropReceive_18.2.2.2.2.2.2.2.2.2.2.2.2.2.2.1
theorem dX10_dropReceive_41 : decode cX10_dropReceive 41 = .ok (.iastore, 1) := gdX10_dropReceive_18.2.2.2.2.2.2.2.2.2.2.2.2.2.2.2
theorem gdX10_dropReceive_42 : (decode cX10_dropReceive 42 = .ok (.aload_n 0, 1)) ∧ (decode cX10_dropReceive 43 = .ok (.getfield 98, 3)) ∧ (decode cX10_dropReceive 46 = .ok (.iload_n 2, 1)) ∧ (decode cX10_dropReceive 47 = .ok (.aload_n 0, 1)) ∧ (decode cX10_dropReceive 48 = .ok (.getfield 98, 3)) ∧ (decode cX10_dropReceive 51 = .ok (.iload_n 2, 1)) ∧ (decode cX10_dropReceive 52 = .ok (.iconst 1, 1)) ∧ (decode cX10_dropReceive 53 = .ok (.iadd, 1)) ∧ (decode cX10_dropReceive 54 = .ok (.iaload, 1)) ∧ (decode cX10_dropReceive 55 = .ok (.iastore, 1)) ∧ (decode cX10_dropReceive 56 = .ok (.aload_n 0, 1)) ∧ (decode cX10_dropReceive 57 = .ok (.getfield 101, 3)) ∧ (decode cX10_dropReceive 60 = .ok (.iload_n 2, 1)) ∧ (decode cX10_dropReceive 61 = .ok (.aload_n 0, 1)) ∧ (decode cX10_dropReceive 62 = .ok (.getfield 101, 3)) ∧ (decode cX10_dropReceive 65 = .ok (.iload_n 2, 1)) := by decide +kernel
theorem dX10_dropReceive_42 : decode cX10_dropReceive 42 = .ok (.aload_n 0, 1) := gdX10_dropReceive_42.1
theorem dX10_dropReceive_43 : decode cX10_dropReceive 43 = .ok (.getfield 98, 3) := gdX10_dropReceive_42.2.1
theorem dX10_dropReceive_46 : decode cX10_dropReceive 46 = .ok (.iload_n 2, 1) := gdX10_dropReceive_42.2.2.1
theorem dX10_dropReceive_47 : decode cX10_dropReceive 47 = .ok (.aload_n 0, 1) := gdX10_dropReceive_42.2.2.2.1
theorem dX10_dropReceive_48 : decode cX10_dropReceive 48 = .ok (.getfield 98, 3) := gdX10_dropReceive_42.2.2.2.2.1
theorem dX10_dropReceive_51 : decode cX10_dropReceive 51 = .ok (.iload_n 2, 1) := gdX10_dropReceive_42.2.2.2.2.2.1
theorem dX10_dropReceive_52 : decode cX10_dropReceive 52 = .ok (.iconst 1, 1) := gdX10_dropReceive_42.2.2.2.2.2.2.1
theorem dX10_dropReceive_53 : decode cX10_dropReceive 53 = .ok (.iadd, 1) := gdX10_dropReceive_42.2.2.2.2.2.2.2.1
theorem dX10_dropReceive_54 : decode cX10_dropReceive 54 = .ok (.iaload, 1) := gdX10_dropReceive_42.2.2.2.2.2.2.2.2.1
theorem dX10_dropReceive_55 : decode cX10_dropReceive 55 = .ok (.iastore, 1) := gdX10_dropReceive_42.2.2.2.2.2.2.2.2.2.1
theorem dX10_dropReceive_56 : decode cX10_dropReceive 56 = .ok (.aload_n 0, 1) := gdX10_dropReceive_42.2.2.2.2.2.2.2.2.2.2.1
theorem dX10_dropReceive_57 : decode cX10_dropReceive 57 = .ok (.getfield 101, 3) := gdX10_dropReceive_42.2.2.2.2.2.2.2.2.2.2.2.1
theorem dX10_dropReceive_60 : decode cX10_dropReceive 60 = .ok (.iload_n 2, 1) := gdX10_dropReceive_42.2.2.2.2.2.2.2.2.2.2.2.2.1
theorem dX10_dropReceive_61 : decode cX10_dropReceive 61 = .ok (.aload_n 0, 1) := gdX10_dropReceive_42.2.2.2.2.2.2.2.2.2.2.2.2.2.1
theorem dX10_dropReceive_62 : decode cX10_dropReceive 62 = .ok (.getfield 101, 3) := gdX10_dropReceive_42.2.2.2.2.2.2.2.2.2.2.2.2.2.2.1
theorem dX10_dropReceive_65 : decode cX10_dropReceive 65 = .ok (.iload_n 2, 1) := gdX10_dropReceive_42.2.2.2.2.2.2.2.2.2.2.2.2.2.2.2
theorem gdX10_dropReceive_66 : (decode cX10_dropReceive 66 = .ok (.iconst 1, 1)) ∧ (decode cX10_dropReceive 67 = .ok (.iadd, 1)) ∧ (decode cX10_dropReceive 68 = .ok (.iaload, 1)) ∧ (decode cX10_dropReceive 69 = .ok (.iastore, 1)) ∧ (decode cX10_dropReceive 70 = .ok (.aload_n 0, 1)) ∧ (decode cX10_dropReceive 71 = .ok (.getfield 104, 3)) ∧ (decode cX10_dropReceive 74 = .ok (.iload_n 2, 1)) ∧ (decode cX10_dropReceive 75 = .ok (.aload_n 0, 1)) ∧ (decode cX10_dropReceive 76 = .ok (.getfield 104, 3)) ∧ (decode cX10_dropReceive 79 = .ok (.iload_n 2, 1)) ∧ (decode cX10_dropReceive 80 = .ok (.iconst 1, 1)) ∧ (decode cX10_dropReceive 81 = .ok (.iadd, 1)) ∧ (decode cX10_dropReceive 82 = .ok (.iaload, 1)) ∧ (decode cX10_dropReceive 83 = .ok (.iastore, 1)) ∧ (decode cX10_dropReceive 84 = .ok (.iinc 2 1, 3)) ∧ (decode cX10_dropReceive 87 = .ok (.goto (-73), 3)) := by decide +kernel
theorem dX10_dropReceive_66 : decode cX10_dropReceive 66 = .ok (.iconst 1, 1) := gdX10_dropReceive_66.1
theorem dX10_dropReceive_67 : decode cX10_dropReceive 67 = .ok (.iadd, 1) := gdX10_dropReceive_66.2.1
theorem dX10_dropReceive_68 : decode cX10_dropReceive 68 = .ok (.iaload, 1) := gdX10_dropReceive_66.2.2.1
theorem dX10_dropReceive_69 : decode cX10_dropReceive 69 = .ok (.iastore, 1) := gdX10_dropReceive_66.2.2.2.1
theorem dX10_dropReceive_70 : decode cX10_dropReceive 70 = .ok (.aload_n 0, 1) := gdX10_dropReceive_66.2.2.2.2.1
theorem dX10_dropReceive_71 : decode cX10_dropReceive 71 = .ok (.getfield 104, 3) := gdX10_dropReceive_66.2.2.2.2.2.1
theorem dX10_dropReceive_74 : decode cX10_dropReceive 74 = .ok (.iload_n 2, 1) := gdX10_dropReceive_66.2.2.2.2.2.2.1
theorem dX10_dropReceive_75 : decode cX10_dropReceive 75 = .ok (.aload_n 0, 1) := gdX10_dropReceive_66.2.2.2.2.2.2.2.1
theorem dX10_dropReceive_76 : decode cX10_dropReceive 76 = .ok (.getfield 104, 3) := gdX10_dropReceive_66.2.2.2.2.2.2.2.2.1
theorem dX10_dropReceive_79 : decode cX10_dropReceive 79 = .ok (.iload_n 2, 1) := gdX10_dropReceive_66.2.2.2.2.2.2.2.2.2.1
theorem dX10_dropReceive_80 : decode cX10_dropReceive 80 = .ok (.iconst 1, 1) := gdX10_dropReceive_66.2.2.2.2.2.2.2.2.2.2.1
theorem dX10_dropReceive_81 : decode cX10_dropReceive 81 = .ok (.iadd, 1) := gdX10_dropReceive_66.2.2.2.2.2.2.2.2.2.2.2.1
theorem dX10_dropReceive_82 : decode cX10_dropReceive 82 = .ok (.iaload, 1) := gdX10_dropReceive_66.2.2.2.2.2.2.2.2.2.2.2.2.1
theorem dX10_dropReceive_83 : decode cX10_dropReceive 83 = .ok (.iastore, 1) := gdX10_dropReceive_66.2.2.2.2.2.2.2.2.2.2.2.2.2.1
theorem dX10_dropReceive_84 : decode cX10_dropReceive 84 = .ok (.iinc 2 1, 3) := gdX10_dropReceive_66.2.2.2.2.2.2.2.2.2.2.2.2.2.2.1
theorem dX10_dropReceive_87 : decode cX10_dropReceive 87 = .ok (.goto (-73), 3) := gdX10_dropReceive_66.2.2.2.2.2.2.2.2.2.2.2.2.2.2.2
theorem dX10_dropReceive_90 : decode cX10_dropReceive 90 = .ok (.return_, 1) := by decide +kernel
set_option maxHeartbeats 8000000 in
set_option maxRecDepth 100000 in
theorem u_X10_dropReceive (l : Launch) (E : EE) (z0 : Nat) (G : Nat → Nat) (hGz : ∀ q, G q ≠ 0 → z0 ≤ q) (h0 : Nat) (rf : Nat → Nat) (hR : MG G h0 rf) (t0 t1 t2 : Int32) (A : AA) (cd pk : Int32) (p0 : Int32) (hI5 : I5 (A 32) (A 33) (A 35)) (hI8 : I8 (A 20) (A 30) (A 37) (A 36)) (hy0 : 0 ≤ p0.toInt ∧ p0.toInt ≤ 3) (hy1 : ∀ n : Nat, (n : Int) = p0.toInt → 1 ≤ ((A 30) n).toInt ∧ ((A 36) n).toInt = 0) : Met l yX10_dropReceive [Cond.code yX10_dropReceive cX10_dropReceive 3 none] ({ frames := 0, cells := 0, slots := 0, locals := 0 } : Room) (va_Pc [.ref h0, .int p0] (fun U => MH E h0 rf t0 t1 t2 A cd pk U.heap ∧ KS E z0 U)) (va_Qv (fun (u : (Nat → Int32) × (Nat → Int32) × (Nat → Int32) × (Nat → Int32) × (Nat → Int32)) => (I5 (u.2.1) (u.2.2.1) (u.2.2.2.2)) ∧ (I8 (A 20) (u.1) (A 37) (A 36)) ∧ (D_X10_dropReceive A cd pk p0 (uA (uA (uA (uA (uA A 30 (u.1)) 32 (u.2.1)) 33 (u.2.2.1)) 34 (u.2.2.2.1)) 35 (u.2.2.2.2)) cd pk)) (fun u t => MH E h0 rf t0 t1 t2 (uA (uA (uA (uA (uA A 30 (u.1)) 32 (u.2.1)) 33 (u.2.2.1)) 34 (u.2.2.2.1)) 35 (u.2.2.2.2)) cd pk t.heap) (fun q : Nat => G q ≠ 0)) 0 0 (fun q : Nat => G q ≠ 0) := by
  refine Met.ofW (cc := cX10_dropReceive) (maxL := 3) (ret := none) (by decide) rfl ?_
  intro p e s m args below meth c s₁ B hml hv
  obtain ⟨rfl, hM, hK⟩ := hv
  have hx := B.exec
  have hb := B.bytes
  have hr := B.returns
  have hts : ∀ w ∈ TS, w.before ([.ref h0, .int p0] : List Value).toArray s = true := fun w hw => hK.2.1 w hw _
  have hown : s.vm.findClass RX10 = some m.cls := findClass_of_methodNamed B.named
  have hlocks := B.notSynchronized
  have hS : va_S (fun q : Nat => G q ≠ 0) s.heap s.heap [] := va_S.rf
  have hAz : ∀ q, (fun q : Nat => G q ≠ 0) q → z0 ≤ q := hGz
  have hl := lv_entry ([.ref h0, .int p0]) (n := 3) (Nat.le_of_ble_eq_true rfl)
  rw [lg_entry_eq]
  generalize (lg_sl ([.ref h0, .int p0]) ++ List.replicate (3 - (lg_sl ([.ref h0, .int p0])).length) Slot.unset).toArray = ls at hl ⊢
  have hl : lv_has ls 3 [(0, .ref h0), (1, .int p0)] := hl
  obtain ⟨n_1, hn_1, en_1⟩ := s_nat (x := p0) (by omega)
  have hd0 := hy1 n_1 (by omega)
  refine lv_aload_n hx hb dX10_dropReceive_0 rfl (lv_at hl 0 rfl) ?_
  refine va_get (D := DG E) (ci := 10) (v := .ref (rf 30)) (C := RX10) (T := TX10) (N := 49) hx hb hts iw_X10 hown hK.1 (va_one hM.1) 0 rfl rfl 30 (by decide) (hts _ fl_X10_89) (fun _ h9 => h9) rfl dX10_dropReceive_1 ?_
  refine lv_iload_n hx hb dX10_dropReceive_4 rfl (lv_at hl 1 rfl) ?_
  refine lv_dup2_11 hx hb dX10_dropReceive_5 rfl rfl ?_
  have hi_2 : vp_in p0 4 := vp_in_iff.mpr (by omega)
  have ha_3 : va_at (DG E) vwCl (rf 30, .inl (E.2.2 0, 4, .inl (A 30))) _ := hM.2 30 (by decide) (by decide) (by decide)
  refine va_iald (D := DG E) hx hb hK.1 (va_one ha_3) 0 0 rfl rfl hi_2 dX10_dropReceive_6 ?_
  refine W.eq (g2 := F0 m 7 ls [.int ((A 30) n_1), .int p0, .ref (rf 30)]) (by rw [en_1]) ?_
  have hk_4 : n_1 < 4 := by omega
  have q_5 : 0 ≤ ((A 30) n_1).toInt := (hI8 n_1 hk_4).2.2.1
  have q_6 : ((A 30) n_1).toInt ≤ 4 := (hI8 n_1 hk_4).2.2.2.1
  refine lv_iconst (v := 1) hx hb dX10_dropReceive_7 (by decide) ?_
  refine lv_isub hx hb dX10_dropReceive_8 ?_
  refine lv_topi (fun x_7 ex_7 => ?_)
  have fx_7 : x_7.toInt = ((A 30) n_1).toInt - 1 := by have h9 := s_sub (x := ((A 30) n_1)) (y := 1) (by rw [i_1]; omega) (by rw [i_1]; omega); rw [i_1] at h9; rw [ex_7]; exact h9
  have ha_8 : va_at (DG E) vwCl (rf 30, .inl (E.2.2 0, 4, .inl (A 30))) _ := hM.2 30 (by decide) (by decide) (by decide)
  refine rr_iast (D := DG E) hx hb hK.1 0 ha_8 hS (by show G (rf 30) ≠ 0; rw [hR.2 30 (by decide) (by decide) (by decide)]; decide) rfl hi_2 dX10_dropReceive_9 (fun H locs hn ho hz hS => ?_)
  rw [en_1] at hn
  obtain ⟨g_8, eg_8⟩ : ∃ z : Nat → Int32, z = upd (A 30) n_1 x_7 := ⟨_, rfl⟩
  have sg_8 : g_8 n_1 = x_7 := by rw [eg_8]; exact upd_s
  have ng_8 : ∀ k, k ≠ n_1 → g_8 k = (A 30) k := fun k hk => by rw [eg_8]; exact upd_n hk
  have hn : va_at (DG E) vwCl (rf 30, .inl (E.2.2 0, 4, .inl g_8)) H := by rw [eg_8]; exact hn
  have hM : MH E h0 rf t0 t1 t2 (uA A 30 g_8) cd pk H := hM.w hR 30 (by decide) (by decide) (by decide) hn ho
  refine lv_iconst (v := 4) hx hb dX10_dropReceive_10 (by decide) ?_
  refine lv_iload_n hx hb dX10_dropReceive_11 rfl (lv_at hl 1 rfl) ?_
  refine lv_imul hx hb dX10_dropReceive_12 ?_
  refine lv_topi (fun x_9 ex_9 => ?_)
  have fx_9 : x_9.toInt = 4 * p0.toInt := by rw [ex_9]; exact s_mulK i_4 (by omega) (by omega)
  refine lv_istore_n (lv' := [(2, .int x_9), (0, .ref h0), (1, .int p0)]) hx hb dX10_dropReceive_13 rfl hl (by decide) rfl (fun ls hl => ?_)
  have hX_11 : ∃ b : Nat, (b : Int) = x_9.toInt ∧ Sh (A 32) (A 32) (4 * n_1) b ∧ Sh (A 33) (A 33) (4 * n_1) b ∧ Sh (A 34) (A 34) (4 * n_1) b ∧ Sh (A 35) (A 35) (4 * n_1) b := ⟨4 * n_1, by omega, Sh.z, Sh.z, Sh.z, Sh.z⟩
  refine lp_nat (fun n H locs ls => ∃ (ix_10 : Int32) (u_10 : (Nat → Int32) × (Nat → Int32) × (Nat → Int32) × (Nat → Int32)), (4 * p0.toInt ≤ ix_10.toInt ∧ ix_10.toInt ≤ 4 * p0.toInt + x_7.toInt) ∧ (4 * p0.toInt + x_7.toInt - ix_10.toInt).toNat = n ∧ MH E h0 rf t0 t1 t2 (uA (uA (uA (uA (uA A 30 g_8) 32 (u_10.1)) 33 (u_10.2.1)) 34 (u_10.2.2.1)) 35 (u_10.2.2.2)) cd pk H ∧ (I5 (u_10.1) (u_10.2.1) (u_10.2.2.2)) ∧ (∃ b : Nat, (b : Int) = ix_10.toInt ∧ Sh (A 32) (u_10.1) (4 * n_1) b ∧ Sh (A 33) (u_10.2.1) (4 * n_1) b ∧ Sh (A 34) (u_10.2.2.1) (4 * n_1) b ∧ Sh (A 35) (u_10.2.2.2) (4 * n_1) b) ∧ va_S (fun q : Nat => G q ≠ 0) s.heap H locs ∧ lv_has ls 3 [(2, .int ix_10), (0, .ref h0), (1, .int p0)]) (fun n_10 H locs ls ih_10 hI => ?_) ⟨x_9, ((A 32), (A 33), (A 34), (A 35)), (by first | omega | decide), rfl, (by show MH E h0 rf t0 t1 t2 (uA (uA (uA (uA (uA A 30 g_8) 32 (A 32)) 33 (A 33)) 34 (A 34)) 35 (A 35)) cd pk _; exact hM.cge (funext fun j => (cgj j 35 rfl (fun a0 => (cgj j 34 rfl (fun a1 => (cgj j 33 rfl (fun a2 => (cgj j 32 rfl (fun a3 => (cgj j 30 rfl (fun a4 => (by simp only [uA_n a0, uA_n a1, uA_n a2, uA_n a3, uA_n a4]))))))))))))), hI5, hX_11, hS, hl⟩
  obtain ⟨ix_10, u_10, hb_10, hn_10, hM, hI5_10, hx_10, hS, hl⟩ := hI
  refine lv_iload_n hx hb dX10_dropReceive_14 rfl (lv_at hl 0 rfl) ?_
  refine lv_iconst (v := 4) hx hb dX10_dropReceive_15 (by decide) ?_
  refine lv_iload_n hx hb dX10_dropReceive_16 rfl (lv_at hl 2 rfl) ?_
  refine lv_imul hx hb dX10_dropReceive_17 ?_
  refine W.eq (g2 := F0 m 18 ls [.int x_9, .int ix_10]) (by rw [ex_9]) ?_
  refine lv_aload_n hx hb dX10_dropReceive_18 rfl (lv_at hl 1 rfl) ?_
  refine va_get (D := DG E) (ci := 10) (v := .ref (rf 30)) (C := RX10) (T := TX10) (N := 49) hx hb hts iw_X10 hown hK.1 (va_one hM.1) 0 rfl rfl 30 (by decide) (hts _ fl_X10_89) (fun _ h9 => h9) rfl dX10_dropReceive_19 ?_
  refine lv_iload_n hx hb dX10_dropReceive_22 rfl (lv_at hl 2 rfl) ?_
  have ha_12 : va_at (DG E) vwCl (rf 30, .inl (E.2.2 0, 4, .inl g_8)) _ := hM.2 30 (by decide) (by decide) (by decide)
  refine va_iald (D := DG E) hx hb hK.1 (va_one ha_12) 0 0 rfl rfl hi_2 dX10_dropReceive_23 ?_
  refine W.eq (g2 := F0 m 24 ls [.int x_7, .int x_9, .int ix_10]) (by rw [en_1, sg_8]) ?_
  refine lv_iadd hx hb dX10_dropReceive_24 ?_
  refine lv_topi (fun x_13 ex_13 => ?_)
  have fx_13 : x_13.toInt = x_9.toInt + x_7.toInt := by have h9 := s_add (x := x_9) (y := x_7) (by omega) (by omega); rw [ex_13]; exact h9
  refine lv_icmp_ge (tgt := 90) hx hb dX10_dropReceive_25 (by decide) (fun c_14 => ?_) (fun c_14 => ?_)
  · simp only [lt_I, le_I, eq_I, i_0, i_1, i_2, i_3, i_4, i_5, i_6, i_7, i_8, i_10, i_12, i_16, i_20, i_23, i_24, i_31, i_32, i_63, i_64, i_m1, i_9, i_11, i_13, i_25, i_60, i_75, i_79, i_80, i_96, i_100] at c_14
    have hI8_15 : I8 (A 20) g_8 (A 37) (A 36) := by
      intro n9 hn9
      have h9 : 0 ≤ ((A 20) n9).toInt ∧ ((A 20) n9).toInt ≤ 4 ∧ 0 ≤ ((A 30) n9).toInt ∧ ((A 30) n9).toInt ≤ 4 ∧ 0 ≤ ((A 37) n9).toInt ∧ ((A 37) n9).toInt ≤ 2 ∧ (((A 36) n9).toInt = 0 ∨ 1 ≤ ((A 30) n9).toInt) := hI8 n9 hn9
      show 0 ≤ ((A 20) n9).toInt ∧ ((A 20) n9).toInt ≤ 4 ∧ 0 ≤ (g_8 n9).toInt ∧ (g_8 n9).toInt ≤ 4 ∧ 0 ≤ ((A 37) n9).toInt ∧ ((A 37) n9).toInt ≤ 2 ∧ (((A 36) n9).toInt = 0 ∨ 1 ≤ (g_8 n9).toInt)
      by_cases ezn_1 : n9 = n_1
      · rw [ezn_1] at h9 ⊢
        rw [sg_8]
        exact ⟨by first | exact h9.1 | omega, by first | exact h9.2.1 | omega, by first | exact h9.2.2.1 | omega, by first | exact h9.2.2.2.1 | omega, by first | exact h9.2.2.2.2.1 | omega, by first | exact h9.2.2.2.2.2.1 | omega, by first | exact h9.2.2.2.2.2.2 | omega⟩
      · rw [ng_8 n9 ezn_1]
        exact h9
    exact W.vret hx hb hr (fun t ht hW => ⟨⟨(g_8, (u_10.1), (u_10.2.1), (u_10.2.2.1), (u_10.2.2.2)), rfl, ⟨hI5_10, hI8_15, ⟨n_1, hn_1, x_7, ex_7, fx_7, g_8, eg_8, x_9, ex_9, fx_9, ix_10, u_10, hb_10, hI5_10, hx_10, x_13, ex_13, fx_13, c_14, rfl, rfl, rfl⟩⟩, (by show MH E h0 rf t0 t1 t2 (uA (uA (uA (uA (uA A 30 g_8) 32 (u_10.1)) 33 (u_10.2.1)) 34 (u_10.2.2.1)) 35 (u_10.2.2.2)) cd pk t.heap; rw [ht]; exact hM)⟩, hS.F ht⟩) hS.2.2 dX10_dropReceive_90
  · simp only [lt_I, le_I, eq_I, i_0, i_1, i_2, i_3, i_4, i_5, i_6, i_7, i_8, i_10, i_12, i_16, i_20, i_23, i_24, i_31, i_32, i_63, i_64, i_m1, i_9, i_11, i_13, i_25, i_60, i_75, i_79, i_80, i_96, i_100] at c_14
    refine lv_aload_n hx hb dX10_dropReceive_28 rfl (lv_at hl 1 rfl) ?_
    refine va_get (D := DG E) (ci := 10) (v := .ref (rf 32)) (C := RX10) (T := TX10) (N := 49) hx hb hts iw_X10 hown hK.1 (va_one hM.1) 0 rfl rfl 32 (by decide) (hts _ fl_X10_95) (fun _ h9 => h9) rfl dX10_dropReceive_29 ?_
    refine lv_iload_n hx hb dX10_dropReceive_32 rfl (lv_at hl 0 rfl) ?_
    refine lv_aload_n hx hb dX10_dropReceive_33 rfl (lv_at hl 1 rfl) ?_
    refine va_get (D := DG E) (ci := 10) (v := .ref (rf 32)) (C := RX10) (T := TX10) (N := 49) hx hb hts iw_X10 hown hK.1 (va_one hM.1) 0 rfl rfl 32 (by decide) (hts _ fl_X10_95) (fun _ h9 => h9) rfl dX10_dropReceive_34 ?_
    refine lv_iload_n hx hb dX10_dropReceive_37 rfl (lv_at hl 0 rfl) ?_
    refine lv_iconst (v := 1) hx hb dX10_dropReceive_38 (by decide) ?_
    refine lv_iadd hx hb dX10_dropReceive_39 ?_
    refine lv_topi (fun x_16 ex_16 => ?_)
    have fx_16 : x_16.toInt = ix_10.toInt + 1 := by have h9 := s_add (x := ix_10) (y := 1) (by rw [i_1]; omega) (by rw [i_1]; omega); rw [i_1] at h9; rw [ex_16]; exact h9
    have hi_17 : vp_in x_16 16 := vp_in_iff.mpr (by omega)
    have ha_18 : va_at (DG E) vwCl (rf 32, .inl (E.2.2 0, 16, .inl (u_10.1))) _ := hM.2 32 (by decide) (by decide) (by decide)
    obtain ⟨n_19, hn_19, en_19⟩ := s_nat (x := x_16) (by omega)
    refine va_iald (D := DG E) hx hb hK.1 (va_one ha_18) 0 0 rfl rfl hi_17 dX10_dropReceive_40 ?_
    refine W.eq (g2 := F0 m 41 ls [.int ((u_10.1) n_19), .int ix_10, .ref (rf 32)]) (by rw [en_19]) ?_
    have hk_20 : n_19 < 16 := by omega
    have q_21 : 0 ≤ ((u_10.1) n_19).toInt := (hI5_10 n_19 hk_20).1
    have q_22 : 0 ≤ ((u_10.2.2.2) n_19).toInt := (hI5_10 n_19 hk_20).2.1
    have q_23 : ((u_10.2.2.2) n_19).toInt ≤ ((u_10.2.1) n_19).toInt := (hI5_10 n_19 hk_20).2.2.1
    have q_24 : ((u_10.1) n_19).toInt + ((u_10.2.1) n_19).toInt ≤ 32 := (hI5_10 n_19 hk_20).2.2.2
    have hi_25 : vp_in ix_10 16 := vp_in_iff.mpr (by omega)
    have ha_26 : va_at (DG E) vwCl (rf 32, .inl (E.2.2 0, 16, .inl (u_10.1))) _ := hM.2 32 (by decide) (by decide) (by decide)
    obtain ⟨n_27, hn_27, en_27⟩ := s_nat (x := ix_10) (by omega)
    refine rr_iast (D := DG E) hx hb hK.1 0 ha_26 hS (by show G (rf 32) ≠ 0; rw [hR.2 32 (by decide) (by decide) (by decide)]; decide) rfl hi_25 dX10_dropReceive_41 (fun H locs hn ho hz hS => ?_)
    rw [en_27] at hn
    obtain ⟨g_26, eg_26⟩ : ∃ z : Nat → Int32, z = upd (u_10.1) n_27 ((u_10.1) n_19) := ⟨_, rfl⟩
    have sg_26 : g_26 n_27 = ((u_10.1) n_19) := by rw [eg_26]; exact upd_s
    have ng_26 : ∀ k, k ≠ n_27 → g_26 k = (u_10.1) k := fun k hk => by rw [eg_26]; exact upd_n hk
    have hn : va_at (DG E) vwCl (rf 32, .inl (E.2.2 0, 16, .inl g_26)) H := by rw [eg_26]; exact hn
    have hM : MH E h0 rf t0 t1 t2 (uA (uA (uA (uA (uA (uA A 30 g_8) 32 (u_10.1)) 33 (u_10.2.1)) 34 (u_10.2.2.1)) 35 (u_10.2.2.2)) 32 g_26) cd pk H := hM.w hR 32 (by decide) (by decide) (by decide) hn ho
    refine lv_aload_n hx hb dX10_dropReceive_42 rfl (lv_at hl 1 rfl) ?_
    refine va_get (D := DG E) (ci := 10) (v := .ref (rf 33)) (C := RX10) (T := TX10) (N := 49) hx hb hts iw_X10 hown hK.1 (va_one hM.1) 0 rfl rfl 33 (by decide) (hts _ fl_X10_98) (fun _ h9 => h9) rfl dX10_dropReceive_43 ?_
    refine lv_iload_n hx hb dX10_dropReceive_46 rfl (lv_at hl 0 rfl) ?_
    refine lv_aload_n hx hb dX10_dropReceive_47 rfl (lv_at hl 1 rfl) ?_
    refine va_get (D := DG E) (ci := 10) (v := .ref (rf 33)) (C := RX10) (T := TX10) (N := 49) hx hb hts iw_X10 hown hK.1 (va_one hM.1) 0 rfl rfl 33 (by decide) (hts _ fl_X10_98) (fun _ h9 => h9) rfl dX10_dropReceive_48 ?_
    refine lv_iload_n hx hb dX10_dropReceive_51 rfl (lv_at hl 0 rfl) ?_
    refine lv_iconst (v := 1) hx hb dX10_dropReceive_52 (by decide) ?_
    refine lv_iadd hx hb dX10_dropReceive_53 ?_
    refine W.eq (g2 := F0 m 54 ls [.int x_16, .ref (rf 33), .int ix_10, .ref (rf 33)]) (by rw [ex_16]) ?_
    have ha_28 : va_at (DG E) vwCl (rf 33, .inl (E.2.2 0, 16, .inl (u_10.2.1))) _ := hM.2 33 (by decide) (by decide) (by decide)
    refine va_iald (D := DG E) hx hb hK.1 (va_one ha_28) 0 0 rfl rfl hi_17 dX10_dropReceive_54 ?_
    refine W.eq (g2 := F0 m 55 ls [.int ((u_10.2.1) n_19), .int ix_10, .ref (rf 33)]) (by rw [en_19]) ?_
    have ha_29 : va_at (DG E) vwCl (rf 33, .inl (E.2.2 0, 16, .inl (u_10.2.1))) _ := hM.2 33 (by decide) (by decide) (by decide)
    refine rr_iast (D := DG E) hx hb hK.1 0 ha_29 hS (by show G (rf 33) ≠ 0; rw [hR.2 33 (by decide) (by decide) (by decide)]; decide) rfl hi_25 dX10_dropReceive_55 (fun H locs hn ho hz hS => ?_)
    rw [en_27] at hn
    obtain ⟨g_29, eg_29⟩ : ∃ z : Nat → Int32, z = upd (u_10.2.1) n_27 ((u_10.2.1) n_19) := ⟨_, rfl⟩
    have sg_29 : g_29 n_27 = ((u_10.2.1) n_19) := by rw [eg_29]; exact upd_s
    have ng_29 : ∀ k, k ≠ n_27 → g_29 k = (u_10.2.1) k := fun k hk => by rw [eg_29]; exact upd_n hk
    have hn : va_at (DG E) vwCl (rf 33, .inl (E.2.2 0, 16, .inl g_29)) H := by rw [eg_29]; exact hn
    have hM : MH E h0 rf t0 t1 t2 (uA (uA (uA (uA (uA (uA (uA A 30 g_8) 32 (u_10.1)) 33 (u_10.2.1)) 34 (u_10.2.2.1)) 35 (u_10.2.2.2)) 32 g_26) 33 g_29) cd pk H := hM.w hR 33 (by decide) (by decide) (by decide) hn ho
    refine lv_aload_n hx hb dX10_dropReceive_56 rfl (lv_at hl 1 rfl) ?_
    refine va_get (D := DG E) (ci := 10) (v := .ref (rf 34)) (C := RX10) (T := TX10) (N := 49) hx hb hts iw_X10 hown hK.1 (va_one hM.1) 0 rfl rfl 34 (by decide) (hts _ fl_X10_101) (fun _ h9 => h9) rfl dX10_dropReceive_57 ?_
    refine lv_iload_n hx hb dX10_dropReceive_60 rfl (lv_at hl 0 rfl) ?_
    refine lv_aload_n hx hb dX10_dropReceive_61 rfl (lv_at hl 1 rfl) ?_
    refine va_get (D := DG E) (ci := 10) (v := .ref (rf 34)) (C := RX10) (T := TX10) (N := 49) hx hb hts iw_X10 hown hK.1 (va_one hM.1) 0 rfl rfl 34 (by decide) (hts _ fl_X10_101) (fun _ h9 => h9) rfl dX10_dropReceive_62 ?_
    refine lv_iload_n hx hb dX10_dropReceive_65 rfl (lv_at hl 0 rfl) ?_
    refine lv_iconst (v := 1) hx hb dX10_dropReceive_66 (by decide) ?_
    refine lv_iadd hx hb dX10_dropReceive_67 ?_
    refine W.eq (g2 := F0 m 68 ls [.int x_16, .ref (rf 34), .int ix_10, .ref (rf 34)]) (by rw [ex_16]) ?_
    have ha_30 : va_at (DG E) vwCl (rf 34, .inl (E.2.2 0, 16, .inl (u_10.2.2.1))) _ := hM.2 34 (by decide) (by decide) (by decide)
    refine va_iald (D := DG E) hx hb hK.1 (va_one ha_30) 0 0 rfl rfl hi_17 dX10_dropReceive_68 ?_
    refine W.eq (g2 := F0 m 69 ls [.int ((u_10.2.2.1) n_19), .int ix_10, .ref (rf 34)]) (by rw [en_19]) ?_
    have ha_31 : va_at (DG E) vwCl (rf 34, .inl (E.2.2 0, 16, .inl (u_10.2.2.1))) _ := hM.2 34 (by decide) (by decide) (by decide)
    refine rr_iast (D := DG E) hx hb hK.1 0 ha_31 hS (by show G (rf 34) ≠ 0; rw [hR.2 34 (by decide) (by decide) (by decide)]; decide) rfl hi_25 dX10_dropReceive_69 (fun H locs hn ho hz hS => ?_)
    rw [en_27] at hn
    obtain ⟨g_31, eg_31⟩ : ∃ z : Nat → Int32, z = upd (u_10.2.2.1) n_27 ((u_10.2.2.1) n_19) := ⟨_, rfl⟩
    have sg_31 : g_31 n_27 = ((u_10.2.2.1) n_19) := by rw [eg_31]; exact upd_s
    have ng_31 : ∀ k, k ≠ n_27 → g_31 k = (u_10.2.2.1) k := fun k hk => by rw [eg_31]; exact upd_n hk
    have hn : va_at (DG E) vwCl (rf 34, .inl (E.2.2 0, 16, .inl g_31)) H := by rw [eg_31]; exact hn
    have hM : MH E h0 rf t0 t1 t2 (uA (uA (uA (uA (uA (uA (uA (uA A 30 g_8) 32 (u_10.1)) 33 (u_10.2.1)) 34 (u_10.2.2.1)) 35 (u_10.2.2.2)) 32 g_26) 33 g_29) 34 g_31) cd pk H := hM.w hR 34 (by decide) (by decide) (by decide) hn ho
    refine lv_aload_n hx hb dX10_dropReceive_70 rfl (lv_at hl 1 rfl) ?_
    refine va_get (D := DG E) (ci := 10) (v := .ref (rf 35)) (C := RX10) (T := TX10) (N := 49) hx hb hts iw_X10 hown hK.1 (va_one hM.1) 0 rfl rfl 35 (by decide) (hts _ fl_X10_104) (fun _ h9 => h9) rfl dX10_dropReceive_71 ?_
    refine lv_iload_n hx hb dX10_dropReceive_74 rfl (lv_at hl 0 rfl) ?_
    refine lv_aload_n hx hb dX10_dropReceive_75 rfl (lv_at hl 1 rfl) ?_
    refine va_get (D := DG E) (ci := 10) (v := .ref (rf 35)) (C := RX10) (T := TX10) (N := 49) hx hb hts iw_X10 hown hK.1 (va_one hM.1) 0 rfl rfl 35 (by decide) (hts _ fl_X10_104) (fun _ h9 => h9) rfl dX10_dropReceive_76 ?_
    refine lv_iload_n hx hb dX10_dropReceive_79 rfl (lv_at hl 0 rfl) ?_
    refine lv_iconst (v := 1) hx hb dX10_dropReceive_80 (by decide) ?_
    refine lv_iadd hx hb dX10_dropReceive_81 ?_
    refine W.eq (g2 := F0 m 82 ls [.int x_16, .ref (rf 35), .int ix_10, .ref (rf 35)]) (by rw [ex_16]) ?_
    have ha_32 : va_at (DG E) vwCl (rf 35, .inl (E.2.2 0, 16, .inl (u_10.2.2.2))) _ := hM.2 35 (by decide) (by decide) (by decide)
    refine va_iald (D := DG E) hx hb hK.1 (va_one ha_32) 0 0 rfl rfl hi_17 dX10_dropReceive_82 ?_
    refine W.eq (g2 := F0 m 83 ls [.int ((u_10.2.2.2) n_19), .int ix_10, .ref (rf 35)]) (by rw [en_19]) ?_
    have ha_33 : va_at (DG E) vwCl (rf 35, .inl (E.2.2 0, 16, .inl (u_10.2.2.2))) _ := hM.2 35 (by decide) (by decide) (by decide)
    refine rr_iast (D := DG E) hx hb hK.1 0 ha_33 hS (by show G (rf 35) ≠ 0; rw [hR.2 35 (by decide) (by decide) (by decide)]; decide) rfl hi_25 dX10_dropReceive_83 (fun H locs hn ho hz hS => ?_)
    rw [en_27] at hn
    obtain ⟨g_33, eg_33⟩ : ∃ z : Nat → Int32, z = upd (u_10.2.2.2) n_27 ((u_10.2.2.2) n_19) := ⟨_, rfl⟩
    have sg_33 : g_33 n_27 = ((u_10.2.2.2) n_19) := by rw [eg_33]; exact upd_s
    have ng_33 : ∀ k, k ≠ n_27 → g_33 k = (u_10.2.2.2) k := fun k hk => by rw [eg_33]; exact upd_n hk
    have hn : va_at (DG E) vwCl (rf 35, .inl (E.2.2 0, 16, .inl g_33)) H := by rw [eg_33]; exact hn
    have hM : MH E h0 rf t0 t1 t2 (uA (uA (uA (uA (uA (uA (uA (uA (uA A 30 g_8) 32 (u_10.1)) 33 (u_10.2.1)) 34 (u_10.2.2.1)) 35 (u_10.2.2.2)) 32 g_26) 33 g_29) 34 g_31) 35 g_33) cd pk H := hM.w hR 35 (by decide) (by decide) (by decide) hn ho
    obtain ⟨x_34, ex_34⟩ : ∃ z : Int32, ix_10 + Int32.ofInt 1 = z := ⟨_, rfl⟩
    have fx_34 : x_34.toInt = ix_10.toInt + 1 := by have h9 := s_add (x := ix_10) (y := 1) (by rw [i_1]; omega) (by rw [i_1]; omega); rw [i_1] at h9; rw [← ex_34]; exact h9
    refine lv_iinc (v := x_34) (lv' := [(2, .int x_34), (0, .ref h0), (1, .int p0)]) hx hb dX10_dropReceive_84 hl (k := 0) rfl ex_34 (by decide) rfl (fun ls hl => ?_)
    refine lv_goto (tgt := 14) hx hb dX10_dropReceive_87 (by decide) ?_
    have hI5_35 : I5 g_26 g_29 g_33 := by
      intro n9 hn9
      have h9 : 0 ≤ ((u_10.1) n9).toInt ∧ 0 ≤ ((u_10.2.2.2) n9).toInt ∧ ((u_10.2.2.2) n9).toInt ≤ ((u_10.2.1) n9).toInt ∧ ((u_10.1) n9).toInt + ((u_10.2.1) n9).toInt ≤ 32 := hI5_10 n9 hn9
      show 0 ≤ (g_26 n9).toInt ∧ 0 ≤ (g_33 n9).toInt ∧ (g_33 n9).toInt ≤ (g_29 n9).toInt ∧ (g_26 n9).toInt + (g_29 n9).toInt ≤ 32
      by_cases ezn_27 : n9 = n_27
      · rw [ezn_27] at h9 ⊢
        rw [sg_26]
        rw [sg_29]
        rw [sg_33]
        exact hI5_10 n_19 (by omega)
      · rw [ng_26 n9 ezn_27]
        rw [ng_29 n9 ezn_27]
        rw [ng_33 n9 ezn_27]
        exact h9
    obtain ⟨b9, hb9, s32, s33, s34, s35⟩ := hx_10
    obtain rfl : b9 = n_27 := by omega
    have e9 : n_19 = b9 + 1 := by omega
    have hX_36 : ∃ b : Nat, (b : Int) = x_34.toInt ∧ Sh (A 32) g_26 (4 * n_1) b ∧ Sh (A 33) g_29 (4 * n_1) b ∧ Sh (A 34) g_31 (4 * n_1) b ∧ Sh (A 35) g_33 (4 * n_1) b := ⟨b9 + 1, by omega, s32.s (by omega) (by rw [sg_26, e9]) (ng_26), s33.s (by omega) (by rw [sg_29, e9]) (ng_29), s34.s (by omega) (by rw [sg_31, e9]) (ng_31), s35.s (by omega) (by rw [sg_33, e9]) (ng_33)⟩
    exact ih_10 _ (by omega) _ _ _ ⟨x_34, (g_26, g_29, g_31, g_33), (by first | omega | decide), rfl, (by show MH E h0 rf t0 t1 t2 (uA (uA (uA (uA (uA A 30 g_8) 32 g_26) 33 g_29) 34 g_31) 35 g_33) cd pk _; exact hM.cge (funext fun j => (cgj j 35 rfl (fun a0 => (cgj j 34 rfl (fun a1 => (cgj j 33 rfl (fun a2 => (cgj j 32 rfl (fun a3 => (cgj j 30 rfl (fun a4 => (by simp only [uA_n a0, uA_n a1, uA_n a2, uA_n a3, uA_n a4]))))))))))))), hI5_35, hX_36, hS, hl⟩
theorem gdX10_answerOne_0 : (decode cX10_answerOne 0 = .ok (.aload_n 0, 1)) ∧ (decode cX10_answerOne 1 = .ok (.iload_n 1, 1)) ∧ (decode cX10_answerOne 2 = .ok (.aload_n 0, 1)) ∧ (decode cX10_answerOne 3 = .ok (.getfield 34, 3)) ∧ (decode cX10_answerOne 6 = .ok (.iload_n 1, 1)) ∧ (decode cX10_answerOne 7 = .ok (.iaload, 1)) ∧ (decode cX10_answerOne 8 = .ok (.invokevirtual 196, 3)) ∧ (decode cX10_answerOne 11 = .ok (.istore_n 2, 1)) ∧ (decode cX10_answerOne 12 = .ok (.aload_n 0, 1)) ∧ (decode cX10_answerOne 13 = .ok (.getfield 86, 3)) ∧ (decode cX10_answerOne 16 = .ok (.iload_n 2, 1)) ∧ (decode cX10_answerOne 17 = .ok (.iaload, 1)) ∧ (decode cX10_answerOne 18 = .ok (.aload_n 0, 1)) ∧ (decode cX10_answerOne 19 = .ok (.getfield 34, 3)) ∧ (decode cX10_answerOne 22 = .ok (.iload_n 1, 1)) ∧ (decode cX10_answerOne 23 = .ok (.iaload, 1)) := by decide +kernel
theorem dX10_answerOne_0 : decode cX10_answerOne 0 = .ok (.aload_n 0, 1) := gdX10_answerOne_0.1
theorem dX10_answerOne_1 : decode cX10_answerOne 1 = .ok (.iload_n 1, 1) := gdX10_answerOne_0.2.1
theorem dX10_answerOne_2 : decode cX10_answerOne 2 = .ok (.aload_n 0, 1) := gdX10_answerOne_0.2.2.1
theorem dX10_answerOne_3 : decode cX10_answerOne 3 = .ok (.getfield 34, 3) := gdX10_answerOne_0.2.2.2.1
theorem dX10_answerOne_6 : decode cX10_answerOne 6 = .ok (.iload_n 1, 1) := gdX10_answerOne_0.2.2.2.2.1
theorem dX10_answerOne_7 : decode cX10_answerOne 7 = .ok (.iaload, 1) := gdX10_answerOne_0.2.2.2.2.2.1
theorem dX10_answerOne_8 : decode cX10_answerOne 8 = .ok (.invokevirtual 196, 3) := gdX10_answerOne_0.2.2.2.2.2.2.1
theorem dX10_answerOne_11 : decode cX10_answerOne 11 = .ok (.istore_n 2, 1) := gdX10_answerOne_0.2.2.2.2.2.2.2.1
theorem dX10_answerOne_12 : decode cX10_answerOne 12 = .ok (.aload_n 0, 1) := gdX10_answerOne_0.2.2.2.2.2.2.2.2.1
theorem dX10_answerOne_13 : decode cX10_answerOne 13 = .ok (.getfield 86, 3) := gdX10_answerOne_0.2.2.2.2.2.2.2.2.2.1
theorem dX10_answerOne_16 : decode cX10_answerOne 16 = .ok (.iload_n 2, 1) := gdX10_answerOne_0.2.2.2.2.2.2.2.2.2.2.1
theorem dX10_answerOne_17 : decode cX10_answerOne 17 = .ok (.iaload, 1) := gdX10_answerOne_0.2.2.2.2.2.2.2.2.2.2.2.1
theorem dX10_answerOne_18 : decode cX10_answerOne 18 = .ok (.aload_n 0, 1) := gdX10_answerOne_0.2.2.2.2.2.2.2.2.2.2.2.2.1
theorem dX10_answerOne_19 : decode cX10_answerOne 19 = .ok (.getfield 34, 3) := gdX10_answerOne_0.2.2.2.2.2.2.2.2.2.2.2.2.2.1
theorem dX10_answerOne_22 : decode cX10_answerOne 22 = .ok (.iload_n 1, 1) := gdX10_answerOne_0.2.2.2.2.2.2.2.2.2.2.2.2.2.2.1
theorem dX10_answerOne_23 : decode cX10_answerOne 23 = .ok (.iaload, 1) := gdX10_answerOne_0.2.2.2.2.2.2.2.2.2.2.2.2.2.2.2
theorem gdX10_answerOne_24 : (decode cX10_answerOne 24 = .ok (.invokestatic 174, 3)) ∧ (decode cX10_answerOne 27 = .ok (.aload_n 0, 1)) ∧ (decode cX10_answerOne 28 = .ok (.iload_n 2, 1)) ∧ (decode cX10_answerOne 29 = .ok (.invokevirtual 178, 3)) ∧ (decode cX10_answerOne 32 = .ok (.iconst 1, 1)) ∧ (decode cX10_answerOne 33 = .ok (.isub, 1)) ∧ (decode cX10_answerOne 34 = .ok (.if_icmp .ne 7, 3)) ∧ (decode cX10_answerOne 37 = .ok (.iconst 1, 1)) ∧ (decode cX10_answerOne 38 = .ok (.goto 4, 3)) ∧ (decode cX10_answerOne 41 = .ok (.iconst 0, 1)) ∧ (decode cX10_answerOne 42 = .ok (.istore_n 3, 1)) ∧ (decode cX10_answerOne 43 = .ok (.aload_n 0, 1)) ∧ (decode cX10_answerOne 44 = .ok (.getfield 34, 3)) ∧ (decode cX10_answerOne 47 = .ok (.iload_n 1, 1)) ∧ (decode cX10_answerOne 48 = .ok (.aload_n 0, 1)) ∧ (decode cX10_answerOne 49 = .ok (.getfield 34, 3)) := by decide +kernel
theorem dX10_answerOne_24 : decode cX10_answerOne 24 = .ok (.invokestatic 174, 3) := gdX10_answerOne_24.1
theorem dX10_answerOne_27 : decode cX10_answerOne 27 = .ok (.aload_n 0, 1) := gdX10_answerOne_24.2.1
theorem dX10_answerOne_28 : decode cX10_answerOne 28 = .ok (.iload_n 2, 1) := gdX10_answerOne_24.2.2.1
theorem dX10_answerOne_29 : decode cX10_answerOne 29 = .ok (.invokevirtual 178, 3) := gdX10_answerOne_24.2.2.2.1
theorem dX10_answerOne_32 : decode cX10_answerOne 32 = .ok (.iconst 1, 1) := gdX10_answerOne_24.2.2.2.2.1
theorem dX10_answerOne_33 : decode cX10_answerOne 33 = .ok (.isub, 1) := gdX10_answerOne_24.2.2.2.2.2.1
theorem dX10_answerOne_34 : decode cX10_answerOne 34 = .ok (.if_icmp .ne 7, 3) := gdX10_answerOne_24.2.2.2.2.2.2.1
theorem dX10_answerOne_37 : decode cX10_answerOne 37 = .ok (.iconst 1, 1) := gdX10_answerOne_24.2.2.2.2.2.2.2.1
theorem dX10_answerOne_38 : decode cX10_answerOne 38 = .ok (.goto 4, 3) := gdX10_answerOne_24.2.2.2.2.2.2.2.2.1
theorem dX10_answerOne_41 : decode cX10_answerOne 41 = .ok (.iconst 0, 1) := gdX10_answerOne_24.2.2.2.2.2.2.2.2.2.1
theorem dX10_answerOne_42 : decode cX10_answerOne 42 = .ok (.istore_n 3, 1) := gdX10_answerOne_24.2.2.2.2.2.2.2.2.2.2.1
theorem dX10_answerOne_43 : decode cX10_answerOne 43 = .ok (.aload_n 0, 1) := gdX10_answerOne_24.2.2.2.2.2.2.2.2.2.2.2.1
theorem dX10_answerOne_44 : decode cX10_answerOne 44 = .ok (.getfield 34, 3) := gdX10_answerOne_24.2.2.2.2.2.2.2.2.2.2.2.2.1
theorem dX10_answerOne_47 : decode cX10_answerOne 47 = .ok (.iload_n 1, 1) := gdX10_answerOne_24.2.2.2.2.2.2.2.2.2.2.2.2.2.1
theorem dX10_answerOne_48 : decode cX10_answerOne 48 = .ok (.aload_n 0, 1) := gdX10_answerOne_24.2.2.2.2.2.2.2.2.2.2.2.2.2.2.1
theorem dX10_answerOne_49 : decode cX10_answerOne 49 = .ok (.getfield 34, 3) := gdX10_answerOne_24.2.2.2.2.2.2.2.2.2.2.2.2.2.2.2
theorem gdX10_answerOne_52 : (decode cX10_answerOne 52 = .ok (.iload_n 1, 1)) ∧ (decode cX10_answerOne 53 = .ok (.iaload, 1)) ∧ (decode cX10_answerOne 54 = .ok (.iconst 1, 1)) ∧ (decode cX10_answerOne 55 = .ok (.iadd, 1)) ∧ (decode cX10_answerOne 56 = .ok (.bipush 64, 2)) ∧ (decode cX10_answerOne 58 = .ok (.irem, 1)) ∧ (decode cX10_answerOne 59 = .ok (.iastore, 1)) ∧ (decode cX10_answerOne 60 = .ok (.aload_n 0, 1)) ∧ (decode cX10_answerOne 61 = .ok (.getfield 43, 3)) ∧ (decode cX10_answerOne 64 = .ok (.iload_n 1, 1)) ∧ (decode cX10_answerOne 65 = .ok (.iconst 0, 1)) ∧ (decode cX10_answerOne 66 = .ok (.iastore, 1)) ∧ (decode cX10_answerOne 67 = .ok (.aload_n 0, 1)) ∧ (decode cX10_answerOne 68 = .ok (.getfield 46, 3)) ∧ (decode cX10_answerOne 71 = .ok (.iload_n 1, 1)) ∧ (decode cX10_answerOne 72 = .ok (.iconst 0, 1)) := by decide +kernel
theorem dX10_answerOne_52 : decode cX10_answerOne 52 = .ok (.iload_n 1, 1) := gdX10_answerOne_52.1
theorem dX10_answerOne_53 : decode cX10_answerOne 53 = .ok (.iaload, 1) := gdX10_answerOne_52.2.1
theorem dX10_answerOne_54 : decode cX10_answerOne 54 = .ok (.iconst 1, 1) := gdX10_answerOne_52.2.2.1
theorem dX10_answerOne_55 : decode cX10_answerOne 55 = .ok (.iadd, 1) := gdX10_answerOne_52.2.2.2.1
theorem dX10_answerOne_56 : decode cX10_answerOne 56 = .ok (.bipush 64, 2) := gdX10_answerOne_52.2.2.2.2.1
theorem dX10_answerOne_58 : decode cX10_answerOne 58 = .ok (.irem, 1) := gdX10_answerOne_52.2.2.2.2.2.1
theorem dX10_answerOne_59 : decode cX10_answerOne 59 = .ok (.iastore, 1) := gdX10_answerOne_52.2.2.2.2.2.2.1
theorem dX10_answerOne_60 : decode cX10_answerOne 60 = .ok (.aload_n 0, 1) := gdX10_answerOne_52.2.2.2.2.2.2.2.1
theorem dX10_answerOne_61 : decode cX10_answerOne 61 = .ok (.getfield 43, 3) := gdX10_answerOne_52.2.2.2.2.2.2.2.2.1
theorem dX10_answerOne_64 : decode cX10_answerOne 64 = .ok (.iload_n 1, 1) := gdX10_answerOne_52.2.2.2.2.2.2.2.2.2.1
theorem dX10_answerOne_65 : decode cX10_answerOne 65 = .ok (.iconst 0, 1) := gdX10_answerOne_52.2.2.2.2.2.2.2.2.2.2.1
theorem dX10_answerOne_66 : decode cX10_answerOne 66 = .ok (.iastore, 1) := gdX10_answerOne_52.2.2.2.2.2.2.2.2.2.2.2.1
theorem dX10_answerOne_67 : decode cX10_answerOne 67 = .ok (.aload_n 0, 1) := gdX10_answerOne_52.2.2.2.2.2.2.2.2.2.2.2.2.1
theorem dX10_answerOne_68 : decode cX10_answerOne 68 = .ok (.getfield 46, 3) := gdX10_answerOne_52.2.2.2.2.2.2.2.2.2.2.2.2.2.1
theorem dX10_answerOne_71 : decode cX10_answerOne 71 = .ok (.iload_n 1, 1) := gdX10_answerOne_52.2.2.2.2.2.2.2.2.2.2.2.2.2.2.1
theorem dX10_answerOne_72 : decode cX10_answerOne 72 = .ok (.iconst 0, 1) := gdX10_answerOne_52.2.2.2.2.2.2.2.2.2.2.2.2.2.2.2
theorem gdX10_answerOne_73 : (decode cX10_answerOne 73 = .ok (.iastore, 1)) ∧ (decode cX10_answerOne 74 = .ok (.aload_n 0, 1)) ∧ (decode cX10_answerOne 75 = .ok (.getfield 49, 3)) ∧ (decode cX10_answerOne 78 = .ok (.iload_n 1, 1)) ∧ (decode cX10_answerOne 79 = .ok (.iconst 0, 1)) ∧ (decode cX10_answerOne 80 = .ok (.iastore, 1)) ∧ (decode cX10_answerOne 81 = .ok (.aload_n 0, 1)) ∧ (decode cX10_answerOne 82 = .ok (.getfield 52, 3)) ∧ (decode cX10_answerOne 85 = .ok (.iload_n 1, 1)) ∧ (decode cX10_answerOne 86 = .ok (.iconst 0, 1)) ∧ (decode cX10_answerOne 87 = .ok (.bastore, 1)) ∧ (decode cX10_answerOne 88 = .ok (.iload_n 3, 1)) ∧ (decode cX10_answerOne 89 = .ok (.ifCond .ne 4, 3)) ∧ (decode cX10_answerOne 92 = .ok (.return_, 1)) ∧ (decode cX10_answerOne 93 = .ok (.aload_n 0, 1)) ∧ (decode cX10_answerOne 94 = .ok (.iload_n 1, 1)) := by decide +kernel
theorem dX10_answerOne_73 : decode cX10_answerOne 73 = .ok (.iastore, 1) := gdX10_answerOne_73.1
theorem dX10_answerOne_74 : decode cX10_answerOne 74 = .ok (.aload_n 0, 1) := gdX10_answerOne_73.2.1
theorem dX10_answerOne_75 : decode cX10_answerOne 75 = .ok (.getfield 49, 3) := gdX10_answerOne_73.2.2.1
theorem dX10_answerOne_78 : decode cX10_answerOne 78 = .ok (.iload_n 1, 1) := gdX10_answerOne_73.2.2.2.1
theorem dX10_answerOne_79 : decode cX10_answerOne 79 = .ok (.iconst 0, 1) := gdX10_answerOne_73.2.2.2.2.1
theorem dX10_answerOne_80 : decode cX10_answerOne 80 = .ok (.iastore, 1) := gdX10_answerOne_73.2.2.2.2.2.1
theorem dX10_answerOne_81 : decode cX10_answerOne 81 = .ok (.aload_n 0, 1) := gdX10_answerOne_73.2.2.2.2.2.2.1
theorem dX10_answerOne_82 : decode cX10_answerOne 82 = .ok (.getfield 52, 3) := gdX10_answerOne_73.2.2.2.2.2.2.2.1
theorem dX10_answerOne_85 : decode cX10_answerOne 85 = .ok (.iload_n 1, 1) := gdX10_answerOne_73.2.2.2.2.2.2.2.2.1
theorem dX10_answerOne_86 : decode cX10_answerOne 86 = .ok (.iconst 0, 1) := gdX10_answerOne_73.2.2.2.2.2.2.2.2.2.1
theorem dX10_answerOne_87 : decode cX10_answerOne 87 = .ok (.bastore, 1) := gdX10_answerOne_73.2.2.2.2.2.2.2.2.2.2.1
theorem dX10_answerOne_88 : decode cX10_answerOne 88 = .ok (.iload_n 3, 1) := gdX10_answerOne_73.2.2.2.2.2.2.2.2.2.2.2.1
theorem dX10_answerOne_89 : decode cX10_answerOne 89 = .ok (.ifCond .ne 4, 3) := gdX10_answerOne_73.2.2.2.2.2.2.2.2.2.2.2.2.1
theorem dX10_answerOne_92 : decode cX10_answerOne 92 = .ok (.return_, 1) := gdX10_answerOne_73.2.2.2.2.2.2.2.2.2.2.2.2.2.1
theorem dX10_answerOne_93 : decode cX10_answerOne 93 = .ok (.aload_n 0, 1) := gdX10_answerOne_73.2.2.2.2.2.2.2.2.2.2.2.2.2.2.1
theorem dX10_answerOne_94 : decode cX10_answerOne 94 = .ok (.iload_n 1, 1) := gdX10_answerOne_73.2.2.2.2.2.2.2.2.2.2.2.2.2.2.2
theorem gdX10_answerOne_95 : (decode cX10_answerOne 95 = .ok (.aload_n 0, 1)) ∧ (decode cX10_answerOne 96 = .ok (.getfield 65, 3)) ∧ (decode cX10_answerOne 99 = .ok (.iload_n 2, 1)) ∧ (decode cX10_answerOne 100 = .ok (.iaload, 1)) ∧ (decode cX10_answerOne 101 = .ok (.aload_n 0, 1)) ∧ (decode cX10_answerOne 102 = .ok (.getfield 83, 3)) ∧ (decode cX10_answerOne 105 = .ok (.iload_n 2, 1)) ∧ (decode cX10_answerOne 106 = .ok (.iaload, 1)) ∧ (decode cX10_answerOne 107 = .ok (.iconst 0, 1)) ∧ (decode cX10_answerOne 108 = .ok (.aload_n 0, 1)) ∧ (decode cX10_answerOne 109 = .ok (.getfield 71, 3)) ∧ (decode cX10_answerOne 112 = .ok (.iload_n 2, 1)) ∧ (decode cX10_answerOne 113 = .ok (.iaload, 1)) ∧ (decode cX10_answerOne 114 = .ok (.invokevirtual 207, 3)) ∧ (decode cX10_answerOne 117 = .ok (.aload_n 0, 1)) ∧ (decode cX10_answerOne 118 = .ok (.iload_n 1, 1)) := by decide +kernel
theorem dX10_answerOne_95 : decode cX10_answerOne 95 = .ok (.aload_n 0, 1) := gdX10_answerOne_95.1
theorem dX10_answerOne_96 : decode cX10_answerOne 96 = .ok (.getfield 65, 3) := gdX10_answerOne_95.2.1
theorem dX10_answerOne_99 : decode cX10_answerOne 99 = .ok (.iload_n 2, 1) := gdX10_answerOne_95.2.2.1
theorem dX10_answerOne_100 : decode cX10_answerOne 100 = .ok (.iaload, 1) := gdX10_answerOne_95.2.2.2.1
theorem dX10_answerOne_101 : decode cX10_answerOne 101 = .ok (.aload_n 0, 1) := gdX10_answerOne_95.2.2.2.2.1
theorem dX10_answerOne_102 : decode cX10_answerOne 102 = .ok (.getfield 83, 3) := gdX10_answerOne_95.2.2.2.2.2.1
theorem dX10_answerOne_105 : decode cX10_answerOne 105 = .ok (.iload_n 2, 1) := gdX10_answerOne_95.2.2.2.2.2.2.1
theorem dX10_answerOne_106 : decode cX10_answerOne 106 = .ok (.iaload, 1) := gdX10_answerOne_95.2.2.2.2.2.2.2.1
theorem dX10_answerOne_107 : decode cX10_answerOne 107 = .ok (.iconst 0, 1) := gdX10_answerOne_95.2.2.2.2.2.2.2.2.1
theorem dX10_answerOne_108 : decode cX10_answerOne 108 = .ok (.aload_n 0, 1) := gdX10_answerOne_95.2.2.2.2.2.2.2.2.2.1
theorem dX10_answerOne_109 : decode cX10_answerOne 109 = .ok (.getfield 71, 3) := gdX10_answerOne_95.2.2.2.2.2.2.2.2.2.2.1
theorem dX10_answerOne_112 : decode cX10_answerOne 112 = .ok (.iload_n 2, 1) := gdX10_answerOne_95.2.2.2.2.2.2.2.2.2.2.2.1
theorem dX10_answerOne_113 : decode cX10_answerOne 113 = .ok (.iaload, 1) := gdX10_answerOne_95.2.2.2.2.2.2.2.2.2.2.2.2.1
theorem dX10_answerOne_114 : decode cX10_answerOne 114 = .ok (.invokevirtual 207, 3) := gdX10_answerOne_95.2.2.2.2.2.2.2.2.2.2.2.2.2.1
theorem dX10_answerOne_117 : decode cX10_answerOne 117 = .ok (.aload_n 0, 1) := gdX10_answerOne_95.2.2.2.2.2.2.2.2.2.2.2.2.2.2.1
theorem dX10_answerOne_118 : decode cX10_answerOne 118 = .ok (.iload_n 1, 1) := gdX10_answerOne_95.2.2.2.2.2.2.2.2.2.2.2.2.2.2.2
theorem dX10_answerOne_119 : decode cX10_answerOne 119 = .ok (.invokevirtual 211, 3) := by decide +kernel
theorem dX10_answerOne_122 : decode cX10_answerOne 122 = .ok (.return_, 1) := by decide +kernel
set_option maxHeartbeats 8000000 in
set_option maxRecDepth 100000 in
theorem u_X10_answerOne (l : Launch) (E : EE) (z0 : Nat) (G : Nat → Nat) (hGz : ∀ q, G q ≠ 0 → z0 ≤ q) (h0 : Nat) (rf : Nat → Nat) (hR : MG G h0 rf) (t0 t1 t2 : Int32) (A : AA) (cd pk : Int32) (p0 : Int32) (hI3 : I3 (A 8)) (hI4 : I4 (A 10) (A 20) (A 29) (A 24) (A 11) (A 12) (A 13)) (hI6 : I6 (A 22) (A 23) (A 24) (A 25) (A 26)) (hI8 : I8 (A 20) (A 30) (A 37) (A 36)) (hy0 : 0 ≤ p0.toInt ∧ p0.toInt ≤ 3) (hy1 : ∀ n : Nat, (n : Int) = p0.toInt → ((A 10) n).toInt = 1 ∧ ((A 13) n).toInt ≠ ((A 12) n).toInt) : Met l yX10_answerOne [Cond.code yX10_answerOne cX10_answerOne 4 none] ({ frames := 2, cells := 0, slots := 0, locals := 47 } : Room) (va_Pc [.ref h0, .int p0] (fun U => MH E h0 rf t0 t1 t2 A cd pk U.heap ∧ KS E z0 U)) (va_Qv (fun (u : (Nat → Int32) × (Nat → Int32) × (Nat → Int32) × (Nat → Int32) × (Nat → Int32) × (Nat → Int32) × (Nat → Int32) × (Nat → Int32) × (Nat → Int32) × (Nat → Int32) × (Nat → Int32) × (Nat → Int32) × (Nat → Int32) × (Nat → Int32) × (Nat → Int32) × (Nat → Int32)) => (I3 (u.1)) ∧ (I4 (A 10) (u.2.2.2.2.2.2.2.1) (u.2.2.2.2.2.2.2.2.2.2.2.2.2.2.2) (u.2.2.2.2.2.2.2.2.2.2.1) (A 11) (u.2.2.1) (A 13)) ∧ (I6 (u.2.2.2.2.2.2.2.2.1) (u.2.2.2.2.2.2.2.2.2.1) (u.2.2.2.2.2.2.2.2.2.2.1) (u.2.2.2.2.2.2.2.2.2.2.2.1) (u.2.2.2.2.2.2.2.2.2.2.2.2.1)) ∧ (I8 (u.2.2.2.2.2.2.2.1) (A 30) (A 37) (A 36)) ∧ (∀ n : Nat, (n : Int) = p0.toInt → (farI ((u.2.2.1) n) ((A 13) n)).toInt = (farI ((A 12) n) ((A 13) n)).toInt - 1) ∧ (D_X10_answerOne A cd pk p0 (uA (uA (uA (uA (uA (uA (uA (uA (uA (uA (uA (uA (uA (uA (uA (uA A 8 (u.1)) 9 (u.2.1)) 12 (u.2.2.1)) 15 (u.2.2.2.1)) 16 (u.2.2.2.2.1)) 17 (u.2.2.2.2.2.1)) 18 (u.2.2.2.2.2.2.1)) 20 (u.2.2.2.2.2.2.2.1)) 22 (u.2.2.2.2.2.2.2.2.1)) 23 (u.2.2.2.2.2.2.2.2.2.1)) 24 (u.2.2.2.2.2.2.2.2.2.2.1)) 25 (u.2.2.2.2.2.2.2.2.2.2.2.1)) 26 (u.2.2.2.2.2.2.2.2.2.2.2.2.1)) 27 (u.2.2.2.2.2.2.2.2.2.2.2.2.2.1)) 28 (u.2.2.2.2.2.2.2.2.2.2.2.2.2.2.1)) 29 (u.2.2.2.2.2.2.2.2.2.2.2.2.2.2.2)) cd pk)) (fun u t => MH E h0 rf t0 t1 t2 (uA (uA (uA (uA (uA (uA (uA (uA (uA (uA (uA (uA (uA (uA (uA (uA A 8 (u.1)) 9 (u.2.1)) 12 (u.2.2.1)) 15 (u.2.2.2.1)) 16 (u.2.2.2.2.1)) 17 (u.2.2.2.2.2.1)) 18 (u.2.2.2.2.2.2.1)) 20 (u.2.2.2.2.2.2.2.1)) 22 (u.2.2.2.2.2.2.2.2.1)) 23 (u.2.2.2.2.2.2.2.2.2.1)) 24 (u.2.2.2.2.2.2.2.2.2.2.1)) 25 (u.2.2.2.2.2.2.2.2.2.2.2.1)) 26 (u.2.2.2.2.2.2.2.2.2.2.2.2.1)) 27 (u.2.2.2.2.2.2.2.2.2.2.2.2.2.1)) 28 (u.2.2.2.2.2.2.2.2.2.2.2.2.2.2.1)) 29 (u.2.2.2.2.2.2.2.2.2.2.2.2.2.2.2)) cd pk t.heap) (fun q : Nat => G q ≠ 0)) 0 0 (fun q : Nat => G q ≠ 0) := by
  refine Met.ofW (cc := cX10_answerOne) (maxL := 4) (ret := none) (by decide) rfl ?_
  intro p e s m args below meth c s₁ B hml hv
  obtain ⟨rfl, hM, hK⟩ := hv
  have hx := B.exec
  have hb := B.bytes
  have hr := B.returns
  have hts : ∀ w ∈ TS, w.before ([.ref h0, .int p0] : List Value).toArray s = true := fun w hw => hK.2.1 w hw _
  have hown : s.vm.findClass RX10 = some m.cls := findClass_of_methodNamed B.named
  have hlocks := B.notSynchronized
  have hS : va_S (fun q : Nat => G q ≠ 0) s.heap s.heap [] := va_S.rf
  have hAz : ∀ q, (fun q : Nat => G q ≠ 0) q → z0 ≤ q := hGz
  have hl := lv_entry ([.ref h0, .int p0]) (n := 4) (Nat.le_of_ble_eq_true rfl)
  rw [lg_entry_eq]
  generalize (lg_sl ([.ref h0, .int p0]) ++ List.replicate (4 - (lg_sl ([.ref h0, .int p0])).length) Slot.unset).toArray = ls at hl ⊢
  have hl : lv_has ls 4 [(0, .ref h0), (1, .int p0)] := hl
  obtain ⟨n_1, hn_1, en_1⟩ := s_nat (x := p0) (by omega)
  obtain ⟨hst0, hne0⟩ := hy1 n_1 (by omega)
  have hP0 := (hI4 n_1 (by omega)).1 hst0
  have rg0 := hP0.rng
  have hr4 : ((A 20) n_1).toInt ≤ 4 := (hI8 n_1 (by omega)).2.1
  refine lv_aload_n hx hb dX10_answerOne_0 rfl (lv_at hl 0 rfl) ?_
  refine lv_iload_n hx hb dX10_answerOne_1 rfl (lv_at hl 1 rfl) ?_
  refine lv_aload_n hx hb dX10_answerOne_2 rfl (lv_at hl 0 rfl) ?_
  refine va_get (D := DG E) (ci := 10) (v := .ref (rf 12)) (C := RX10) (T := TX10) (N := 49) hx hb hts iw_X10 hown hK.1 (va_one hM.1) 0 rfl rfl 12 (by decide) (hts _ fl_X10_34) (fun _ h9 => h9) rfl dX10_answerOne_3 ?_
  refine lv_iload_n hx hb dX10_answerOne_6 rfl (lv_at hl 1 rfl) ?_
  have hi_2 : vp_in p0 4 := vp_in_iff.mpr (by omega)
  have ha_3 : va_at (DG E) vwCl (rf 12, .inl (E.2.2 0, 4, .inl (A 12))) _ := hM.2 12 (by decide) (by decide) (by decide)
  refine va_iald (D := DG E) hx hb hK.1 (va_one ha_3) 0 0 rfl rfl hi_2 dX10_answerOne_7 ?_
  refine W.eq (g2 := F0 m 8 ls [.int ((A 12) n_1), .int p0, .ref h0]) (by rw [en_1]) ?_
  refine va_calli (rnV (fun H => MH E h0 rf t0 t1 t2 A cd pk H) (As := [.int p0, .int ((A 12) n_1)]) (rest := []) ⟨hx, hb, hml, hown, hts⟩ (u_X10_requestOf l E z0 G hGz h0 rf hR t0 t1 t2 A cd pk p0 ((A 12) n_1) hI6 (show 0 ≤ p0.toInt ∧ p0.toInt ≤ 3 from by first | decide | omega)) (cwV 2 hts (gdV ml_X10_196 im_X10_requestOf se_X10_X10_requestOf in_X10 co_X10_requestOf rfl) rfl rfl rfl (by decide +kernel) ⟨Nat.le_of_ble_eq_true rfl, Nat.le_of_ble_eq_true rfl⟩) hM (fun U hU hW => hK.go hW hS hAz hU) (va_recv hK.1 (va_one hM.1) (ci := 10) (q0 := 0) rfl rfl) rfl rfl hl.1 rfl (lv_room (Nat.le_of_ble_eq_true rfl)) dX10_answerOne_8 ⟨Nat.le_of_ble_eq_true rfl, Nat.le_of_ble_eq_true rfl⟩) hS (fun q _ h => h.elim) (fun q h => h.elim) (fun r_4 ur_4 t H locs ht hvm hwr_4 hB hz hk hS => ?_)
  have hM := hM.kept (fun q hq => hk q hq (fun h => h))
  have hpr_4_0 : 0 ≤ r_4.toInt ∧ r_4.toInt ≤ 15 := hwr_4.1
  have hpr_4_1 : ∀ n : Nat, (n : Int) = p0.toInt → RO (A 29) (A 24) n ((A 12) n_1) r_4.toInt := hwr_4.2
  have iahpr_4_1 := hpr_4_1 n_1 (by omega)
  obtain ⟨er0, h1n, hk0, hk1, hz0, hz1, hfar, hA, hB0⟩ := hP0.ans hne0 iahpr_4_1
  obtain ⟨n_5, hn_5, en_5⟩ := s_nat (x := r_4) (by omega)
  have e9 : n_5 = 4 * n_1 := by omega
  subst e9
  refine lv_istore_n (lv' := [(2, .int r_4), (0, .ref h0), (1, .int p0)]) hx hb dX10_answerOne_11 rfl hl (by decide) rfl (fun ls hl => ?_)
  refine lv_aload_n hx hb dX10_answerOne_12 rfl (lv_at hl 1 rfl) ?_
  refine va_get (D := DG E) (ci := 10) (v := .ref (rf 29)) (C := RX10) (T := TX10) (N := 49) hx hb hts iw_X10 hown hK.1 (va_one hM.1) 0 rfl rfl 29 (by decide) (hts _ fl_X10_86) (fun _ h9 => h9) rfl dX10_answerOne_13 ?_
  refine lv_iload_n hx hb dX10_answerOne_16 rfl (lv_at hl 0 rfl) ?_
  have hi_6 : vp_in r_4 16 := vp_in_iff.mpr (by omega)
  have ha_7 : va_at (DG E) vwCl (rf 29, .inl (E.2.2 0, 16, .inl (A 29))) _ := hM.2 29 (by decide) (by decide) (by decide)
  refine va_iald (D := DG E) hx hb hK.1 (va_one ha_7) 0 0 rfl rfl hi_6 dX10_answerOne_17 ?_
  refine W.eq (g2 := F0 m 18 ls [.int ((A 29) (4 * n_1))]) (by rw [en_5]) ?_
  refine lv_aload_n hx hb dX10_answerOne_18 rfl (lv_at hl 1 rfl) ?_
  refine va_get (D := DG E) (ci := 10) (v := .ref (rf 12)) (C := RX10) (T := TX10) (N := 49) hx hb hts iw_X10 hown hK.1 (va_one hM.1) 0 rfl rfl 12 (by decide) (hts _ fl_X10_34) (fun _ h9 => h9) rfl dX10_answerOne_19 ?_
  refine lv_iload_n hx hb dX10_answerOne_22 rfl (lv_at hl 2 rfl) ?_
  have ha_8 : va_at (DG E) vwCl (rf 12, .inl (E.2.2 0, 4, .inl (A 12))) _ := hM.2 12 (by decide) (by decide) (by decide)
  refine va_iald (D := DG E) hx hb hK.1 (va_one ha_8) 0 0 rfl rfl hi_2 dX10_answerOne_23 ?_
  refine W.eq (g2 := F0 m 24 ls [.int ((A 12) n_1), .int ((A 29) (4 * n_1))]) (by rw [en_1]) ?_
  refine W.callR (W.runS (As := [.int ((A 29) (4 * n_1)), .int ((A 12) n_1)]) (rest := []) ⟨hx, hb, hml, hown, hts⟩ (c_X10_far l (((A 29) (4 * n_1))) (((A 12) n_1))) (cwS 2 hts (gdS ml_X10_174 st_X10_far in_X10 co_X10_far rfl) rfl rfl rfl (by decide +kernel) ⟨Nat.le_of_ble_eq_true rfl, Nat.le_of_ble_eq_true rfl⟩) preEq rfl rfl hl.1 rfl (lv_room (Nat.le_of_ble_eq_true rfl)) dX10_answerOne_24 ⟨Nat.le_of_ble_eq_true rfl, Nat.le_of_ble_eq_true rfl⟩) ?_
  refine W.eq (g2 := F0 m 27 ls [.int (((((A 12) n_1) - ((A 29) (4 * n_1))) + 64) - ((((A 12) n_1) - ((A 29) (4 * n_1))) + 64) / 64 * 64)]) (by rfl) ?_
  refine lv_topi (fun x_9 ex_9 => ?_)
  have kx_9 : x_9.toInt = (farI ((A 29) (4 * n_1)) ((A 12) n_1)).toInt := by rw [ex_9]; rfl
  refine lv_aload_n hx hb dX10_answerOne_27 rfl (lv_at hl 1 rfl) ?_
  refine lv_iload_n hx hb dX10_answerOne_28 rfl (lv_at hl 0 rfl) ?_
  refine va_calli (rnV (fun H => MH E h0 rf t0 t1 t2 A cd pk H) (As := [.int r_4]) (rest := [.int x_9]) ⟨hx, hb, hml, hown, hts⟩ (u_X10_numbersOf l E z0 G hGz h0 rf hR t0 t1 t2 A cd pk r_4 hI6 (show 0 ≤ r_4.toInt ∧ r_4.toInt ≤ 15 from by first | decide | omega)) (cwV 1 hts (gdV ml_X10_178 im_X10_numbersOf se_X10_X10_numbersOf in_X10 co_X10_numbersOf rfl) rfl rfl rfl (by decide +kernel) ⟨Nat.le_of_ble_eq_true rfl, Nat.le_of_ble_eq_true rfl⟩) hM (fun U hU hW => hK.go hW hS hAz hU) (va_recv hK.1 (va_one hM.1) (ci := 10) (q0 := 0) rfl rfl) rfl rfl hl.1 rfl (lv_room (Nat.le_of_ble_eq_true rfl)) dX10_answerOne_29 ⟨Nat.le_of_ble_eq_true rfl, Nat.le_of_ble_eq_true rfl⟩) hS (fun q _ h => h.elim) (fun q h => h.elim) (fun r_10 ur_10 t H locs ht hvm hwr_10 hB hz hk hS => ?_)
  have hM := hM.kept (fun q hq => hk q hq (fun h => h))
  have hDr_10 : D_X10_numbersOf A cd pk r_4 r_10 := hwr_10.2.2
  have hpr_10_0 : 0 ≤ r_10.toInt ∧ r_10.toInt ≤ 3 := hwr_10.1
  have hpr_10_1 : ∀ n : Nat, (n : Int) = r_4.toInt → r_10.toInt = NB (A 24) n := hwr_10.2.1
  have iahpr_10_1 := hpr_10_1 (4 * n_1) (by omega)
  refine lv_iconst (v := 1) hx hb dX10_answerOne_32 (by decide) ?_
  refine lv_isub hx hb dX10_answerOne_33 ?_
  refine lv_topi (fun x_11 ex_11 => ?_)
  have fx_11 : x_11.toInt = r_10.toInt - 1 := by have h9 := s_sub (x := r_10) (y := 1) (by rw [i_1]; omega) (by rw [i_1]; omega); rw [i_1] at h9; rw [ex_11]; exact h9
  refine lv_icmp_ne (tgt := 41) hx hb dX10_answerOne_34 (by decide) (fun c_12 => ?_) (fun c_12 => ?_)
  · simp only [lt_I, le_I, eq_I, i_0, i_1, i_2, i_3, i_4, i_5, i_6, i_7, i_8, i_10, i_12, i_16, i_20, i_23, i_24, i_31, i_32, i_63, i_64, i_m1, i_9, i_11, i_13, i_25, i_60, i_75, i_79, i_80, i_96, i_100] at c_12
    refine lv_iconst (v := 0) hx hb dX10_answerOne_41 (by decide) ?_
    refine lv_istore_n (lv' := [(3, .int 0), (2, .int r_4), (0, .ref h0), (1, .int p0)]) hx hb dX10_answerOne_42 rfl hl (by decide) rfl (fun ls hl => ?_)
    refine lv_aload_n hx hb dX10_answerOne_43 rfl (lv_at hl 2 rfl) ?_
    refine va_get (D := DG E) (ci := 10) (v := .ref (rf 12)) (C := RX10) (T := TX10) (N := 49) hx hb hts iw_X10 hown hK.1 (va_one hM.1) 0 rfl rfl 12 (by decide) (hts _ fl_X10_34) (fun _ h9 => h9) rfl dX10_answerOne_44 ?_
    refine lv_iload_n hx hb dX10_answerOne_47 rfl (lv_at hl 3 rfl) ?_
    refine lv_aload_n hx hb dX10_answerOne_48 rfl (lv_at hl 2 rfl) ?_
    refine va_get (D := DG E) (ci := 10) (v := .ref (rf 12)) (C := RX10) (T := TX10) (N := 49) hx hb hts iw_X10 hown hK.1 (va_one hM.1) 0 rfl rfl 12 (by decide) (hts _ fl_X10_34) (fun _ h9 => h9) rfl dX10_answerOne_49 ?_
    refine lv_iload_n hx hb dX10_answerOne_52 rfl (lv_at hl 3 rfl) ?_
    have ha_13 : va_at (DG E) vwCl (rf 12, .inl (E.2.2 0, 4, .inl (A 12))) _ := hM.2 12 (by decide) (by decide) (by decide)
    refine va_iald (D := DG E) hx hb hK.1 (va_one ha_13) 0 0 rfl rfl hi_2 dX10_answerOne_53 ?_
    refine W.eq (g2 := F0 m 54 ls [.int ((A 12) n_1), .int p0, .ref (rf 12)]) (by rw [en_1]) ?_
    refine lv_iconst (v := 1) hx hb dX10_answerOne_54 (by decide) ?_
    refine lv_iadd hx hb dX10_answerOne_55 ?_
    refine lv_topi (fun x_14 ex_14 => ?_)
    have fx_14 : x_14.toInt = ((A 12) n_1).toInt + 1 := by have h9 := s_add (x := ((A 12) n_1)) (y := 1) (by rw [i_1]; omega) (by rw [i_1]; omega); rw [i_1] at h9; rw [ex_14]; exact h9
    refine lv_bipush (v := 64) hx hb dX10_answerOne_56 (by decide) ?_
    refine lv_irem hx hb dX10_answerOne_58 (by decide) ?_
    refine lv_topi (fun x_15 ex_15 => ?_)
    have fx_15 : x_15.toInt = x_14.toInt % 64 := by have h9 := s_rem (x := x_14) 64 (by decide) (by decide) (by omega); rw [ex_15]; exact h9
    have ha_16 : va_at (DG E) vwCl (rf 12, .inl (E.2.2 0, 4, .inl (A 12))) _ := hM.2 12 (by decide) (by decide) (by decide)
    refine rr_iast (D := DG E) hx hb hK.1 0 ha_16 hS (by show G (rf 12) ≠ 0; rw [hR.2 12 (by decide) (by decide) (by decide)]; decide) rfl hi_2 dX10_answerOne_59 (fun H locs hn ho hz hS => ?_)
    rw [en_1] at hn
    obtain ⟨g_16, eg_16⟩ : ∃ z : Nat → Int32, z = upd (A 12) n_1 x_15 := ⟨_, rfl⟩
    have sg_16 : g_16 n_1 = x_15 := by rw [eg_16]; exact upd_s
    have ng_16 : ∀ k, k ≠ n_1 → g_16 k = (A 12) k := fun k hk => by rw [eg_16]; exact upd_n hk
    have hn : va_at (DG E) vwCl (rf 12, .inl (E.2.2 0, 4, .inl g_16)) H := by rw [eg_16]; exact hn
    have hM : MH E h0 rf t0 t1 t2 (uA A 12 g_16) cd pk H := hM.w hR 12 (by decide) (by decide) (by decide) hn ho
    refine lv_aload_n hx hb dX10_answerOne_60 rfl (lv_at hl 2 rfl) ?_
    refine va_get (D := DG E) (ci := 10) (v := .ref (rf 15)) (C := RX10) (T := TX10) (N := 49) hx hb hts iw_X10 hown hK.1 (va_one hM.1) 0 rfl rfl 15 (by decide) (hts _ fl_X10_43) (fun _ h9 => h9) rfl dX10_answerOne_61 ?_
    refine lv_iload_n hx hb dX10_answerOne_64 rfl (lv_at hl 3 rfl) ?_
    refine lv_iconst (v := 0) hx hb dX10_answerOne_65 (by decide) ?_
    have ha_17 : va_at (DG E) vwCl (rf 15, .inl (E.2.2 0, 4, .inl (A 15))) _ := hM.2 15 (by decide) (by decide) (by decide)
    refine rr_iast (D := DG E) hx hb hK.1 0 ha_17 hS (by show G (rf 15) ≠ 0; rw [hR.2 15 (by decide) (by decide) (by decide)]; decide) rfl hi_2 dX10_answerOne_66 (fun H locs hn ho hz hS => ?_)
    rw [en_1] at hn
    obtain ⟨g_17, eg_17⟩ : ∃ z : Nat → Int32, z = upd (A 15) n_1 0 := ⟨_, rfl⟩
    have sg_17 : g_17 n_1 = 0 := by rw [eg_17]; exact upd_s
    have ng_17 : ∀ k, k ≠ n_1 → g_17 k = (A 15) k := fun k hk => by rw [eg_17]; exact upd_n hk
    have hn : va_at (DG E) vwCl (rf 15, .inl (E.2.2 0, 4, .inl g_17)) H := by rw [eg_17]; exact hn
    have hM : MH E h0 rf t0 t1 t2 (uA (uA A 12 g_16) 15 g_17) cd pk H := hM.w hR 15 (by decide) (by decide) (by decide) hn ho
    refine lv_aload_n hx hb dX10_answerOne_67 rfl (lv_at hl 2 rfl) ?_
    refine va_get (D := DG E) (ci := 10) (v := .ref (rf 16)) (C := RX10) (T := TX10) (N := 49) hx hb hts iw_X10 hown hK.1 (va_one hM.1) 0 rfl rfl 16 (by decide) (hts _ fl_X10_46) (fun _ h9 => h9) rfl dX10_answerOne_68 ?_
    refine lv_iload_n hx hb dX10_answerOne_71 rfl (lv_at hl 3 rfl) ?_
    refine lv_iconst (v := 0) hx hb dX10_answerOne_72 (by decide) ?_
    have ha_18 : va_at (DG E) vwCl (rf 16, .inl (E.2.2 0, 4, .inl (A 16))) _ := hM.2 16 (by decide) (by decide) (by decide)
    refine rr_iast (D := DG E) hx hb hK.1 0 ha_18 hS (by show G (rf 16) ≠ 0; rw [hR.2 16 (by decide) (by decide) (by decide)]; decide) rfl hi_2 dX10_answerOne_73 (fun H locs hn ho hz hS => ?_)
    rw [en_1] at hn
    obtain ⟨g_18, eg_18⟩ : ∃ z : Nat → Int32, z = upd (A 16) n_1 0 := ⟨_, rfl⟩
    have sg_18 : g_18 n_1 = 0 := by rw [eg_18]; exact upd_s
    have ng_18 : ∀ k, k ≠ n_1 → g_18 k = (A 16) k := fun k hk => by rw [eg_18]; exact upd_n hk
    have hn : va_at (DG E) vwCl (rf 16, .inl (E.2.2 0, 4, .inl g_18)) H := by rw [eg_18]; exact hn
    have hM : MH E h0 rf t0 t1 t2 (uA (uA (uA A 12 g_16) 15 g_17) 16 g_18) cd pk H := hM.w hR 16 (by decide) (by decide) (by decide) hn ho
    refine lv_aload_n hx hb dX10_answerOne_74 rfl (lv_at hl 2 rfl) ?_
    refine va_get (D := DG E) (ci := 10) (v := .ref (rf 17)) (C := RX10) (T := TX10) (N := 49) hx hb hts iw_X10 hown hK.1 (va_one hM.1) 0 rfl rfl 17 (by decide) (hts _ fl_X10_49) (fun _ h9 => h9) rfl dX10_answerOne_75 ?_
    refine lv_iload_n hx hb dX10_answerOne_78 rfl (lv_at hl 3 rfl) ?_
    refine lv_iconst (v := 0) hx hb dX10_answerOne_79 (by decide) ?_
    have ha_19 : va_at (DG E) vwCl (rf 17, .inl (E.2.2 0, 4, .inl (A 17))) _ := hM.2 17 (by decide) (by decide) (by decide)
    refine rr_iast (D := DG E) hx hb hK.1 0 ha_19 hS (by show G (rf 17) ≠ 0; rw [hR.2 17 (by decide) (by decide) (by decide)]; decide) rfl hi_2 dX10_answerOne_80 (fun H locs hn ho hz hS => ?_)
    rw [en_1] at hn
    obtain ⟨g_19, eg_19⟩ : ∃ z : Nat → Int32, z = upd (A 17) n_1 0 := ⟨_, rfl⟩
    have sg_19 : g_19 n_1 = 0 := by rw [eg_19]; exact upd_s
    have ng_19 : ∀ k, k ≠ n_1 → g_19 k = (A 17) k := fun k hk => by rw [eg_19]; exact upd_n hk
    have hn : va_at (DG E) vwCl (rf 17, .inl (E.2.2 0, 4, .inl g_19)) H := by rw [eg_19]; exact hn
    have hM : MH E h0 rf t0 t1 t2 (uA (uA (uA (uA A 12 g_16) 15 g_17) 16 g_18) 17 g_19) cd pk H := hM.w hR 17 (by decide) (by decide) (by decide) hn ho
    refine lv_aload_n hx hb dX10_answerOne_81 rfl (lv_at hl 2 rfl) ?_
    refine va_get (D := DG E) (ci := 10) (v := .ref (rf 18)) (C := RX10) (T := TX10) (N := 49) hx hb hts iw_X10 hown hK.1 (va_one hM.1) 0 rfl rfl 18 (by decide) (hts _ fl_X10_52) (fun _ h9 => h9) rfl dX10_answerOne_82 ?_
    refine lv_iload_n hx hb dX10_answerOne_85 rfl (lv_at hl 3 rfl) ?_
    refine lv_iconst (v := 0) hx hb dX10_answerOne_86 (by decide) ?_
    have ha_20 : va_at (DG E) vwCl (rf 18, .inl (E.2.2 1, 4, .inl (A 18))) _ := hM.2 18 (by decide) (by decide) (by decide)
    refine rr_zast (D := DG E) hx hb hK.1 1 ha_20 hS (by show G (rf 18) ≠ 0; rw [hR.2 18 (by decide) (by decide) (by decide)]; decide) rfl hi_2 dX10_answerOne_87 (fun H locs hn ho hz hS => ?_)
    rw [en_1] at hn
    obtain ⟨g_20, eg_20⟩ : ∃ z : Nat → Int32, z = upd (A 18) n_1 0 := ⟨_, rfl⟩
    have sg_20 : g_20 n_1 = 0 := by rw [eg_20]; exact upd_s
    have ng_20 : ∀ k, k ≠ n_1 → g_20 k = (A 18) k := fun k hk => by rw [eg_20]; exact upd_n hk
    have hn : va_at (DG E) vwCl (rf 18, .inl (E.2.2 1, 4, .inl g_20)) H := by rw [eg_20]; exact hn
    have hM : MH E h0 rf t0 t1 t2 (uA (uA (uA (uA (uA A 12 g_16) 15 g_17) 16 g_18) 17 g_19) 18 g_20) cd pk H := hM.w hR 18 (by decide) (by decide) (by decide) hn ho
    refine lv_iload_n hx hb dX10_answerOne_88 rfl (lv_at hl 0 rfl) ?_
    refine lv_if_ne (tgt := 93) hx hb dX10_answerOne_89 (by decide) (fun c_21 => absurd c_21 (by decide)) (fun c_21 => ?_)
    have hI4_22 : I4 (A 10) (A 20) (A 29) (A 24) (A 11) g_16 (A 13) := by
      intro k hk
      by_cases e : k = n_1
      · rw [e]
        exact ⟨fun _ => hA (by omega) _ (by rw [sg_16]; omega), Or.inl hst0⟩
      · exact (hI4 k hk).cg rfl rfl (fun _ _ => rfl) (fun _ _ => rfl) rfl (ng_16 k e) rfl
    exact W.vret hx hb hr (fun t ht hW => ⟨⟨((A 8), (A 9), g_16, g_17, g_18, g_19, g_20, (A 20), (A 22), (A 23), (A 24), (A 25), (A 26), (A 27), (A 28), (A 29)), rfl, ⟨hI3, hI4_22, hI6, hI8, (show ∀ n : Nat, (n : Int) = p0.toInt → (farI (g_16 n) ((A 13) n)).toInt = (farI ((A 12) n) ((A 13) n)).toInt - 1 from (fun n hn => by
        obtain rfl : n_1 = n := by omega
        exact hfar _ (by rw [sg_16]; omega))), (Or.inl ⟨n_1, hn_1, r_4, hpr_4_0, hpr_4_1, hn_5, x_9, ex_9, r_10, hDr_10, hpr_10_0, hpr_10_1, x_11, ex_11, fx_11, c_12, x_14, ex_14, fx_14, x_15, ex_15, fx_15, g_16, eg_16, g_17, eg_17, g_18, eg_18, g_19, eg_19, g_20, eg_20, rfl, rfl, rfl⟩)⟩, (by show MH E h0 rf t0 t1 t2 (uA (uA (uA (uA (uA (uA (uA (uA (uA (uA (uA (uA (uA (uA (uA (uA A 8 (A 8)) 9 (A 9)) 12 g_16) 15 g_17) 16 g_18) 17 g_19) 18 g_20) 20 (A 20)) 22 (A 22)) 23 (A 23)) 24 (A 24)) 25 (A 25)) 26 (A 26)) 27 (A 27)) 28 (A 28)) 29 (A 29)) cd pk t.heap; rw [ht]; exact hM.cge (funext fun j => (cgj j 29 rfl (fun a0 => (cgj j 28 rfl (fun a1 => (cgj j 27 rfl (fun a2 => (cgj j 26 rfl (fun a3 => (cgj j 25 rfl (fun a4 => (cgj j 24 rfl (fun a5 => (cgj j 23 rfl (fun a6 => (cgj j 22 rfl (fun a7 => (cgj j 20 rfl (fun a8 => (cgj j 18 rfl (fun a9 => (cgj j 17 rfl (fun a10 => (cgj j 16 rfl (fun a11 => (cgj j 15 rfl (fun a12 => (cgj j 12 rfl (fun a13 => (cgj j 9 rfl (fun a14 => (cgj j 8 rfl (fun a15 => (by simp only [uA_n a0, uA_n a1, uA_n a2, uA_n a3, uA_n a4, uA_n a5, uA_n a6, uA_n a7, uA_n a8, uA_n a9, uA_n a10, uA_n a11, uA_n a12, uA_n a13, uA_n a14, uA_n a15])))))))))))))))))))))))))))))))))))⟩, hS.F ht⟩) hS.2.2 dX10_answerOne_92
  · simp only [lt_I, le_I, eq_I, i_0, i_1, i_2, i_3, i_4, i_5, i_6, i_7, i_8, i_10, i_12, i_16, i_20, i_23, i_24, i_31, i_32, i_63, i_64, i_m1, i_9, i_11, i_13, i_25, i_60, i_75, i_79, i_80, i_96, i_100] at c_12
    refine lv_iconst (v := 1) hx hb dX10_answerOne_37 (by decide) ?_
    refine lv_goto (tgt := 42) hx hb dX10_answerOne_38 (by decide) ?_
    refine lv_istore_n (lv' := [(3, .int 1), (2, .int r_4), (0, .ref h0), (1, .int p0)]) hx hb dX10_answerOne_42 rfl hl (by decide) rfl (fun ls hl => ?_)
    refine lv_aload_n hx hb dX10_answerOne_43 rfl (lv_at hl 2 rfl) ?_
    refine va_get (D := DG E) (ci := 10) (v := .ref (rf 12)) (C := RX10) (T := TX10) (N := 49) hx hb hts iw_X10 hown hK.1 (va_one hM.1) 0 rfl rfl 12 (by decide) (hts _ fl_X10_34) (fun _ h9 => h9) rfl dX10_answerOne_44 ?_
    refine lv_iload_n hx hb dX10_answerOne_47 rfl (lv_at hl 3 rfl) ?_
    refine lv_aload_n hx hb dX10_answerOne_48 rfl (lv_at hl 2 rfl) ?_
    refine va_get (D := DG E) (ci := 10) (v := .ref (rf 12)) (C := RX10) (T := TX10) (N := 49) hx hb hts iw_X10 hown hK.1 (va_one hM.1) 0 rfl rfl 12 (by decide) (hts _ fl_X10_34) (fun _ h9 => h9) rfl dX10_answerOne_49 ?_
    refine lv_iload_n hx hb dX10_answerOne_52 rfl (lv_at hl 3 rfl) ?_
    have ha_23 : va_at (DG E) vwCl (rf 12, .inl (E.2.2 0, 4, .inl (A 12))) _ := hM.2 12 (by decide) (by decide) (by decide)
    refine va_iald (D := DG E) hx hb hK.1 (va_one ha_23) 0 0 rfl rfl hi_2 dX10_answerOne_53 ?_
    refine W.eq (g2 := F0 m 54 ls [.int ((A 12) n_1), .int p0, .ref (rf 12)]) (by rw [en_1]) ?_
    refine lv_iconst (v := 1) hx hb dX10_answerOne_54 (by decide) ?_
    refine lv_iadd hx hb dX10_answerOne_55 ?_
    refine lv_topi (fun x_24 ex_24 => ?_)
    have fx_24 : x_24.toInt = ((A 12) n_1).toInt + 1 := by have h9 := s_add (x := ((A 12) n_1)) (y := 1) (by rw [i_1]; omega) (by rw [i_1]; omega); rw [i_1] at h9; rw [ex_24]; exact h9
    refine lv_bipush (v := 64) hx hb dX10_answerOne_56 (by decide) ?_
    refine lv_irem hx hb dX10_answerOne_58 (by decide) ?_
    refine lv_topi (fun x_25 ex_25 => ?_)
    have fx_25 : x_25.toInt = x_24.toInt % 64 := by have h9 := s_rem (x := x_24) 64 (by decide) (by decide) (by omega); rw [ex_25]; exact h9
    have ha_26 : va_at (DG E) vwCl (rf 12, .inl (E.2.2 0, 4, .inl (A 12))) _ := hM.2 12 (by decide) (by decide) (by decide)
    refine rr_iast (D := DG E) hx hb hK.1 0 ha_26 hS (by show G (rf 12) ≠ 0; rw [hR.2 12 (by decide) (by decide) (by decide)]; decide) rfl hi_2 dX10_answerOne_59 (fun H locs hn ho hz hS => ?_)
    rw [en_1] at hn
    obtain ⟨g_26, eg_26⟩ : ∃ z : Nat → Int32, z = upd (A 12) n_1 x_25 := ⟨_, rfl⟩
    have sg_26 : g_26 n_1 = x_25 := by rw [eg_26]; exact upd_s
    have ng_26 : ∀ k, k ≠ n_1 → g_26 k = (A 12) k := fun k hk => by rw [eg_26]; exact upd_n hk
    have hn : va_at (DG E) vwCl (rf 12, .inl (E.2.2 0, 4, .inl g_26)) H := by rw [eg_26]; exact hn
    have hM : MH E h0 rf t0 t1 t2 (uA A 12 g_26) cd pk H := hM.w hR 12 (by decide) (by decide) (by decide) hn ho
    refine lv_aload_n hx hb dX10_answerOne_60 rfl (lv_at hl 2 rfl) ?_
    refine va_get (D := DG E) (ci := 10) (v := .ref (rf 15)) (C := RX10) (T := TX10) (N := 49) hx hb hts iw_X10 hown hK.1 (va_one hM.1) 0 rfl rfl 15 (by decide) (hts _ fl_X10_43) (fun _ h9 => h9) rfl dX10_answerOne_61 ?_
    refine lv_iload_n hx hb dX10_answerOne_64 rfl (lv_at hl 3 rfl) ?_
    refine lv_iconst (v := 0) hx hb dX10_answerOne_65 (by decide) ?_
    have ha_27 : va_at (DG E) vwCl (rf 15, .inl (E.2.2 0, 4, .inl (A 15))) _ := hM.2 15 (by decide) (by decide) (by decide)
    refine rr_iast (D := DG E) hx hb hK.1 0 ha_27 hS (by show G (rf 15) ≠ 0; rw [hR.2 15 (by decide) (by decide) (by decide)]; decide) rfl hi_2 dX10_answerOne_66 (fun H locs hn ho hz hS => ?_)
    rw [en_1] at hn
    obtain ⟨g_27, eg_27⟩ : ∃ z : Nat → Int32, z = upd (A 15) n_1 0 := ⟨_, rfl⟩
    have sg_27 : g_27 n_1 = 0 := by rw [eg_27]; exact upd_s
    have ng_27 : ∀ k, k ≠ n_1 → g_27 k = (A 15) k := fun k hk => by rw [eg_27]; exact upd_n hk
    have hn : va_at (DG E) vwCl (rf 15, .inl (E.2.2 0, 4, .inl g_27)) H := by rw [eg_27]; exact hn
    have hM : MH E h0 rf t0 t1 t2 (uA (uA A 12 g_26) 15 g_27) cd pk H := hM.w hR 15 (by decide) (by decide) (by decide) hn ho
    refine lv_aload_n hx hb dX10_answerOne_67 rfl (lv_at hl 2 rfl) ?_
    refine va_get (D := DG E) (ci := 10) (v := .ref (rf 16)) (C := RX10) (T := TX10) (N := 49) hx hb hts iw_X10 hown hK.1 (va_one hM.1) 0 rfl rfl 16 (by decide) (hts _ fl_X10_46) (fun _ h9 => h9) rfl dX10_answerOne_68 ?_
    refine lv_iload_n hx hb dX10_answerOne_71 rfl (lv_at hl 3 rfl) ?_
    refine lv_iconst (v := 0) hx hb dX10_answerOne_72 (by decide) ?_
    have ha_28 : va_at (DG E) vwCl (rf 16, .inl (E.2.2 0, 4, .inl (A 16))) _ := hM.2 16 (by decide) (by decide) (by decide)
    refine rr_iast (D := DG E) hx hb hK.1 0 ha_28 hS (by show G (rf 16) ≠ 0; rw [hR.2 16 (by decide) (by decide) (by decide)]; decide) rfl hi_2 dX10_answerOne_73 (fun H locs hn ho hz hS => ?_)
    rw [en_1] at hn
    obtain ⟨g_28, eg_28⟩ : ∃ z : Nat → Int32, z = upd (A 16) n_1 0 := ⟨_, rfl⟩
    have sg_28 : g_28 n_1 = 0 := by rw [eg_28]; exact upd_s
    have ng_28 : ∀ k, k ≠ n_1 → g_28 k = (A 16) k := fun k hk => by rw [eg_28]; exact upd_n hk
    have hn : va_at (DG E) vwCl (rf 16, .inl (E.2.2 0, 4, .inl g_28)) H := by rw [eg_28]; exact hn
    have hM : MH E h0 rf t0 t1 t2 (uA (uA (uA A 12 g_26) 15 g_27) 16 g_28) cd pk H := hM.w hR 16 (by decide) (by decide) (by decide) hn ho
    refine lv_aload_n hx hb dX10_answerOne_74 rfl (lv_at hl 2 rfl) ?_
    refine va_get (D := DG E) (ci := 10) (v := .ref (rf 17)) (C := RX10) (T := TX10) (N := 49) hx hb hts iw_X10 hown hK.1 (va_one hM.1) 0 rfl rfl 17 (by decide) (hts _ fl_X10_49) (fun _ h9 => h9) rfl dX10_answerOne_75 ?_
    refine lv_iload_n hx hb dX10_answerOne_78 rfl (lv_at hl 3 rfl) ?_
    refine lv_iconst (v := 0) hx hb dX10_answerOne_79 (by decide) ?_
    have ha_29 : va_at (DG E) vwCl (rf 17, .inl (E.2.2 0, 4, .inl (A 17))) _ := hM.2 17 (by decide) (by decide) (by decide)
    refine rr_iast (D := DG E) hx hb hK.1 0 ha_29 hS (by show G (rf 17) ≠ 0; rw [hR.2 17 (by decide) (by decide) (by decide)]; decide) rfl hi_2 dX10_answerOne_80 (fun H locs hn ho hz hS => ?_)
    rw [en_1] at hn
    obtain ⟨g_29, eg_29⟩ : ∃ z : Nat → Int32, z = upd (A 17) n_1 0 := ⟨_, rfl⟩
    have sg_29 : g_29 n_1 = 0 := by rw [eg_29]; exact upd_s
    have ng_29 : ∀ k, k ≠ n_1 → g_29 k = (A 17) k := fun k hk => by rw [eg_29]; exact upd_n hk
    have hn : va_at (DG E) vwCl (rf 17, .inl (E.2.2 0, 4, .inl g_29)) H := by rw [eg_29]; exact hn
    have hM : MH E h0 rf t0 t1 t2 (uA (uA (uA (uA A 12 g_26) 15 g_27) 16 g_28) 17 g_29) cd pk H := hM.w hR 17 (by decide) (by decide) (by decide) hn ho
    refine lv_aload_n hx hb dX10_answerOne_81 rfl (lv_at hl 2 rfl) ?_
    refine va_get (D := DG E) (ci := 10) (v := .ref (rf 18)) (C := RX10) (T := TX10) (N := 49) hx hb hts iw_X10 hown hK.1 (va_one hM.1) 0 rfl rfl 18 (by decide) (hts _ fl_X10_52) (fun _ h9 => h9) rfl dX10_answerOne_82 ?_
    refine lv_iload_n hx hb dX10_answerOne_85 rfl (lv_at hl 3 rfl) ?_
    refine lv_iconst (v := 0) hx hb dX10_answerOne_86 (by decide) ?_
    have ha_30 : va_at (DG E) vwCl (rf 18, .inl (E.2.2 1, 4, .inl (A 18))) _ := hM.2 18 (by decide) (by decide) (by decide)
    refine rr_zast (D := DG E) hx hb hK.1 1 ha_30 hS (by show G (rf 18) ≠ 0; rw [hR.2 18 (by decide) (by decide) (by decide)]; decide) rfl hi_2 dX10_answerOne_87 (fun H locs hn ho hz hS => ?_)
    rw [en_1] at hn
    obtain ⟨g_30, eg_30⟩ : ∃ z : Nat → Int32, z = upd (A 18) n_1 0 := ⟨_, rfl⟩
    have sg_30 : g_30 n_1 = 0 := by rw [eg_30]; exact upd_s
    have ng_30 : ∀ k, k ≠ n_1 → g_30 k = (A 18) k := fun k hk => by rw [eg_30]; exact upd_n hk
    have hn : va_at (DG E) vwCl (rf 18, .inl (E.2.2 1, 4, .inl g_30)) H := by rw [eg_30]; exact hn
    have hM : MH E h0 rf t0 t1 t2 (uA (uA (uA (uA (uA A 12 g_26) 15 g_27) 16 g_28) 17 g_29) 18 g_30) cd pk H := hM.w hR 18 (by decide) (by decide) (by decide) hn ho
    refine lv_iload_n hx hb dX10_answerOne_88 rfl (lv_at hl 0 rfl) ?_
    refine lv_if_ne (tgt := 93) hx hb dX10_answerOne_89 (by decide) (fun c_31 => ?_) (fun c_31 => absurd c_31 (by decide))
    refine lv_aload_n hx hb dX10_answerOne_93 rfl (lv_at hl 2 rfl) ?_
    refine lv_iload_n hx hb dX10_answerOne_94 rfl (lv_at hl 3 rfl) ?_
    refine lv_aload_n hx hb dX10_answerOne_95 rfl (lv_at hl 2 rfl) ?_
    refine va_get (D := DG E) (ci := 10) (v := .ref (rf 22)) (C := RX10) (T := TX10) (N := 49) hx hb hts iw_X10 hown hK.1 (va_one hM.1) 0 rfl rfl 22 (by decide) (hts _ fl_X10_65) (fun _ h9 => h9) rfl dX10_answerOne_96 ?_
    refine lv_iload_n hx hb dX10_answerOne_99 rfl (lv_at hl 1 rfl) ?_
    have ha_32 : va_at (DG E) vwCl (rf 22, .inl (E.2.2 0, 16, .inl (A 22))) _ := hM.2 22 (by decide) (by decide) (by decide)
    refine va_iald (D := DG E) hx hb hK.1 (va_one ha_32) 0 0 rfl rfl hi_6 dX10_answerOne_100 ?_
    refine W.eq (g2 := F0 m 101 ls [.int ((A 22) (4 * n_1)), .int p0, .ref h0]) (by rw [en_5]) ?_
    have hk_33 : (4 * n_1) < 16 := by omega
    have q_34 : 0 ≤ ((A 22) (4 * n_1)).toInt := (hI6 (4 * n_1) hk_33).1
    have q_35 : ((A 22) (4 * n_1)).toInt ≤ 3 := (hI6 (4 * n_1) hk_33).2.1
    refine lv_aload_n hx hb dX10_answerOne_101 rfl (lv_at hl 2 rfl) ?_
    refine va_get (D := DG E) (ci := 10) (v := .ref (rf 28)) (C := RX10) (T := TX10) (N := 49) hx hb hts iw_X10 hown hK.1 (va_one hM.1) 0 rfl rfl 28 (by decide) (hts _ fl_X10_83) (fun _ h9 => h9) rfl dX10_answerOne_102 ?_
    refine lv_iload_n hx hb dX10_answerOne_105 rfl (lv_at hl 1 rfl) ?_
    have ha_36 : va_at (DG E) vwCl (rf 28, .inl (E.2.2 0, 16, .inl (A 28))) _ := hM.2 28 (by decide) (by decide) (by decide)
    refine va_iald (D := DG E) hx hb hK.1 (va_one ha_36) 0 0 rfl rfl hi_6 dX10_answerOne_106 ?_
    refine W.eq (g2 := F0 m 107 ls [.int ((A 28) (4 * n_1)), .int ((A 22) (4 * n_1)), .int p0, .ref h0]) (by rw [en_5]) ?_
    refine lv_iconst (v := 0) hx hb dX10_answerOne_107 (by decide) ?_
    refine lv_aload_n hx hb dX10_answerOne_108 rfl (lv_at hl 2 rfl) ?_
    refine va_get (D := DG E) (ci := 10) (v := .ref (rf 24)) (C := RX10) (T := TX10) (N := 49) hx hb hts iw_X10 hown hK.1 (va_one hM.1) 0 rfl rfl 24 (by decide) (hts _ fl_X10_71) (fun _ h9 => h9) rfl dX10_answerOne_109 ?_
    refine lv_iload_n hx hb dX10_answerOne_112 rfl (lv_at hl 1 rfl) ?_
    have ha_37 : va_at (DG E) vwCl (rf 24, .inl (E.2.2 0, 16, .inl (A 24))) _ := hM.2 24 (by decide) (by decide) (by decide)
    refine va_iald (D := DG E) hx hb hK.1 (va_one ha_37) 0 0 rfl rfl hi_6 dX10_answerOne_113 ?_
    refine W.eq (g2 := F0 m 114 ls [.int ((A 24) (4 * n_1)), .int 0, .int ((A 28) (4 * n_1)), .int ((A 22) (4 * n_1)), .int p0, .ref h0]) (by rw [en_5]) ?_
    have q_38 : 0 ≤ ((A 24) (4 * n_1)).toInt := (hI6 (4 * n_1) hk_33).2.2.2.1
    have q_39 : ((A 24) (4 * n_1)).toInt ≤ 12 := (hI6 (4 * n_1) hk_33).2.2.2.2.1
    have q_40 : ((A 23) (4 * n_1)).toInt + ((A 24) (4 * n_1)).toInt ≤ 32 := (hI6 (4 * n_1) hk_33).2.2.2.2.2.1
    refine va_callv (rnV (fun H => MH E h0 rf t0 t1 t2 (uA (uA (uA (uA (uA A 12 g_26) 15 g_27) 16 g_28) 17 g_29) 18 g_30) cd pk H) (As := [.int p0, .int ((A 22) (4 * n_1)), .int ((A 28) (4 * n_1)), .int 0, .int ((A 24) (4 * n_1))]) (rest := []) ⟨hx, hb, hml, hown, hts⟩ (u_X10_complete l E z0 G hGz h0 rf hR t0 t1 t2 (uA (uA (uA (uA (uA A 12 g_26) 15 g_27) 16 g_28) 17 g_29) 18 g_30) cd pk p0 ((A 22) (4 * n_1)) ((A 28) (4 * n_1)) 0 ((A 24) (4 * n_1)) hI3 (show 0 ≤ p0.toInt ∧ p0.toInt ≤ 3 from by have := i_0; first | decide | omega)) (cwV 5 hts (gdV ml_X10_207 im_X10_complete se_X10_X10_complete in_X10 co_X10_complete rfl) rfl rfl rfl (by decide +kernel) ⟨Nat.le_of_ble_eq_true rfl, Nat.le_of_ble_eq_true rfl⟩) hM (fun U hU hW => hK.go hW hS hAz hU) (va_recv hK.1 (va_one hM.1) (ci := 10) (q0 := 0) rfl rfl) rfl rfl hl.1 rfl (lv_room (Nat.le_of_ble_eq_true rfl)) dX10_answerOne_114 ⟨Nat.le_of_ble_eq_true rfl, Nat.le_of_ble_eq_true rfl⟩) hS (fun q _ h => h) (fun q h => h) (fun ur_41 t H locs ht hvm hwr_41 hB hz hk hS => ?_)
    have hM : MH E h0 rf t0 t1 t2 (uA (uA (uA (uA (uA (uA (uA A 12 g_26) 15 g_27) 16 g_28) 17 g_29) 18 g_30) 8 (ur_41.1)) 9 (ur_41.2)) cd pk H := by rw [ht] at hB; exact hB
    have hDr_41 : D_X10_complete (uA (uA (uA (uA (uA A 12 g_26) 15 g_27) 16 g_28) 17 g_29) 18 g_30) cd pk p0 ((A 22) (4 * n_1)) ((A 28) (4 * n_1)) (0 : Int32) ((A 24) (4 * n_1)) (uA (uA (uA (uA (uA (uA (uA A 12 g_26) 15 g_27) 16 g_28) 17 g_29) 18 g_30) 8 (ur_41.1)) 9 (ur_41.2)) cd pk := hwr_41.2
    have hpr_41_0 : I3 (ur_41.1) := hwr_41.1
    have := i_0
    refine lv_aload_n hx hb dX10_answerOne_117 rfl (lv_at hl 2 rfl) ?_
    refine lv_iload_n hx hb dX10_answerOne_118 rfl (lv_at hl 3 rfl) ?_
    refine va_callv (rnV (fun H => MH E h0 rf t0 t1 t2 (uA (uA (uA (uA (uA (uA (uA A 12 g_26) 15 g_27) 16 g_28) 17 g_29) 18 g_30) 8 (ur_41.1)) 9 (ur_41.2)) cd pk H) (As := [.int p0]) (rest := []) ⟨hx, hb, hml, hown, hts⟩ (u_X10_dropRequest l E z0 G hGz h0 rf hR t0 t1 t2 (uA (uA (uA (uA (uA (uA (uA A 12 g_26) 15 g_27) 16 g_28) 17 g_29) 18 g_30) 8 (ur_41.1)) 9 (ur_41.2)) cd pk p0 hI6 hI8 (show 0 ≤ p0.toInt ∧ p0.toInt ≤ 3 from by first | decide | omega) (show ∀ n : Nat, (n : Int) = p0.toInt → 1 ≤ ((A 20) n).toInt from (fun n hn => by
        obtain rfl : n_1 = n := by omega
        omega))) (cwV 1 hts (gdV ml_X10_211 im_X10_dropRequest se_X10_X10_dropRequest in_X10 co_X10_dropRequest rfl) rfl rfl rfl (by decide +kernel) ⟨Nat.le_of_ble_eq_true rfl, Nat.le_of_ble_eq_true rfl⟩) hM (fun U hU hW => hK.go hW hS hAz hU) (va_recv hK.1 (va_one hM.1) (ci := 10) (q0 := 0) rfl rfl) rfl rfl hl.1 rfl (lv_room (Nat.le_of_ble_eq_true rfl)) dX10_answerOne_119 ⟨Nat.le_of_ble_eq_true rfl, Nat.le_of_ble_eq_true rfl⟩) hS (fun q _ h => h) (fun q h => h) (fun ur_42 t H locs ht hvm hwr_42 hB hz hk hS => ?_)
    have hM : MH E h0 rf t0 t1 t2 (uA (uA (uA (uA (uA (uA (uA (uA (uA (uA (uA (uA (uA (uA (uA (uA A 12 g_26) 15 g_27) 16 g_28) 17 g_29) 18 g_30) 8 (ur_41.1)) 9 (ur_41.2)) 20 (ur_42.1)) 22 (ur_42.2.1)) 23 (ur_42.2.2.1)) 24 (ur_42.2.2.2.1)) 25 (ur_42.2.2.2.2.1)) 26 (ur_42.2.2.2.2.2.1)) 27 (ur_42.2.2.2.2.2.2.1)) 28 (ur_42.2.2.2.2.2.2.2.1)) 29 (ur_42.2.2.2.2.2.2.2.2)) cd pk H := by rw [ht] at hB; exact hB
    have hDr_42 : D_X10_dropRequest (uA (uA (uA (uA (uA (uA (uA A 12 g_26) 15 g_27) 16 g_28) 17 g_29) 18 g_30) 8 (ur_41.1)) 9 (ur_41.2)) cd pk p0 (uA (uA (uA (uA (uA (uA (uA (uA (uA (uA (uA (uA (uA (uA (uA (uA A 12 g_26) 15 g_27) 16 g_28) 17 g_29) 18 g_30) 8 (ur_41.1)) 9 (ur_41.2)) 20 (ur_42.1)) 22 (ur_42.2.1)) 23 (ur_42.2.2.1)) 24 (ur_42.2.2.2.1)) 25 (ur_42.2.2.2.2.1)) 26 (ur_42.2.2.2.2.2.1)) 27 (ur_42.2.2.2.2.2.2.1)) 28 (ur_42.2.2.2.2.2.2.2.1)) 29 (ur_42.2.2.2.2.2.2.2.2)) cd pk := hwr_42.2.2.2
    have hpr_42_0 : I6 (ur_42.2.1) (ur_42.2.2.1) (ur_42.2.2.2.1) (ur_42.2.2.2.2.1) (ur_42.2.2.2.2.2.1) := hwr_42.1
    have hpr_42_1 : I8 (ur_42.1) (A 30) (A 37) (A 36) := hwr_42.2.1
    have hpr_42_2 : ∀ n : Nat, (n : Int) = p0.toInt → ((ur_42.1) n).toInt = ((A 20) n).toInt - 1 ∧ (∀ k, k ≠ n → (ur_42.1) k = (A 20) k) ∧ ∃ b : Nat, (b : Int) = 4 * (n : Int) + ((A 20) n).toInt - 1 ∧ Sh (A 29) (ur_42.2.2.2.2.2.2.2.2) (4 * n) b ∧ Sh (A 24) (ur_42.2.2.2.1) (4 * n) b := hwr_42.2.2.1
    have iahpr_42_2 := hpr_42_2 n_1 (by omega)
    have hI4_43 : I4 (A 10) (ur_42.1) (ur_42.2.2.2.2.2.2.2.2) (ur_42.2.2.2.1) (A 11) g_26 (A 13) := by
      obtain ⟨d1, d2, b9, hb9, s29, s24⟩ := iahpr_42_2
      intro k hk
      by_cases e : k = n_1
      · rw [e]
        exact ⟨fun _ => hB0 (by omega) _ _ _ _ (by rw [sg_26]; omega) d1 (fun i hi => ⟨by rw [s29, if_pos ⟨by omega, by omega⟩], by rw [s24, if_pos ⟨by omega, by omega⟩]⟩), Or.inl hst0⟩
      · exact (hI4 k hk).cg rfl (d2 k e) (fun i hi => by rw [s29, if_neg (by omega)]) (fun i hi => by rw [s24, if_neg (by omega)]) rfl (ng_26 k e) rfl
    exact W.vret hx hb hr (fun t ht hW => ⟨⟨((ur_41.1), (ur_41.2), g_26, g_27, g_28, g_29, g_30, (ur_42.1), (ur_42.2.1), (ur_42.2.2.1), (ur_42.2.2.2.1), (ur_42.2.2.2.2.1), (ur_42.2.2.2.2.2.1), (ur_42.2.2.2.2.2.2.1), (ur_42.2.2.2.2.2.2.2.1), (ur_42.2.2.2.2.2.2.2.2)), rfl, ⟨hpr_41_0, hI4_43, hpr_42_0, hpr_42_1, (show ∀ n : Nat, (n : Int) = p0.toInt → (farI (g_26 n) ((A 13) n)).toInt = (farI ((A 12) n) ((A 13) n)).toInt - 1 from (fun n hn => by
        obtain rfl : n_1 = n := by omega
        exact hfar _ (by rw [sg_26]; omega))), (Or.inr ⟨n_1, hn_1, r_4, hpr_4_0, hpr_4_1, hn_5, x_9, ex_9, r_10, hDr_10, hpr_10_0, hpr_10_1, x_11, ex_11, fx_11, c_12, x_24, ex_24, fx_24, x_25, ex_25, fx_25, g_26, eg_26, g_27, eg_27, g_28, eg_28, g_29, eg_29, g_30, eg_30, ur_41, hDr_41, hpr_41_0, ur_42, hDr_42, hpr_42_0, hpr_42_1, hpr_42_2, rfl, rfl, rfl⟩)⟩, (by show MH E h0 rf t0 t1 t2 (uA (uA (uA (uA (uA (uA (uA (uA (uA (uA (uA (uA (uA (uA (uA (uA A 8 (ur_41.1)) 9 (ur_41.2)) 12 g_26) 15 g_27) 16 g_28) 17 g_29) 18 g_30) 20 (ur_42.1)) 22 (ur_42.2.1)) 23 (ur_42.2.2.1)) 24 (ur_42.2.2.2.1)) 25 (ur_42.2.2.2.2.1)) 26 (ur_42.2.2.2.2.2.1)) 27 (ur_42.2.2.2.2.2.2.1)) 28 (ur_42.2.2.2.2.2.2.2.1)) 29 (ur_42.2.2.2.2.2.2.2.2)) cd pk t.heap; rw [ht]; exact hM.cge (funext fun j => (cgj j 29 rfl (fun a0 => (cgj j 28 rfl (fun a1 => (cgj j 27 rfl (fun a2 => (cgj j 26 rfl (fun a3 => (cgj j 25 rfl (fun a4 => (cgj j 24 rfl (fun a5 => (cgj j 23 rfl (fun a6 => (cgj j 22 rfl (fun a7 => (cgj j 20 rfl (fun a8 => (cgj j 18 rfl (fun a9 => (cgj j 17 rfl (fun a10 => (cgj j 16 rfl (fun a11 => (cgj j 15 rfl (fun a12 => (cgj j 12 rfl (fun a13 => (cgj j 9 rfl (fun a14 => (cgj j 8 rfl (fun a15 => (by simp only [uA_n a0, uA_n a1, uA_n a2, uA_n a3, uA_n a4, uA_n a5, uA_n a6, uA_n a7, uA_n a8, uA_n a9, uA_n a10, uA_n a11, uA_n a12, uA_n a13, uA_n a14, uA_n a15])))))))))))))))))))))))))))))))))))⟩, hS.F ht⟩) hS.2.2 dX10_answerOne_122
theorem gdX10_answerSome_0 : (decode cX10_answerSome 0 = .ok (.iload_n 2, 1)) ∧ (decode cX10_answerSome 1 = .ok (.aload_n 0, 1)) ∧ (decode cX10_answerSome 2 = .ok (.getfield 34, 3)) ∧ (decode cX10_answerSome 5 = .ok (.iload_n 1, 1)) ∧ (decode cX10_answerSome 6 = .ok (.iaload, 1)) ∧ (decode cX10_answerSome 7 = .ok (.aload_n 0, 1)) ∧ (decode cX10_answerSome 8 = .ok (.getfield 37, 3)) ∧ (decode cX10_answerSome 11 = .ok (.iload_n 1, 1)) ∧ (decode cX10_answerSome 12 = .ok (.iaload, 1)) ∧ (decode cX10_answerSome 13 = .ok (.invokestatic 174, 3)) ∧ (decode cX10_answerSome 16 = .ok (.if_icmp .le 4, 3)) ∧ (decode cX10_answerSome 19 = .ok (.return_, 1)) ∧ (decode cX10_answerSome 20 = .ok (.iload_n 2, 1)) ∧ (decode cX10_answerSome 21 = .ok (.istore_n 3, 1)) ∧ (decode cX10_answerSome 22 = .ok (.iload_n 3, 1)) ∧ (decode cX10_answerSome 23 = .ok (.ifCond .le 37, 3)) := by decide +kernel
theorem dX10_answerSome_0 : decode cX10_answerSome 0 = .ok (.iload_n 2, 1) := gdX10_answerSome_0.1
theorem dX10_answerSome_1 : decode cX10_answerSome 1 = .ok (.aload_n 0, 1) := gdX10_answerSome_0.2.1
theorem dX10_answerSome_2 : decode cX10_answerSome 2 = .ok (.getfield 34, 3) := gdX10_answerSome_0.2.2.1
theorem dX10_answerSome_5 : decode cX10_answerSome 5 = .ok (.iload_n 1, 1) := gdX10_answerSome_0.2.2.2.1
theorem dX10_answerSome_6 : decode cX10_answerSome 6 = .ok (.iaload, 1) := gdX10_answerSome_0.2.2.2.2.1
theorem dX10_answerSome_7 : decode cX10_answerSome 7 = .ok (.aload_n 0, 1) := gdX10_answerSome_0.2.2.2.2.2.1
theorem dX10_answerSome_8 : decode cX10_answerSome 8 = .ok (.getfield 37, 3) := gdX10_answerSome_0.2.2.2.2.2.2.1
theorem dX10_answerSome_11 : decode cX10_answerSome 11 = .ok (.iload_n 1, 1) := gdX10_answerSome_0.2.2.2.2.2.2.2.1
theorem dX10_answerSome_12 : decode cX10_answerSome 12 = .ok (.iaload, 1) := gdX10_answerSome_0.2.2.2.2.2.2.2.2.1
theorem dX10_answerSome_13 : decode cX10_answerSome 13 = .ok (.invokestatic 174, 3) := gdX10_answerSome_0.2.2.2.2.2.2.2.2.2.1
theorem dX10_answerSome_16 : decode cX10_answerSome 16 = .ok (.if_icmp .le 4, 3) := gdX10_answerSome_0.2.2.2.2.2.2.2.2.2.2.1
theorem dX10_answerSome_19 : decode cX10_answerSome 19 = .ok (.return_, 1) := gdX10_answerSome_0.2.2.2.2.2.2.2.2.2.2.2.1
theorem dX10_answerSome_20 : decode cX10_answerSome 20 = .ok (.iload_n 2, 1) := gdX10_answerSome_0.2.2.2.2.2.2.2.2.2.2.2.2.1
theorem dX10_answerSome_21 : decode cX10_answerSome 21 = .ok (.istore_n 3, 1) := gdX10_answerSome_0.2.2.2.2.2.2.2.2.2.2.2.2.2.1
theorem dX10_answerSome_22 : decode cX10_answerSome 22 = .ok (.iload_n 3, 1) := gdX10_answerSome_0.2.2.2.2.2.2.2.2.2.2.2.2.2.2.1
theorem dX10_answerSome_23 : decode cX10_answerSome 23 = .ok (.ifCond .le 37, 3) := gdX10_answerSome_0.2.2.2.2.2.2.2.2.2.2.2.2.2.2.2
theorem gdX10_answerSome_26 : (decode cX10_answerSome 26 = .ok (.aload_n 0, 1)) ∧ (decode cX10_answerSome 27 = .ok (.aload_n 0, 1)) ∧ (decode cX10_answerSome 28 = .ok (.iload_n 1, 1)) ∧ (decode cX10_answerSome 29 = .ok (.aload_n 0, 1)) ∧ (decode cX10_answerSome 30 = .ok (.getfield 34, 3)) ∧ (decode cX10_answerSome 33 = .ok (.iload_n 1, 1)) ∧ (decode cX10_answerSome 34 = .ok (.iaload, 1)) ∧ (decode cX10_answerSome 35 = .ok (.invokevirtual 196, 3)) ∧ (decode cX10_answerSome 38 = .ok (.invokevirtual 215, 3)) ∧ (decode cX10_answerSome 41 = .ok (.ifCond .eq 8, 3)) ∧ (decode cX10_answerSome 44 = .ok (.iconst 0, 1)) ∧ (decode cX10_answerSome 45 = .ok (.istore_n 3, 1)) ∧ (decode cX10_answerSome 46 = .ok (.goto 8, 3)) ∧ (decode cX10_answerSome 49 = .ok (.aload_n 0, 1)) ∧ (decode cX10_answerSome 50 = .ok (.iload_n 1, 1)) ∧ (decode cX10_answerSome 51 = .ok (.invokevirtual 218, 3)) := by decide +kernel
theorem dX10_answerSome_26 : decode cX10_answerSome 26 = .ok (.aload_n 0, 1) := gdX10_answerSome_26.1
theorem dX10_answerSome_27 : decode cX10_answerSome 27 = .ok (.aload_n 0, 1) := gdX10_answerSome_26.2.1
theorem dX10_answerSome_28 : decode cX10_answerSome 28 = .ok (.iload_n 1, 1) := gdX10_answerSome_26.2.2.1
theorem dX10_answerSome_29 : decode cX10_answerSome 29 = .ok (.aload_n 0, 1) := gdX10_answerSome_26.2.2.2.1
theorem dX10_answerSome_30 : decode cX10_answerSome 30 = .ok (.getfield 34, 3) := gdX10_answerSome_26.2.2.2.2.1
theorem dX10_answerSome_33 : decode cX10_answerSome 33 = .ok (.iload_n 1, 1) := gdX10_answerSome_26.2.2.2.2.2.1
theorem dX10_answerSome_34 : decode cX10_answerSome 34 = .ok (.iaload, 1) := gdX10_answerSome_26.2.2.2.2.2.2.1
theorem dX10_answerSome_35 : decode cX10_answerSome 35 = .ok (.invokevirtual 196, 3) := gdX10_answerSome_26.2.2.2.2.2.2.2.1
theorem dX10_answerSome_38 : decode cX10_answerSome 38 = .ok (.invokevirtual 215, 3) := gdX10_answerSome_26.2.2.2.2.2.2.2.2.1
theorem dX10_answerSome_41 : decode cX10_answerSome 41 = .ok (.ifCond .eq 8, 3) := gdX10_answerSome_26.2.2.2.2.2.2.2.2.2.1
theorem dX10_answerSome_44 : decode cX10_answerSome 44 = .ok (.iconst 0, 1) := gdX10_answerSome_26.2.2.2.2.2.2.2.2.2.2.1
theorem dX10_answerSome_45 : decode cX10_answerSome 45 = .ok (.istore_n 3, 1) := gdX10_answerSome_26.2.2.2.2.2.2.2.2.2.2.2.1
theorem dX10_answerSome_46 : decode cX10_answerSome 46 = .ok (.goto 8, 3) := gdX10_answerSome_26.2.2.2.2.2.2.2.2.2.2.2.2.1
theorem dX10_answerSome_49 : decode cX10_answerSome 49 = .ok (.aload_n 0, 1) := gdX10_answerSome_26.2.2.2.2.2.2.2.2.2.2.2.2.2.1
theorem dX10_answerSome_50 : decode cX10_answerSome 50 = .ok (.iload_n 1, 1) := gdX10_answerSome_26.2.2.2.2.2.2.2.2.2.2.2.2.2.2.1
theorem dX10_answerSome_51 : decode cX10_answerSome 51 = .ok (.invokevirtual 218, 3) := gdX10_answerSome_26.2.2.2.2.2.2.2.2.2.2.2.2.2.2.2
theorem gdX10_answerSome_54 : (decode cX10_answerSome 54 = .ok (.iinc 3 (-1), 3)) ∧ (decode cX10_answerSome 57 = .ok (.goto (-35), 3)) ∧ (decode cX10_answerSome 60 = .ok (.return_, 1)) := by decide +kernel
theorem dX10_answerSome_54 : decode cX10_answerSome 54 = .ok (.iinc 3 (-1), 3) := gdX10_answerSome_54.1
theorem dX10_answerSome_57 : decode cX10_answerSome 57 = .ok (.goto (-35), 3) := gdX10_answerSome_54.2.1
theorem dX10_answerSome_60 : decode cX10_answerSome 60 = .ok (.return_, 1) := gdX10_answerSome_54.2.2
set_option maxHeartbeats 8000000 in
set_option maxRecDepth 100000 in
theorem u_X10_answerSome (l : Launch) (E : EE) (z0 : Nat) (G : Nat → Nat) (hGz : ∀ q, G q ≠ 0 → z0 ≤ q) (h0 : Nat) (rf : Nat → Nat) (hR : MG G h0 rf) (t0 t1 t2 : Int32) (A : AA) (cd pk : Int32) (p0 : Int32) (p1 : Int32) (hI3 : I3 (A 8)) (hI4 : I4 (A 10) (A 20) (A 29) (A 24) (A 11) (A 12) (A 13)) (hI6 : I6 (A 22) (A 23) (A 24) (A 25) (A 26)) (hI8 : I8 (A 20) (A 30) (A 37) (A 36)) (hy0 : 0 ≤ p0.toInt ∧ p0.toInt ≤ 3) (hy1 : ∀ n : Nat, (n : Int) = p0.toInt → ((A 10) n).toInt = 1) : Met l yX10_answerSome [Cond.code yX10_answerSome cX10_answerSome 4 none] ({ frames := 3, cells := 0, slots := 0, locals := 70 } : Room) (va_Pc [.ref h0, .int p0, .int p1] (fun U => MH E h0 rf t0 t1 t2 A cd pk U.heap ∧ KS E z0 U)) (va_Qv (fun (u : (Nat → Int32) × (Nat → Int32) × (Nat → Int32) × (Nat → Int32) × (Nat → Int32) × (Nat → Int32) × (Nat → Int32) × (Nat → Int32) × (Nat → Int32) × (Nat → Int32) × (Nat → Int32) × (Nat → Int32) × (Nat → Int32) × (Nat → Int32) × (Nat → Int32) × (Nat → Int32)) => (I3 (u.1)) ∧ (I4 (A 10) (u.2.2.2.2.2.2.2.1) (u.2.2.2.2.2.2.2.2.2.2.2.2.2.2.2) (u.2.2.2.2.2.2.2.2.2.2.1) (A 11) (u.2.2.1) (A 13)) ∧ (I6 (u.2.2.2.2.2.2.2.2.1) (u.2.2.2.2.2.2.2.2.2.1) (u.2.2.2.2.2.2.2.2.2.2.1) (u.2.2.2.2.2.2.2.2.2.2.2.1) (u.2.2.2.2.2.2.2.2.2.2.2.2.1)) ∧ (I8 (u.2.2.2.2.2.2.2.1) (A 30) (A 37) (A 36)) ∧ (D_X10_answerSome A cd pk p0 p1 (uA (uA (uA (uA (uA (uA (uA (uA (uA (uA (uA (uA (uA (uA (uA (uA A 8 (u.1)) 9 (u.2.1)) 12 (u.2.2.1)) 15 (u.2.2.2.1)) 16 (u.2.2.2.2.1)) 17 (u.2.2.2.2.2.1)) 18 (u.2.2.2.2.2.2.1)) 20 (u.2.2.2.2.2.2.2.1)) 22 (u.2.2.2.2.2.2.2.2.1)) 23 (u.2.2.2.2.2.2.2.2.2.1)) 24 (u.2.2.2.2.2.2.2.2.2.2.1)) 25 (u.2.2.2.2.2.2.2.2.2.2.2.1)) 26 (u.2.2.2.2.2.2.2.2.2.2.2.2.1)) 27 (u.2.2.2.2.2.2.2.2.2.2.2.2.2.1)) 28 (u.2.2.2.2.2.2.2.2.2.2.2.2.2.2.1)) 29 (u.2.2.2.2.2.2.2.2.2.2.2.2.2.2.2)) cd pk)) (fun u t => MH E h0 rf t0 t1 t2 (uA (uA (uA (uA (uA (uA (uA (uA (uA (uA (uA (uA (uA (uA (uA (uA A 8 (u.1)) 9 (u.2.1)) 12 (u.2.2.1)) 15 (u.2.2.2.1)) 16 (u.2.2.2.2.1)) 17 (u.2.2.2.2.2.1)) 18 (u.2.2.2.2.2.2.1)) 20 (u.2.2.2.2.2.2.2.1)) 22 (u.2.2.2.2.2.2.2.2.1)) 23 (u.2.2.2.2.2.2.2.2.2.1)) 24 (u.2.2.2.2.2.2.2.2.2.2.1)) 25 (u.2.2.2.2.2.2.2.2.2.2.2.1)) 26 (u.2.2.2.2.2.2.2.2.2.2.2.2.1)) 27 (u.2.2.2.2.2.2.2.2.2.2.2.2.2.1)) 28 (u.2.2.2.2.2.2.2.2.2.2.2.2.2.2.1)) 29 (u.2.2.2.2.2.2.2.2.2.2.2.2.2.2.2)) cd pk t.heap) (fun q : Nat => G q ≠ 0)) 0 0 (fun q : Nat => G q ≠ 0) := by
  refine Met.ofW (cc := cX10_answerSome) (maxL := 4) (ret := none) (by decide) rfl ?_
  intro p e s m args below meth c s₁ B hml hv
  obtain ⟨rfl, hM, hK⟩ := hv
  have hx := B.exec
  have hb := B.bytes
  have hr := B.returns
  have hts : ∀ w ∈ TS, w.before ([.ref h0, .int p0, .int p1] : List Value).toArray s = true := fun w hw => hK.2.1 w hw _
  have hown : s.vm.findClass RX10 = some m.cls := findClass_of_methodNamed B.named
  have hlocks := B.notSynchronized
  have hS : va_S (fun q : Nat => G q ≠ 0) s.heap s.heap [] := va_S.rf
  have hAz : ∀ q, (fun q : Nat => G q ≠ 0) q → z0 ≤ q := hGz
  have hl := lv_entry ([.ref h0, .int p0, .int p1]) (n := 4) (Nat.le_of_ble_eq_true rfl)
  rw [lg_entry_eq]
  generalize (lg_sl ([.ref h0, .int p0, .int p1]) ++ List.replicate (4 - (lg_sl ([.ref h0, .int p0, .int p1])).length) Slot.unset).toArray = ls at hl ⊢
  have hl : lv_has ls 4 [(0, .ref h0), (1, .int p0), (2, .int p1)] := hl
  obtain ⟨n_1, hn_1, en_1⟩ := s_nat (x := p0) (by omega)
  have hst0 := hy1 n_1 (by omega)
  have hP0 := (hI4 n_1 (by omega)).1 hst0
  have rg0 := hP0.rng
  refine lv_iload_n hx hb dX10_answerSome_0 rfl (lv_at hl 2 rfl) ?_
  refine lv_aload_n hx hb dX10_answerSome_1 rfl (lv_at hl 0 rfl) ?_
  refine va_get (D := DG E) (ci := 10) (v := .ref (rf 12)) (C := RX10) (T := TX10) (N := 49) hx hb hts iw_X10 hown hK.1 (va_one hM.1) 0 rfl rfl 12 (by decide) (hts _ fl_X10_34) (fun _ h9 => h9) rfl dX10_answerSome_2 ?_
  refine lv_iload_n hx hb dX10_answerSome_5 rfl (lv_at hl 1 rfl) ?_
  have hi_2 : vp_in p0 4 := vp_in_iff.mpr (by omega)
  have ha_3 : va_at (DG E) vwCl (rf 12, .inl (E.2.2 0, 4, .inl (A 12))) _ := hM.2 12 (by decide) (by decide) (by decide)
  refine va_iald (D := DG E) hx hb hK.1 (va_one ha_3) 0 0 rfl rfl hi_2 dX10_answerSome_6 ?_
  refine W.eq (g2 := F0 m 7 ls [.int ((A 12) n_1), .int p1]) (by rw [en_1]) ?_
  refine lv_aload_n hx hb dX10_answerSome_7 rfl (lv_at hl 0 rfl) ?_
  refine va_get (D := DG E) (ci := 10) (v := .ref (rf 13)) (C := RX10) (T := TX10) (N := 49) hx hb hts iw_X10 hown hK.1 (va_one hM.1) 0 rfl rfl 13 (by decide) (hts _ fl_X10_37) (fun _ h9 => h9) rfl dX10_answerSome_8 ?_
  refine lv_iload_n hx hb dX10_answerSome_11 rfl (lv_at hl 1 rfl) ?_
  have ha_4 : va_at (DG E) vwCl (rf 13, .inl (E.2.2 0, 4, .inl (A 13))) _ := hM.2 13 (by decide) (by decide) (by decide)
  refine va_iald (D := DG E) hx hb hK.1 (va_one ha_4) 0 0 rfl rfl hi_2 dX10_answerSome_12 ?_
  refine W.eq (g2 := F0 m 13 ls [.int ((A 13) n_1), .int ((A 12) n_1), .int p1]) (by rw [en_1]) ?_
  refine W.callR (W.runS (As := [.int ((A 12) n_1), .int ((A 13) n_1)]) (rest := [.int p1]) ⟨hx, hb, hml, hown, hts⟩ (c_X10_far l (((A 12) n_1)) (((A 13) n_1))) (cwS 2 hts (gdS ml_X10_174 st_X10_far in_X10 co_X10_far rfl) rfl rfl rfl (by decide +kernel) ⟨Nat.le_of_ble_eq_true rfl, Nat.le_of_ble_eq_true rfl⟩) preEq rfl rfl hl.1 rfl (lv_room (Nat.le_of_ble_eq_true rfl)) dX10_answerSome_13 ⟨Nat.le_of_ble_eq_true rfl, Nat.le_of_ble_eq_true rfl⟩) ?_
  refine W.eq (g2 := F0 m 16 ls [.int (((((A 13) n_1) - ((A 12) n_1)) + 64) - ((((A 13) n_1) - ((A 12) n_1)) + 64) / 64 * 64), .int p1]) (by rfl) ?_
  refine lv_topi (fun x_5 ex_5 => ?_)
  have fx_5 : x_5.toInt = (((A 13) n_1).toInt - ((A 12) n_1).toInt + 64) % 64 := by rw [ex_5]; exact far_t (by omega) (by omega)
  have kx_5 : x_5.toInt = (farI ((A 12) n_1) ((A 13) n_1)).toInt := by rw [ex_5]; rfl
  refine lv_icmp_le (tgt := 20) hx hb dX10_answerSome_16 (by decide) (fun c_6 => ?_) (fun c_6 => ?_)
  · simp only [lt_I, le_I, eq_I, i_0, i_1, i_2, i_3, i_4, i_5, i_6, i_7, i_8, i_10, i_12, i_16, i_20, i_23, i_24, i_31, i_32, i_63, i_64, i_m1, i_9, i_11, i_13, i_25, i_60, i_75, i_79, i_80, i_96, i_100] at c_6
    refine lv_iload_n hx hb dX10_answerSome_20 rfl (lv_at hl 2 rfl) ?_
    refine lv_istore_n (lv' := [(3, .int p1), (0, .ref h0), (1, .int p0), (2, .int p1)]) hx hb dX10_answerSome_21 rfl hl (by decide) rfl (fun ls hl => ?_)
    have hX_8 : (p1.toInt ≤ (farI ((A 12) n_1) ((A 13) n_1)).toInt ∧ (farI ((A 12) n_1) ((A 13) n_1)).toInt ≤ 63) ∧ ∃ b : Nat, ASR A cd pk p0 n_1 b (uA (uA (uA (uA (uA (uA (uA (uA (uA (uA (uA (uA (uA (uA (uA (uA A 8 (A 8)) 9 (A 9)) 12 (A 12)) 15 (A 15)) 16 (A 16)) 17 (A 17)) 18 (A 18)) 20 (A 20)) 22 (A 22)) 23 (A 23)) 24 (A 24)) 25 (A 25)) 26 (A 26)) 27 (A 27)) 28 (A 28)) 29 (A 29)) ∧ ((p1.toInt = p1.toInt - b ∧ (0 ≤ p1.toInt ∨ b = 0)) ∨ (p1.toInt = -1 ∧ (b : Int) < p1.toInt ∧ ∃ w : Int32, HC (uA (uA (uA (uA (uA (uA (uA (uA (uA (uA (uA (uA (uA (uA (uA (uA A 8 (A 8)) 9 (A 9)) 12 (A 12)) 15 (A 15)) 16 (A 16)) 17 (A 17)) 18 (A 18)) 20 (A 20)) 22 (A 22)) 23 (A 23)) 24 (A 24)) 25 (A 25)) 26 (A 26)) 27 (A 27)) 28 (A 28)) 29 (A 29)) cd pk p0 n_1 w ∧ w.toInt ≠ 0)) := ⟨⟨by omega, by omega⟩, 0, (by show (uA (uA (uA (uA (uA (uA (uA (uA (uA (uA (uA (uA (uA (uA (uA (uA A 8 (A 8)) 9 (A 9)) 12 (A 12)) 15 (A 15)) 16 (A 16)) 17 (A 17)) 18 (A 18)) 20 (A 20)) 22 (A 22)) 23 (A 23)) 24 (A 24)) 25 (A 25)) 26 (A 26)) 27 (A 27)) 28 (A 28)) 29 (A 29)) = A; exact uu_ids), Or.inl ⟨by omega, Or.inr rfl⟩⟩
    refine lp_nat (fun n H locs ls => ∃ (ix_7 : Int32) (u_7 : (Nat → Int32) × (Nat → Int32) × (Nat → Int32) × (Nat → Int32) × (Nat → Int32) × (Nat → Int32) × (Nat → Int32) × (Nat → Int32) × (Nat → Int32) × (Nat → Int32) × (Nat → Int32) × (Nat → Int32) × (Nat → Int32) × (Nat → Int32) × (Nat → Int32) × (Nat → Int32)), (ix_7.toInt ≤ 63) ∧ (ix_7.toInt).toNat = n ∧ MH E h0 rf t0 t1 t2 (uA (uA (uA (uA (uA (uA (uA (uA (uA (uA (uA (uA (uA (uA (uA (uA A 8 (u_7.1)) 9 (u_7.2.1)) 12 (u_7.2.2.1)) 15 (u_7.2.2.2.1)) 16 (u_7.2.2.2.2.1)) 17 (u_7.2.2.2.2.2.1)) 18 (u_7.2.2.2.2.2.2.1)) 20 (u_7.2.2.2.2.2.2.2.1)) 22 (u_7.2.2.2.2.2.2.2.2.1)) 23 (u_7.2.2.2.2.2.2.2.2.2.1)) 24 (u_7.2.2.2.2.2.2.2.2.2.2.1)) 25 (u_7.2.2.2.2.2.2.2.2.2.2.2.1)) 26 (u_7.2.2.2.2.2.2.2.2.2.2.2.2.1)) 27 (u_7.2.2.2.2.2.2.2.2.2.2.2.2.2.1)) 28 (u_7.2.2.2.2.2.2.2.2.2.2.2.2.2.2.1)) 29 (u_7.2.2.2.2.2.2.2.2.2.2.2.2.2.2.2)) cd pk H ∧ (I3 (u_7.1)) ∧ (I4 (A 10) (u_7.2.2.2.2.2.2.2.1) (u_7.2.2.2.2.2.2.2.2.2.2.2.2.2.2.2) (u_7.2.2.2.2.2.2.2.2.2.2.1) (A 11) (u_7.2.2.1) (A 13)) ∧ (I6 (u_7.2.2.2.2.2.2.2.2.1) (u_7.2.2.2.2.2.2.2.2.2.1) (u_7.2.2.2.2.2.2.2.2.2.2.1) (u_7.2.2.2.2.2.2.2.2.2.2.2.1) (u_7.2.2.2.2.2.2.2.2.2.2.2.2.1)) ∧ (I8 (u_7.2.2.2.2.2.2.2.1) (A 30) (A 37) (A 36)) ∧ ((ix_7.toInt ≤ (farI ((u_7.2.2.1) n_1) ((A 13) n_1)).toInt ∧ (farI ((u_7.2.2.1) n_1) ((A 13) n_1)).toInt ≤ 63) ∧ ∃ b : Nat, ASR A cd pk p0 n_1 b (uA (uA (uA (uA (uA (uA (uA (uA (uA (uA (uA (uA (uA (uA (uA (uA A 8 (u_7.1)) 9 (u_7.2.1)) 12 (u_7.2.2.1)) 15 (u_7.2.2.2.1)) 16 (u_7.2.2.2.2.1)) 17 (u_7.2.2.2.2.2.1)) 18 (u_7.2.2.2.2.2.2.1)) 20 (u_7.2.2.2.2.2.2.2.1)) 22 (u_7.2.2.2.2.2.2.2.2.1)) 23 (u_7.2.2.2.2.2.2.2.2.2.1)) 24 (u_7.2.2.2.2.2.2.2.2.2.2.1)) 25 (u_7.2.2.2.2.2.2.2.2.2.2.2.1)) 26 (u_7.2.2.2.2.2.2.2.2.2.2.2.2.1)) 27 (u_7.2.2.2.2.2.2.2.2.2.2.2.2.2.1)) 28 (u_7.2.2.2.2.2.2.2.2.2.2.2.2.2.2.1)) 29 (u_7.2.2.2.2.2.2.2.2.2.2.2.2.2.2.2)) ∧ ((ix_7.toInt = p1.toInt - b ∧ (0 ≤ ix_7.toInt ∨ b = 0)) ∨ (ix_7.toInt = -1 ∧ (b : Int) < p1.toInt ∧ ∃ w : Int32, HC (uA (uA (uA (uA (uA (uA (uA (uA (uA (uA (uA (uA (uA (uA (uA (uA A 8 (u_7.1)) 9 (u_7.2.1)) 12 (u_7.2.2.1)) 15 (u_7.2.2.2.1)) 16 (u_7.2.2.2.2.1)) 17 (u_7.2.2.2.2.2.1)) 18 (u_7.2.2.2.2.2.2.1)) 20 (u_7.2.2.2.2.2.2.2.1)) 22 (u_7.2.2.2.2.2.2.2.2.1)) 23 (u_7.2.2.2.2.2.2.2.2.2.1)) 24 (u_7.2.2.2.2.2.2.2.2.2.2.1)) 25 (u_7.2.2.2.2.2.2.2.2.2.2.2.1)) 26 (u_7.2.2.2.2.2.2.2.2.2.2.2.2.1)) 27 (u_7.2.2.2.2.2.2.2.2.2.2.2.2.2.1)) 28 (u_7.2.2.2.2.2.2.2.2.2.2.2.2.2.2.1)) 29 (u_7.2.2.2.2.2.2.2.2.2.2.2.2.2.2.2)) cd pk p0 n_1 w ∧ w.toInt ≠ 0))) ∧ va_S (fun q : Nat => G q ≠ 0) s.heap H locs ∧ lv_has ls 4 [(3, .int ix_7), (0, .ref h0), (1, .int p0), (2, .int p1)]) (fun n_7 H locs ls ih_7 hI => ?_) ⟨p1, ((A 8), (A 9), (A 12), (A 15), (A 16), (A 17), (A 18), (A 20), (A 22), (A 23), (A 24), (A 25), (A 26), (A 27), (A 28), (A 29)), (by first | omega | decide), rfl, (by show MH E h0 rf t0 t1 t2 (uA (uA (uA (uA (uA (uA (uA (uA (uA (uA (uA (uA (uA (uA (uA (uA A 8 (A 8)) 9 (A 9)) 12 (A 12)) 15 (A 15)) 16 (A 16)) 17 (A 17)) 18 (A 18)) 20 (A 20)) 22 (A 22)) 23 (A 23)) 24 (A 24)) 25 (A 25)) 26 (A 26)) 27 (A 27)) 28 (A 28)) 29 (A 29)) cd pk _; exact hM.cge (funext fun j => (cgj j 29 rfl (fun a0 => (cgj j 28 rfl (fun a1 => (cgj j 27 rfl (fun a2 => (cgj j 26 rfl (fun a3 => (cgj j 25 rfl (fun a4 => (cgj j 24 rfl (fun a5 => (cgj j 23 rfl (fun a6 => (cgj j 22 rfl (fun a7 => (cgj j 20 rfl (fun a8 => (cgj j 18 rfl (fun a9 => (cgj j 17 rfl (fun a10 => (cgj j 16 rfl (fun a11 => (cgj j 15 rfl (fun a12 => (cgj j 12 rfl (fun a13 => (cgj j 9 rfl (fun a14 => (cgj j 8 rfl (fun a15 => (by simp only [uA_n a0, uA_n a1, uA_n a2, uA_n a3, uA_n a4, uA_n a5, uA_n a6, uA_n a7, uA_n a8, uA_n a9, uA_n a10, uA_n a11, uA_n a12, uA_n a13, uA_n a14, uA_n a15]))))))))))))))))))))))))))))))))))), hI3, hI4, hI6, hI8, hX_8, hS, hl⟩
    obtain ⟨ix_7, u_7, hb_7, hn_7, hM, hI3_7, hI4_7, hI6_7, hI8_7, hx_7, hS, hl⟩ := hI
    refine lv_iload_n hx hb dX10_answerSome_22 rfl (lv_at hl 0 rfl) ?_
    refine lv_if_le (tgt := 60) hx hb dX10_answerSome_23 (by decide) (fun c_9 => ?_) (fun c_9 => ?_)
    · simp only [lt_I, le_I, eq_I, i_0, i_1, i_2, i_3, i_4, i_5, i_6, i_7, i_8, i_10, i_12, i_16, i_20, i_23, i_24, i_31, i_32, i_63, i_64, i_m1, i_9, i_11, i_13, i_25, i_60, i_75, i_79, i_80, i_96, i_100] at c_9
      exact W.vret hx hb hr (fun t ht hW => ⟨⟨((u_7.1), (u_7.2.1), (u_7.2.2.1), (u_7.2.2.2.1), (u_7.2.2.2.2.1), (u_7.2.2.2.2.2.1), (u_7.2.2.2.2.2.2.1), (u_7.2.2.2.2.2.2.2.1), (u_7.2.2.2.2.2.2.2.2.1), (u_7.2.2.2.2.2.2.2.2.2.1), (u_7.2.2.2.2.2.2.2.2.2.2.1), (u_7.2.2.2.2.2.2.2.2.2.2.2.1), (u_7.2.2.2.2.2.2.2.2.2.2.2.2.1), (u_7.2.2.2.2.2.2.2.2.2.2.2.2.2.1), (u_7.2.2.2.2.2.2.2.2.2.2.2.2.2.2.1), (u_7.2.2.2.2.2.2.2.2.2.2.2.2.2.2.2)), rfl, ⟨hI3_7, hI4_7, hI6_7, hI8_7, (Or.inl ⟨n_1, hn_1, x_5, ex_5, fx_5, c_6, ix_7, u_7, hb_7, hI3_7, hI4_7, hI6_7, hI8_7, hx_7, c_9, rfl, rfl, rfl⟩)⟩, (by show MH E h0 rf t0 t1 t2 (uA (uA (uA (uA (uA (uA (uA (uA (uA (uA (uA (uA (uA (uA (uA (uA A 8 (u_7.1)) 9 (u_7.2.1)) 12 (u_7.2.2.1)) 15 (u_7.2.2.2.1)) 16 (u_7.2.2.2.2.1)) 17 (u_7.2.2.2.2.2.1)) 18 (u_7.2.2.2.2.2.2.1)) 20 (u_7.2.2.2.2.2.2.2.1)) 22 (u_7.2.2.2.2.2.2.2.2.1)) 23 (u_7.2.2.2.2.2.2.2.2.2.1)) 24 (u_7.2.2.2.2.2.2.2.2.2.2.1)) 25 (u_7.2.2.2.2.2.2.2.2.2.2.2.1)) 26 (u_7.2.2.2.2.2.2.2.2.2.2.2.2.1)) 27 (u_7.2.2.2.2.2.2.2.2.2.2.2.2.2.1)) 28 (u_7.2.2.2.2.2.2.2.2.2.2.2.2.2.2.1)) 29 (u_7.2.2.2.2.2.2.2.2.2.2.2.2.2.2.2)) cd pk t.heap; rw [ht]; exact hM)⟩, hS.F ht⟩) hS.2.2 dX10_answerSome_60
    · simp only [lt_I, le_I, eq_I, i_0, i_1, i_2, i_3, i_4, i_5, i_6, i_7, i_8, i_10, i_12, i_16, i_20, i_23, i_24, i_31, i_32, i_63, i_64, i_m1, i_9, i_11, i_13, i_25, i_60, i_75, i_79, i_80, i_96, i_100] at c_9
      have hP_10 := (hI4_7 n_1 (by omega)).1 hst0
      have rg_10 := hP_10.rng
      have ft_10 := farI_t (a := (u_7.2.2.1) n_1) (b := (A 13) n_1) (by omega) (by omega)
      refine lv_aload_n hx hb dX10_answerSome_26 rfl (lv_at hl 1 rfl) ?_
      refine lv_aload_n hx hb dX10_answerSome_27 rfl (lv_at hl 1 rfl) ?_
      refine lv_iload_n hx hb dX10_answerSome_28 rfl (lv_at hl 2 rfl) ?_
      refine lv_aload_n hx hb dX10_answerSome_29 rfl (lv_at hl 1 rfl) ?_
      refine va_get (D := DG E) (ci := 10) (v := .ref (rf 12)) (C := RX10) (T := TX10) (N := 49) hx hb hts iw_X10 hown hK.1 (va_one hM.1) 0 rfl rfl 12 (by decide) (hts _ fl_X10_34) (fun _ h9 => h9) rfl dX10_answerSome_30 ?_
      refine lv_iload_n hx hb dX10_answerSome_33 rfl (lv_at hl 2 rfl) ?_
      have ha_11 : va_at (DG E) vwCl (rf 12, .inl (E.2.2 0, 4, .inl (u_7.2.2.1))) _ := hM.2 12 (by decide) (by decide) (by decide)
      refine va_iald (D := DG E) hx hb hK.1 (va_one ha_11) 0 0 rfl rfl hi_2 dX10_answerSome_34 ?_
      refine W.eq (g2 := F0 m 35 ls [.int ((u_7.2.2.1) n_1), .int p0, .ref h0, .ref h0]) (by rw [en_1]) ?_
      refine va_calli (rnV (fun H => MH E h0 rf t0 t1 t2 (uA (uA (uA (uA (uA (uA (uA (uA (uA (uA (uA (uA (uA (uA (uA (uA A 8 (u_7.1)) 9 (u_7.2.1)) 12 (u_7.2.2.1)) 15 (u_7.2.2.2.1)) 16 (u_7.2.2.2.2.1)) 17 (u_7.2.2.2.2.2.1)) 18 (u_7.2.2.2.2.2.2.1)) 20 (u_7.2.2.2.2.2.2.2.1)) 22 (u_7.2.2.2.2.2.2.2.2.1)) 23 (u_7.2.2.2.2.2.2.2.2.2.1)) 24 (u_7.2.2.2.2.2.2.2.2.2.2.1)) 25 (u_7.2.2.2.2.2.2.2.2.2.2.2.1)) 26 (u_7.2.2.2.2.2.2.2.2.2.2.2.2.1)) 27 (u_7.2.2.2.2.2.2.2.2.2.2.2.2.2.1)) 28 (u_7.2.2.2.2.2.2.2.2.2.2.2.2.2.2.1)) 29 (u_7.2.2.2.2.2.2.2.2.2.2.2.2.2.2.2)) cd pk H) (As := [.int p0, .int ((u_7.2.2.1) n_1)]) (rest := [.ref h0]) ⟨hx, hb, hml, hown, hts⟩ (u_X10_requestOf l E z0 G hGz h0 rf hR t0 t1 t2 (uA (uA (uA (uA (uA (uA (uA (uA (uA (uA (uA (uA (uA (uA (uA (uA A 8 (u_7.1)) 9 (u_7.2.1)) 12 (u_7.2.2.1)) 15 (u_7.2.2.2.1)) 16 (u_7.2.2.2.2.1)) 17 (u_7.2.2.2.2.2.1)) 18 (u_7.2.2.2.2.2.2.1)) 20 (u_7.2.2.2.2.2.2.2.1)) 22 (u_7.2.2.2.2.2.2.2.2.1)) 23 (u_7.2.2.2.2.2.2.2.2.2.1)) 24 (u_7.2.2.2.2.2.2.2.2.2.2.1)) 25 (u_7.2.2.2.2.2.2.2.2.2.2.2.1)) 26 (u_7.2.2.2.2.2.2.2.2.2.2.2.2.1)) 27 (u_7.2.2.2.2.2.2.2.2.2.2.2.2.2.1)) 28 (u_7.2.2.2.2.2.2.2.2.2.2.2.2.2.2.1)) 29 (u_7.2.2.2.2.2.2.2.2.2.2.2.2.2.2.2)) cd pk p0 ((u_7.2.2.1) n_1) hI6_7 (show 0 ≤ p0.toInt ∧ p0.toInt ≤ 3 from by first | decide | omega)) (cwV 2 hts (gdV ml_X10_196 im_X10_requestOf se_X10_X10_requestOf in_X10 co_X10_requestOf rfl) rfl rfl rfl (by decide +kernel) ⟨Nat.le_of_ble_eq_true rfl, Nat.le_of_ble_eq_true rfl⟩) hM (fun U hU hW => hK.go hW hS hAz hU) (va_recv hK.1 (va_one hM.1) (ci := 10) (q0 := 0) rfl rfl) rfl rfl hl.1 rfl (lv_room (Nat.le_of_ble_eq_true rfl)) dX10_answerSome_35 ⟨Nat.le_of_ble_eq_true rfl, Nat.le_of_ble_eq_true rfl⟩) hS (fun q _ h => h.elim) (fun q h => h.elim) (fun r_12 ur_12 t H locs ht hvm hwr_12 hB hz hk hS => ?_)
      have hM := hM.kept (fun q hq => hk q hq (fun h => h))
      have hpr_12_0 : 0 ≤ r_12.toInt ∧ r_12.toInt ≤ 15 := hwr_12.1
      have hpr_12_1 : ∀ n : Nat, (n : Int) = p0.toInt → RO (u_7.2.2.2.2.2.2.2.2.2.2.2.2.2.2.2) (u_7.2.2.2.2.2.2.2.2.2.2.1) n ((u_7.2.2.1) n_1) r_12.toInt := hwr_12.2
      have iahpr_12_1 := hpr_12_1 n_1 (by omega)
      refine va_calli (rnV (fun H => MH E h0 rf t0 t1 t2 (uA (uA (uA (uA (uA (uA (uA (uA (uA (uA (uA (uA (uA (uA (uA (uA A 8 (u_7.1)) 9 (u_7.2.1)) 12 (u_7.2.2.1)) 15 (u_7.2.2.2.1)) 16 (u_7.2.2.2.2.1)) 17 (u_7.2.2.2.2.2.1)) 18 (u_7.2.2.2.2.2.2.1)) 20 (u_7.2.2.2.2.2.2.2.1)) 22 (u_7.2.2.2.2.2.2.2.2.1)) 23 (u_7.2.2.2.2.2.2.2.2.2.1)) 24 (u_7.2.2.2.2.2.2.2.2.2.2.1)) 25 (u_7.2.2.2.2.2.2.2.2.2.2.2.1)) 26 (u_7.2.2.2.2.2.2.2.2.2.2.2.2.1)) 27 (u_7.2.2.2.2.2.2.2.2.2.2.2.2.2.1)) 28 (u_7.2.2.2.2.2.2.2.2.2.2.2.2.2.2.1)) 29 (u_7.2.2.2.2.2.2.2.2.2.2.2.2.2.2.2)) cd pk H) (As := [.int r_12]) (rest := []) ⟨hx, hb, hml, hown, hts⟩ (u_X10_hasCells l E z0 G hGz h0 rf hR t0 t1 t2 (uA (uA (uA (uA (uA (uA (uA (uA (uA (uA (uA (uA (uA (uA (uA (uA A 8 (u_7.1)) 9 (u_7.2.1)) 12 (u_7.2.2.1)) 15 (u_7.2.2.2.1)) 16 (u_7.2.2.2.2.1)) 17 (u_7.2.2.2.2.2.1)) 18 (u_7.2.2.2.2.2.2.1)) 20 (u_7.2.2.2.2.2.2.2.1)) 22 (u_7.2.2.2.2.2.2.2.2.1)) 23 (u_7.2.2.2.2.2.2.2.2.2.1)) 24 (u_7.2.2.2.2.2.2.2.2.2.2.1)) 25 (u_7.2.2.2.2.2.2.2.2.2.2.2.1)) 26 (u_7.2.2.2.2.2.2.2.2.2.2.2.2.1)) 27 (u_7.2.2.2.2.2.2.2.2.2.2.2.2.2.1)) 28 (u_7.2.2.2.2.2.2.2.2.2.2.2.2.2.2.1)) 29 (u_7.2.2.2.2.2.2.2.2.2.2.2.2.2.2.2)) cd pk r_12 hI6_7 (show 0 ≤ r_12.toInt ∧ r_12.toInt ≤ 15 from by first | decide | omega)) (cwV 1 hts (gdV ml_X10_215 im_X10_hasCells se_X10_X10_hasCells in_X10 co_X10_hasCells rfl) rfl rfl rfl (by decide +kernel) ⟨Nat.le_of_ble_eq_true rfl, Nat.le_of_ble_eq_true rfl⟩) hM (fun U hU hW => hK.go hW hS hAz hU) (va_recv hK.1 (va_one hM.1) (ci := 10) (q0 := 0) rfl rfl) rfl rfl hl.1 rfl (lv_room (Nat.le_of_ble_eq_true rfl)) dX10_answerSome_38 ⟨Nat.le_of_ble_eq_true rfl, Nat.le_of_ble_eq_true rfl⟩) hS (fun q _ h => h.elim) (fun q h => h.elim) (fun r_13 ur_13 t H locs ht hvm hwr_13 hB hz hk hS => ?_)
      have hM := hM.kept (fun q hq => hk q hq (fun h => h))
      have hDr_13 : D_X10_hasCells (uA (uA (uA (uA (uA (uA (uA (uA (uA (uA (uA (uA (uA (uA (uA (uA A 8 (u_7.1)) 9 (u_7.2.1)) 12 (u_7.2.2.1)) 15 (u_7.2.2.2.1)) 16 (u_7.2.2.2.2.1)) 17 (u_7.2.2.2.2.2.1)) 18 (u_7.2.2.2.2.2.2.1)) 20 (u_7.2.2.2.2.2.2.2.1)) 22 (u_7.2.2.2.2.2.2.2.2.1)) 23 (u_7.2.2.2.2.2.2.2.2.2.1)) 24 (u_7.2.2.2.2.2.2.2.2.2.2.1)) 25 (u_7.2.2.2.2.2.2.2.2.2.2.2.1)) 26 (u_7.2.2.2.2.2.2.2.2.2.2.2.2.1)) 27 (u_7.2.2.2.2.2.2.2.2.2.2.2.2.2.1)) 28 (u_7.2.2.2.2.2.2.2.2.2.2.2.2.2.2.1)) 29 (u_7.2.2.2.2.2.2.2.2.2.2.2.2.2.2.2)) cd pk r_12 r_13 := hwr_13.2
      have hpr_13_0 : r_13 = 0 ∨ r_13 = 1 := hwr_13.1
      have hzr_13 := s_rng hpr_13_0
      refine lv_if_eq (tgt := 49) hx hb dX10_answerSome_41 (by decide) (fun c_14 => ?_) (fun c_14 => ?_)
      · simp only [lt_I, le_I, eq_I, i_0, i_1, i_2, i_3, i_4, i_5, i_6, i_7, i_8, i_10, i_12, i_16, i_20, i_23, i_24, i_31, i_32, i_63, i_64, i_m1, i_9, i_11, i_13, i_25, i_60, i_75, i_79, i_80, i_96, i_100] at c_14
        refine lv_aload_n hx hb dX10_answerSome_49 rfl (lv_at hl 1 rfl) ?_
        refine lv_iload_n hx hb dX10_answerSome_50 rfl (lv_at hl 2 rfl) ?_
        refine va_callv (rnV (fun H => MH E h0 rf t0 t1 t2 (uA (uA (uA (uA (uA (uA (uA (uA (uA (uA (uA (uA (uA (uA (uA (uA A 8 (u_7.1)) 9 (u_7.2.1)) 12 (u_7.2.2.1)) 15 (u_7.2.2.2.1)) 16 (u_7.2.2.2.2.1)) 17 (u_7.2.2.2.2.2.1)) 18 (u_7.2.2.2.2.2.2.1)) 20 (u_7.2.2.2.2.2.2.2.1)) 22 (u_7.2.2.2.2.2.2.2.2.1)) 23 (u_7.2.2.2.2.2.2.2.2.2.1)) 24 (u_7.2.2.2.2.2.2.2.2.2.2.1)) 25 (u_7.2.2.2.2.2.2.2.2.2.2.2.1)) 26 (u_7.2.2.2.2.2.2.2.2.2.2.2.2.1)) 27 (u_7.2.2.2.2.2.2.2.2.2.2.2.2.2.1)) 28 (u_7.2.2.2.2.2.2.2.2.2.2.2.2.2.2.1)) 29 (u_7.2.2.2.2.2.2.2.2.2.2.2.2.2.2.2)) cd pk H) (As := [.int p0]) (rest := []) ⟨hx, hb, hml, hown, hts⟩ (u_X10_answerOne l E z0 G hGz h0 rf hR t0 t1 t2 (uA (uA (uA (uA (uA (uA (uA (uA (uA (uA (uA (uA (uA (uA (uA (uA A 8 (u_7.1)) 9 (u_7.2.1)) 12 (u_7.2.2.1)) 15 (u_7.2.2.2.1)) 16 (u_7.2.2.2.2.1)) 17 (u_7.2.2.2.2.2.1)) 18 (u_7.2.2.2.2.2.2.1)) 20 (u_7.2.2.2.2.2.2.2.1)) 22 (u_7.2.2.2.2.2.2.2.2.1)) 23 (u_7.2.2.2.2.2.2.2.2.2.1)) 24 (u_7.2.2.2.2.2.2.2.2.2.2.1)) 25 (u_7.2.2.2.2.2.2.2.2.2.2.2.1)) 26 (u_7.2.2.2.2.2.2.2.2.2.2.2.2.1)) 27 (u_7.2.2.2.2.2.2.2.2.2.2.2.2.2.1)) 28 (u_7.2.2.2.2.2.2.2.2.2.2.2.2.2.2.1)) 29 (u_7.2.2.2.2.2.2.2.2.2.2.2.2.2.2.2)) cd pk p0 hI3_7 hI4_7 hI6_7 hI8_7 (show 0 ≤ p0.toInt ∧ p0.toInt ≤ 3 from by first | decide | omega) (show ∀ n : Nat, (n : Int) = p0.toInt → ((A 10) n).toInt = 1 ∧ ((A 13) n).toInt ≠ ((u_7.2.2.1) n).toInt from (fun n hn => by
        obtain rfl : n_1 = n := by omega
        exact ⟨hst0, by omega⟩))) (cwV 1 hts (gdV ml_X10_218 im_X10_answerOne se_X10_X10_answerOne in_X10 co_X10_answerOne rfl) rfl rfl rfl (by decide +kernel) ⟨Nat.le_of_ble_eq_true rfl, Nat.le_of_ble_eq_true rfl⟩) hM (fun U hU hW => hK.go hW hS hAz hU) (va_recv hK.1 (va_one hM.1) (ci := 10) (q0 := 0) rfl rfl) rfl rfl hl.1 rfl (lv_room (Nat.le_of_ble_eq_true rfl)) dX10_answerSome_51 ⟨Nat.le_of_ble_eq_true rfl, Nat.le_of_ble_eq_true rfl⟩) hS (fun q _ h => h) (fun q h => h) (fun ur_15 t H locs ht hvm hwr_15 hB hz hk hS => ?_)
        have hM : MH E h0 rf t0 t1 t2 (uA (uA (uA (uA (uA (uA (uA (uA (uA (uA (uA (uA (uA (uA (uA (uA (uA (uA (uA (uA (uA (uA (uA (uA (uA (uA (uA (uA (uA (uA (uA (uA A 8 (u_7.1)) 9 (u_7.2.1)) 12 (u_7.2.2.1)) 15 (u_7.2.2.2.1)) 16 (u_7.2.2.2.2.1)) 17 (u_7.2.2.2.2.2.1)) 18 (u_7.2.2.2.2.2.2.1)) 20 (u_7.2.2.2.2.2.2.2.1)) 22 (u_7.2.2.2.2.2.2.2.2.1)) 23 (u_7.2.2.2.2.2.2.2.2.2.1)) 24 (u_7.2.2.2.2.2.2.2.2.2.2.1)) 25 (u_7.2.2.2.2.2.2.2.2.2.2.2.1)) 26 (u_7.2.2.2.2.2.2.2.2.2.2.2.2.1)) 27 (u_7.2.2.2.2.2.2.2.2.2.2.2.2.2.1)) 28 (u_7.2.2.2.2.2.2.2.2.2.2.2.2.2.2.1)) 29 (u_7.2.2.2.2.2.2.2.2.2.2.2.2.2.2.2)) 8 (ur_15.1)) 9 (ur_15.2.1)) 12 (ur_15.2.2.1)) 15 (ur_15.2.2.2.1)) 16 (ur_15.2.2.2.2.1)) 17 (ur_15.2.2.2.2.2.1)) 18 (ur_15.2.2.2.2.2.2.1)) 20 (ur_15.2.2.2.2.2.2.2.1)) 22 (ur_15.2.2.2.2.2.2.2.2.1)) 23 (ur_15.2.2.2.2.2.2.2.2.2.1)) 24 (ur_15.2.2.2.2.2.2.2.2.2.2.1)) 25 (ur_15.2.2.2.2.2.2.2.2.2.2.2.1)) 26 (ur_15.2.2.2.2.2.2.2.2.2.2.2.2.1)) 27 (ur_15.2.2.2.2.2.2.2.2.2.2.2.2.2.1)) 28 (ur_15.2.2.2.2.2.2.2.2.2.2.2.2.2.2.1)) 29 (ur_15.2.2.2.2.2.2.2.2.2.2.2.2.2.2.2)) cd pk H := by rw [ht] at hB; exact hB
        have hDr_15 : D_X10_answerOne (uA (uA (uA (uA (uA (uA (uA (uA (uA (uA (uA (uA (uA (uA (uA (uA A 8 (u_7.1)) 9 (u_7.2.1)) 12 (u_7.2.2.1)) 15 (u_7.2.2.2.1)) 16 (u_7.2.2.2.2.1)) 17 (u_7.2.2.2.2.2.1)) 18 (u_7.2.2.2.2.2.2.1)) 20 (u_7.2.2.2.2.2.2.2.1)) 22 (u_7.2.2.2.2.2.2.2.2.1)) 23 (u_7.2.2.2.2.2.2.2.2.2.1)) 24 (u_7.2.2.2.2.2.2.2.2.2.2.1)) 25 (u_7.2.2.2.2.2.2.2.2.2.2.2.1)) 26 (u_7.2.2.2.2.2.2.2.2.2.2.2.2.1)) 27 (u_7.2.2.2.2.2.2.2.2.2.2.2.2.2.1)) 28 (u_7.2.2.2.2.2.2.2.2.2.2.2.2.2.2.1)) 29 (u_7.2.2.2.2.2.2.2.2.2.2.2.2.2.2.2)) cd pk p0 (uA (uA (uA (uA (uA (uA (uA (uA (uA (uA (uA (uA (uA (uA (uA (uA (uA (uA (uA (uA (uA (uA (uA (uA (uA (uA (uA (uA (uA (uA (uA (uA A 8 (u_7.1)) 9 (u_7.2.1)) 12 (u_7.2.2.1)) 15 (u_7.2.2.2.1)) 16 (u_7.2.2.2.2.1)) 17 (u_7.2.2.2.2.2.1)) 18 (u_7.2.2.2.2.2.2.1)) 20 (u_7.2.2.2.2.2.2.2.1)) 22 (u_7.2.2.2.2.2.2.2.2.1)) 23 (u_7.2.2.2.2.2.2.2.2.2.1)) 24 (u_7.2.2.2.2.2.2.2.2.2.2.1)) 25 (u_7.2.2.2.2.2.2.2.2.2.2.2.1)) 26 (u_7.2.2.2.2.2.2.2.2.2.2.2.2.1)) 27 (u_7.2.2.2.2.2.2.2.2.2.2.2.2.2.1)) 28 (u_7.2.2.2.2.2.2.2.2.2.2.2.2.2.2.1)) 29 (u_7.2.2.2.2.2.2.2.2.2.2.2.2.2.2.2)) 8 (ur_15.1)) 9 (ur_15.2.1)) 12 (ur_15.2.2.1)) 15 (ur_15.2.2.2.1)) 16 (ur_15.2.2.2.2.1)) 17 (ur_15.2.2.2.2.2.1)) 18 (ur_15.2.2.2.2.2.2.1)) 20 (ur_15.2.2.2.2.2.2.2.1)) 22 (ur_15.2.2.2.2.2.2.2.2.1)) 23 (ur_15.2.2.2.2.2.2.2.2.2.1)) 24 (ur_15.2.2.2.2.2.2.2.2.2.2.1)) 25 (ur_15.2.2.2.2.2.2.2.2.2.2.2.1)) 26 (ur_15.2.2.2.2.2.2.2.2.2.2.2.2.1)) 27 (ur_15.2.2.2.2.2.2.2.2.2.2.2.2.2.1)) 28 (ur_15.2.2.2.2.2.2.2.2.2.2.2.2.2.2.1)) 29 (ur_15.2.2.2.2.2.2.2.2.2.2.2.2.2.2.2)) cd pk := hwr_15.2.2.2.2.2
        have hpr_15_0 : I3 (ur_15.1) := hwr_15.1
        have hpr_15_1 : I4 (A 10) (ur_15.2.2.2.2.2.2.2.1) (ur_15.2.2.2.2.2.2.2.2.2.2.2.2.2.2.2) (ur_15.2.2.2.2.2.2.2.2.2.2.1) (A 11) (ur_15.2.2.1) (A 13) := hwr_15.2.1
        have hpr_15_2 : I6 (ur_15.2.2.2.2.2.2.2.2.1) (ur_15.2.2.2.2.2.2.2.2.2.1) (ur_15.2.2.2.2.2.2.2.2.2.2.1) (ur_15.2.2.2.2.2.2.2.2.2.2.2.1) (ur_15.2.2.2.2.2.2.2.2.2.2.2.2.1) := hwr_15.2.2.1
        have hpr_15_3 : I8 (ur_15.2.2.2.2.2.2.2.1) (A 30) (A 37) (A 36) := hwr_15.2.2.2.1
        have hpr_15_4 : ∀ n : Nat, (n : Int) = p0.toInt → (farI ((ur_15.2.2.1) n) ((A 13) n)).toInt = (farI ((u_7.2.2.1) n) ((A 13) n)).toInt - 1 := hwr_15.2.2.2.2.1
        have iahpr_15_4 := hpr_15_4 n_1 (by omega)
        obtain ⟨x_16, ex_16⟩ : ∃ z : Int32, ix_7 + Int32.ofInt (-1) = z := ⟨_, rfl⟩
        have fx_16 : x_16.toInt = ix_7.toInt + (-1) := by have h9 := s_add (x := ix_7) (y := (-1)) (by rw [i_m1]; omega) (by rw [i_m1]; omega); rw [i_m1] at h9; rw [← ex_16]; exact h9
        refine lv_iinc (v := x_16) (lv' := [(3, .int x_16), (0, .ref h0), (1, .int p0), (2, .int p1)]) hx hb dX10_answerSome_54 hl (k := 0) rfl ex_16 (by decide) rfl (fun ls hl => ?_)
        refine lv_goto (tgt := 22) hx hb dX10_answerSome_57 (by decide) ?_
        obtain ⟨hx9, b9, f9, o9⟩ := hx_7
        have o9 := o9.resolve_right (fun h => by omega)
        have w9 : r_13 = 0 := by rw [eq_I, i_0]; omega
        rw [uu_as A (u_7.1) (u_7.2.1) (u_7.2.2.1) (u_7.2.2.2.1) (u_7.2.2.2.2.1) (u_7.2.2.2.2.2.1) (u_7.2.2.2.2.2.2.1) (u_7.2.2.2.2.2.2.2.1) (u_7.2.2.2.2.2.2.2.2.1) (u_7.2.2.2.2.2.2.2.2.2.1) (u_7.2.2.2.2.2.2.2.2.2.2.1) (u_7.2.2.2.2.2.2.2.2.2.2.2.1) (u_7.2.2.2.2.2.2.2.2.2.2.2.2.1) (u_7.2.2.2.2.2.2.2.2.2.2.2.2.2.1) (u_7.2.2.2.2.2.2.2.2.2.2.2.2.2.2.1) (u_7.2.2.2.2.2.2.2.2.2.2.2.2.2.2.2) (ur_15.1) (ur_15.2.1) (ur_15.2.2.1) (ur_15.2.2.2.1) (ur_15.2.2.2.2.1) (ur_15.2.2.2.2.2.1) (ur_15.2.2.2.2.2.2.1) (ur_15.2.2.2.2.2.2.2.1) (ur_15.2.2.2.2.2.2.2.2.1) (ur_15.2.2.2.2.2.2.2.2.2.1) (ur_15.2.2.2.2.2.2.2.2.2.2.1) (ur_15.2.2.2.2.2.2.2.2.2.2.2.1) (ur_15.2.2.2.2.2.2.2.2.2.2.2.2.1) (ur_15.2.2.2.2.2.2.2.2.2.2.2.2.2.1) (ur_15.2.2.2.2.2.2.2.2.2.2.2.2.2.2.1) (ur_15.2.2.2.2.2.2.2.2.2.2.2.2.2.2.2)] at hDr_15
        have hX_17 : (x_16.toInt ≤ (farI ((ur_15.2.2.1) n_1) ((A 13) n_1)).toInt ∧ (farI ((ur_15.2.2.1) n_1) ((A 13) n_1)).toInt ≤ 63) ∧ ∃ b : Nat, ASR A cd pk p0 n_1 b (uA (uA (uA (uA (uA (uA (uA (uA (uA (uA (uA (uA (uA (uA (uA (uA A 8 (ur_15.1)) 9 (ur_15.2.1)) 12 (ur_15.2.2.1)) 15 (ur_15.2.2.2.1)) 16 (ur_15.2.2.2.2.1)) 17 (ur_15.2.2.2.2.2.1)) 18 (ur_15.2.2.2.2.2.2.1)) 20 (ur_15.2.2.2.2.2.2.2.1)) 22 (ur_15.2.2.2.2.2.2.2.2.1)) 23 (ur_15.2.2.2.2.2.2.2.2.2.1)) 24 (ur_15.2.2.2.2.2.2.2.2.2.2.1)) 25 (ur_15.2.2.2.2.2.2.2.2.2.2.2.1)) 26 (ur_15.2.2.2.2.2.2.2.2.2.2.2.2.1)) 27 (ur_15.2.2.2.2.2.2.2.2.2.2.2.2.2.1)) 28 (ur_15.2.2.2.2.2.2.2.2.2.2.2.2.2.2.1)) 29 (ur_15.2.2.2.2.2.2.2.2.2.2.2.2.2.2.2)) ∧ ((x_16.toInt = p1.toInt - b ∧ (0 ≤ x_16.toInt ∨ b = 0)) ∨ (x_16.toInt = -1 ∧ (b : Int) < p1.toInt ∧ ∃ w : Int32, HC (uA (uA (uA (uA (uA (uA (uA (uA (uA (uA (uA (uA (uA (uA (uA (uA A 8 (ur_15.1)) 9 (ur_15.2.1)) 12 (ur_15.2.2.1)) 15 (ur_15.2.2.2.1)) 16 (ur_15.2.2.2.2.1)) 17 (ur_15.2.2.2.2.2.1)) 18 (ur_15.2.2.2.2.2.2.1)) 20 (ur_15.2.2.2.2.2.2.2.1)) 22 (ur_15.2.2.2.2.2.2.2.2.1)) 23 (ur_15.2.2.2.2.2.2.2.2.2.1)) 24 (ur_15.2.2.2.2.2.2.2.2.2.2.1)) 25 (ur_15.2.2.2.2.2.2.2.2.2.2.2.1)) 26 (ur_15.2.2.2.2.2.2.2.2.2.2.2.2.1)) 27 (ur_15.2.2.2.2.2.2.2.2.2.2.2.2.2.1)) 28 (ur_15.2.2.2.2.2.2.2.2.2.2.2.2.2.2.1)) 29 (ur_15.2.2.2.2.2.2.2.2.2.2.2.2.2.2.2)) cd pk p0 n_1 w ∧ w.toInt ≠ 0)) := ⟨⟨by omega, by omega⟩, b9 + 1, ⟨_, f9, ⟨_, iahpr_12_1, by rw [← w9]; exact hDr_13⟩, hDr_15⟩, Or.inl ⟨by omega, Or.inl (by omega)⟩⟩
        exact ih_7 _ (by omega) _ _ _ ⟨x_16, ((ur_15.1), (ur_15.2.1), (ur_15.2.2.1), (ur_15.2.2.2.1), (ur_15.2.2.2.2.1), (ur_15.2.2.2.2.2.1), (ur_15.2.2.2.2.2.2.1), (ur_15.2.2.2.2.2.2.2.1), (ur_15.2.2.2.2.2.2.2.2.1), (ur_15.2.2.2.2.2.2.2.2.2.1), (ur_15.2.2.2.2.2.2.2.2.2.2.1), (ur_15.2.2.2.2.2.2.2.2.2.2.2.1), (ur_15.2.2.2.2.2.2.2.2.2.2.2.2.1), (ur_15.2.2.2.2.2.2.2.2.2.2.2.2.2.1), (ur_15.2.2.2.2.2.2.2.2.2.2.2.2.2.2.1), (ur_15.2.2.2.2.2.2.2.2.2.2.2.2.2.2.2)), (by first | omega | decide), rfl, (by show MH E h0 rf t0 t1 t2 (uA (uA (uA (uA (uA (uA (uA (uA (uA (uA (uA (uA (uA (uA (uA (uA A 8 (ur_15.1)) 9 (ur_15.2.1)) 12 (ur_15.2.2.1)) 15 (ur_15.2.2.2.1)) 16 (ur_15.2.2.2.2.1)) 17 (ur_15.2.2.2.2.2.1)) 18 (ur_15.2.2.2.2.2.2.1)) 20 (ur_15.2.2.2.2.2.2.2.1)) 22 (ur_15.2.2.2.2.2.2.2.2.1)) 23 (ur_15.2.2.2.2.2.2.2.2.2.1)) 24 (ur_15.2.2.2.2.2.2.2.2.2.2.1)) 25 (ur_15.2.2.2.2.2.2.2.2.2.2.2.1)) 26 (ur_15.2.2.2.2.2.2.2.2.2.2.2.2.1)) 27 (ur_15.2.2.2.2.2.2.2.2.2.2.2.2.2.1)) 28 (ur_15.2.2.2.2.2.2.2.2.2.2.2.2.2.2.1)) 29 (ur_15.2.2.2.2.2.2.2.2.2.2.2.2.2.2.2)) cd pk _; exact hM.cge (funext fun j => (cgj j 29 rfl (fun a0 => (cgj j 28 rfl (fun a1 => (cgj j 27 rfl (fun a2 => (cgj j 26 rfl (fun a3 => (cgj j 25 rfl (fun a4 => (cgj j 24 rfl (fun a5 => (cgj j 23 rfl (fun a6 => (cgj j 22 rfl (fun a7 => (cgj j 20 rfl (fun a8 => (cgj j 18 rfl (fun a9 => (cgj j 17 rfl (fun a10 => (cgj j 16 rfl (fun a11 => (cgj j 15 rfl (fun a12 => (cgj j 12 rfl (fun a13 => (cgj j 9 rfl (fun a14 => (cgj j 8 rfl (fun a15 => (by simp only [uA_n a0, uA_n a1, uA_n a2, uA_n a3, uA_n a4, uA_n a5, uA_n a6, uA_n a7, uA_n a8, uA_n a9, uA_n a10, uA_n a11, uA_n a12, uA_n a13, uA_n a14, uA_n a15]))))))))))))))))))))))))))))))))))), hpr_15_0, hpr_15_1, hpr_15_2, hpr_15_3, hX_17, hS, hl⟩
      · simp only [lt_I, le_I, eq_I, i_0, i_1, i_2, i_3, i_4, i_5, i_6, i_7, i_8, i_10, i_12, i_16, i_20, i_23, i_24, i_31, i_32, i_63, i_64, i_m1, i_9, i_11, i_13, i_25, i_60, i_75, i_79, i_80, i_96, i_100] at c_14
        refine lv_iconst (v := 0) hx hb dX10_answerSome_44 (by decide) ?_
        refine lv_istore_n (lv' := [(3, .int 0), (0, .ref h0), (1, .int p0), (2, .int p1)]) hx hb dX10_answerSome_45 rfl hl (by decide) rfl (fun ls hl => ?_)
        refine lv_goto (tgt := 54) hx hb dX10_answerSome_46 (by decide) ?_
        refine lv_iinc (v := (-1)) (lv' := [(3, .int (-1)), (0, .ref h0), (1, .int p0), (2, .int p1)]) hx hb dX10_answerSome_54 hl (k := 0) rfl (by decide) (by decide) rfl (fun ls hl => ?_)
        refine lv_goto (tgt := 22) hx hb dX10_answerSome_57 (by decide) ?_
        obtain ⟨hx9, b9, f9, o9⟩ := hx_7
        have o9 := o9.resolve_right (fun h => by omega)
        have hX_18 : ((-1 : Int32).toInt ≤ (farI ((u_7.2.2.1) n_1) ((A 13) n_1)).toInt ∧ (farI ((u_7.2.2.1) n_1) ((A 13) n_1)).toInt ≤ 63) ∧ ∃ b : Nat, ASR A cd pk p0 n_1 b (uA (uA (uA (uA (uA (uA (uA (uA (uA (uA (uA (uA (uA (uA (uA (uA A 8 (u_7.1)) 9 (u_7.2.1)) 12 (u_7.2.2.1)) 15 (u_7.2.2.2.1)) 16 (u_7.2.2.2.2.1)) 17 (u_7.2.2.2.2.2.1)) 18 (u_7.2.2.2.2.2.2.1)) 20 (u_7.2.2.2.2.2.2.2.1)) 22 (u_7.2.2.2.2.2.2.2.2.1)) 23 (u_7.2.2.2.2.2.2.2.2.2.1)) 24 (u_7.2.2.2.2.2.2.2.2.2.2.1)) 25 (u_7.2.2.2.2.2.2.2.2.2.2.2.1)) 26 (u_7.2.2.2.2.2.2.2.2.2.2.2.2.1)) 27 (u_7.2.2.2.2.2.2.2.2.2.2.2.2.2.1)) 28 (u_7.2.2.2.2.2.2.2.2.2.2.2.2.2.2.1)) 29 (u_7.2.2.2.2.2.2.2.2.2.2.2.2.2.2.2)) ∧ (((-1 : Int32).toInt = p1.toInt - b ∧ (0 ≤ (-1 : Int32).toInt ∨ b = 0)) ∨ ((-1 : Int32).toInt = -1 ∧ (b : Int) < p1.toInt ∧ ∃ w : Int32, HC (uA (uA (uA (uA (uA (uA (uA (uA (uA (uA (uA (uA (uA (uA (uA (uA A 8 (u_7.1)) 9 (u_7.2.1)) 12 (u_7.2.2.1)) 15 (u_7.2.2.2.1)) 16 (u_7.2.2.2.2.1)) 17 (u_7.2.2.2.2.2.1)) 18 (u_7.2.2.2.2.2.2.1)) 20 (u_7.2.2.2.2.2.2.2.1)) 22 (u_7.2.2.2.2.2.2.2.2.1)) 23 (u_7.2.2.2.2.2.2.2.2.2.1)) 24 (u_7.2.2.2.2.2.2.2.2.2.2.1)) 25 (u_7.2.2.2.2.2.2.2.2.2.2.2.1)) 26 (u_7.2.2.2.2.2.2.2.2.2.2.2.2.1)) 27 (u_7.2.2.2.2.2.2.2.2.2.2.2.2.2.1)) 28 (u_7.2.2.2.2.2.2.2.2.2.2.2.2.2.2.1)) 29 (u_7.2.2.2.2.2.2.2.2.2.2.2.2.2.2.2)) cd pk p0 n_1 w ∧ w.toInt ≠ 0)) := ⟨⟨by have := i_m1; omega, by omega⟩, b9, f9, Or.inr ⟨by have := i_m1; omega, by omega, _, ⟨_, iahpr_12_1, hDr_13⟩, by omega⟩⟩
        exact ih_7 _ (by have := i_m1; omega) _ _ _ ⟨(-1), ((u_7.1), (u_7.2.1), (u_7.2.2.1), (u_7.2.2.2.1), (u_7.2.2.2.2.1), (u_7.2.2.2.2.2.1), (u_7.2.2.2.2.2.2.1), (u_7.2.2.2.2.2.2.2.1), (u_7.2.2.2.2.2.2.2.2.1), (u_7.2.2.2.2.2.2.2.2.2.1), (u_7.2.2.2.2.2.2.2.2.2.2.1), (u_7.2.2.2.2.2.2.2.2.2.2.2.1), (u_7.2.2.2.2.2.2.2.2.2.2.2.2.1), (u_7.2.2.2.2.2.2.2.2.2.2.2.2.2.1), (u_7.2.2.2.2.2.2.2.2.2.2.2.2.2.2.1), (u_7.2.2.2.2.2.2.2.2.2.2.2.2.2.2.2)), (by have := i_m1; first | omega | decide), rfl, hM, hI3_7, hI4_7, hI6_7, hI8_7, hX_18, hS, hl⟩
  · simp only [lt_I, le_I, eq_I, i_0, i_1, i_2, i_3, i_4, i_5, i_6, i_7, i_8, i_10, i_12, i_16, i_20, i_23, i_24, i_31, i_32, i_63, i_64, i_m1, i_9, i_11, i_13, i_25, i_60, i_75, i_79, i_80, i_96, i_100] at c_6
    exact W.vret hx hb hr (fun t ht hW => ⟨⟨((A 8), (A 9), (A 12), (A 15), (A 16), (A 17), (A 18), (A 20), (A 22), (A 23), (A 24), (A 25), (A 26), (A 27), (A 28), (A 29)), rfl, ⟨hI3, hI4, hI6, hI8, (Or.inr ⟨n_1, hn_1, x_5, ex_5, fx_5, c_6, rfl, rfl, rfl⟩)⟩, (by show MH E h0 rf t0 t1 t2 (uA (uA (uA (uA (uA (uA (uA (uA (uA (uA (uA (uA (uA (uA (uA (uA A 8 (A 8)) 9 (A 9)) 12 (A 12)) 15 (A 15)) 16 (A 16)) 17 (A 17)) 18 (A 18)) 20 (A 20)) 22 (A 22)) 23 (A 23)) 24 (A 24)) 25 (A 25)) 26 (A 26)) 27 (A 27)) 28 (A 28)) 29 (A 29)) cd pk t.heap; rw [ht]; exact hM.cge (funext fun j => (cgj j 29 rfl (fun a0 => (cgj j 28 rfl (fun a1 => (cgj j 27 rfl (fun a2 => (cgj j 26 rfl (fun a3 => (cgj j 25 rfl (fun a4 => (cgj j 24 rfl (fun a5 => (cgj j 23 rfl (fun a6 => (cgj j 22 rfl (fun a7 => (cgj j 20 rfl (fun a8 => (cgj j 18 rfl (fun a9 => (cgj j 17 rfl (fun a10 => (cgj j 16 rfl (fun a11 => (cgj j 15 rfl (fun a12 => (cgj j 12 rfl (fun a13 => (cgj j 9 rfl (fun a14 => (cgj j 8 rfl (fun a15 => (by simp only [uA_n a0, uA_n a1, uA_n a2, uA_n a3, uA_n a4, uA_n a5, uA_n a6, uA_n a7, uA_n a8, uA_n a9, uA_n a10, uA_n a11, uA_n a12, uA_n a13, uA_n a14, uA_n a15])))))))))))))))))))))))))))))))))))⟩, hS.F ht⟩) hS.2.2 dX10_answerSome_19
end
section
theorem gdX10_push_0 : (decode cX10_push 0 = .ok (.aload_n 0, 1)) ∧ (decode cX10_push 1 = .ok (.iconst 0, 1)) ∧ (decode cX10_push 2 = .ok (.putfield 153, 3)) ∧ (decode cX10_push 5 = .ok (.iload_n 1, 1)) ∧ (decode cX10_push 6 = .ok (.iconst 3, 1)) ∧ (decode cX10_push 7 = .ok (.invokestatic 156, 3)) ∧ (decode cX10_push 10 = .ok (.ifCond .ne 5, 3)) ∧ (decode cX10_push 13 = .ok (.iconst (-1), 1)) ∧ (decode cX10_push 14 = .ok (.ireturn, 1)) ∧ (decode cX10_push 15 = .ok (.aload_n 0, 1)) ∧ (decode cX10_push 16 = .ok (.getfield 28, 3)) ∧ (decode cX10_push 19 = .ok (.iload_n 1, 1)) ∧ (decode cX10_push 20 = .ok (.iaload, 1)) ∧ (decode cX10_push 21 = .ok (.iconst 1, 1)) ∧ (decode cX10_push 22 = .ok (.if_icmp .ne 27, 3)) ∧ (decode cX10_push 25 = .ok (.aload_n 0, 1)) := by decide +kernel
theorem dX10_push_0 : decode cX10_push 0 = .ok (.aload_n 0, 1) := gdX10_push_0.1
theorem dX10_push_1 : decode cX10_push 1 = .ok (.iconst 0, 1) := gdX10_push_0.2.1
theorem dX10_push_2 : decode cX10_push 2 = .ok (.putfield 153, 3) := gdX10_push_0.2.2.1
theorem dX10_push_5 : decode cX10_push 5 = .ok (.iload_n 1, 1) := gdX10_push_0.2.2.2.1
theorem dX10_push_6 : decode cX10_push 6 = .ok (.iconst 3, 1) := gdX10_push_0.2.2.2.2.1
theorem dX10_push_7 : decode cX10_push 7 = .ok (.invokestatic 156, 3) := gdX10_push_0.2.2.2.2.2.1
theorem dX10_push_10 : decode cX10_push 10 = .ok (.ifCond .ne 5, 3) := gdX10_push_0.2.2.2.2.2.2.1
theorem dX10_push_13 : decode cX10_push 13 = .ok (.iconst (-1), 1) := gdX10_push_0.2.2.2.2.2.2.2.1
theorem dX10_push_14 : decode cX10_push 14 = .ok (.ireturn, 1) := gdX10_push_0.2.2.2.2.2.2.2.2.1
theorem dX10_push_15 : decode cX10_push 15 = .ok (.aload_n 0, 1) := gdX10_push_0.2.2.2.2.2.2.2.2.2.1
theorem dX10_push_16 : decode cX10_push 16 = .ok (.getfield 28, 3) := gdX10_push_0.2.2.2.2.2.2.2.2.2.2.1
theorem dX10_push_19 : decode cX10_push 19 = .ok (.iload_n 1, 1) := gdX10_push_0.2.2.2.2.2.2.2.2.2.2.2.1
theorem dX10_push_20 : decode cX10_push 20 = .ok (.iaload, 1) := gdX10_push_0.2.2.2.2.2.2.2.2.2.2.2.2.1
theorem dX10_push_21 : decode cX10_push 21 = .ok (.iconst 1, 1) := gdX10_push_0.2.2.2.2.2.2.2.2.2.2.2.2.2.1
theorem dX10_push_22 : decode cX10_push 22 = .ok (.if_icmp .ne 27, 3) := gdX10_push_0.2.2.2.2.2.2.2.2.2.2.2.2.2.2.1
theorem dX10_push_25 : decode cX10_push 25 = .ok (.aload_n 0, 1) := gdX10_push_0.2.2.2.2.2.2.2.2.2.2.2.2.2.2.2
theorem gdX10_push_26 : (decode cX10_push 26 = .ok (.getfield 37, 3)) ∧ (decode cX10_push 29 = .ok (.iload_n 1, 1)) ∧ (decode cX10_push 30 = .ok (.iaload, 1)) ∧ (decode cX10_push 31 = .ok (.aload_n 0, 1)) ∧ (decode cX10_push 32 = .ok (.getfield 31, 3)) ∧ (decode cX10_push 35 = .ok (.iload_n 1, 1)) ∧ (decode cX10_push 36 = .ok (.iaload, 1)) ∧ (decode cX10_push 37 = .ok (.if_icmp .eq 12, 3)) ∧ (decode cX10_push 40 = .ok (.aload_n 0, 1)) ∧ (decode cX10_push 41 = .ok (.getfield 52, 3)) ∧ (decode cX10_push 44 = .ok (.iload_n 1, 1)) ∧ (decode cX10_push 45 = .ok (.baload, 1)) ∧ (decode cX10_push 46 = .ok (.ifCond .eq 5, 3)) ∧ (decode cX10_push 49 = .ok (.iconst (-1), 1)) ∧ (decode cX10_push 50 = .ok (.ireturn, 1)) ∧ (decode cX10_push 51 = .ok (.aload_n 0, 1)) := by decide +kernel
theorem dX10_push_26 : decode cX10_push 26 = .ok (.getfield 37, 3) := gdX10_push_26.1
theorem dX10_push_29 : decode cX10_push 29 = .ok (.iload_n 1, 1) := gdX10_push_26.2.1
theorem dX10_push_30 : decode cX10_push 30 = .ok (.iaload, 1) := gdX10_push_26.2.2.1
theorem dX10_push_31 : decode cX10_push 31 = .ok (.aload_n 0, 1) := gdX10_push_26.2.2.2.1
theorem dX10_push_32 : decode cX10_push 32 = .ok (.getfield 31, 3) := gdX10_push_26.2.2.2.2.1
theorem dX10_push_35 : decode cX10_push 35 = .ok (.iload_n 1, 1) := gdX10_push_26.2.2.2.2.2.1
theorem dX10_push_36 : decode cX10_push 36 = .ok (.iaload, 1) := gdX10_push_26.2.2.2.2.2.2.1
theorem dX10_push_37 : decode cX10_push 37 = .ok (.if_icmp .eq 12, 3) := gdX10_push_26.2.2.2.2.2.2.2.1
theorem dX10_push_40 : decode cX10_push 40 = .ok (.aload_n 0, 1) := gdX10_push_26.2.2.2.2.2.2.2.2.1
theorem dX10_push_41 : decode cX10_push 41 = .ok (.getfield 52, 3) := gdX10_push_26.2.2.2.2.2.2.2.2.2.1
theorem dX10_push_44 : decode cX10_push 44 = .ok (.iload_n 1, 1) := gdX10_push_26.2.2.2.2.2.2.2.2.2.2.1
theorem dX10_push_45 : decode cX10_push 45 = .ok (.baload, 1) := gdX10_push_26.2.2.2.2.2.2.2.2.2.2.2.1
theorem dX10_push_46 : decode cX10_push 46 = .ok (.ifCond .eq 5, 3) := gdX10_push_26.2.2.2.2.2.2.2.2.2.2.2.2.1
theorem dX10_push_49 : decode cX10_push 49 = .ok (.iconst (-1), 1) := gdX10_push_26.2.2.2.2.2.2.2.2.2.2.2.2.2.1
theorem dX10_push_50 : decode cX10_push 50 = .ok (.ireturn, 1) := gdX10_push_26.2.2.2.2.2.2.2.2.2.2.2.2.2.2.1
theorem dX10_push_51 : decode cX10_push 51 = .ok (.aload_n 0, 1) := gdX10_push_26.2.2.2.2.2.2.2.2.2.2.2.2.2.2.2
theorem gdX10_push_52 : (decode cX10_push 52 = .ok (.getfield 37, 3)) ∧ (decode cX10_push 55 = .ok (.iload_n 1, 1)) ∧ (decode cX10_push 56 = .ok (.iaload, 1)) ∧ (decode cX10_push 57 = .ok (.istore_n 2, 1)) ∧ (decode cX10_push 58 = .ok (.aload_n 0, 1)) ∧ (decode cX10_push 59 = .ok (.iload_n 1, 1)) ∧ (decode cX10_push 60 = .ok (.iload_n 2, 1)) ∧ (decode cX10_push 61 = .ok (.invokevirtual 196, 3)) ∧ (decode cX10_push 64 = .ok (.istore_n 3, 1)) ∧ (decode cX10_push 65 = .ok (.aload_n 0, 1)) ∧ (decode cX10_push 66 = .ok (.getfield 86, 3)) ∧ (decode cX10_push 69 = .ok (.iload_n 3, 1)) ∧ (decode cX10_push 70 = .ok (.iaload, 1)) ∧ (decode cX10_push 71 = .ok (.iload_n 2, 1)) ∧ (decode cX10_push 72 = .ok (.invokestatic 174, 3)) ∧ (decode cX10_push 75 = .ok (.istore 4, 2)) := by decide +kernel
theorem dX10_push_52 : decode cX10_push 52 = .ok (.getfield 37, 3) := gdX10_push_52.1
theorem dX10_push_55 : decode cX10_push 55 = .ok (.iload_n 1, 1) := gdX10_push_52.2.1
theorem dX10_push_56 : decode cX10_push 56 = .ok (.iaload, 1) := gdX10_push_52.2.2.1
theorem dX10_push_57 : decode cX10_push 57 = .ok (.istore_n 2, 1) := gdX10_push_52.2.2.2.1
theorem dX10_push_58 : decode cX10_push 58 = .ok (.aload_n 0, 1) := gdX10_push_52.2.2.2.2.1
theorem dX10_push_59 : decode cX10_push 59 = .ok (.iload_n 1, 1) := gdX10_push_52.2.2.2.2.2.1
theorem dX10_push_60 : decode cX10_push 60 = .ok (.iload_n 2, 1) := gdX10_push_52.2.2.2.2.2.2.1
theorem dX10_push_61 : decode cX10_push 61 = .ok (.invokevirtual 196, 3) := gdX10_push_52.2.2.2.2.2.2.2.1
theorem dX10_push_64 : decode cX10_push 64 = .ok (.istore_n 3, 1) := gdX10_push_52.2.2.2.2.2.2.2.2.1
theorem dX10_push_65 : decode cX10_push 65 = .ok (.aload_n 0, 1) := gdX10_push_52.2.2.2.2.2.2.2.2.2.1
theorem dX10_push_66 : decode cX10_push 66 = .ok (.getfield 86, 3) := gdX10_push_52.2.2.2.2.2.2.2.2.2.2.1
theorem dX10_push_69 : decode cX10_push 69 = .ok (.iload_n 3, 1) := gdX10_push_52.2.2.2.2.2.2.2.2.2.2.2.1
theorem dX10_push_70 : decode cX10_push 70 = .ok (.iaload, 1) := gdX10_push_52.2.2.2.2.2.2.2.2.2.2.2.2.1
theorem dX10_push_71 : decode cX10_push 71 = .ok (.iload_n 2, 1) := gdX10_push_52.2.2.2.2.2.2.2.2.2.2.2.2.2.1
theorem dX10_push_72 : decode cX10_push 72 = .ok (.invokestatic 174, 3) := gdX10_push_52.2.2.2.2.2.2.2.2.2.2.2.2.2.2.1
theorem dX10_push_75 : decode cX10_push 75 = .ok (.istore 4, 2) := gdX10_push_52.2.2.2.2.2.2.2.2.2.2.2.2.2.2.2
theorem gdX10_push_77 : (decode cX10_push 77 = .ok (.aload_n 0, 1)) ∧ (decode cX10_push 78 = .ok (.getfield 65, 3)) ∧ (decode cX10_push 81 = .ok (.iload_n 3, 1)) ∧ (decode cX10_push 82 = .ok (.iaload, 1)) ∧ (decode cX10_push 83 = .ok (.iconst 2, 1)) ∧ (decode cX10_push 84 = .ok (.if_icmp .ne 14, 3)) ∧ (decode cX10_push 87 = .ok (.aload_n 0, 1)) ∧ (decode cX10_push 88 = .ok (.iload_n 3, 1)) ∧ (decode cX10_push 89 = .ok (.invokevirtual 178, 3)) ∧ (decode cX10_push 92 = .ok (.iload 4, 2)) ∧ (decode cX10_push 94 = .ok (.isub, 1)) ∧ (decode cX10_push 95 = .ok (.goto 4, 3)) ∧ (decode cX10_push 98 = .ok (.iconst 1, 1)) ∧ (decode cX10_push 99 = .ok (.istore 5, 2)) ∧ (decode cX10_push 101 = .ok (.aload_n 0, 1)) ∧ (decode cX10_push 102 = .ok (.getfield 34, 3)) := by decide +kernel
theorem dX10_push_77 : decode cX10_push 77 = .ok (.aload_n 0, 1) := gdX10_push_77.1
theorem dX10_push_78 : decode cX10_push 78 = .ok (.getfield 65, 3) := gdX10_push_77.2.1
theorem dX10_push_81 : decode cX10_push 81 = .ok (.iload_n 3, 1) := gdX10_push_77.2.2.1
theorem dX10_push_82 : decode cX10_push 82 = .ok (.iaload, 1) := gdX10_push_77.2.2.2.1
theorem dX10_push_83 : decode cX10_push 83 = .ok (.iconst 2, 1) := gdX10_push_77.2.2.2.2.1
theorem dX10_push_84 : decode cX10_push 84 = .ok (.if_icmp .ne 14, 3) := gdX10_push_77.2.2.2.2.2.1
theorem dX10_push_87 : decode cX10_push 87 = .ok (.aload_n 0, 1) := gdX10_push_77.2.2.2.2.2.2.1
theorem dX10_push_88 : decode cX10_push 88 = .ok (.iload_n 3, 1) := gdX10_push_77.2.2.2.2.2.2.2.1
theorem dX10_push_89 : decode cX10_push 89 = .ok (.invokevirtual 178, 3) := gdX10_push_77.2.2.2.2.2.2.2.2.1
theorem dX10_push_92 : decode cX10_push 92 = .ok (.iload 4, 2) := gdX10_push_77.2.2.2.2.2.2.2.2.2.1
theorem dX10_push_94 : decode cX10_push 94 = .ok (.isub, 1) := gdX10_push_77.2.2.2.2.2.2.2.2.2.2.1
theorem dX10_push_95 : decode cX10_push 95 = .ok (.goto 4, 3) := gdX10_push_77.2.2.2.2.2.2.2.2.2.2.2.1
theorem dX10_push_98 : decode cX10_push 98 = .ok (.iconst 1, 1) := gdX10_push_77.2.2.2.2.2.2.2.2.2.2.2.2.1
theorem dX10_push_99 : decode cX10_push 99 = .ok (.istore 5, 2) := gdX10_push_77.2.2.2.2.2.2.2.2.2.2.2.2.2.1
theorem dX10_push_101 : decode cX10_push 101 = .ok (.aload_n 0, 1) := gdX10_push_77.2.2.2.2.2.2.2.2.2.2.2.2.2.2.1
theorem dX10_push_102 : decode cX10_push 102 = .ok (.getfield 34, 3) := gdX10_push_77.2.2.2.2.2.2.2.2.2.2.2.2.2.2.2
theorem gdX10_push_105 : (decode cX10_push 105 = .ok (.iload_n 1, 1)) ∧ (decode cX10_push 106 = .ok (.iaload, 1)) ∧ (decode cX10_push 107 = .ok (.iload_n 2, 1)) ∧ (decode cX10_push 108 = .ok (.iload 5, 2)) ∧ (decode cX10_push 110 = .ok (.iadd, 1)) ∧ (decode cX10_push 111 = .ok (.iconst 1, 1)) ∧ (decode cX10_push 112 = .ok (.isub, 1)) ∧ (decode cX10_push 113 = .ok (.bipush 64, 2)) ∧ (decode cX10_push 115 = .ok (.irem, 1)) ∧ (decode cX10_push 116 = .ok (.invokestatic 174, 3)) ∧ (decode cX10_push 119 = .ok (.bipush 8, 2)) ∧ (decode cX10_push 121 = .ok (.if_icmp .lt 5, 3)) ∧ (decode cX10_push 124 = .ok (.iconst (-1), 1)) ∧ (decode cX10_push 125 = .ok (.ireturn, 1)) ∧ (decode cX10_push 126 = .ok (.iload_n 2, 1)) ∧ (decode cX10_push 127 = .ok (.aload_n 0, 1)) := by decide +kernel
theorem dX10_push_105 : decode cX10_push 105 = .ok (.iload_n 1, 1) := gdX10_push_105.1
theorem dX10_push_106 : decode cX10_push 106 = .ok (.iaload, 1) := gdX10_push_105.2.1
theorem dX10_push_107 : decode cX10_push 107 = .ok (.iload_n 2, 1) := gdX10_push_105.2.2.1
theorem dX10_push_108 : decode cX10_push 108 = .ok (.iload 5, 2) := gdX10_push_105.2.2.2.1
theorem dX10_push_110 : decode cX10_push 110 = .ok (.iadd, 1) := gdX10_push_105.2.2.2.2.1
theorem dX10_push_111 : decode cX10_push 111 = .ok (.iconst 1, 1) := gdX10_push_105.2.2.2.2.2.1
theorem dX10_push_112 : decode cX10_push 112 = .ok (.isub, 1) := gdX10_push_105.2.2.2.2.2.2.1
theorem dX10_push_113 : decode cX10_push 113 = .ok (.bipush 64, 2) := gdX10_push_105.2.2.2.2.2.2.2.1
theorem dX10_push_115 : decode cX10_push 115 = .ok (.irem, 1) := gdX10_push_105.2.2.2.2.2.2.2.2.1
theorem dX10_push_116 : decode cX10_push 116 = .ok (.invokestatic 174, 3) := gdX10_push_105.2.2.2.2.2.2.2.2.2.1
theorem dX10_push_119 : decode cX10_push 119 = .ok (.bipush 8, 2) := gdX10_push_105.2.2.2.2.2.2.2.2.2.2.1
theorem dX10_push_121 : decode cX10_push 121 = .ok (.if_icmp .lt 5, 3) := gdX10_push_105.2.2.2.2.2.2.2.2.2.2.2.1
theorem dX10_push_124 : decode cX10_push 124 = .ok (.iconst (-1), 1) := gdX10_push_105.2.2.2.2.2.2.2.2.2.2.2.2.1
theorem dX10_push_125 : decode cX10_push 125 = .ok (.ireturn, 1) := gdX10_push_105.2.2.2.2.2.2.2.2.2.2.2.2.2.1
theorem dX10_push_126 : decode cX10_push 126 = .ok (.iload_n 2, 1) := gdX10_push_105.2.2.2.2.2.2.2.2.2.2.2.2.2.2.1
theorem dX10_push_127 : decode cX10_push 127 = .ok (.aload_n 0, 1) := gdX10_push_105.2.2.2.2.2.2.2.2.2.2.2.2.2.2.2
theorem gdX10_push_128 : (decode cX10_push 128 = .ok (.getfield 34, 3)) ∧ (decode cX10_push 131 = .ok (.iload_n 1, 1)) ∧ (decode cX10_push 132 = .ok (.iaload, 1)) ∧ (decode cX10_push 133 = .ok (.if_icmp .ne 10, 3)) ∧ (decode cX10_push 136 = .ok (.aload_n 0, 1)) ∧ (decode cX10_push 137 = .ok (.getfield 43, 3)) ∧ (decode cX10_push 140 = .ok (.iload_n 1, 1)) ∧ (decode cX10_push 141 = .ok (.iconst 0, 1)) ∧ (decode cX10_push 142 = .ok (.iastore, 1)) ∧ (decode cX10_push 143 = .ok (.aload_n 0, 1)) ∧ (decode cX10_push 144 = .ok (.getfield 71, 3)) ∧ (decode cX10_push 147 = .ok (.iload_n 3, 1)) ∧ (decode cX10_push 148 = .ok (.iaload, 1)) ∧ (decode cX10_push 149 = .ok (.iconst 4, 1)) ∧ (decode cX10_push 150 = .ok (.iload 4, 2)) ∧ (decode cX10_push 152 = .ok (.imul, 1)) := by decide +kernel
theorem dX10_push_128 : decode cX10_push 128 = .ok (.getfield 34, 3) := gdX10_push_128.1
theorem dX10_push_131 : decode cX10_push 131 = .ok (.iload_n 1, 1) := gdX10_push_128.2.1
theorem dX10_push_132 : decode cX10_push 132 = .ok (.iaload, 1) := gdX10_push_128.2.2.1
theorem dX10_push_133 : decode cX10_push 133 = .ok (.if_icmp .ne 10, 3) := gdX10_push_128.2.2.2.1
theorem dX10_push_136 : decode cX10_push 136 = .ok (.aload_n 0, 1) := gdX10_push_128.2.2.2.2.1
theorem dX10_push_137 : decode cX10_push 137 = .ok (.getfield 43, 3) := gdX10_push_128.2.2.2.2.2.1
theorem dX10_push_140 : decode cX10_push 140 = .ok (.iload_n 1, 1) := gdX10_push_128.2.2.2.2.2.2.1
theorem dX10_push_141 : decode cX10_push 141 = .ok (.iconst 0, 1) := gdX10_push_128.2.2.2.2.2.2.2.1
theorem dX10_push_142 : decode cX10_push 142 = .ok (.iastore, 1) := gdX10_push_128.2.2.2.2.2.2.2.2.1
theorem dX10_push_143 : decode cX10_push 143 = .ok (.aload_n 0, 1) := gdX10_push_128.2.2.2.2.2.2.2.2.2.1
theorem dX10_push_144 : decode cX10_push 144 = .ok (.getfield 71, 3) := gdX10_push_128.2.2.2.2.2.2.2.2.2.2.1
theorem dX10_push_147 : decode cX10_push 147 = .ok (.iload_n 3, 1) := gdX10_push_128.2.2.2.2.2.2.2.2.2.2.2.1
theorem dX10_push_148 : decode cX10_push 148 = .ok (.iaload, 1) := gdX10_push_128.2.2.2.2.2.2.2.2.2.2.2.2.1
theorem dX10_push_149 : decode cX10_push 149 = .ok (.iconst 4, 1) := gdX10_push_128.2.2.2.2.2.2.2.2.2.2.2.2.2.1
theorem dX10_push_150 : decode cX10_push 150 = .ok (.iload 4, 2) := gdX10_push_128.2.2.2.2.2.2.2.2.2.2.2.2.2.2.1
theorem dX10_push_152 : decode cX10_push 152 = .ok (.imul, 1) := gdX10_push_128.2.2.2.2.2.2.2.2.2.2.2.2.2.2.2
theorem gdX10_push_153 : (decode cX10_push 153 = .ok (.isub, 1)) ∧ (decode cX10_push 154 = .ok (.istore 6, 2)) ∧ (decode cX10_push 156 = .ok (.iload 4, 2)) ∧ (decode cX10_push 158 = .ok (.ifCond .ne 7, 3)) ∧ (decode cX10_push 161 = .ok (.iconst 1, 1)) ∧ (decode cX10_push 162 = .ok (.goto 4, 3)) ∧ (decode cX10_push 165 = .ok (.iconst 0, 1)) ∧ (decode cX10_push 166 = .ok (.iload 4, 2)) ∧ (decode cX10_push 168 = .ok (.aload_n 0, 1)) ∧ (decode cX10_push 169 = .ok (.iload_n 3, 1)) ∧ (decode cX10_push 170 = .ok (.invokevirtual 178, 3)) ∧ (decode cX10_push 173 = .ok (.iconst 1, 1)) ∧ (decode cX10_push 174 = .ok (.isub, 1)) ∧ (decode cX10_push 175 = .ok (.if_icmp .ne 7, 3)) ∧ (decode cX10_push 178 = .ok (.iconst 2, 1)) ∧ (decode cX10_push 179 = .ok (.goto 4, 3)) := by decide +kernel
theorem dX10_push_153 : decode cX10_push 153 = .ok (.isub, 1) := gdX10_push_153.1
theorem dX10_push_154 : decode cX10_push 154 = .ok (.istore 6, 2) := gdX10_push_153.2.1
theorem dX10_push_156 : decode cX10_push 156 = .ok (.iload 4, 2) := gdX10_push_153.2.2.1
theorem dX10_push_158 : decode cX10_push 158 = .ok (.ifCond .ne 7, 3) := gdX10_push_153.2.2.2.1
theorem dX10_push_161 : decode cX10_push 161 = .ok (.iconst 1, 1) := gdX10_push_153.2.2.2.2.1
theorem dX10_push_162 : decode cX10_push 162 = .ok (.goto 4, 3) := gdX10_push_153.2.2.2.2.2.1
theorem dX10_push_165 : decode cX10_push 165 = .ok (.iconst 0, 1) := gdX10_push_153.2.2.2.2.2.2.1
theorem dX10_push_166 : decode cX10_push 166 = .ok (.iload 4, 2) := gdX10_push_153.2.2.2.2.2.2.2.1
theorem dX10_push_168 : decode cX10_push 168 = .ok (.aload_n 0, 1) := gdX10_push_153.2.2.2.2.2.2.2.2.1
theorem dX10_push_169 : decode cX10_push 169 = .ok (.iload_n 3, 1) := gdX10_push_153.2.2.2.2.2.2.2.2.2.1
theorem dX10_push_170 : decode cX10_push 170 = .ok (.invokevirtual 178, 3) := gdX10_push_153.2.2.2.2.2.2.2.2.2.2.1
theorem dX10_push_173 : decode cX10_push 173 = .ok (.iconst 1, 1) := gdX10_push_153.2.2.2.2.2.2.2.2.2.2.2.1
theorem dX10_push_174 : decode cX10_push 174 = .ok (.isub, 1) := gdX10_push_153.2.2.2.2.2.2.2.2.2.2.2.2.1
theorem dX10_push_175 : decode cX10_push 175 = .ok (.if_icmp .ne 7, 3) := gdX10_push_153.2.2.2.2.2.2.2.2.2.2.2.2.2.1
theorem dX10_push_178 : decode cX10_push 178 = .ok (.iconst 2, 1) := gdX10_push_153.2.2.2.2.2.2.2.2.2.2.2.2.2.2.1
theorem dX10_push_179 : decode cX10_push 179 = .ok (.goto 4, 3) := gdX10_push_153.2.2.2.2.2.2.2.2.2.2.2.2.2.2.2
theorem gdX10_push_182 : (decode cX10_push 182 = .ok (.iconst 0, 1)) ∧ (decode cX10_push 183 = .ok (.iadd, 1)) ∧ (decode cX10_push 184 = .ok (.istore 7, 2)) ∧ (decode cX10_push 186 = .ok (.aload_n 0, 1)) ∧ (decode cX10_push 187 = .ok (.iload_n 1, 1)) ∧ (decode cX10_push 188 = .ok (.aload_n 0, 1)) ∧ (decode cX10_push 189 = .ok (.getfield 65, 3)) ∧ (decode cX10_push 192 = .ok (.iload_n 3, 1)) ∧ (decode cX10_push 193 = .ok (.iaload, 1)) ∧ (decode cX10_push 194 = .ok (.iload_n 2, 1)) ∧ (decode cX10_push 195 = .ok (.aload_n 0, 1)) ∧ (decode cX10_push 196 = .ok (.getfield 65, 3)) ∧ (decode cX10_push 199 = .ok (.iload_n 3, 1)) ∧ (decode cX10_push 200 = .ok (.iaload, 1)) ∧ (decode cX10_push 201 = .ok (.ifCond .ne 8, 3)) ∧ (decode cX10_push 204 = .ok (.iload 7, 2)) := by decide +kernel
theorem dX10_push_182 : decode cX10_push 182 = .ok (.iconst 0, 1) := gdX10_push_182.1
theorem dX10_push_183 : decode cX10_push 183 = .ok (.iadd, 1) := gdX10_push_182.2.1
theorem dX10_push_184 : decode cX10_push 184 = .ok (.istore 7, 2) := gdX10_push_182.2.2.1
theorem dX10_push_186 : decode cX10_push 186 = .ok (.aload_n 0, 1) := gdX10_push_182.2.2.2.1
theorem dX10_push_187 : decode cX10_push 187 = .ok (.iload_n 1, 1) := gdX10_push_182.2.2.2.2.1
theorem dX10_push_188 : decode cX10_push 188 = .ok (.aload_n 0, 1) := gdX10_push_182.2.2.2.2.2.1
theorem dX10_push_189 : decode cX10_push 189 = .ok (.getfield 65, 3) := gdX10_push_182.2.2.2.2.2.2.1
theorem dX10_push_192 : decode cX10_push 192 = .ok (.iload_n 3, 1) := gdX10_push_182.2.2.2.2.2.2.2.1
theorem dX10_push_193 : decode cX10_push 193 = .ok (.iaload, 1) := gdX10_push_182.2.2.2.2.2.2.2.2.1
theorem dX10_push_194 : decode cX10_push 194 = .ok (.iload_n 2, 1) := gdX10_push_182.2.2.2.2.2.2.2.2.2.1
theorem dX10_push_195 : decode cX10_push 195 = .ok (.aload_n 0, 1) := gdX10_push_182.2.2.2.2.2.2.2.2.2.2.1
theorem dX10_push_196 : decode cX10_push 196 = .ok (.getfield 65, 3) := gdX10_push_182.2.2.2.2.2.2.2.2.2.2.2.1
theorem dX10_push_199 : decode cX10_push 199 = .ok (.iload_n 3, 1) := gdX10_push_182.2.2.2.2.2.2.2.2.2.2.2.2.1
theorem dX10_push_200 : decode cX10_push 200 = .ok (.iaload, 1) := gdX10_push_182.2.2.2.2.2.2.2.2.2.2.2.2.2.1
theorem dX10_push_201 : decode cX10_push 201 = .ok (.ifCond .ne 8, 3) := gdX10_push_182.2.2.2.2.2.2.2.2.2.2.2.2.2.2.1
theorem dX10_push_204 : decode cX10_push 204 = .ok (.iload 7, 2) := gdX10_push_182.2.2.2.2.2.2.2.2.2.2.2.2.2.2.2
theorem gdX10_push_206 : (decode cX10_push 206 = .ok (.goto 9, 3)) ∧ (decode cX10_push 209 = .ok (.aload_n 0, 1)) ∧ (decode cX10_push 210 = .ok (.getfield 74, 3)) ∧ (decode cX10_push 213 = .ok (.iload_n 3, 1)) ∧ (decode cX10_push 214 = .ok (.iaload, 1)) ∧ (decode cX10_push 215 = .ok (.aload_n 0, 1)) ∧ (decode cX10_push 216 = .ok (.getfield 65, 3)) ∧ (decode cX10_push 219 = .ok (.iload_n 3, 1)) ∧ (decode cX10_push 220 = .ok (.iaload, 1)) ∧ (decode cX10_push 221 = .ok (.ifCond .ne 7, 3)) ∧ (decode cX10_push 224 = .ok (.iconst (-1), 1)) ∧ (decode cX10_push 225 = .ok (.goto 14, 3)) ∧ (decode cX10_push 228 = .ok (.aload_n 0, 1)) ∧ (decode cX10_push 229 = .ok (.getfield 77, 3)) ∧ (decode cX10_push 232 = .ok (.iload_n 3, 1)) ∧ (decode cX10_push 233 = .ok (.iaload, 1)) := by decide +kernel
theorem dX10_push_206 : decode cX10_push 206 = .ok (.goto 9, 3) := gdX10_push_206.1
theorem dX10_push_209 : decode cX10_push 209 = .ok (.aload_n 0, 1) := gdX10_push_206.2.1
theorem dX10_push_210 : decode cX10_push 210 = .ok (.getfield 74, 3) := gdX10_push_206.2.2.1
theorem dX10_push_213 : decode cX10_push 213 = .ok (.iload_n 3, 1) := gdX10_push_206.2.2.2.1
theorem dX10_push_214 : decode cX10_push 214 = .ok (.iaload, 1) := gdX10_push_206.2.2.2.2.1
theorem dX10_push_215 : decode cX10_push 215 = .ok (.aload_n 0, 1) := gdX10_push_206.2.2.2.2.2.1
theorem dX10_push_216 : decode cX10_push 216 = .ok (.getfield 65, 3) := gdX10_push_206.2.2.2.2.2.2.1
theorem dX10_push_219 : decode cX10_push 219 = .ok (.iload_n 3, 1) := gdX10_push_206.2.2.2.2.2.2.2.1
theorem dX10_push_220 : decode cX10_push 220 = .ok (.iaload, 1) := gdX10_push_206.2.2.2.2.2.2.2.2.1
theorem dX10_push_221 : decode cX10_push 221 = .ok (.ifCond .ne 7, 3) := gdX10_push_206.2.2.2.2.2.2.2.2.2.1
theorem dX10_push_224 : decode cX10_push 224 = .ok (.iconst (-1), 1) := gdX10_push_206.2.2.2.2.2.2.2.2.2.2.1
theorem dX10_push_225 : decode cX10_push 225 = .ok (.goto 14, 3) := gdX10_push_206.2.2.2.2.2.2.2.2.2.2.2.1
theorem dX10_push_228 : decode cX10_push 228 = .ok (.aload_n 0, 1) := gdX10_push_206.2.2.2.2.2.2.2.2.2.2.2.2.1
theorem dX10_push_229 : decode cX10_push 229 = .ok (.getfield 77, 3) := gdX10_push_206.2.2.2.2.2.2.2.2.2.2.2.2.2.1
theorem dX10_push_232 : decode cX10_push 232 = .ok (.iload_n 3, 1) := gdX10_push_206.2.2.2.2.2.2.2.2.2.2.2.2.2.2.1
theorem dX10_push_233 : decode cX10_push 233 = .ok (.iaload, 1) := gdX10_push_206.2.2.2.2.2.2.2.2.2.2.2.2.2.2.2
theorem gdX10_push_234 : (decode cX10_push 234 = .ok (.iconst 4, 1)) ∧ (decode cX10_push 235 = .ok (.iload 4, 2)) ∧ (decode cX10_push 237 = .ok (.imul, 1)) ∧ (decode cX10_push 238 = .ok (.iadd, 1)) ∧ (decode cX10_push 239 = .ok (.aload_n 0, 1)) ∧ (decode cX10_push 240 = .ok (.getfield 80, 3)) ∧ (decode cX10_push 243 = .ok (.iload_n 3, 1)) ∧ (decode cX10_push 244 = .ok (.iaload, 1)) ∧ (decode cX10_push 245 = .ok (.invokevirtual 199, 3)) ∧ (decode cX10_push 248 = .ok (.istore 8, 2)) ∧ (decode cX10_push 250 = .ok (.aload_n 0, 1)) ∧ (decode cX10_push 251 = .ok (.getfield 65, 3)) ∧ (decode cX10_push 254 = .ok (.iload_n 3, 1)) ∧ (decode cX10_push 255 = .ok (.iaload, 1)) ∧ (decode cX10_push 256 = .ok (.iconst 2, 1)) ∧ (decode cX10_push 257 = .ok (.if_icmp .ge 33, 3)) := by decide +kernel
theorem dX10_push_234 : decode cX10_push 234 = .ok (.iconst 4, 1) := gdX10_push_234.1
theorem dX10_push_235 : decode cX10_push 235 = .ok (.iload 4, 2) := gdX10_push_234.2.1
theorem dX10_push_237 : decode cX10_push 237 = .ok (.imul, 1) := gdX10_push_234.2.2.1
theorem dX10_push_238 : decode cX10_push 238 = .ok (.iadd, 1) := gdX10_push_234.2.2.2.1
theorem dX10_push_239 : decode cX10_push 239 = .ok (.aload_n 0, 1) := gdX10_push_234.2.2.2.2.1
theorem dX10_push_240 : decode cX10_push 240 = .ok (.getfield 80, 3) := gdX10_push_234.2.2.2.2.2.1
theorem dX10_push_243 : decode cX10_push 243 = .ok (.iload_n 3, 1) := gdX10_push_234.2.2.2.2.2.2.1
theorem dX10_push_244 : decode cX10_push 244 = .ok (.iaload, 1) := gdX10_push_234.2.2.2.2.2.2.2.1
theorem dX10_push_245 : decode cX10_push 245 = .ok (.invokevirtual 199, 3) := gdX10_push_234.2.2.2.2.2.2.2.2.1
theorem dX10_push_248 : decode cX10_push 248 = .ok (.istore 8, 2) := gdX10_push_234.2.2.2.2.2.2.2.2.2.1
theorem dX10_push_250 : decode cX10_push 250 = .ok (.aload_n 0, 1) := gdX10_push_234.2.2.2.2.2.2.2.2.2.2.1
theorem dX10_push_251 : decode cX10_push 251 = .ok (.getfield 65, 3) := gdX10_push_234.2.2.2.2.2.2.2.2.2.2.2.1
theorem dX10_push_254 : decode cX10_push 254 = .ok (.iload_n 3, 1) := gdX10_push_234.2.2.2.2.2.2.2.2.2.2.2.2.1
theorem dX10_push_255 : decode cX10_push 255 = .ok (.iaload, 1) := gdX10_push_234.2.2.2.2.2.2.2.2.2.2.2.2.2.1
theorem dX10_push_256 : decode cX10_push 256 = .ok (.iconst 2, 1) := gdX10_push_234.2.2.2.2.2.2.2.2.2.2.2.2.2.2.1
theorem dX10_push_257 : decode cX10_push 257 = .ok (.if_icmp .ge 33, 3) := gdX10_push_234.2.2.2.2.2.2.2.2.2.2.2.2.2.2.2
theorem gdX10_push_260 : (decode cX10_push 260 = .ok (.aload_n 0, 1)) ∧ (decode cX10_push 261 = .ok (.iload 8, 2)) ∧ (decode cX10_push 263 = .ok (.iload_n 1, 1)) ∧ (decode cX10_push 264 = .ok (.aload_n 0, 1)) ∧ (decode cX10_push 265 = .ok (.getfield 68, 3)) ∧ (decode cX10_push 268 = .ok (.iload_n 3, 1)) ∧ (decode cX10_push 269 = .ok (.iaload, 1)) ∧ (decode cX10_push 270 = .ok (.iconst 4, 1)) ∧ (decode cX10_push 271 = .ok (.iload 4, 2)) ∧ (decode cX10_push 273 = .ok (.imul, 1)) ∧ (decode cX10_push 274 = .ok (.iadd, 1)) ∧ (decode cX10_push 275 = .ok (.iload 6, 2)) ∧ (decode cX10_push 277 = .ok (.iconst 4, 1)) ∧ (decode cX10_push 278 = .ok (.if_icmp .ge 8, 3)) ∧ (decode cX10_push 281 = .ok (.iload 6, 2)) ∧ (decode cX10_push 283 = .ok (.goto 4, 3)) := by decide +kernel
theorem dX10_push_260 : decode cX10_push 260 = .ok (.aload_n 0, 1) := gdX10_push_260.1
theorem dX10_push_261 : decode cX10_push 261 = .ok (.iload 8, 2) := gdX10_push_260.2.1
theorem dX10_push_263 : decode cX10_push 263 = .ok (.iload_n 1, 1) := gdX10_push_260.2.2.1
theorem dX10_push_264 : decode cX10_push 264 = .ok (.aload_n 0, 1) := gdX10_push_260.2.2.2.1
theorem dX10_push_265 : decode cX10_push 265 = .ok (.getfield 68, 3) := gdX10_push_260.2.2.2.2.1
theorem dX10_push_268 : decode cX10_push 268 = .ok (.iload_n 3, 1) := gdX10_push_260.2.2.2.2.2.1
theorem dX10_push_269 : decode cX10_push 269 = .ok (.iaload, 1) := gdX10_push_260.2.2.2.2.2.2.1
theorem dX10_push_270 : decode cX10_push 270 = .ok (.iconst 4, 1) := gdX10_push_260.2.2.2.2.2.2.2.1
theorem dX10_push_271 : decode cX10_push 271 = .ok (.iload 4, 2) := gdX10_push_260.2.2.2.2.2.2.2.2.1
theorem dX10_push_273 : decode cX10_push 273 = .ok (.imul, 1) := gdX10_push_260.2.2.2.2.2.2.2.2.2.1
theorem dX10_push_274 : decode cX10_push 274 = .ok (.iadd, 1) := gdX10_push_260.2.2.2.2.2.2.2.2.2.2.1
theorem dX10_push_275 : decode cX10_push 275 = .ok (.iload 6, 2) := gdX10_push_260.2.2.2.2.2.2.2.2.2.2.2.1
theorem dX10_push_277 : decode cX10_push 277 = .ok (.iconst 4, 1) := gdX10_push_260.2.2.2.2.2.2.2.2.2.2.2.2.1
theorem dX10_push_278 : decode cX10_push 278 = .ok (.if_icmp .ge 8, 3) := gdX10_push_260.2.2.2.2.2.2.2.2.2.2.2.2.2.1
theorem dX10_push_281 : decode cX10_push 281 = .ok (.iload 6, 2) := gdX10_push_260.2.2.2.2.2.2.2.2.2.2.2.2.2.2.1
theorem dX10_push_283 : decode cX10_push 283 = .ok (.goto 4, 3) := gdX10_push_260.2.2.2.2.2.2.2.2.2.2.2.2.2.2.2
theorem gdX10_push_286 : (decode cX10_push 286 = .ok (.iconst 4, 1)) ∧ (decode cX10_push 287 = .ok (.invokevirtual 203, 3)) ∧ (decode cX10_push 290 = .ok (.aload_n 0, 1)) ∧ (decode cX10_push 291 = .ok (.getfield 65, 3)) ∧ (decode cX10_push 294 = .ok (.iload_n 3, 1)) ∧ (decode cX10_push 295 = .ok (.iaload, 1)) ∧ (decode cX10_push 296 = .ok (.iconst 2, 1)) ∧ (decode cX10_push 297 = .ok (.if_icmp .ne 17, 3)) ∧ (decode cX10_push 300 = .ok (.iload 8, 2)) ∧ (decode cX10_push 302 = .ok (.ifCond .lt 12, 3)) ∧ (decode cX10_push 305 = .ok (.aload_n 0, 1)) ∧ (decode cX10_push 306 = .ok (.getfield 128, 3)) ∧ (decode cX10_push 309 = .ok (.iload 8, 2)) ∧ (decode cX10_push 311 = .ok (.iload 6, 2)) ∧ (decode cX10_push 313 = .ok (.iastore, 1)) ∧ (decode cX10_push 314 = .ok (.aload_n 0, 1)) := by decide +kernel
theorem dX10_push_286 : decode cX10_push 286 = .ok (.iconst 4, 1) := gdX10_push_286.1
theorem dX10_push_287 : decode cX10_push 287 = .ok (.invokevirtual 203, 3) := gdX10_push_286.2.1
theorem dX10_push_290 : decode cX10_push 290 = .ok (.aload_n 0, 1) := gdX10_push_286.2.2.1
theorem dX10_push_291 : decode cX10_push 291 = .ok (.getfield 65, 3) := gdX10_push_286.2.2.2.1
theorem dX10_push_294 : decode cX10_push 294 = .ok (.iload_n 3, 1) := gdX10_push_286.2.2.2.2.1
theorem dX10_push_295 : decode cX10_push 295 = .ok (.iaload, 1) := gdX10_push_286.2.2.2.2.2.1
theorem dX10_push_296 : decode cX10_push 296 = .ok (.iconst 2, 1) := gdX10_push_286.2.2.2.2.2.2.1
theorem dX10_push_297 : decode cX10_push 297 = .ok (.if_icmp .ne 17, 3) := gdX10_push_286.2.2.2.2.2.2.2.1
theorem dX10_push_300 : decode cX10_push 300 = .ok (.iload 8, 2) := gdX10_push_286.2.2.2.2.2.2.2.2.1
theorem dX10_push_302 : decode cX10_push 302 = .ok (.ifCond .lt 12, 3) := gdX10_push_286.2.2.2.2.2.2.2.2.2.1
theorem dX10_push_305 : decode cX10_push 305 = .ok (.aload_n 0, 1) := gdX10_push_286.2.2.2.2.2.2.2.2.2.2.1
theorem dX10_push_306 : decode cX10_push 306 = .ok (.getfield 128, 3) := gdX10_push_286.2.2.2.2.2.2.2.2.2.2.2.1
theorem dX10_push_309 : decode cX10_push 309 = .ok (.iload 8, 2) := gdX10_push_286.2.2.2.2.2.2.2.2.2.2.2.2.1
theorem dX10_push_311 : decode cX10_push 311 = .ok (.iload 6, 2) := gdX10_push_286.2.2.2.2.2.2.2.2.2.2.2.2.2.1
theorem dX10_push_313 : decode cX10_push 313 = .ok (.iastore, 1) := gdX10_push_286.2.2.2.2.2.2.2.2.2.2.2.2.2.2.1
theorem dX10_push_314 : decode cX10_push 314 = .ok (.aload_n 0, 1) := gdX10_push_286.2.2.2.2.2.2.2.2.2.2.2.2.2.2.2
theorem gdX10_push_315 : (decode cX10_push 315 = .ok (.getfield 37, 3)) ∧ (decode cX10_push 318 = .ok (.iload_n 1, 1)) ∧ (decode cX10_push 319 = .ok (.iload_n 2, 1)) ∧ (decode cX10_push 320 = .ok (.iload 5, 2)) ∧ (decode cX10_push 322 = .ok (.iadd, 1)) ∧ (decode cX10_push 323 = .ok (.bipush 64, 2)) ∧ (decode cX10_push 325 = .ok (.irem, 1)) ∧ (decode cX10_push 326 = .ok (.iastore, 1)) ∧ (decode cX10_push 327 = .ok (.iload_n 2, 1)) ∧ (decode cX10_push 328 = .ok (.ireturn, 1)) := by decide +kernel
theorem dX10_push_315 : decode cX10_push 315 = .ok (.getfield 37, 3) := gdX10_push_315.1
theorem dX10_push_318 : decode cX10_push 318 = .ok (.iload_n 1, 1) := gdX10_push_315.2.1
theorem dX10_push_319 : decode cX10_push 319 = .ok (.iload_n 2, 1) := gdX10_push_315.2.2.1
theorem dX10_push_320 : decode cX10_push 320 = .ok (.iload 5, 2) := gdX10_push_315.2.2.2.1
theorem dX10_push_322 : decode cX10_push 322 = .ok (.iadd, 1) := gdX10_push_315.2.2.2.2.1
theorem dX10_push_323 : decode cX10_push 323 = .ok (.bipush 64, 2) := gdX10_push_315.2.2.2.2.2.1
theorem dX10_push_325 : decode cX10_push 325 = .ok (.irem, 1) := gdX10_push_315.2.2.2.2.2.2.1
theorem dX10_push_326 : decode cX10_push 326 = .ok (.iastore, 1) := gdX10_push_315.2.2.2.2.2.2.2.1
theorem dX10_push_327 : decode cX10_push 327 = .ok (.iload_n 2, 1) := gdX10_push_315.2.2.2.2.2.2.2.2.1
theorem dX10_push_328 : decode cX10_push 328 = .ok (.ireturn, 1) := gdX10_push_315.2.2.2.2.2.2.2.2.2
set_option maxHeartbeats 8000000 in
set_option maxRecDepth 100000 in
theorem u_X10_push (l : Launch) (E : EE) (z0 : Nat) (G : Nat → Nat) (hGz : ∀ q, G q ≠ 0 → z0 ≤ q) (h0 : Nat) (rf : Nat → Nat) (hR : MG G h0 rf) (t0 t1 t2 : Int32) (A : AA) (cd pk : Int32) (p0 : Int32) (hI4 : I4 (A 10) (A 20) (A 29) (A 24) (A 11) (A 12) (A 13)) (hI6 : I6 (A 22) (A 23) (A 24) (A 25) (A 26)) (hI7 : I7 (A 41) (A 42) (A 44) (A 45) (A 46)) (hy0 : 0 ≤ pk.toInt ∧ pk.toInt ≤ 24) : Met l yX10_push [Cond.code yX10_push cX10_push 9 (some .int)] ({ frames := 2, cells := 0, slots := 0, locals := 47 } : Room) (va_Pc [.ref h0, .int p0] (fun U => MH E h0 rf t0 t1 t2 A cd pk U.heap ∧ KS E z0 U)) (va_Qi (fun (r : Int32) (u : (Nat → Int32) × (Nat → Int32) × (Nat → Int32) × (Nat → Int32) × (Nat → Int32) × (Nat → Int32) × (Nat → Int32) × (Nat → Int32) × (Nat → Int32) × (Nat → Int32) × Int32 × Int32) => (I4 (A 10) (A 20) (A 29) (A 24) (A 11) (A 12) (u.2.2.2.2.2.2.2.2.1)) ∧ (I7 (u.1) (u.2.1) (u.2.2.2.1) (u.2.2.2.2.1) (u.2.2.2.2.2.1)) ∧ (0 ≤ (u.2.2.2.2.2.2.2.2.2.2.1).toInt ∧ (u.2.2.2.2.2.2.2.2.2.2.1).toInt ≤ 24) ∧ (D_X10_push A cd pk p0 (uA (uA (uA (uA (uA (uA (uA (uA (uA (uA A 41 (u.1)) 42 (u.2.1)) 43 (u.2.2.1)) 44 (u.2.2.2.1)) 45 (u.2.2.2.2.1)) 46 (u.2.2.2.2.2.1)) 47 (u.2.2.2.2.2.2.1)) 48 (u.2.2.2.2.2.2.2.1)) 13 (u.2.2.2.2.2.2.2.2.1)) 15 (u.2.2.2.2.2.2.2.2.2.1)) (u.2.2.2.2.2.2.2.2.2.2.2) (u.2.2.2.2.2.2.2.2.2.2.1) r)) (fun u t => MH E h0 rf t0 t1 t2 (uA (uA (uA (uA (uA (uA (uA (uA (uA (uA A 41 (u.1)) 42 (u.2.1)) 43 (u.2.2.1)) 44 (u.2.2.2.1)) 45 (u.2.2.2.2.1)) 46 (u.2.2.2.2.2.1)) 47 (u.2.2.2.2.2.2.1)) 48 (u.2.2.2.2.2.2.2.1)) 13 (u.2.2.2.2.2.2.2.2.1)) 15 (u.2.2.2.2.2.2.2.2.2.1)) (u.2.2.2.2.2.2.2.2.2.2.2) (u.2.2.2.2.2.2.2.2.2.2.1) t.heap) (fun q : Nat => G q ≠ 0)) 0 0 (fun q : Nat => G q ≠ 0) := by
  refine Met.ofW (cc := cX10_push) (maxL := 9) (ret := (some .int)) (by decide) rfl ?_
  intro p e s m args below meth c s₁ B hml hv
  obtain ⟨rfl, hM, hK⟩ := hv
  have hx := B.exec
  have hb := B.bytes
  have hr := B.returns
  have hts : ∀ w ∈ TS, w.before ([.ref h0, .int p0] : List Value).toArray s = true := fun w hw => hK.2.1 w hw _
  have hown : s.vm.findClass RX10 = some m.cls := findClass_of_methodNamed B.named
  have hlocks := B.notSynchronized
  have hS : va_S (fun q : Nat => G q ≠ 0) s.heap s.heap [] := va_S.rf
  have hAz : ∀ q, (fun q : Nat => G q ≠ 0) q → z0 ≤ q := hGz
  have hl := lv_entry ([.ref h0, .int p0]) (n := 9) (Nat.le_of_ble_eq_true rfl)
  rw [lg_entry_eq]
  generalize (lg_sl ([.ref h0, .int p0]) ++ List.replicate (9 - (lg_sl ([.ref h0, .int p0])).length) Slot.unset).toArray = ls at hl ⊢
  have hl : lv_has ls 9 [(0, .ref h0), (1, .int p0)] := hl
  refine lv_aload_n hx hb dX10_push_0 rfl (lv_at hl 0 rfl) ?_
  refine lv_iconst (v := 0) hx hb dX10_push_1 (by decide) ?_
  refine rr_put (D := DG E) (ci := 10) (v := .int 0) (ty := .int) (C := RX10) (T := TX10) (N := 49) hx hb hts iw_X10 tyX10 tyX10_ok nmX10 hown hK.1 hM.1 hS (by show G h0 ≠ 0; rw [hR.1]; decide) rfl 3 (by decide) (hts _ fl_X10_153) (fun _ h9 => h9) rfl (by decide +kernel) rfl rfl (Nat.le_of_ble_eq_true rfl) dX10_push_2 (fun H locs hn ho hz hS => ?_)
  have hM : MH E h0 rf t0 t1 t2 A 0 pk H := hM.sc hR hn ho
  refine lv_iload_n hx hb dX10_push_5 rfl (lv_at hl 1 rfl) ?_
  refine lv_iconst (v := 3) hx hb dX10_push_6 (by decide) ?_
  refine W.callR (W.runS (As := [.int p0, .int 3]) (rest := []) ⟨hx, hb, hml, hown, hts⟩ (c_X10_within l p0 3) (cwS 2 hts (gdS ml_X10_156 st_X10_within in_X10 co_X10_within rfl) rfl rfl rfl (by decide +kernel) ⟨Nat.le_of_ble_eq_true rfl, Nat.le_of_ble_eq_true rfl⟩) preEq rfl rfl hl.1 rfl (lv_room (Nat.le_of_ble_eq_true rfl)) dX10_push_7 ⟨Nat.le_of_ble_eq_true rfl, Nat.le_of_ble_eq_true rfl⟩) ?_
  refine W.eq (g2 := F0 m 10 ls [.int (bI (0 ≤ p0.toInt ∧ p0.toInt ≤ (3 : Int32).toInt))]) (by rfl) ?_
  refine lv_if_ne (tgt := 15) hx hb dX10_push_10 (by decide) (fun c_1 => ?_) (fun c_1 => ?_)
  · have c_1 := bI_n c_1
    have c_1r := c_1
    try simp only [lt_I, le_I, eq_I, i_0, i_1, i_2, i_3, i_4, i_5, i_6, i_7, i_8, i_10, i_12, i_16, i_20, i_23, i_24, i_31, i_32, i_63, i_64, i_m1, i_9, i_11, i_13, i_25, i_60, i_75, i_79, i_80, i_96, i_100] at c_1
    refine lv_aload_n hx hb dX10_push_15 rfl (lv_at hl 0 rfl) ?_
    refine va_get (D := DG E) (ci := 10) (v := .ref (rf 10)) (C := RX10) (T := TX10) (N := 49) hx hb hts iw_X10 hown hK.1 (va_one hM.1) 0 rfl rfl 10 (by decide) (hts _ fl_X10_28) (fun _ h9 => h9) rfl dX10_push_16 ?_
    refine lv_iload_n hx hb dX10_push_19 rfl (lv_at hl 1 rfl) ?_
    have hi_2 : vp_in p0 4 := vp_in_iff.mpr (by omega)
    have ha_3 : va_at (DG E) vwCl (rf 10, .inl (E.2.2 0, 4, .inl (A 10))) _ := hM.2 10 (by decide) (by decide) (by decide)
    obtain ⟨n_4, hn_4, en_4⟩ := s_nat (x := p0) (by omega)
    refine va_iald (D := DG E) hx hb hK.1 (va_one ha_3) 0 0 rfl rfl hi_2 dX10_push_20 ?_
    refine W.eq (g2 := F0 m 21 ls [.int ((A 10) n_4)]) (by rw [en_4]) ?_
    refine lv_iconst (v := 1) hx hb dX10_push_21 (by decide) ?_
    refine lv_icmp_ne (tgt := 49) hx hb dX10_push_22 (by decide) (fun c_5 => ?_) (fun c_5 => ?_)
    · simp only [lt_I, le_I, eq_I, i_0, i_1, i_2, i_3, i_4, i_5, i_6, i_7, i_8, i_10, i_12, i_16, i_20, i_23, i_24, i_31, i_32, i_63, i_64, i_m1, i_9, i_11, i_13, i_25, i_60, i_75, i_79, i_80, i_96, i_100] at c_5
      refine lv_iconst (v := (-1)) hx hb dX10_push_49 (by decide) ?_
      exact W.iret (v := (-1)) hx hb hr (fun t ht hW => ⟨⟨(-1), ((A 41), (A 42), (A 43), (A 44), (A 45), (A 46), (A 47), (A 48), (A 13), (A 15), pk, 0), rfl, ⟨hI4, hI7, (by show 0 ≤ pk.toInt ∧ pk.toInt ≤ 24; have := i_m1; omega), (Or.inl ⟨c_1r, n_4, hn_4, (Or.inl ⟨c_5, rfl, rfl, rfl, rfl⟩)⟩)⟩, (by show MH E h0 rf t0 t1 t2 (uA (uA (uA (uA (uA (uA (uA (uA (uA (uA A 41 (A 41)) 42 (A 42)) 43 (A 43)) 44 (A 44)) 45 (A 45)) 46 (A 46)) 47 (A 47)) 48 (A 48)) 13 (A 13)) 15 (A 15)) 0 pk t.heap; rw [ht]; exact hM.cge (funext fun j => (cgj j 48 rfl (fun a0 => (cgj j 47 rfl (fun a1 => (cgj j 46 rfl (fun a2 => (cgj j 45 rfl (fun a3 => (cgj j 44 rfl (fun a4 => (cgj j 43 rfl (fun a5 => (cgj j 42 rfl (fun a6 => (cgj j 41 rfl (fun a7 => (cgj j 15 rfl (fun a8 => (cgj j 13 rfl (fun a9 => (by simp only [uA_n a0, uA_n a1, uA_n a2, uA_n a3, uA_n a4, uA_n a5, uA_n a6, uA_n a7, uA_n a8, uA_n a9])))))))))))))))))))))))⟩, hS.F ht⟩) hS.2.2 dX10_push_50
    · simp only [lt_I, le_I, eq_I, i_0, i_1, i_2, i_3, i_4, i_5, i_6, i_7, i_8, i_10, i_12, i_16, i_20, i_23, i_24, i_31, i_32, i_63, i_64, i_m1, i_9, i_11, i_13, i_25, i_60, i_75, i_79, i_80, i_96, i_100] at c_5
      refine lv_aload_n hx hb dX10_push_25 rfl (lv_at hl 0 rfl) ?_
      refine va_get (D := DG E) (ci := 10) (v := .ref (rf 13)) (C := RX10) (T := TX10) (N := 49) hx hb hts iw_X10 hown hK.1 (va_one hM.1) 0 rfl rfl 13 (by decide) (hts _ fl_X10_37) (fun _ h9 => h9) rfl dX10_push_26 ?_
      refine lv_iload_n hx hb dX10_push_29 rfl (lv_at hl 1 rfl) ?_
      have ha_6 : va_at (DG E) vwCl (rf 13, .inl (E.2.2 0, 4, .inl (A 13))) _ := hM.2 13 (by decide) (by decide) (by decide)
      refine va_iald (D := DG E) hx hb hK.1 (va_one ha_6) 0 0 rfl rfl hi_2 dX10_push_30 ?_
      refine W.eq (g2 := F0 m 31 ls [.int ((A 13) n_4)]) (by rw [en_4]) ?_
      refine lv_aload_n hx hb dX10_push_31 rfl (lv_at hl 0 rfl) ?_
      refine va_get (D := DG E) (ci := 10) (v := .ref (rf 11)) (C := RX10) (T := TX10) (N := 49) hx hb hts iw_X10 hown hK.1 (va_one hM.1) 0 rfl rfl 11 (by decide) (hts _ fl_X10_31) (fun _ h9 => h9) rfl dX10_push_32 ?_
      refine lv_iload_n hx hb dX10_push_35 rfl (lv_at hl 1 rfl) ?_
      have ha_7 : va_at (DG E) vwCl (rf 11, .inl (E.2.2 0, 4, .inl (A 11))) _ := hM.2 11 (by decide) (by decide) (by decide)
      refine va_iald (D := DG E) hx hb hK.1 (va_one ha_7) 0 0 rfl rfl hi_2 dX10_push_36 ?_
      refine W.eq (g2 := F0 m 37 ls [.int ((A 11) n_4), .int ((A 13) n_4)]) (by rw [en_4]) ?_
      refine lv_icmp_eq (tgt := 49) hx hb dX10_push_37 (by decide) (fun c_8 => ?_) (fun c_8 => ?_)
      · simp only [lt_I, le_I, eq_I, i_0, i_1, i_2, i_3, i_4, i_5, i_6, i_7, i_8, i_10, i_12, i_16, i_20, i_23, i_24, i_31, i_32, i_63, i_64, i_m1, i_9, i_11, i_13, i_25, i_60, i_75, i_79, i_80, i_96, i_100] at c_8
        refine lv_iconst (v := (-1)) hx hb dX10_push_49 (by decide) ?_
        exact W.iret (v := (-1)) hx hb hr (fun t ht hW => ⟨⟨(-1), ((A 41), (A 42), (A 43), (A 44), (A 45), (A 46), (A 47), (A 48), (A 13), (A 15), pk, 0), rfl, ⟨hI4, hI7, (by show 0 ≤ pk.toInt ∧ pk.toInt ≤ 24; have := i_m1; omega), (Or.inl ⟨c_1r, n_4, hn_4, (Or.inr ⟨c_5, (Or.inl ⟨c_8, rfl, rfl, rfl, rfl⟩)⟩)⟩)⟩, (by show MH E h0 rf t0 t1 t2 (uA (uA (uA (uA (uA (uA (uA (uA (uA (uA A 41 (A 41)) 42 (A 42)) 43 (A 43)) 44 (A 44)) 45 (A 45)) 46 (A 46)) 47 (A 47)) 48 (A 48)) 13 (A 13)) 15 (A 15)) 0 pk t.heap; rw [ht]; exact hM.cge (funext fun j => (cgj j 48 rfl (fun a0 => (cgj j 47 rfl (fun a1 => (cgj j 46 rfl (fun a2 => (cgj j 45 rfl (fun a3 => (cgj j 44 rfl (fun a4 => (cgj j 43 rfl (fun a5 => (cgj j 42 rfl (fun a6 => (cgj j 41 rfl (fun a7 => (cgj j 15 rfl (fun a8 => (cgj j 13 rfl (fun a9 => (by simp only [uA_n a0, uA_n a1, uA_n a2, uA_n a3, uA_n a4, uA_n a5, uA_n a6, uA_n a7, uA_n a8, uA_n a9])))))))))))))))))))))))⟩, hS.F ht⟩) hS.2.2 dX10_push_50
      · simp only [lt_I, le_I, eq_I, i_0, i_1, i_2, i_3, i_4, i_5, i_6, i_7, i_8, i_10, i_12, i_16, i_20, i_23, i_24, i_31, i_32, i_63, i_64, i_m1, i_9, i_11, i_13, i_25, i_60, i_75, i_79, i_80, i_96, i_100] at c_8
        refine lv_aload_n hx hb dX10_push_40 rfl (lv_at hl 0 rfl) ?_
        refine va_get (D := DG E) (ci := 10) (v := .ref (rf 18)) (C := RX10) (T := TX10) (N := 49) hx hb hts iw_X10 hown hK.1 (va_one hM.1) 0 rfl rfl 18 (by decide) (hts _ fl_X10_52) (fun _ h9 => h9) rfl dX10_push_41 ?_
        refine lv_iload_n hx hb dX10_push_44 rfl (lv_at hl 1 rfl) ?_
        have ha_9 : va_at (DG E) vwCl (rf 18, .inl (E.2.2 1, 4, .inl (A 18))) _ := hM.2 18 (by decide) (by decide) (by decide)
        refine va_zald (D := DG E) hx hb hK.1 (va_one ha_9) 0 1 rfl rfl hi_2 dX10_push_45 ?_
        refine W.eq (g2 := F0 m 46 ls [.int ((A 18) n_4)]) (by rw [en_4]) ?_
        refine lv_if_eq (tgt := 51) hx hb dX10_push_46 (by decide) (fun c_10 => ?_) (fun c_10 => ?_)
        · simp only [lt_I, le_I, eq_I, i_0, i_1, i_2, i_3, i_4, i_5, i_6, i_7, i_8, i_10, i_12, i_16, i_20, i_23, i_24, i_31, i_32, i_63, i_64, i_m1, i_9, i_11, i_13, i_25, i_60, i_75, i_79, i_80, i_96, i_100] at c_10
          have hst0 : ((A 10) n_4).toInt = 1 := by omega
          have hP0 := (hI4 n_4 (by omega)).1 hst0
          have rg0 := hP0.rng
          refine lv_aload_n hx hb dX10_push_51 rfl (lv_at hl 0 rfl) ?_
          refine va_get (D := DG E) (ci := 10) (v := .ref (rf 13)) (C := RX10) (T := TX10) (N := 49) hx hb hts iw_X10 hown hK.1 (va_one hM.1) 0 rfl rfl 13 (by decide) (hts _ fl_X10_37) (fun _ h9 => h9) rfl dX10_push_52 ?_
          refine lv_iload_n hx hb dX10_push_55 rfl (lv_at hl 1 rfl) ?_
          have ha_11 : va_at (DG E) vwCl (rf 13, .inl (E.2.2 0, 4, .inl (A 13))) _ := hM.2 13 (by decide) (by decide) (by decide)
          refine va_iald (D := DG E) hx hb hK.1 (va_one ha_11) 0 0 rfl rfl hi_2 dX10_push_56 ?_
          refine W.eq (g2 := F0 m 57 ls [.int ((A 13) n_4)]) (by rw [en_4]) ?_
          refine lv_istore_n (lv' := [(2, .int ((A 13) n_4)), (0, .ref h0), (1, .int p0)]) hx hb dX10_push_57 rfl hl (by decide) rfl (fun ls hl => ?_)
          refine lv_aload_n hx hb dX10_push_58 rfl (lv_at hl 1 rfl) ?_
          refine lv_iload_n hx hb dX10_push_59 rfl (lv_at hl 2 rfl) ?_
          refine lv_iload_n hx hb dX10_push_60 rfl (lv_at hl 0 rfl) ?_
          refine va_calli (rnV (fun H => MH E h0 rf t0 t1 t2 A 0 pk H) (As := [.int p0, .int ((A 13) n_4)]) (rest := []) ⟨hx, hb, hml, hown, hts⟩ (u_X10_requestOf l E z0 G hGz h0 rf hR t0 t1 t2 A 0 pk p0 ((A 13) n_4) hI6 (show 0 ≤ p0.toInt ∧ p0.toInt ≤ 3 from by first | decide | omega)) (cwV 2 hts (gdV ml_X10_196 im_X10_requestOf se_X10_X10_requestOf in_X10 co_X10_requestOf rfl) rfl rfl rfl (by decide +kernel) ⟨Nat.le_of_ble_eq_true rfl, Nat.le_of_ble_eq_true rfl⟩) hM (fun U hU hW => hK.go hW hS hAz hU) (va_recv hK.1 (va_one hM.1) (ci := 10) (q0 := 0) rfl rfl) rfl rfl hl.1 rfl (lv_room (Nat.le_of_ble_eq_true rfl)) dX10_push_61 ⟨Nat.le_of_ble_eq_true rfl, Nat.le_of_ble_eq_true rfl⟩) hS (fun q _ h => h.elim) (fun q h => h.elim) (fun r_12 ur_12 t H locs ht hvm hwr_12 hB hz hk hS => ?_)
          have hM := hM.kept (fun q hq => hk q hq (fun h => h))
          have hpr_12_0 : 0 ≤ r_12.toInt ∧ r_12.toInt ≤ 15 := hwr_12.1
          have hpr_12_1 : ∀ n : Nat, (n : Int) = p0.toInt → RO (A 29) (A 24) n ((A 13) n_4) r_12.toInt := hwr_12.2
          have iahpr_12_1 := hpr_12_1 n_4 (by omega)
          obtain ⟨i0, hi4, er0, hk0, hk1, hz0, hz1, hPn⟩ := hP0.push (by omega) iahpr_12_1
          have hN0 := pj_N ⟨hz0, hz1⟩
          have hNB : NB (A 24) (4 * n_4 + i0) = (((A 24) (4 * n_4 + i0)).toInt + 3) / 4 := rfl
          obtain ⟨n_13, hn_13, en_13⟩ := s_nat (x := r_12) (by omega)
          have e9 : n_13 = 4 * n_4 + i0 := by omega
          subst e9
          refine lv_istore_n (lv' := [(3, .int r_12), (2, .int ((A 13) n_4)), (0, .ref h0), (1, .int p0)]) hx hb dX10_push_64 rfl hl (by decide) rfl (fun ls hl => ?_)
          refine lv_aload_n hx hb dX10_push_65 rfl (lv_at hl 2 rfl) ?_
          refine va_get (D := DG E) (ci := 10) (v := .ref (rf 29)) (C := RX10) (T := TX10) (N := 49) hx hb hts iw_X10 hown hK.1 (va_one hM.1) 0 rfl rfl 29 (by decide) (hts _ fl_X10_86) (fun _ h9 => h9) rfl dX10_push_66 ?_
          refine lv_iload_n hx hb dX10_push_69 rfl (lv_at hl 0 rfl) ?_
          have hi_14 : vp_in r_12 16 := vp_in_iff.mpr (by omega)
          have ha_15 : va_at (DG E) vwCl (rf 29, .inl (E.2.2 0, 16, .inl (A 29))) _ := hM.2 29 (by decide) (by decide) (by decide)
          refine va_iald (D := DG E) hx hb hK.1 (va_one ha_15) 0 0 rfl rfl hi_14 dX10_push_70 ?_
          refine W.eq (g2 := F0 m 71 ls [.int ((A 29) (4 * n_4 + i0))]) (by rw [en_13]) ?_
          refine lv_iload_n hx hb dX10_push_71 rfl (lv_at hl 1 rfl) ?_
          refine W.callR (W.runS (As := [.int ((A 29) (4 * n_4 + i0)), .int ((A 13) n_4)]) (rest := []) ⟨hx, hb, hml, hown, hts⟩ (c_X10_far l (((A 29) (4 * n_4 + i0))) (((A 13) n_4))) (cwS 2 hts (gdS ml_X10_174 st_X10_far in_X10 co_X10_far rfl) rfl rfl rfl (by decide +kernel) ⟨Nat.le_of_ble_eq_true rfl, Nat.le_of_ble_eq_true rfl⟩) preEq rfl rfl hl.1 rfl (lv_room (Nat.le_of_ble_eq_true rfl)) dX10_push_72 ⟨Nat.le_of_ble_eq_true rfl, Nat.le_of_ble_eq_true rfl⟩) ?_
          refine W.eq (g2 := F0 m 75 ls [.int (((((A 13) n_4) - ((A 29) (4 * n_4 + i0))) + 64) - ((((A 13) n_4) - ((A 29) (4 * n_4 + i0))) + 64) / 64 * 64)]) (by rfl) ?_
          refine lv_topi (fun x_16 ex_16 => ?_)
          have kx_16 : x_16.toInt = (farI ((A 29) (4 * n_4 + i0)) ((A 13) n_4)).toInt := by rw [ex_16]; rfl
          refine lv_istore (lv' := [(4, .int x_16), (3, .int r_12), (2, .int ((A 13) n_4)), (0, .ref h0), (1, .int p0)]) hx hb dX10_push_75 hl (by decide) rfl (fun ls hl => ?_)
          refine lv_aload_n hx hb dX10_push_77 rfl (lv_at hl 3 rfl) ?_
          refine va_get (D := DG E) (ci := 10) (v := .ref (rf 22)) (C := RX10) (T := TX10) (N := 49) hx hb hts iw_X10 hown hK.1 (va_one hM.1) 0 rfl rfl 22 (by decide) (hts _ fl_X10_65) (fun _ h9 => h9) rfl dX10_push_78 ?_
          refine lv_iload_n hx hb dX10_push_81 rfl (lv_at hl 1 rfl) ?_
          have ha_17 : va_at (DG E) vwCl (rf 22, .inl (E.2.2 0, 16, .inl (A 22))) _ := hM.2 22 (by decide) (by decide) (by decide)
          refine va_iald (D := DG E) hx hb hK.1 (va_one ha_17) 0 0 rfl rfl hi_14 dX10_push_82 ?_
          refine W.eq (g2 := F0 m 83 ls [.int ((A 22) (4 * n_4 + i0))]) (by rw [en_13]) ?_
          have hk_18 : (4 * n_4 + i0) < 16 := by omega
          have q_19 : 0 ≤ ((A 22) (4 * n_4 + i0)).toInt := (hI6 (4 * n_4 + i0) hk_18).1
          have q_20 : ((A 22) (4 * n_4 + i0)).toInt ≤ 3 := (hI6 (4 * n_4 + i0) hk_18).2.1
          have q_21 : (((A 22) (4 * n_4 + i0)).toInt = 0 ∨ (0 ≤ ((A 25) (4 * n_4 + i0)).toInt ∧ ((A 25) (4 * n_4 + i0)).toInt ≤ 5)) := (hI6 (4 * n_4 + i0) hk_18).2.2.2.2.2.2.1
          refine lv_iconst (v := 2) hx hb dX10_push_83 (by decide) ?_
          refine lv_icmp_ne (tgt := 98) hx hb dX10_push_84 (by decide) (fun c_22 => ?_) (fun c_22 => ?_)
          · simp only [lt_I, le_I, eq_I, i_0, i_1, i_2, i_3, i_4, i_5, i_6, i_7, i_8, i_10, i_12, i_16, i_20, i_23, i_24, i_31, i_32, i_63, i_64, i_m1, i_9, i_11, i_13, i_25, i_60, i_75, i_79, i_80, i_96, i_100] at c_22
            refine lv_iconst (v := 1) hx hb dX10_push_98 (by decide) ?_
            refine lv_istore (lv' := [(5, .int 1), (4, .int x_16), (3, .int r_12), (2, .int ((A 13) n_4)), (0, .ref h0), (1, .int p0)]) hx hb dX10_push_99 hl (by decide) rfl (fun ls hl => ?_)
            refine lv_aload_n hx hb dX10_push_101 rfl (lv_at hl 4 rfl) ?_
            refine va_get (D := DG E) (ci := 10) (v := .ref (rf 12)) (C := RX10) (T := TX10) (N := 49) hx hb hts iw_X10 hown hK.1 (va_one hM.1) 0 rfl rfl 12 (by decide) (hts _ fl_X10_34) (fun _ h9 => h9) rfl dX10_push_102 ?_
            refine lv_iload_n hx hb dX10_push_105 rfl (lv_at hl 5 rfl) ?_
            have ha_23 : va_at (DG E) vwCl (rf 12, .inl (E.2.2 0, 4, .inl (A 12))) _ := hM.2 12 (by decide) (by decide) (by decide)
            refine va_iald (D := DG E) hx hb hK.1 (va_one ha_23) 0 0 rfl rfl hi_2 dX10_push_106 ?_
            refine W.eq (g2 := F0 m 107 ls [.int ((A 12) n_4)]) (by rw [en_4]) ?_
            refine lv_iload_n hx hb dX10_push_107 rfl (lv_at hl 3 rfl) ?_
            refine lv_iload hx hb dX10_push_108 (lv_at hl 0 rfl) ?_
            refine lv_iadd hx hb dX10_push_110 ?_
            refine lv_topi (fun x_24 ex_24 => ?_)
            have fx_24 : x_24.toInt = ((A 13) n_4).toInt + 1 := by have h9 := s_add (x := ((A 13) n_4)) (y := 1) (by rw [i_1]; omega) (by rw [i_1]; omega); rw [i_1] at h9; rw [ex_24]; exact h9
            refine lv_iconst (v := 1) hx hb dX10_push_111 (by decide) ?_
            refine lv_isub hx hb dX10_push_112 ?_
            refine lv_topi (fun x_25 ex_25 => ?_)
            have fx_25 : x_25.toInt = x_24.toInt - 1 := by have h9 := s_sub (x := x_24) (y := 1) (by rw [i_1]; omega) (by rw [i_1]; omega); rw [i_1] at h9; rw [ex_25]; exact h9
            refine lv_bipush (v := 64) hx hb dX10_push_113 (by decide) ?_
            refine lv_irem hx hb dX10_push_115 (by decide) ?_
            refine lv_topi (fun x_26 ex_26 => ?_)
            have fx_26 : x_26.toInt = x_25.toInt % 64 := by have h9 := s_rem (x := x_25) 64 (by decide) (by decide) (by omega); rw [ex_26]; exact h9
            refine W.callR (W.runS (As := [.int ((A 12) n_4), .int x_26]) (rest := []) ⟨hx, hb, hml, hown, hts⟩ (c_X10_far l (((A 12) n_4)) x_26) (cwS 2 hts (gdS ml_X10_174 st_X10_far in_X10 co_X10_far rfl) rfl rfl rfl (by decide +kernel) ⟨Nat.le_of_ble_eq_true rfl, Nat.le_of_ble_eq_true rfl⟩) preEq rfl rfl hl.1 rfl (lv_room (Nat.le_of_ble_eq_true rfl)) dX10_push_116 ⟨Nat.le_of_ble_eq_true rfl, Nat.le_of_ble_eq_true rfl⟩) ?_
            refine W.eq (g2 := F0 m 119 ls [.int (((x_26 - ((A 12) n_4)) + 64) - ((x_26 - ((A 12) n_4)) + 64) / 64 * 64)]) (by rfl) ?_
            refine lv_topi (fun x_27 ex_27 => ?_)
            have fx_27 : x_27.toInt = (x_26.toInt - ((A 12) n_4).toInt + 64) % 64 := by rw [ex_27]; exact far_t (by omega) (by omega)
            have kx_27 : x_27.toInt = (farI ((A 12) n_4) x_26).toInt := by rw [ex_27]; rfl
            refine lv_bipush (v := 8) hx hb dX10_push_119 (by decide) ?_
            refine lv_icmp_lt (tgt := 126) hx hb dX10_push_121 (by decide) (fun c_28 => ?_) (fun c_28 => ?_)
            · simp only [lt_I, le_I, eq_I, i_0, i_1, i_2, i_3, i_4, i_5, i_6, i_7, i_8, i_10, i_12, i_16, i_20, i_23, i_24, i_31, i_32, i_63, i_64, i_m1, i_9, i_11, i_13, i_25, i_60, i_75, i_79, i_80, i_96, i_100] at c_28
              refine W.jh (σ := (Nat → Int32)) (P := fun u_29 H locs => MH E h0 rf t0 t1 t2 (uA A 15 u_29) 0 pk H ∧ va_S (fun q : Nat => G q ≠ 0) s.heap H locs ∧ (True) ∧ HID (((¬ ((A 13) n_4).toInt = ((A 12) n_4).toInt) ∧ u_29 = (A 15)) ∨ ((((A 13) n_4).toInt = ((A 12) n_4).toInt) ∧ ∃ g_32 : Nat → Int32, (g_32 = upd (A 15) n_4 0) ∧ u_29 = g_32))) (f := F0 m 143 ls []) (fun u_29 H locs hI => ?_) (fun key_29 => ?_)
              · obtain ⟨hM, hS, hF_29, hJ_29⟩ := hI
                refine lv_aload_n hx hb dX10_push_143 rfl (lv_at hl 4 rfl) ?_
                refine va_get (D := DG E) (ci := 10) (v := .ref (rf 24)) (C := RX10) (T := TX10) (N := 49) hx hb hts iw_X10 hown hK.1 (va_one hM.1) 0 rfl rfl 24 (by decide) (hts _ fl_X10_71) (fun _ h9 => h9) rfl dX10_push_144 ?_
                refine lv_iload_n hx hb dX10_push_147 rfl (lv_at hl 2 rfl) ?_
                have ha_33 : va_at (DG E) vwCl (rf 24, .inl (E.2.2 0, 16, .inl (A 24))) _ := hM.2 24 (by decide) (by decide) (by decide)
                refine va_iald (D := DG E) hx hb hK.1 (va_one ha_33) 0 0 rfl rfl hi_14 dX10_push_148 ?_
                refine W.eq (g2 := F0 m 149 ls [.int ((A 24) (4 * n_4 + i0))]) (by rw [en_13]) ?_
                have q_34 : 0 ≤ ((A 24) (4 * n_4 + i0)).toInt := (hI6 (4 * n_4 + i0) hk_18).2.2.2.1
                have q_35 : ((A 24) (4 * n_4 + i0)).toInt ≤ 12 := (hI6 (4 * n_4 + i0) hk_18).2.2.2.2.1
                have q_36 : ((A 23) (4 * n_4 + i0)).toInt + ((A 24) (4 * n_4 + i0)).toInt ≤ 32 := (hI6 (4 * n_4 + i0) hk_18).2.2.2.2.2.1
                refine lv_iconst (v := 4) hx hb dX10_push_149 (by decide) ?_
                refine lv_iload hx hb dX10_push_150 (lv_at hl 1 rfl) ?_
                refine lv_imul hx hb dX10_push_152 ?_
                refine lv_topi (fun x_37 ex_37 => ?_)
                have fx_37 : x_37.toInt = 4 * x_16.toInt := by rw [ex_37]; exact s_mulK i_4 (by omega) (by omega)
                refine lv_isub hx hb dX10_push_153 ?_
                refine lv_topi (fun x_38 ex_38 => ?_)
                have fx_38 : x_38.toInt = ((A 24) (4 * n_4 + i0)).toInt - x_37.toInt := by have h9 := s_sub (x := ((A 24) (4 * n_4 + i0))) (y := x_37) (by omega) (by omega); rw [ex_38]; exact h9
                refine lv_istore (lv' := [(6, .int x_38), (5, .int 1), (4, .int x_16), (3, .int r_12), (2, .int ((A 13) n_4)), (0, .ref h0), (1, .int p0)]) hx hb dX10_push_154 hl (by decide) rfl (fun ls hl => ?_)
                refine W.jv (P := fun v_39 : Int32 => (0 ≤ v_39.toInt ∧ v_39.toInt ≤ 1) ∧ HID (((¬ x_16.toInt = 0) ∧ v_39 = 0) ∨ ((x_16.toInt = 0) ∧ v_39 = 1))) (f := fun v_39 => F0 m 166 ls ([.int v_39])) (fun v_39 hv_39 => ?_) (fun key_39 => ?_)
                · have hv_39_0 : 0 ≤ v_39.toInt ∧ v_39.toInt ≤ 1 := hv_39.1
                  refine lv_iload hx hb dX10_push_166 (lv_at hl 2 rfl) ?_
                  refine lv_aload_n hx hb dX10_push_168 rfl (lv_at hl 5 rfl) ?_
                  refine lv_iload_n hx hb dX10_push_169 rfl (lv_at hl 3 rfl) ?_
                  refine va_calli (rnV (fun H => MH E h0 rf t0 t1 t2 (uA A 15 u_29) 0 pk H) (As := [.int r_12]) (rest := [.int x_16, .int v_39]) ⟨hx, hb, hml, hown, hts⟩ (u_X10_numbersOf l E z0 G hGz h0 rf hR t0 t1 t2 (uA A 15 u_29) 0 pk r_12 hI6 (show 0 ≤ r_12.toInt ∧ r_12.toInt ≤ 15 from by first | decide | omega)) (cwV 1 hts (gdV ml_X10_178 im_X10_numbersOf se_X10_X10_numbersOf in_X10 co_X10_numbersOf rfl) rfl rfl rfl (by decide +kernel) ⟨Nat.le_of_ble_eq_true rfl, Nat.le_of_ble_eq_true rfl⟩) hM (fun U hU hW => hK.go hW hS hAz hU) (va_recv hK.1 (va_one hM.1) (ci := 10) (q0 := 0) rfl rfl) rfl rfl hl.1 rfl (lv_room (Nat.le_of_ble_eq_true rfl)) dX10_push_170 ⟨Nat.le_of_ble_eq_true rfl, Nat.le_of_ble_eq_true rfl⟩) hS (fun q _ h => h.elim) (fun q h => h.elim) (fun r_41 ur_41 t H locs ht hvm hwr_41 hB hz hk hS => ?_)
                  have hM := hM.kept (fun q hq => hk q hq (fun h => h))
                  have hDr_41 : D_X10_numbersOf (uA A 15 u_29) (0 : Int32) pk r_12 r_41 := hwr_41.2.2
                  have hpr_41_0 : 0 ≤ r_41.toInt ∧ r_41.toInt ≤ 3 := hwr_41.1
                  have hpr_41_1 : ∀ n : Nat, (n : Int) = r_12.toInt → r_41.toInt = NB (A 24) n := hwr_41.2.1
                  have iahpr_41_1 := hpr_41_1 (4 * n_4 + i0) (by omega)
                  refine W.jv (P := fun v_42 : Int32 => (0 ≤ v_42.toInt ∧ v_42.toInt ≤ 2) ∧ HID ((∃ x_43 : Int32, (x_43 = r_41 - 1) ∧ (x_43.toInt = r_41.toInt - 1) ∧ (¬ x_16.toInt = x_43.toInt) ∧ v_42 = 0) ∨ (∃ x_43 : Int32, (x_43 = r_41 - 1) ∧ (x_43.toInt = r_41.toInt - 1) ∧ (x_16.toInt = x_43.toInt) ∧ v_42 = 2))) (f := fun v_42 => F0 m 183 ls ([.int v_42, .int v_39])) (fun v_42 hv_42 => ?_) (fun key_42 => ?_)
                  · have hv_42_0 : 0 ≤ v_42.toInt ∧ v_42.toInt ≤ 2 := hv_42.1
                    refine lv_iadd hx hb dX10_push_183 ?_
                    refine lv_topi (fun x_45 ex_45 => ?_)
                    have fx_45 : x_45.toInt = v_39.toInt + v_42.toInt := by have h9 := s_add (x := v_39) (y := v_42) (by omega) (by omega); rw [ex_45]; exact h9
                    refine lv_istore (lv' := [(7, .int x_45), (6, .int x_38), (5, .int 1), (4, .int x_16), (3, .int r_12), (2, .int ((A 13) n_4)), (0, .ref h0), (1, .int p0)]) hx hb dX10_push_184 hl (by decide) rfl (fun ls hl => ?_)
                    refine lv_aload_n hx hb dX10_push_186 rfl (lv_at hl 6 rfl) ?_
                    refine lv_iload_n hx hb dX10_push_187 rfl (lv_at hl 7 rfl) ?_
                    refine lv_aload_n hx hb dX10_push_188 rfl (lv_at hl 6 rfl) ?_
                    refine va_get (D := DG E) (ci := 10) (v := .ref (rf 22)) (C := RX10) (T := TX10) (N := 49) hx hb hts iw_X10 hown hK.1 (va_one hM.1) 0 rfl rfl 22 (by decide) (hts _ fl_X10_65) (fun _ h9 => h9) rfl dX10_push_189 ?_
                    refine lv_iload_n hx hb dX10_push_192 rfl (lv_at hl 4 rfl) ?_
                    have ha_46 : va_at (DG E) vwCl (rf 22, .inl (E.2.2 0, 16, .inl (A 22))) _ := hM.2 22 (by decide) (by decide) (by decide)
                    refine va_iald (D := DG E) hx hb hK.1 (va_one ha_46) 0 0 rfl rfl hi_14 dX10_push_193 ?_
                    refine W.eq (g2 := F0 m 194 ls [.int ((A 22) (4 * n_4 + i0)), .int p0, .ref h0]) (by rw [en_13]) ?_
                    refine lv_iload_n hx hb dX10_push_194 rfl (lv_at hl 5 rfl) ?_
                    refine lv_aload_n hx hb dX10_push_195 rfl (lv_at hl 6 rfl) ?_
                    refine va_get (D := DG E) (ci := 10) (v := .ref (rf 22)) (C := RX10) (T := TX10) (N := 49) hx hb hts iw_X10 hown hK.1 (va_one hM.1) 0 rfl rfl 22 (by decide) (hts _ fl_X10_65) (fun _ h9 => h9) rfl dX10_push_196 ?_
                    refine lv_iload_n hx hb dX10_push_199 rfl (lv_at hl 4 rfl) ?_
                    have ha_47 : va_at (DG E) vwCl (rf 22, .inl (E.2.2 0, 16, .inl (A 22))) _ := hM.2 22 (by decide) (by decide) (by decide)
                    refine va_iald (D := DG E) hx hb hK.1 (va_one ha_47) 0 0 rfl rfl hi_14 dX10_push_200 ?_
                    refine W.eq (g2 := F0 m 201 ls [.int ((A 22) (4 * n_4 + i0)), .int ((A 13) n_4), .int ((A 22) (4 * n_4 + i0)), .int p0, .ref h0]) (by rw [en_13]) ?_
                    refine lv_if_ne (tgt := 209) hx hb dX10_push_201 (by decide) (fun c_48 => ?_) (fun c_48 => ?_)
                    · simp only [lt_I, le_I, eq_I, i_0, i_1, i_2, i_3, i_4, i_5, i_6, i_7, i_8, i_10, i_12, i_16, i_20, i_23, i_24, i_31, i_32, i_63, i_64, i_m1, i_9, i_11, i_13, i_25, i_60, i_75, i_79, i_80, i_96, i_100] at c_48
                      refine lv_aload_n hx hb dX10_push_209 rfl (lv_at hl 6 rfl) ?_
                      refine va_get (D := DG E) (ci := 10) (v := .ref (rf 25)) (C := RX10) (T := TX10) (N := 49) hx hb hts iw_X10 hown hK.1 (va_one hM.1) 0 rfl rfl 25 (by decide) (hts _ fl_X10_74) (fun _ h9 => h9) rfl dX10_push_210 ?_
                      refine lv_iload_n hx hb dX10_push_213 rfl (lv_at hl 4 rfl) ?_
                      have ha_49 : va_at (DG E) vwCl (rf 25, .inl (E.2.2 0, 16, .inl (A 25))) _ := hM.2 25 (by decide) (by decide) (by decide)
                      refine va_iald (D := DG E) hx hb hK.1 (va_one ha_49) 0 0 rfl rfl hi_14 dX10_push_214 ?_
                      refine W.eq (g2 := F0 m 215 ls [.int ((A 25) (4 * n_4 + i0)), .int ((A 13) n_4), .int ((A 22) (4 * n_4 + i0)), .int p0, .ref h0]) (by rw [en_13]) ?_
                      refine lv_aload_n hx hb dX10_push_215 rfl (lv_at hl 6 rfl) ?_
                      refine va_get (D := DG E) (ci := 10) (v := .ref (rf 22)) (C := RX10) (T := TX10) (N := 49) hx hb hts iw_X10 hown hK.1 (va_one hM.1) 0 rfl rfl 22 (by decide) (hts _ fl_X10_65) (fun _ h9 => h9) rfl dX10_push_216 ?_
                      refine lv_iload_n hx hb dX10_push_219 rfl (lv_at hl 4 rfl) ?_
                      have ha_50 : va_at (DG E) vwCl (rf 22, .inl (E.2.2 0, 16, .inl (A 22))) _ := hM.2 22 (by decide) (by decide) (by decide)
                      refine va_iald (D := DG E) hx hb hK.1 (va_one ha_50) 0 0 rfl rfl hi_14 dX10_push_220 ?_
                      refine W.eq (g2 := F0 m 221 ls [.int ((A 22) (4 * n_4 + i0)), .int ((A 25) (4 * n_4 + i0)), .int ((A 13) n_4), .int ((A 22) (4 * n_4 + i0)), .int p0, .ref h0]) (by rw [en_13]) ?_
                      refine lv_if_ne (tgt := 228) hx hb dX10_push_221 (by decide) (fun c_51 => ?_) (fun c_51 => by exfalso; simp only [lt_I, le_I, eq_I, i_0, i_1, i_2, i_3, i_4, i_5, i_6, i_7, i_8, i_10, i_12, i_16, i_20, i_23, i_24, i_31, i_32, i_63, i_64, i_m1, i_9, i_11, i_13, i_25, i_60, i_75, i_79, i_80, i_96, i_100] at c_51; omega)
                      simp only [lt_I, le_I, eq_I, i_0, i_1, i_2, i_3, i_4, i_5, i_6, i_7, i_8, i_10, i_12, i_16, i_20, i_23, i_24, i_31, i_32, i_63, i_64, i_m1, i_9, i_11, i_13, i_25, i_60, i_75, i_79, i_80, i_96, i_100] at c_51
                      refine lv_aload_n hx hb dX10_push_228 rfl (lv_at hl 6 rfl) ?_
                      refine va_get (D := DG E) (ci := 10) (v := .ref (rf 26)) (C := RX10) (T := TX10) (N := 49) hx hb hts iw_X10 hown hK.1 (va_one hM.1) 0 rfl rfl 26 (by decide) (hts _ fl_X10_77) (fun _ h9 => h9) rfl dX10_push_229 ?_
                      refine lv_iload_n hx hb dX10_push_232 rfl (lv_at hl 4 rfl) ?_
                      have ha_52 : va_at (DG E) vwCl (rf 26, .inl (E.2.2 0, 16, .inl (A 26))) _ := hM.2 26 (by decide) (by decide) (by decide)
                      refine va_iald (D := DG E) hx hb hK.1 (va_one ha_52) 0 0 rfl rfl hi_14 dX10_push_233 ?_
                      refine W.eq (g2 := F0 m 234 ls [.int ((A 26) (4 * n_4 + i0)), .int ((A 25) (4 * n_4 + i0)), .int ((A 13) n_4), .int ((A 22) (4 * n_4 + i0)), .int p0, .ref h0]) (by rw [en_13]) ?_
                      have q_53 : -1 ≤ ((A 26) (4 * n_4 + i0)).toInt := (hI6 (4 * n_4 + i0) hk_18).2.2.2.2.2.2.2.1
                      have q_54 : ((A 26) (4 * n_4 + i0)).toInt ≤ 31 := (hI6 (4 * n_4 + i0) hk_18).2.2.2.2.2.2.2.2
                      refine lv_iconst (v := 4) hx hb dX10_push_234 (by decide) ?_
                      refine lv_iload hx hb dX10_push_235 (lv_at hl 3 rfl) ?_
                      refine lv_imul hx hb dX10_push_237 ?_
                      refine W.eq (g2 := F0 m 238 ls [.int x_37, .int ((A 26) (4 * n_4 + i0)), .int ((A 25) (4 * n_4 + i0)), .int ((A 13) n_4), .int ((A 22) (4 * n_4 + i0)), .int p0, .ref h0]) (by rw [ex_37]) ?_
                      refine lv_iadd hx hb dX10_push_238 ?_
                      refine lv_topi (fun x_55 ex_55 => ?_)
                      have fx_55 : x_55.toInt = ((A 26) (4 * n_4 + i0)).toInt + x_37.toInt := by have h9 := s_add (x := ((A 26) (4 * n_4 + i0))) (y := x_37) (by omega) (by omega); rw [ex_55]; exact h9
                      refine lv_aload_n hx hb dX10_push_239 rfl (lv_at hl 6 rfl) ?_
                      refine va_get (D := DG E) (ci := 10) (v := .ref (rf 27)) (C := RX10) (T := TX10) (N := 49) hx hb hts iw_X10 hown hK.1 (va_one hM.1) 0 rfl rfl 27 (by decide) (hts _ fl_X10_80) (fun _ h9 => h9) rfl dX10_push_240 ?_
                      refine lv_iload_n hx hb dX10_push_243 rfl (lv_at hl 4 rfl) ?_
                      have ha_56 : va_at (DG E) vwCl (rf 27, .inl (E.2.2 0, 16, .inl (A 27))) _ := hM.2 27 (by decide) (by decide) (by decide)
                      refine va_iald (D := DG E) hx hb hK.1 (va_one ha_56) 0 0 rfl rfl hi_14 dX10_push_244 ?_
                      refine W.eq (g2 := F0 m 245 ls [.int ((A 27) (4 * n_4 + i0)), .int x_55, .int ((A 25) (4 * n_4 + i0)), .int ((A 13) n_4), .int ((A 22) (4 * n_4 + i0)), .int p0, .ref h0]) (by rw [en_13]) ?_
                      refine va_calli (rnV (fun H => MH E h0 rf t0 t1 t2 (uA A 15 u_29) 0 pk H) (As := [.int p0, .int ((A 22) (4 * n_4 + i0)), .int ((A 13) n_4), .int ((A 25) (4 * n_4 + i0)), .int x_55, .int ((A 27) (4 * n_4 + i0))]) (rest := []) ⟨hx, hb, hml, hown, hts⟩ (u_X10_emit l E z0 G hGz h0 rf hR t0 t1 t2 (uA A 15 u_29) 0 pk p0 ((A 22) (4 * n_4 + i0)) ((A 13) n_4) ((A 25) (4 * n_4 + i0)) x_55 ((A 27) (4 * n_4 + i0)) hI7 (show 0 ≤ p0.toInt ∧ p0.toInt ≤ 3 from by first | decide | omega) (show 0 ≤ pk.toInt ∧ pk.toInt ≤ 24 from by first | decide | omega) (show -1 ≤ x_55.toInt ∧ x_55.toInt ≤ 60 from by first | decide | omega) (show 0 ≤ ((A 22) (4 * n_4 + i0)).toInt from by first | decide | omega) (show ((A 22) (4 * n_4 + i0)).toInt < 1 ∨ 3 < ((A 22) (4 * n_4 + i0)).toInt ∨ (0 ≤ ((A 25) (4 * n_4 + i0)).toInt ∧ ((A 25) (4 * n_4 + i0)).toInt ≤ 5) from by first | decide | omega)) (cwV 6 hts (gdV ml_X10_199 im_X10_emit se_X10_X10_emit in_X10 co_X10_emit rfl) rfl rfl rfl (by decide +kernel) ⟨Nat.le_of_ble_eq_true rfl, Nat.le_of_ble_eq_true rfl⟩) hM (fun U hU hW => hK.go hW hS hAz hU) (va_recv hK.1 (va_one hM.1) (ci := 10) (q0 := 0) rfl rfl) rfl rfl hl.1 rfl (lv_room (Nat.le_of_ble_eq_true rfl)) dX10_push_245 ⟨Nat.le_of_ble_eq_true rfl, Nat.le_of_ble_eq_true rfl⟩) hS (fun q _ h => h) (fun q h => h) (fun r_57 ur_57 t H locs ht hvm hwr_57 hB hz hk hS => ?_)
                      have hM : MH E h0 rf t0 t1 t2 (uA (uA (uA (uA (uA (uA (uA (uA A 15 u_29) 41 (ur_57.1)) 42 (ur_57.2.1)) 43 (ur_57.2.2.1)) 44 (ur_57.2.2.2.1)) 45 (ur_57.2.2.2.2.1)) 46 (ur_57.2.2.2.2.2.1)) 47 (ur_57.2.2.2.2.2.2.1)) 0 ur_57.2.2.2.2.2.2.2 H := by rw [ht] at hB; exact hB
                      have hDr_57 : D_X10_emit (uA A 15 u_29) (0 : Int32) pk p0 ((A 22) (4 * n_4 + i0)) ((A 13) n_4) ((A 25) (4 * n_4 + i0)) x_55 ((A 27) (4 * n_4 + i0)) (uA (uA (uA (uA (uA (uA (uA (uA A 15 u_29) 41 (ur_57.1)) 42 (ur_57.2.1)) 43 (ur_57.2.2.1)) 44 (ur_57.2.2.2.1)) 45 (ur_57.2.2.2.2.1)) 46 (ur_57.2.2.2.2.2.1)) 47 (ur_57.2.2.2.2.2.2.1)) (0 : Int32) (ur_57.2.2.2.2.2.2.2) r_57 := hwr_57.2.2.2.2.2
                      have hpr_57_0 : I7 (ur_57.1) (ur_57.2.1) (ur_57.2.2.2.1) (ur_57.2.2.2.2.1) (ur_57.2.2.2.2.2.1) := hwr_57.1
                      have hpr_57_1 : 0 ≤ ur_57.2.2.2.2.2.2.2.toInt ∧ ur_57.2.2.2.2.2.2.2.toInt ≤ 24 := hwr_57.2.1
                      have hpr_57_2 : -1 ≤ r_57.toInt ∧ r_57.toInt ≤ 23 := hwr_57.2.2.1
                      have hpr_57_3 : ∀ n : Nat, (n : Int) = r_57.toInt → (ur_57.2.1) n = ((A 22) (4 * n_4 + i0)) := hwr_57.2.2.2.1
                      have hpr_57_4 : ((ur_57.2.2.2.1) 24).toInt = ((A 44) 24).toInt ∧ ((ur_57.2.2.2.2.2.1) 24).toInt = ((A 46) 24).toInt := hwr_57.2.2.2.2.1
                      refine lv_istore (lv' := [(8, .int r_57), (7, .int x_45), (6, .int x_38), (5, .int 1), (4, .int x_16), (3, .int r_12), (2, .int ((A 13) n_4)), (0, .ref h0), (1, .int p0)]) hx hb dX10_push_248 hl (by decide) rfl (fun ls hl => ?_)
                      refine lv_aload_n hx hb dX10_push_250 rfl (lv_at hl 7 rfl) ?_
                      refine va_get (D := DG E) (ci := 10) (v := .ref (rf 22)) (C := RX10) (T := TX10) (N := 49) hx hb hts iw_X10 hown hK.1 (va_one hM.1) 0 rfl rfl 22 (by decide) (hts _ fl_X10_65) (fun _ h9 => h9) rfl dX10_push_251 ?_
                      refine lv_iload_n hx hb dX10_push_254 rfl (lv_at hl 5 rfl) ?_
                      have ha_58 : va_at (DG E) vwCl (rf 22, .inl (E.2.2 0, 16, .inl (A 22))) _ := hM.2 22 (by decide) (by decide) (by decide)
                      refine va_iald (D := DG E) hx hb hK.1 (va_one ha_58) 0 0 rfl rfl hi_14 dX10_push_255 ?_
                      refine W.eq (g2 := F0 m 256 ls [.int ((A 22) (4 * n_4 + i0))]) (by rw [en_13]) ?_
                      refine lv_iconst (v := 2) hx hb dX10_push_256 (by decide) ?_
                      refine lv_icmp_ge (tgt := 290) hx hb dX10_push_257 (by decide) (fun c_59 => ?_) (fun c_59 => ?_)
                      · simp only [lt_I, le_I, eq_I, i_0, i_1, i_2, i_3, i_4, i_5, i_6, i_7, i_8, i_10, i_12, i_16, i_20, i_23, i_24, i_31, i_32, i_63, i_64, i_m1, i_9, i_11, i_13, i_25, i_60, i_75, i_79, i_80, i_96, i_100] at c_59
                        refine lv_aload_n hx hb dX10_push_290 rfl (lv_at hl 7 rfl) ?_
                        refine va_get (D := DG E) (ci := 10) (v := .ref (rf 22)) (C := RX10) (T := TX10) (N := 49) hx hb hts iw_X10 hown hK.1 (va_one hM.1) 0 rfl rfl 22 (by decide) (hts _ fl_X10_65) (fun _ h9 => h9) rfl dX10_push_291 ?_
                        refine lv_iload_n hx hb dX10_push_294 rfl (lv_at hl 5 rfl) ?_
                        have ha_60 : va_at (DG E) vwCl (rf 22, .inl (E.2.2 0, 16, .inl (A 22))) _ := hM.2 22 (by decide) (by decide) (by decide)
                        refine va_iald (D := DG E) hx hb hK.1 (va_one ha_60) 0 0 rfl rfl hi_14 dX10_push_295 ?_
                        refine W.eq (g2 := F0 m 296 ls [.int ((A 22) (4 * n_4 + i0))]) (by rw [en_13]) ?_
                        refine lv_iconst (v := 2) hx hb dX10_push_296 (by decide) ?_
                        refine lv_icmp_ne (tgt := 314) hx hb dX10_push_297 (by decide) (fun c_61 => ?_) (fun c_61 => ?_)
                        · simp only [lt_I, le_I, eq_I, i_0, i_1, i_2, i_3, i_4, i_5, i_6, i_7, i_8, i_10, i_12, i_16, i_20, i_23, i_24, i_31, i_32, i_63, i_64, i_m1, i_9, i_11, i_13, i_25, i_60, i_75, i_79, i_80, i_96, i_100] at c_61
                          refine lv_aload_n hx hb dX10_push_314 rfl (lv_at hl 7 rfl) ?_
                          refine va_get (D := DG E) (ci := 10) (v := .ref (rf 13)) (C := RX10) (T := TX10) (N := 49) hx hb hts iw_X10 hown hK.1 (va_one hM.1) 0 rfl rfl 13 (by decide) (hts _ fl_X10_37) (fun _ h9 => h9) rfl dX10_push_315 ?_
                          refine lv_iload_n hx hb dX10_push_318 rfl (lv_at hl 8 rfl) ?_
                          refine lv_iload_n hx hb dX10_push_319 rfl (lv_at hl 6 rfl) ?_
                          refine lv_iload hx hb dX10_push_320 (lv_at hl 3 rfl) ?_
                          refine lv_iadd hx hb dX10_push_322 ?_
                          refine W.eq (g2 := F0 m 323 ls [.int x_24, .int p0, .ref (rf 13)]) (by rw [ex_24]) ?_
                          refine lv_bipush (v := 64) hx hb dX10_push_323 (by decide) ?_
                          refine lv_irem hx hb dX10_push_325 (by decide) ?_
                          refine lv_topi (fun x_62 ex_62 => ?_)
                          have fx_62 : x_62.toInt = x_24.toInt % 64 := by have h9 := s_rem (x := x_24) 64 (by decide) (by decide) (by omega); rw [ex_62]; exact h9
                          have ha_63 : va_at (DG E) vwCl (rf 13, .inl (E.2.2 0, 4, .inl (A 13))) _ := hM.2 13 (by decide) (by decide) (by decide)
                          refine rr_iast (D := DG E) hx hb hK.1 0 ha_63 hS (by show G (rf 13) ≠ 0; rw [hR.2 13 (by decide) (by decide) (by decide)]; decide) rfl hi_2 dX10_push_326 (fun H locs hn ho hz hS => ?_)
                          rw [en_4] at hn
                          obtain ⟨g_63, eg_63⟩ : ∃ z : Nat → Int32, z = upd (A 13) n_4 x_62 := ⟨_, rfl⟩
                          have sg_63 : g_63 n_4 = x_62 := by rw [eg_63]; exact upd_s
                          have ng_63 : ∀ k, k ≠ n_4 → g_63 k = (A 13) k := fun k hk => by rw [eg_63]; exact upd_n hk
                          have hn : va_at (DG E) vwCl (rf 13, .inl (E.2.2 0, 4, .inl g_63)) H := by rw [eg_63]; exact hn
                          have hM : MH E h0 rf t0 t1 t2 (uA (uA (uA (uA (uA (uA (uA (uA (uA A 15 u_29) 41 (ur_57.1)) 42 (ur_57.2.1)) 43 (ur_57.2.2.1)) 44 (ur_57.2.2.2.1)) 45 (ur_57.2.2.2.2.1)) 46 (ur_57.2.2.2.2.2.1)) 47 (ur_57.2.2.2.2.2.2.1)) 13 g_63) 0 ur_57.2.2.2.2.2.2.2 H := hM.w hR 13 (by decide) (by decide) (by decide) hn ho
                          refine lv_iload_n hx hb dX10_push_327 rfl (lv_at hl 6 rfl) ?_
                          have hI4_64 : I4 (A 10) (A 20) (A 29) (A 24) (A 11) (A 12) g_63 := by
                            intro k hk
                            by_cases e : k = n_4
                            · rw [e]
                              exact ⟨fun _ => hPn _ (by rw [sg_63]; omega), Or.inl hst0⟩
                            · exact (hI4 k hk).cg rfl rfl (fun _ _ => rfl) (fun _ _ => rfl) rfl rfl (ng_63 k e)
                          exact W.iret (v := ((A 13) n_4)) hx hb hr (fun t ht hW => ⟨⟨((A 13) n_4), ((ur_57.1), (ur_57.2.1), (ur_57.2.2.1), (ur_57.2.2.2.1), (ur_57.2.2.2.2.1), (ur_57.2.2.2.2.2.1), (ur_57.2.2.2.2.2.2.1), (A 48), g_63, u_29, ur_57.2.2.2.2.2.2.2, 0), rfl, ⟨hI4_64, hpr_57_0, (by show 0 ≤ ur_57.2.2.2.2.2.2.2.toInt ∧ ur_57.2.2.2.2.2.2.2.toInt ≤ 24; omega), (Or.inl ⟨c_1r, n_4, hn_4, (Or.inr ⟨c_5, (Or.inr ⟨c_8, (Or.inl ⟨c_10, r_12, hpr_12_0, hpr_12_1, i0, hi4, hn_13, x_16, ex_16, (Or.inl ⟨c_22, x_24, ex_24, fx_24, x_25, ex_25, fx_25, x_26, ex_26, fx_26, x_27, ex_27, fx_27, (Or.inl ⟨c_28, u_29, hJ_29, x_37, ex_37, fx_37, x_38, ex_38, fx_38, v_39, hv_39.2, r_41, hDr_41, hpr_41_0, hpr_41_1, v_42, hv_42.2, x_45, ex_45, fx_45, (Or.inl ⟨c_48, x_55, ex_55, fx_55, ur_57, r_57, hDr_57, hpr_57_0, hpr_57_1, hpr_57_2, hpr_57_3, hpr_57_4, (Or.inl ⟨c_59, (Or.inl ⟨c_61, x_62, ex_62, fx_62, g_63, eg_63, rfl, rfl, rfl, rfl⟩)⟩)⟩)⟩)⟩)⟩)⟩)⟩)⟩)⟩, (by show MH E h0 rf t0 t1 t2 (uA (uA (uA (uA (uA (uA (uA (uA (uA (uA A 41 (ur_57.1)) 42 (ur_57.2.1)) 43 (ur_57.2.2.1)) 44 (ur_57.2.2.2.1)) 45 (ur_57.2.2.2.2.1)) 46 (ur_57.2.2.2.2.2.1)) 47 (ur_57.2.2.2.2.2.2.1)) 48 (A 48)) 13 g_63) 15 u_29) 0 ur_57.2.2.2.2.2.2.2 t.heap; rw [ht]; exact hM.cge (funext fun j => (cgj j 48 rfl (fun a0 => (cgj j 47 rfl (fun a1 => (cgj j 46 rfl (fun a2 => (cgj j 45 rfl (fun a3 => (cgj j 44 rfl (fun a4 => (cgj j 43 rfl (fun a5 => (cgj j 42 rfl (fun a6 => (cgj j 41 rfl (fun a7 => (cgj j 15 rfl (fun a8 => (cgj j 13 rfl (fun a9 => (by simp only [uA_n a0, uA_n a1, uA_n a2, uA_n a3, uA_n a4, uA_n a5, uA_n a6, uA_n a7, uA_n a8, uA_n a9])))))))))))))))))))))))⟩, hS.F ht⟩) hS.2.2 dX10_push_328
                        · simp only [lt_I, le_I, eq_I, i_0, i_1, i_2, i_3, i_4, i_5, i_6, i_7, i_8, i_10, i_12, i_16, i_20, i_23, i_24, i_31, i_32, i_63, i_64, i_m1, i_9, i_11, i_13, i_25, i_60, i_75, i_79, i_80, i_96, i_100] at c_61
                          refine lv_iload hx hb dX10_push_300 (lv_at hl 0 rfl) ?_
                          refine lv_if_lt (tgt := 314) hx hb dX10_push_302 (by decide) (fun c_65 => ?_) (fun c_65 => ?_)
                          · simp only [lt_I, le_I, eq_I, i_0, i_1, i_2, i_3, i_4, i_5, i_6, i_7, i_8, i_10, i_12, i_16, i_20, i_23, i_24, i_31, i_32, i_63, i_64, i_m1, i_9, i_11, i_13, i_25, i_60, i_75, i_79, i_80, i_96, i_100] at c_65
                            refine lv_aload_n hx hb dX10_push_314 rfl (lv_at hl 7 rfl) ?_
                            refine va_get (D := DG E) (ci := 10) (v := .ref (rf 13)) (C := RX10) (T := TX10) (N := 49) hx hb hts iw_X10 hown hK.1 (va_one hM.1) 0 rfl rfl 13 (by decide) (hts _ fl_X10_37) (fun _ h9 => h9) rfl dX10_push_315 ?_
                            refine lv_iload_n hx hb dX10_push_318 rfl (lv_at hl 8 rfl) ?_
                            refine lv_iload_n hx hb dX10_push_319 rfl (lv_at hl 6 rfl) ?_
                            refine lv_iload hx hb dX10_push_320 (lv_at hl 3 rfl) ?_
                            refine lv_iadd hx hb dX10_push_322 ?_
                            refine W.eq (g2 := F0 m 323 ls [.int x_24, .int p0, .ref (rf 13)]) (by rw [ex_24]) ?_
                            refine lv_bipush (v := 64) hx hb dX10_push_323 (by decide) ?_
                            refine lv_irem hx hb dX10_push_325 (by decide) ?_
                            refine lv_topi (fun x_66 ex_66 => ?_)
                            have fx_66 : x_66.toInt = x_24.toInt % 64 := by have h9 := s_rem (x := x_24) 64 (by decide) (by decide) (by omega); rw [ex_66]; exact h9
                            have ha_67 : va_at (DG E) vwCl (rf 13, .inl (E.2.2 0, 4, .inl (A 13))) _ := hM.2 13 (by decide) (by decide) (by decide)
                            refine rr_iast (D := DG E) hx hb hK.1 0 ha_67 hS (by show G (rf 13) ≠ 0; rw [hR.2 13 (by decide) (by decide) (by decide)]; decide) rfl hi_2 dX10_push_326 (fun H locs hn ho hz hS => ?_)
                            rw [en_4] at hn
                            obtain ⟨g_67, eg_67⟩ : ∃ z : Nat → Int32, z = upd (A 13) n_4 x_66 := ⟨_, rfl⟩
                            have sg_67 : g_67 n_4 = x_66 := by rw [eg_67]; exact upd_s
                            have ng_67 : ∀ k, k ≠ n_4 → g_67 k = (A 13) k := fun k hk => by rw [eg_67]; exact upd_n hk
                            have hn : va_at (DG E) vwCl (rf 13, .inl (E.2.2 0, 4, .inl g_67)) H := by rw [eg_67]; exact hn
                            have hM : MH E h0 rf t0 t1 t2 (uA (uA (uA (uA (uA (uA (uA (uA (uA A 15 u_29) 41 (ur_57.1)) 42 (ur_57.2.1)) 43 (ur_57.2.2.1)) 44 (ur_57.2.2.2.1)) 45 (ur_57.2.2.2.2.1)) 46 (ur_57.2.2.2.2.2.1)) 47 (ur_57.2.2.2.2.2.2.1)) 13 g_67) 0 ur_57.2.2.2.2.2.2.2 H := hM.w hR 13 (by decide) (by decide) (by decide) hn ho
                            refine lv_iload_n hx hb dX10_push_327 rfl (lv_at hl 6 rfl) ?_
                            have hI4_68 : I4 (A 10) (A 20) (A 29) (A 24) (A 11) (A 12) g_67 := by
                              intro k hk
                              by_cases e : k = n_4
                              · rw [e]
                                exact ⟨fun _ => hPn _ (by rw [sg_67]; omega), Or.inl hst0⟩
                              · exact (hI4 k hk).cg rfl rfl (fun _ _ => rfl) (fun _ _ => rfl) rfl rfl (ng_67 k e)
                            exact W.iret (v := ((A 13) n_4)) hx hb hr (fun t ht hW => ⟨⟨((A 13) n_4), ((ur_57.1), (ur_57.2.1), (ur_57.2.2.1), (ur_57.2.2.2.1), (ur_57.2.2.2.2.1), (ur_57.2.2.2.2.2.1), (ur_57.2.2.2.2.2.2.1), (A 48), g_67, u_29, ur_57.2.2.2.2.2.2.2, 0), rfl, ⟨hI4_68, hpr_57_0, (by show 0 ≤ ur_57.2.2.2.2.2.2.2.toInt ∧ ur_57.2.2.2.2.2.2.2.toInt ≤ 24; omega), (Or.inl ⟨c_1r, n_4, hn_4, (Or.inr ⟨c_5, (Or.inr ⟨c_8, (Or.inl ⟨c_10, r_12, hpr_12_0, hpr_12_1, i0, hi4, hn_13, x_16, ex_16, (Or.inl ⟨c_22, x_24, ex_24, fx_24, x_25, ex_25, fx_25, x_26, ex_26, fx_26, x_27, ex_27, fx_27, (Or.inl ⟨c_28, u_29, hJ_29, x_37, ex_37, fx_37, x_38, ex_38, fx_38, v_39, hv_39.2, r_41, hDr_41, hpr_41_0, hpr_41_1, v_42, hv_42.2, x_45, ex_45, fx_45, (Or.inl ⟨c_48, x_55, ex_55, fx_55, ur_57, r_57, hDr_57, hpr_57_0, hpr_57_1, hpr_57_2, hpr_57_3, hpr_57_4, (Or.inl ⟨c_59, (Or.inr ⟨c_61, (Or.inl ⟨c_65, x_66, ex_66, fx_66, g_67, eg_67, rfl, rfl, rfl, rfl⟩)⟩)⟩)⟩)⟩)⟩)⟩)⟩)⟩)⟩)⟩, (by show MH E h0 rf t0 t1 t2 (uA (uA (uA (uA (uA (uA (uA (uA (uA (uA A 41 (ur_57.1)) 42 (ur_57.2.1)) 43 (ur_57.2.2.1)) 44 (ur_57.2.2.2.1)) 45 (ur_57.2.2.2.2.1)) 46 (ur_57.2.2.2.2.2.1)) 47 (ur_57.2.2.2.2.2.2.1)) 48 (A 48)) 13 g_67) 15 u_29) 0 ur_57.2.2.2.2.2.2.2 t.heap; rw [ht]; exact hM.cge (funext fun j => (cgj j 48 rfl (fun a0 => (cgj j 47 rfl (fun a1 => (cgj j 46 rfl (fun a2 => (cgj j 45 rfl (fun a3 => (cgj j 44 rfl (fun a4 => (cgj j 43 rfl (fun a5 => (cgj j 42 rfl (fun a6 => (cgj j 41 rfl (fun a7 => (cgj j 15 rfl (fun a8 => (cgj j 13 rfl (fun a9 => (by simp only [uA_n a0, uA_n a1, uA_n a2, uA_n a3, uA_n a4, uA_n a5, uA_n a6, uA_n a7, uA_n a8, uA_n a9])))))))))))))))))))))))⟩, hS.F ht⟩) hS.2.2 dX10_push_328
                          · simp only [lt_I, le_I, eq_I, i_0, i_1, i_2, i_3, i_4, i_5, i_6, i_7, i_8, i_10, i_12, i_16, i_20, i_23, i_24, i_31, i_32, i_63, i_64, i_m1, i_9, i_11, i_13, i_25, i_60, i_75, i_79, i_80, i_96, i_100] at c_65
                            obtain ⟨n_69, hn_69, en_69⟩ := s_nat (x := r_57) (by omega)
                            have hkd : ((ur_57.2.1) n_69).toInt = ((A 22) (4 * n_4 + i0)).toInt := by rw [hpr_57_3 n_69 (by omega)]
                            refine lv_aload_n hx hb dX10_push_305 rfl (lv_at hl 7 rfl) ?_
                            refine va_get (D := DG E) (ci := 10) (v := .ref (rf 44)) (C := RX10) (T := TX10) (N := 49) hx hb hts iw_X10 hown hK.1 (va_one hM.1) 0 rfl rfl 44 (by decide) (hts _ fl_X10_128) (fun _ h9 => h9) rfl dX10_push_306 ?_
                            refine lv_iload hx hb dX10_push_309 (lv_at hl 0 rfl) ?_
                            refine lv_iload hx hb dX10_push_311 (lv_at hl 2 rfl) ?_
                            have hi_70 : vp_in r_57 25 := vp_in_iff.mpr (by omega)
                            have ha_71 : va_at (DG E) vwCl (rf 44, .inl (E.2.2 0, 25, .inl (ur_57.2.2.2.1))) _ := hM.2 44 (by decide) (by decide) (by decide)
                            refine rr_iast (D := DG E) hx hb hK.1 0 ha_71 hS (by show G (rf 44) ≠ 0; rw [hR.2 44 (by decide) (by decide) (by decide)]; decide) rfl hi_70 dX10_push_313 (fun H locs hn ho hz hS => ?_)
                            rw [en_69] at hn
                            obtain ⟨g_71, eg_71⟩ : ∃ z : Nat → Int32, z = upd (ur_57.2.2.2.1) n_69 x_38 := ⟨_, rfl⟩
                            have sg_71 : g_71 n_69 = x_38 := by rw [eg_71]; exact upd_s
                            have ng_71 : ∀ k, k ≠ n_69 → g_71 k = (ur_57.2.2.2.1) k := fun k hk => by rw [eg_71]; exact upd_n hk
                            have hn : va_at (DG E) vwCl (rf 44, .inl (E.2.2 0, 25, .inl g_71)) H := by rw [eg_71]; exact hn
                            have hM : MH E h0 rf t0 t1 t2 (uA (uA (uA (uA (uA (uA (uA (uA (uA A 15 u_29) 41 (ur_57.1)) 42 (ur_57.2.1)) 43 (ur_57.2.2.1)) 44 (ur_57.2.2.2.1)) 45 (ur_57.2.2.2.2.1)) 46 (ur_57.2.2.2.2.2.1)) 47 (ur_57.2.2.2.2.2.2.1)) 44 g_71) 0 ur_57.2.2.2.2.2.2.2 H := hM.w hR 44 (by decide) (by decide) (by decide) hn ho
                            refine lv_aload_n hx hb dX10_push_314 rfl (lv_at hl 7 rfl) ?_
                            refine va_get (D := DG E) (ci := 10) (v := .ref (rf 13)) (C := RX10) (T := TX10) (N := 49) hx hb hts iw_X10 hown hK.1 (va_one hM.1) 0 rfl rfl 13 (by decide) (hts _ fl_X10_37) (fun _ h9 => h9) rfl dX10_push_315 ?_
                            refine lv_iload_n hx hb dX10_push_318 rfl (lv_at hl 8 rfl) ?_
                            refine lv_iload_n hx hb dX10_push_319 rfl (lv_at hl 6 rfl) ?_
                            refine lv_iload hx hb dX10_push_320 (lv_at hl 3 rfl) ?_
                            refine lv_iadd hx hb dX10_push_322 ?_
                            refine W.eq (g2 := F0 m 323 ls [.int x_24, .int p0, .ref (rf 13)]) (by rw [ex_24]) ?_
                            refine lv_bipush (v := 64) hx hb dX10_push_323 (by decide) ?_
                            refine lv_irem hx hb dX10_push_325 (by decide) ?_
                            refine lv_topi (fun x_72 ex_72 => ?_)
                            have fx_72 : x_72.toInt = x_24.toInt % 64 := by have h9 := s_rem (x := x_24) 64 (by decide) (by decide) (by omega); rw [ex_72]; exact h9
                            have ha_73 : va_at (DG E) vwCl (rf 13, .inl (E.2.2 0, 4, .inl (A 13))) _ := hM.2 13 (by decide) (by decide) (by decide)
                            refine rr_iast (D := DG E) hx hb hK.1 0 ha_73 hS (by show G (rf 13) ≠ 0; rw [hR.2 13 (by decide) (by decide) (by decide)]; decide) rfl hi_2 dX10_push_326 (fun H locs hn ho hz hS => ?_)
                            rw [en_4] at hn
                            obtain ⟨g_73, eg_73⟩ : ∃ z : Nat → Int32, z = upd (A 13) n_4 x_72 := ⟨_, rfl⟩
                            have sg_73 : g_73 n_4 = x_72 := by rw [eg_73]; exact upd_s
                            have ng_73 : ∀ k, k ≠ n_4 → g_73 k = (A 13) k := fun k hk => by rw [eg_73]; exact upd_n hk
                            have hn : va_at (DG E) vwCl (rf 13, .inl (E.2.2 0, 4, .inl g_73)) H := by rw [eg_73]; exact hn
                            have hM : MH E h0 rf t0 t1 t2 (uA (uA (uA (uA (uA (uA (uA (uA (uA (uA A 15 u_29) 41 (ur_57.1)) 42 (ur_57.2.1)) 43 (ur_57.2.2.1)) 44 (ur_57.2.2.2.1)) 45 (ur_57.2.2.2.2.1)) 46 (ur_57.2.2.2.2.2.1)) 47 (ur_57.2.2.2.2.2.2.1)) 44 g_71) 13 g_73) 0 ur_57.2.2.2.2.2.2.2 H := hM.w hR 13 (by decide) (by decide) (by decide) hn ho
                            refine lv_iload_n hx hb dX10_push_327 rfl (lv_at hl 6 rfl) ?_
                            have hI4_74 : I4 (A 10) (A 20) (A 29) (A 24) (A 11) (A 12) g_73 := by
                              intro k hk
                              by_cases e : k = n_4
                              · rw [e]
                                exact ⟨fun _ => hPn _ (by rw [sg_73]; omega), Or.inl hst0⟩
                              · exact (hI4 k hk).cg rfl rfl (fun _ _ => rfl) (fun _ _ => rfl) rfl rfl (ng_73 k e)
                            have hI7_75 : I7 (ur_57.1) (ur_57.2.1) g_71 (ur_57.2.2.2.2.1) (ur_57.2.2.2.2.2.1) := by
                              intro n9 hn9
                              have h9 : 0 ≤ ((ur_57.1) n9).toInt ∧ ((ur_57.1) n9).toInt ≤ 3 ∧ 0 ≤ ((ur_57.2.2.2.1) n9).toInt ∧ ((ur_57.2.2.2.1) n9).toInt ≤ 12 ∧ (((ur_57.2.1) n9).toInt ≠ 0 ∧ ((ur_57.2.1) n9).toInt ≠ 1 ∧ ((ur_57.2.1) n9).toInt ≠ 4 ∨ ((ur_57.2.2.2.1) n9).toInt ≤ 4) ∧ (((ur_57.2.1) n9).toInt < 1 ∨ 3 < ((ur_57.2.1) n9).toInt ∨ (0 ≤ ((ur_57.2.2.2.2.1) n9).toInt ∧ ((ur_57.2.2.2.2.1) n9).toInt ≤ 5)) ∧ -1 ≤ ((ur_57.2.2.2.2.2.1) n9).toInt ∧ ((ur_57.2.2.2.2.2.1) n9).toInt ≤ 60 ∧ 0 ≤ ((ur_57.2.1) n9).toInt := hpr_57_0 n9 hn9
                              show 0 ≤ ((ur_57.1) n9).toInt ∧ ((ur_57.1) n9).toInt ≤ 3 ∧ 0 ≤ (g_71 n9).toInt ∧ (g_71 n9).toInt ≤ 12 ∧ (((ur_57.2.1) n9).toInt ≠ 0 ∧ ((ur_57.2.1) n9).toInt ≠ 1 ∧ ((ur_57.2.1) n9).toInt ≠ 4 ∨ (g_71 n9).toInt ≤ 4) ∧ (((ur_57.2.1) n9).toInt < 1 ∨ 3 < ((ur_57.2.1) n9).toInt ∨ (0 ≤ ((ur_57.2.2.2.2.1) n9).toInt ∧ ((ur_57.2.2.2.2.1) n9).toInt ≤ 5)) ∧ -1 ≤ ((ur_57.2.2.2.2.2.1) n9).toInt ∧ ((ur_57.2.2.2.2.2.1) n9).toInt ≤ 60 ∧ 0 ≤ ((ur_57.2.1) n9).toInt
                              by_cases ezn_69 : n9 = n_69
                              · rw [ezn_69] at h9 ⊢
                                rw [sg_71]
                                exact ⟨by first | exact h9.1 | omega, by first | exact h9.2.1 | omega, by first | exact h9.2.2.1 | omega, by first | exact h9.2.2.2.1 | omega, by first | exact h9.2.2.2.2.1 | omega, by first | exact h9.2.2.2.2.2.1 | omega, by first | exact h9.2.2.2.2.2.2.1 | omega, by first | exact h9.2.2.2.2.2.2.2.1 | omega, by first | exact h9.2.2.2.2.2.2.2.2 | omega⟩
                              · rw [ng_71 n9 ezn_69]
                                exact h9
                            exact W.iret (v := ((A 13) n_4)) hx hb hr (fun t ht hW => ⟨⟨((A 13) n_4), ((ur_57.1), (ur_57.2.1), (ur_57.2.2.1), g_71, (ur_57.2.2.2.2.1), (ur_57.2.2.2.2.2.1), (ur_57.2.2.2.2.2.2.1), (A 48), g_73, u_29, ur_57.2.2.2.2.2.2.2, 0), rfl, ⟨hI4_74, hI7_75, (by show 0 ≤ ur_57.2.2.2.2.2.2.2.toInt ∧ ur_57.2.2.2.2.2.2.2.toInt ≤ 24; omega), (Or.inl ⟨c_1r, n_4, hn_4, (Or.inr ⟨c_5, (Or.inr ⟨c_8, (Or.inl ⟨c_10, r_12, hpr_12_0, hpr_12_1, i0, hi4, hn_13, x_16, ex_16, (Or.inl ⟨c_22, x_24, ex_24, fx_24, x_25, ex_25, fx_25, x_26, ex_26, fx_26, x_27, ex_27, fx_27, (Or.inl ⟨c_28, u_29, hJ_29, x_37, ex_37, fx_37, x_38, ex_38, fx_38, v_39, hv_39.2, r_41, hDr_41, hpr_41_0, hpr_41_1, v_42, hv_42.2, x_45, ex_45, fx_45, (Or.inl ⟨c_48, x_55, ex_55, fx_55, ur_57, r_57, hDr_57, hpr_57_0, hpr_57_1, hpr_57_2, hpr_57_3, hpr_57_4, (Or.inl ⟨c_59, (Or.inr ⟨c_61, (Or.inr ⟨c_65, n_69, hn_69, g_71, eg_71, x_72, ex_72, fx_72, g_73, eg_73, rfl, rfl, rfl, rfl⟩)⟩)⟩)⟩)⟩)⟩)⟩)⟩)⟩)⟩)⟩, (by show MH E h0 rf t0 t1 t2 (uA (uA (uA (uA (uA (uA (uA (uA (uA (uA A 41 (ur_57.1)) 42 (ur_57.2.1)) 43 (ur_57.2.2.1)) 44 g_71) 45 (ur_57.2.2.2.2.1)) 46 (ur_57.2.2.2.2.2.1)) 47 (ur_57.2.2.2.2.2.2.1)) 48 (A 48)) 13 g_73) 15 u_29) 0 ur_57.2.2.2.2.2.2.2 t.heap; rw [ht]; exact hM.cge (funext fun j => (cgj j 48 rfl (fun a0 => (cgj j 47 rfl (fun a1 => (cgj j 46 rfl (fun a2 => (cgj j 45 rfl (fun a3 => (cgj j 44 rfl (fun a4 => (cgj j 43 rfl (fun a5 => (cgj j 42 rfl (fun a6 => (cgj j 41 rfl (fun a7 => (cgj j 15 rfl (fun a8 => (cgj j 13 rfl (fun a9 => (by simp only [uA_n a0, uA_n a1, uA_n a2, uA_n a3, uA_n a4, uA_n a5, uA_n a6, uA_n a7, uA_n a8, uA_n a9])))))))))))))))))))))))⟩, hS.F ht⟩) hS.2.2 dX10_push_328
                      · simp only [lt_I, le_I, eq_I, i_0, i_1, i_2, i_3, i_4, i_5, i_6, i_7, i_8, i_10, i_12, i_16, i_20, i_23, i_24, i_31, i_32, i_63, i_64, i_m1, i_9, i_11, i_13, i_25, i_60, i_75, i_79, i_80, i_96, i_100] at c_59
                        refine lv_aload_n hx hb dX10_push_260 rfl (lv_at hl 7 rfl) ?_
                        refine lv_iload hx hb dX10_push_261 (lv_at hl 0 rfl) ?_
                        refine lv_iload_n hx hb dX10_push_263 rfl (lv_at hl 8 rfl) ?_
                        refine lv_aload_n hx hb dX10_push_264 rfl (lv_at hl 7 rfl) ?_
                        refine va_get (D := DG E) (ci := 10) (v := .ref (rf 23)) (C := RX10) (T := TX10) (N := 49) hx hb hts iw_X10 hown hK.1 (va_one hM.1) 0 rfl rfl 23 (by decide) (hts _ fl_X10_68) (fun _ h9 => h9) rfl dX10_push_265 ?_
                        refine lv_iload_n hx hb dX10_push_268 rfl (lv_at hl 5 rfl) ?_
                        have ha_76 : va_at (DG E) vwCl (rf 23, .inl (E.2.2 0, 16, .inl (A 23))) _ := hM.2 23 (by decide) (by decide) (by decide)
                        refine va_iald (D := DG E) hx hb hK.1 (va_one ha_76) 0 0 rfl rfl hi_14 dX10_push_269 ?_
                        refine W.eq (g2 := F0 m 270 ls [.int ((A 23) (4 * n_4 + i0)), .int p0, .int r_57, .ref h0]) (by rw [en_13]) ?_
                        have q_77 : 0 ≤ ((A 23) (4 * n_4 + i0)).toInt := (hI6 (4 * n_4 + i0) hk_18).2.2.1
                        refine lv_iconst (v := 4) hx hb dX10_push_270 (by decide) ?_
                        refine lv_iload hx hb dX10_push_271 (lv_at hl 4 rfl) ?_
                        refine lv_imul hx hb dX10_push_273 ?_
                        refine W.eq (g2 := F0 m 274 ls [.int x_37, .int ((A 23) (4 * n_4 + i0)), .int p0, .int r_57, .ref h0]) (by rw [ex_37]) ?_
                        refine lv_iadd hx hb dX10_push_274 ?_
                        refine lv_topi (fun x_78 ex_78 => ?_)
                        have fx_78 : x_78.toInt = ((A 23) (4 * n_4 + i0)).toInt + x_37.toInt := by have h9 := s_add (x := ((A 23) (4 * n_4 + i0))) (y := x_37) (by omega) (by omega); rw [ex_78]; exact h9
                        refine lv_iload hx hb dX10_push_275 (lv_at hl 2 rfl) ?_
                        refine lv_iconst (v := 4) hx hb dX10_push_277 (by decide) ?_
                        refine lv_icmp_ge (tgt := 286) hx hb dX10_push_278 (by decide) (fun c_79 => ?_) (fun c_79 => ?_)
                        · simp only [lt_I, le_I, eq_I, i_0, i_1, i_2, i_3, i_4, i_5, i_6, i_7, i_8, i_10, i_12, i_16, i_20, i_23, i_24, i_31, i_32, i_63, i_64, i_m1, i_9, i_11, i_13, i_25, i_60, i_75, i_79, i_80, i_96, i_100] at c_79
                          refine lv_iconst (v := 4) hx hb dX10_push_286 (by decide) ?_
                          refine va_callv (rnV (fun H => MH E h0 rf t0 t1 t2 (uA (uA (uA (uA (uA (uA (uA (uA A 15 u_29) 41 (ur_57.1)) 42 (ur_57.2.1)) 43 (ur_57.2.2.1)) 44 (ur_57.2.2.2.1)) 45 (ur_57.2.2.2.2.1)) 46 (ur_57.2.2.2.2.2.1)) 47 (ur_57.2.2.2.2.2.2.1)) 0 ur_57.2.2.2.2.2.2.2 H) (As := [.int r_57, .int p0, .int x_78, .int 4]) (rest := []) ⟨hx, hb, hml, hown, hts⟩ (u_X10_load l E z0 G hGz h0 rf hR t0 t1 t2 (uA (uA (uA (uA (uA (uA (uA (uA A 15 u_29) 41 (ur_57.1)) 42 (ur_57.2.1)) 43 (ur_57.2.2.1)) 44 (ur_57.2.2.2.1)) 45 (ur_57.2.2.2.2.1)) 46 (ur_57.2.2.2.2.2.1)) 47 (ur_57.2.2.2.2.2.2.1)) 0 ur_57.2.2.2.2.2.2.2 r_57 p0 x_78 4 hpr_57_0 (show -1 ≤ r_57.toInt ∧ r_57.toInt ≤ 23 from by have := i_4; first | decide | omega) (show 0 ≤ p0.toInt ∧ p0.toInt ≤ 3 from by have := i_4; first | decide | omega) (show 0 ≤ x_78.toInt ∧ x_78.toInt ≤ 32 from by have := i_4; first | decide | omega) (show 0 ≤ (4 : Int32).toInt ∧ (4 : Int32).toInt ≤ 4 from by have := i_4; first | decide | omega) (show x_78.toInt + (4 : Int32).toInt ≤ 32 from by have := i_4; first | decide | omega)) (cwV 4 hts (gdV ml_X10_203 im_X10_load se_X10_X10_load in_X10 co_X10_load rfl) rfl rfl rfl (by decide +kernel) ⟨Nat.le_of_ble_eq_true rfl, Nat.le_of_ble_eq_true rfl⟩) hM (fun U hU hW => hK.go hW hS hAz hU) (va_recv hK.1 (va_one hM.1) (ci := 10) (q0 := 0) rfl rfl) rfl rfl hl.1 rfl (lv_room (Nat.le_of_ble_eq_true rfl)) dX10_push_287 ⟨Nat.le_of_ble_eq_true rfl, Nat.le_of_ble_eq_true rfl⟩) hS (fun q _ h => h) (fun q h => h) (fun ur_80 t H locs ht hvm hwr_80 hB hz hk hS => ?_)
                          have hM : MH E h0 rf t0 t1 t2 (uA (uA (uA (uA (uA (uA (uA (uA (uA (uA A 15 u_29) 41 (ur_57.1)) 42 (ur_57.2.1)) 43 (ur_57.2.2.1)) 44 (ur_57.2.2.2.1)) 45 (ur_57.2.2.2.2.1)) 46 (ur_57.2.2.2.2.2.1)) 47 (ur_57.2.2.2.2.2.2.1)) 44 (ur_80.1)) 48 (ur_80.2)) 0 ur_57.2.2.2.2.2.2.2 H := by rw [ht] at hB; exact hB
                          have hDr_80 : D_X10_load (uA (uA (uA (uA (uA (uA (uA (uA A 15 u_29) 41 (ur_57.1)) 42 (ur_57.2.1)) 43 (ur_57.2.2.1)) 44 (ur_57.2.2.2.1)) 45 (ur_57.2.2.2.2.1)) 46 (ur_57.2.2.2.2.2.1)) 47 (ur_57.2.2.2.2.2.2.1)) (0 : Int32) (ur_57.2.2.2.2.2.2.2) r_57 p0 x_78 (4 : Int32) (uA (uA (uA (uA (uA (uA (uA (uA (uA (uA A 15 u_29) 41 (ur_57.1)) 42 (ur_57.2.1)) 43 (ur_57.2.2.1)) 44 (ur_57.2.2.2.1)) 45 (ur_57.2.2.2.2.1)) 46 (ur_57.2.2.2.2.2.1)) 47 (ur_57.2.2.2.2.2.2.1)) 44 (ur_80.1)) 48 (ur_80.2)) (0 : Int32) (ur_57.2.2.2.2.2.2.2) := hwr_80.2.2
                          have hpr_80_0 : I7 (ur_57.1) (ur_57.2.1) (ur_80.1) (ur_57.2.2.2.2.1) (ur_57.2.2.2.2.2.1) := hwr_80.1
                          have hpr_80_1 : ((ur_80.1) 24).toInt = ((ur_57.2.2.2.1) 24).toInt ∧ ((ur_57.2.2.2.2.2.1) 24).toInt = ((ur_57.2.2.2.2.2.1) 24).toInt := hwr_80.2.1
                          have := i_4
                          refine lv_aload_n hx hb dX10_push_290 rfl (lv_at hl 7 rfl) ?_
                          refine va_get (D := DG E) (ci := 10) (v := .ref (rf 22)) (C := RX10) (T := TX10) (N := 49) hx hb hts iw_X10 hown hK.1 (va_one hM.1) 0 rfl rfl 22 (by decide) (hts _ fl_X10_65) (fun _ h9 => h9) rfl dX10_push_291 ?_
                          refine lv_iload_n hx hb dX10_push_294 rfl (lv_at hl 5 rfl) ?_
                          have ha_81 : va_at (DG E) vwCl (rf 22, .inl (E.2.2 0, 16, .inl (A 22))) _ := hM.2 22 (by decide) (by decide) (by decide)
                          refine va_iald (D := DG E) hx hb hK.1 (va_one ha_81) 0 0 rfl rfl hi_14 dX10_push_295 ?_
                          refine W.eq (g2 := F0 m 296 ls [.int ((A 22) (4 * n_4 + i0))]) (by rw [en_13]) ?_
                          refine lv_iconst (v := 2) hx hb dX10_push_296 (by decide) ?_
                          refine lv_icmp_ne (tgt := 314) hx hb dX10_push_297 (by decide) (fun c_82 => ?_) (fun c_82 => by exfalso; simp only [lt_I, le_I, eq_I, i_0, i_1, i_2, i_3, i_4, i_5, i_6, i_7, i_8, i_10, i_12, i_16, i_20, i_23, i_24, i_31, i_32, i_63, i_64, i_m1, i_9, i_11, i_13, i_25, i_60, i_75, i_79, i_80, i_96, i_100] at c_82; omega)
                          simp only [lt_I, le_I, eq_I, i_0, i_1, i_2, i_3, i_4, i_5, i_6, i_7, i_8, i_10, i_12, i_16, i_20, i_23, i_24, i_31, i_32, i_63, i_64, i_m1, i_9, i_11, i_13, i_25, i_60, i_75, i_79, i_80, i_96, i_100] at c_82
                          refine lv_aload_n hx hb dX10_push_314 rfl (lv_at hl 7 rfl) ?_
                          refine va_get (D := DG E) (ci := 10) (v := .ref (rf 13)) (C := RX10) (T := TX10) (N := 49) hx hb hts iw_X10 hown hK.1 (va_one hM.1) 0 rfl rfl 13 (by decide) (hts _ fl_X10_37) (fun _ h9 => h9) rfl dX10_push_315 ?_
                          refine lv_iload_n hx hb dX10_push_318 rfl (lv_at hl 8 rfl) ?_
                          refine lv_iload_n hx hb dX10_push_319 rfl (lv_at hl 6 rfl) ?_
                          refine lv_iload hx hb dX10_push_320 (lv_at hl 3 rfl) ?_
                          refine lv_iadd hx hb dX10_push_322 ?_
                          refine W.eq (g2 := F0 m 323 ls [.int x_24, .int p0, .ref (rf 13)]) (by rw [ex_24]) ?_
                          refine lv_bipush (v := 64) hx hb dX10_push_323 (by decide) ?_
                          refine lv_irem hx hb dX10_push_325 (by decide) ?_
                          refine lv_topi (fun x_83 ex_83 => ?_)
                          have fx_83 : x_83.toInt = x_24.toInt % 64 := by have h9 := s_rem (x := x_24) 64 (by decide) (by decide) (by omega); rw [ex_83]; exact h9
                          have ha_84 : va_at (DG E) vwCl (rf 13, .inl (E.2.2 0, 4, .inl (A 13))) _ := hM.2 13 (by decide) (by decide) (by decide)
                          refine rr_iast (D := DG E) hx hb hK.1 0 ha_84 hS (by show G (rf 13) ≠ 0; rw [hR.2 13 (by decide) (by decide) (by decide)]; decide) rfl hi_2 dX10_push_326 (fun H locs hn ho hz hS => ?_)
                          rw [en_4] at hn
                          obtain ⟨g_84, eg_84⟩ : ∃ z : Nat → Int32, z = upd (A 13) n_4 x_83 := ⟨_, rfl⟩
                          have sg_84 : g_84 n_4 = x_83 := by rw [eg_84]; exact upd_s
                          have ng_84 : ∀ k, k ≠ n_4 → g_84 k = (A 13) k := fun k hk => by rw [eg_84]; exact upd_n hk
                          have hn : va_at (DG E) vwCl (rf 13, .inl (E.2.2 0, 4, .inl g_84)) H := by rw [eg_84]; exact hn
                          have hM : MH E h0 rf t0 t1 t2 (uA (uA (uA (uA (uA (uA (uA (uA (uA (uA (uA A 15 u_29) 41 (ur_57.1)) 42 (ur_57.2.1)) 43 (ur_57.2.2.1)) 44 (ur_57.2.2.2.1)) 45 (ur_57.2.2.2.2.1)) 46 (ur_57.2.2.2.2.2.1)) 47 (ur_57.2.2.2.2.2.2.1)) 44 (ur_80.1)) 48 (ur_80.2)) 13 g_84) 0 ur_57.2.2.2.2.2.2.2 H := hM.w hR 13 (by decide) (by decide) (by decide) hn ho
                          refine lv_iload_n hx hb dX10_push_327 rfl (lv_at hl 6 rfl) ?_
                          have hI4_85 : I4 (A 10) (A 20) (A 29) (A 24) (A 11) (A 12) g_84 := by
                            intro k hk
                            by_cases e : k = n_4
                            · rw [e]
                              exact ⟨fun _ => hPn _ (by rw [sg_84]; omega), Or.inl hst0⟩
                            · exact (hI4 k hk).cg rfl rfl (fun _ _ => rfl) (fun _ _ => rfl) rfl rfl (ng_84 k e)
                          exact W.iret (v := ((A 13) n_4)) hx hb hr (fun t ht hW => ⟨⟨((A 13) n_4), ((ur_57.1), (ur_57.2.1), (ur_57.2.2.1), (ur_80.1), (ur_57.2.2.2.2.1), (ur_57.2.2.2.2.2.1), (ur_57.2.2.2.2.2.2.1), (ur_80.2), g_84, u_29, ur_57.2.2.2.2.2.2.2, 0), rfl, ⟨hI4_85, hpr_80_0, (by show 0 ≤ ur_57.2.2.2.2.2.2.2.toInt ∧ ur_57.2.2.2.2.2.2.2.toInt ≤ 24; omega), (Or.inl ⟨c_1r, n_4, hn_4, (Or.inr ⟨c_5, (Or.inr ⟨c_8, (Or.inl ⟨c_10, r_12, hpr_12_0, hpr_12_1, i0, hi4, hn_13, x_16, ex_16, (Or.inl ⟨c_22, x_24, ex_24, fx_24, x_25, ex_25, fx_25, x_26, ex_26, fx_26, x_27, ex_27, fx_27, (Or.inl ⟨c_28, u_29, hJ_29, x_37, ex_37, fx_37, x_38, ex_38, fx_38, v_39, hv_39.2, r_41, hDr_41, hpr_41_0, hpr_41_1, v_42, hv_42.2, x_45, ex_45, fx_45, (Or.inl ⟨c_48, x_55, ex_55, fx_55, ur_57, r_57, hDr_57, hpr_57_0, hpr_57_1, hpr_57_2, hpr_57_3, hpr_57_4, (Or.inr ⟨c_59, x_78, ex_78, fx_78, (Or.inl ⟨c_79, ur_80, hDr_80, hpr_80_0, hpr_80_1, x_83, ex_83, fx_83, g_84, eg_84, rfl, rfl, rfl, rfl⟩)⟩)⟩)⟩)⟩)⟩)⟩)⟩)⟩)⟩, (by show MH E h0 rf t0 t1 t2 (uA (uA (uA (uA (uA (uA (uA (uA (uA (uA A 41 (ur_57.1)) 42 (ur_57.2.1)) 43 (ur_57.2.2.1)) 44 (ur_80.1)) 45 (ur_57.2.2.2.2.1)) 46 (ur_57.2.2.2.2.2.1)) 47 (ur_57.2.2.2.2.2.2.1)) 48 (ur_80.2)) 13 g_84) 15 u_29) 0 ur_57.2.2.2.2.2.2.2 t.heap; rw [ht]; exact hM.cge (funext fun j => (cgj j 48 rfl (fun a0 => (cgj j 47 rfl (fun a1 => (cgj j 46 rfl (fun a2 => (cgj j 45 rfl (fun a3 => (cgj j 44 rfl (fun a4 => (cgj j 43 rfl (fun a5 => (cgj j 42 rfl (fun a6 => (cgj j 41 rfl (fun a7 => (cgj j 15 rfl (fun a8 => (cgj j 13 rfl (fun a9 => (by simp only [uA_n a0, uA_n a1, uA_n a2, uA_n a3, uA_n a4, uA_n a5, uA_n a6, uA_n a7, uA_n a8, uA_n a9])))))))))))))))))))))))⟩, hS.F ht⟩) hS.2.2 dX10_push_328
                        · simp only [lt_I, le_I, eq_I, i_0, i_1, i_2, i_3, i_4, i_5, i_6, i_7, i_8, i_10, i_12, i_16, i_20, i_23, i_24, i_31, i_32, i_63, i_64, i_m1, i_9, i_11, i_13, i_25, i_60, i_75, i_79, i_80, i_96, i_100] at c_79
                          refine lv_iload hx hb dX10_push_281 (lv_at hl 2 rfl) ?_
                          refine lv_goto (tgt := 287) hx hb dX10_push_283 (by decide) ?_
                          refine va_callv (rnV (fun H => MH E h0 rf t0 t1 t2 (uA (uA (uA (uA (uA (uA (uA (uA A 15 u_29) 41 (ur_57.1)) 42 (ur_57.2.1)) 43 (ur_57.2.2.1)) 44 (ur_57.2.2.2.1)) 45 (ur_57.2.2.2.2.1)) 46 (ur_57.2.2.2.2.2.1)) 47 (ur_57.2.2.2.2.2.2.1)) 0 ur_57.2.2.2.2.2.2.2 H) (As := [.int r_57, .int p0, .int x_78, .int x_38]) (rest := []) ⟨hx, hb, hml, hown, hts⟩ (u_X10_load l E z0 G hGz h0 rf hR t0 t1 t2 (uA (uA (uA (uA (uA (uA (uA (uA A 15 u_29) 41 (ur_57.1)) 42 (ur_57.2.1)) 43 (ur_57.2.2.1)) 44 (ur_57.2.2.2.1)) 45 (ur_57.2.2.2.2.1)) 46 (ur_57.2.2.2.2.2.1)) 47 (ur_57.2.2.2.2.2.2.1)) 0 ur_57.2.2.2.2.2.2.2 r_57 p0 x_78 x_38 hpr_57_0 (show -1 ≤ r_57.toInt ∧ r_57.toInt ≤ 23 from by first | decide | omega) (show 0 ≤ p0.toInt ∧ p0.toInt ≤ 3 from by first | decide | omega) (show 0 ≤ x_78.toInt ∧ x_78.toInt ≤ 32 from by first | decide | omega) (show 0 ≤ x_38.toInt ∧ x_38.toInt ≤ 4 from by first | decide | omega) (show x_78.toInt + x_38.toInt ≤ 32 from by first | decide | omega)) (cwV 4 hts (gdV ml_X10_203 im_X10_load se_X10_X10_load in_X10 co_X10_load rfl) rfl rfl rfl (by decide +kernel) ⟨Nat.le_of_ble_eq_true rfl, Nat.le_of_ble_eq_true rfl⟩) hM (fun U hU hW => hK.go hW hS hAz hU) (va_recv hK.1 (va_one hM.1) (ci := 10) (q0 := 0) rfl rfl) rfl rfl hl.1 rfl (lv_room (Nat.le_of_ble_eq_true rfl)) dX10_push_287 ⟨Nat.le_of_ble_eq_true rfl, Nat.le_of_ble_eq_true rfl⟩) hS (fun q _ h => h) (fun q h => h) (fun ur_86 t H locs ht hvm hwr_86 hB hz hk hS => ?_)
                          have hM : MH E h0 rf t0 t1 t2 (uA (uA (uA (uA (uA (uA (uA (uA (uA (uA A 15 u_29) 41 (ur_57.1)) 42 (ur_57.2.1)) 43 (ur_57.2.2.1)) 44 (ur_57.2.2.2.1)) 45 (ur_57.2.2.2.2.1)) 46 (ur_57.2.2.2.2.2.1)) 47 (ur_57.2.2.2.2.2.2.1)) 44 (ur_86.1)) 48 (ur_86.2)) 0 ur_57.2.2.2.2.2.2.2 H := by rw [ht] at hB; exact hB
                          have hDr_86 : D_X10_load (uA (uA (uA (uA (uA (uA (uA (uA A 15 u_29) 41 (ur_57.1)) 42 (ur_57.2.1)) 43 (ur_57.2.2.1)) 44 (ur_57.2.2.2.1)) 45 (ur_57.2.2.2.2.1)) 46 (ur_57.2.2.2.2.2.1)) 47 (ur_57.2.2.2.2.2.2.1)) (0 : Int32) (ur_57.2.2.2.2.2.2.2) r_57 p0 x_78 x_38 (uA (uA (uA (uA (uA (uA (uA (uA (uA (uA A 15 u_29) 41 (ur_57.1)) 42 (ur_57.2.1)) 43 (ur_57.2.2.1)) 44 (ur_57.2.2.2.1)) 45 (ur_57.2.2.2.2.1)) 46 (ur_57.2.2.2.2.2.1)) 47 (ur_57.2.2.2.2.2.2.1)) 44 (ur_86.1)) 48 (ur_86.2)) (0 : Int32) (ur_57.2.2.2.2.2.2.2) := hwr_86.2.2
                          have hpr_86_0 : I7 (ur_57.1) (ur_57.2.1) (ur_86.1) (ur_57.2.2.2.2.1) (ur_57.2.2.2.2.2.1) := hwr_86.1
                          have hpr_86_1 : ((ur_86.1) 24).toInt = ((ur_57.2.2.2.1) 24).toInt ∧ ((ur_57.2.2.2.2.2.1) 24).toInt = ((ur_57.2.2.2.2.2.1) 24).toInt := hwr_86.2.1
                          refine lv_aload_n hx hb dX10_push_290 rfl (lv_at hl 7 rfl) ?_
                          refine va_get (D := DG E) (ci := 10) (v := .ref (rf 22)) (C := RX10) (T := TX10) (N := 49) hx hb hts iw_X10 hown hK.1 (va_one hM.1) 0 rfl rfl 22 (by decide) (hts _ fl_X10_65) (fun _ h9 => h9) rfl dX10_push_291 ?_
                          refine lv_iload_n hx hb dX10_push_294 rfl (lv_at hl 5 rfl) ?_
                          have ha_87 : va_at (DG E) vwCl (rf 22, .inl (E.2.2 0, 16, .inl (A 22))) _ := hM.2 22 (by decide) (by decide) (by decide)
                          refine va_iald (D := DG E) hx hb hK.1 (va_one ha_87) 0 0 rfl rfl hi_14 dX10_push_295 ?_
                          refine W.eq (g2 := F0 m 296 ls [.int ((A 22) (4 * n_4 + i0))]) (by rw [en_13]) ?_
                          refine lv_iconst (v := 2) hx hb dX10_push_296 (by decide) ?_
                          refine lv_icmp_ne (tgt := 314) hx hb dX10_push_297 (by decide) (fun c_88 => ?_) (fun c_88 => by exfalso; simp only [lt_I, le_I, eq_I, i_0, i_1, i_2, i_3, i_4, i_5, i_6, i_7, i_8, i_10, i_12, i_16, i_20, i_23, i_24, i_31, i_32, i_63, i_64, i_m1, i_9, i_11, i_13, i_25, i_60, i_75, i_79, i_80, i_96, i_100] at c_88; omega)
                          simp only [lt_I, le_I, eq_I, i_0, i_1, i_2, i_3, i_4, i_5, i_6, i_7, i_8, i_10, i_12, i_16, i_20, i_23, i_24, i_31, i_32, i_63, i_64, i_m1, i_9, i_11, i_13, i_25, i_60, i_75, i_79, i_80, i_96, i_100] at c_88
                          refine lv_aload_n hx hb dX10_push_314 rfl (lv_at hl 7 rfl) ?_
                          refine va_get (D := DG E) (ci := 10) (v := .ref (rf 13)) (C := RX10) (T := TX10) (N := 49) hx hb hts iw_X10 hown hK.1 (va_one hM.1) 0 rfl rfl 13 (by decide) (hts _ fl_X10_37) (fun _ h9 => h9) rfl dX10_push_315 ?_
                          refine lv_iload_n hx hb dX10_push_318 rfl (lv_at hl 8 rfl) ?_
                          refine lv_iload_n hx hb dX10_push_319 rfl (lv_at hl 6 rfl) ?_
                          refine lv_iload hx hb dX10_push_320 (lv_at hl 3 rfl) ?_
                          refine lv_iadd hx hb dX10_push_322 ?_
                          refine W.eq (g2 := F0 m 323 ls [.int x_24, .int p0, .ref (rf 13)]) (by rw [ex_24]) ?_
                          refine lv_bipush (v := 64) hx hb dX10_push_323 (by decide) ?_
                          refine lv_irem hx hb dX10_push_325 (by decide) ?_
                          refine lv_topi (fun x_89 ex_89 => ?_)
                          have fx_89 : x_89.toInt = x_24.toInt % 64 := by have h9 := s_rem (x := x_24) 64 (by decide) (by decide) (by omega); rw [ex_89]; exact h9
                          have ha_90 : va_at (DG E) vwCl (rf 13, .inl (E.2.2 0, 4, .inl (A 13))) _ := hM.2 13 (by decide) (by decide) (by decide)
                          refine rr_iast (D := DG E) hx hb hK.1 0 ha_90 hS (by show G (rf 13) ≠ 0; rw [hR.2 13 (by decide) (by decide) (by decide)]; decide) rfl hi_2 dX10_push_326 (fun H locs hn ho hz hS => ?_)
                          rw [en_4] at hn
                          obtain ⟨g_90, eg_90⟩ : ∃ z : Nat → Int32, z = upd (A 13) n_4 x_89 := ⟨_, rfl⟩
                          have sg_90 : g_90 n_4 = x_89 := by rw [eg_90]; exact upd_s
                          have ng_90 : ∀ k, k ≠ n_4 → g_90 k = (A 13) k := fun k hk => by rw [eg_90]; exact upd_n hk
                          have hn : va_at (DG E) vwCl (rf 13, .inl (E.2.2 0, 4, .inl g_90)) H := by rw [eg_90]; exact hn
                          have hM : MH E h0 rf t0 t1 t2 (uA (uA (uA (uA (uA (uA (uA (uA (uA (uA (uA A 15 u_29) 41 (ur_57.1)) 42 (ur_57.2.1)) 43 (ur_57.2.2.1)) 44 (ur_57.2.2.2.1)) 45 (ur_57.2.2.2.2.1)) 46 (ur_57.2.2.2.2.2.1)) 47 (ur_57.2.2.2.2.2.2.1)) 44 (ur_86.1)) 48 (ur_86.2)) 13 g_90) 0 ur_57.2.2.2.2.2.2.2 H := hM.w hR 13 (by decide) (by decide) (by decide) hn ho
                          refine lv_iload_n hx hb dX10_push_327 rfl (lv_at hl 6 rfl) ?_
                          have hI4_91 : I4 (A 10) (A 20) (A 29) (A 24) (A 11) (A 12) g_90 := by
                            intro k hk
                            by_cases e : k = n_4
                            · rw [e]
                              exact ⟨fun _ => hPn _ (by rw [sg_90]; omega), Or.inl hst0⟩
                            · exact (hI4 k hk).cg rfl rfl (fun _ _ => rfl) (fun _ _ => rfl) rfl rfl (ng_90 k e)
                          exact W.iret (v := ((A 13) n_4)) hx hb hr (fun t ht hW => ⟨⟨((A 13) n_4), ((ur_57.1), (ur_57.2.1), (ur_57.2.2.1), (ur_86.1), (ur_57.2.2.2.2.1), (ur_57.2.2.2.2.2.1), (ur_57.2.2.2.2.2.2.1), (ur_86.2), g_90, u_29, ur_57.2.2.2.2.2.2.2, 0), rfl, ⟨hI4_91, hpr_86_0, (by show 0 ≤ ur_57.2.2.2.2.2.2.2.toInt ∧ ur_57.2.2.2.2.2.2.2.toInt ≤ 24; omega), (Or.inl ⟨c_1r, n_4, hn_4, (Or.inr ⟨c_5, (Or.inr ⟨c_8, (Or.inl ⟨c_10, r_12, hpr_12_0, hpr_12_1, i0, hi4, hn_13, x_16, ex_16, (Or.inl ⟨c_22, x_24, ex_24, fx_24, x_25, ex_25, fx_25, x_26, ex_26, fx_26, x_27, ex_27, fx_27, (Or.inl ⟨c_28, u_29, hJ_29, x_37, ex_37, fx_37, x_38, ex_38, fx_38, v_39, hv_39.2, r_41, hDr_41, hpr_41_0, hpr_41_1, v_42, hv_42.2, x_45, ex_45, fx_45, (Or.inl ⟨c_48, x_55, ex_55, fx_55, ur_57, r_57, hDr_57, hpr_57_0, hpr_57_1, hpr_57_2, hpr_57_3, hpr_57_4, (Or.inr ⟨c_59, x_78, ex_78, fx_78, (Or.inr ⟨c_79, ur_86, hDr_86, hpr_86_0, hpr_86_1, x_89, ex_89, fx_89, g_90, eg_90, rfl, rfl, rfl, rfl⟩)⟩)⟩)⟩)⟩)⟩)⟩)⟩)⟩)⟩, (by show MH E h0 rf t0 t1 t2 (uA (uA (uA (uA (uA (uA (uA (uA (uA (uA A 41 (ur_57.1)) 42 (ur_57.2.1)) 43 (ur_57.2.2.1)) 44 (ur_86.1)) 45 (ur_57.2.2.2.2.1)) 46 (ur_57.2.2.2.2.2.1)) 47 (ur_57.2.2.2.2.2.2.1)) 48 (ur_86.2)) 13 g_90) 15 u_29) 0 ur_57.2.2.2.2.2.2.2 t.heap; rw [ht]; exact hM.cge (funext fun j => (cgj j 48 rfl (fun a0 => (cgj j 47 rfl (fun a1 => (cgj j 46 rfl (fun a2 => (cgj j 45 rfl (fun a3 => (cgj j 44 rfl (fun a4 => (cgj j 43 rfl (fun a5 => (cgj j 42 rfl (fun a6 => (cgj j 41 rfl (fun a7 => (cgj j 15 rfl (fun a8 => (cgj j 13 rfl (fun a9 => (by simp only [uA_n a0, uA_n a1, uA_n a2, uA_n a3, uA_n a4, uA_n a5, uA_n a6, uA_n a7, uA_n a8, uA_n a9])))))))))))))))))))))))⟩, hS.F ht⟩) hS.2.2 dX10_push_328
                    · simp only [lt_I, le_I, eq_I, i_0, i_1, i_2, i_3, i_4, i_5, i_6, i_7, i_8, i_10, i_12, i_16, i_20, i_23, i_24, i_31, i_32, i_63, i_64, i_m1, i_9, i_11, i_13, i_25, i_60, i_75, i_79, i_80, i_96, i_100] at c_48
                      refine lv_iload hx hb dX10_push_204 (lv_at hl 0 rfl) ?_
                      refine lv_goto (tgt := 215) hx hb dX10_push_206 (by decide) ?_
                      refine lv_aload_n hx hb dX10_push_215 rfl (lv_at hl 6 rfl) ?_
                      refine va_get (D := DG E) (ci := 10) (v := .ref (rf 22)) (C := RX10) (T := TX10) (N := 49) hx hb hts iw_X10 hown hK.1 (va_one hM.1) 0 rfl rfl 22 (by decide) (hts _ fl_X10_65) (fun _ h9 => h9) rfl dX10_push_216 ?_
                      refine lv_iload_n hx hb dX10_push_219 rfl (lv_at hl 4 rfl) ?_
                      have ha_92 : va_at (DG E) vwCl (rf 22, .inl (E.2.2 0, 16, .inl (A 22))) _ := hM.2 22 (by decide) (by decide) (by decide)
                      refine va_iald (D := DG E) hx hb hK.1 (va_one ha_92) 0 0 rfl rfl hi_14 dX10_push_220 ?_
                      refine W.eq (g2 := F0 m 221 ls [.int ((A 22) (4 * n_4 + i0)), .int x_45, .int ((A 13) n_4), .int ((A 22) (4 * n_4 + i0)), .int p0, .ref h0]) (by rw [en_13]) ?_
                      refine lv_if_ne (tgt := 228) hx hb dX10_push_221 (by decide) (fun c_93 => ?_) (fun c_93 => ?_)
                      · simp only [lt_I, le_I, eq_I, i_0, i_1, i_2, i_3, i_4, i_5, i_6, i_7, i_8, i_10, i_12, i_16, i_20, i_23, i_24, i_31, i_32, i_63, i_64, i_m1, i_9, i_11, i_13, i_25, i_60, i_75, i_79, i_80, i_96, i_100] at c_93
                        refine lv_aload_n hx hb dX10_push_228 rfl (lv_at hl 6 rfl) ?_
                        refine va_get (D := DG E) (ci := 10) (v := .ref (rf 26)) (C := RX10) (T := TX10) (N := 49) hx hb hts iw_X10 hown hK.1 (va_one hM.1) 0 rfl rfl 26 (by decide) (hts _ fl_X10_77) (fun _ h9 => h9) rfl dX10_push_229 ?_
                        refine lv_iload_n hx hb dX10_push_232 rfl (lv_at hl 4 rfl) ?_
                        have ha_94 : va_at (DG E) vwCl (rf 26, .inl (E.2.2 0, 16, .inl (A 26))) _ := hM.2 26 (by decide) (by decide) (by decide)
                        refine va_iald (D := DG E) hx hb hK.1 (va_one ha_94) 0 0 rfl rfl hi_14 dX10_push_233 ?_
                        refine W.eq (g2 := F0 m 234 ls [.int ((A 26) (4 * n_4 + i0)), .int x_45, .int ((A 13) n_4), .int ((A 22) (4 * n_4 + i0)), .int p0, .ref h0]) (by rw [en_13]) ?_
                        have q_95 : -1 ≤ ((A 26) (4 * n_4 + i0)).toInt := (hI6 (4 * n_4 + i0) hk_18).2.2.2.2.2.2.2.1
                        have q_96 : ((A 26) (4 * n_4 + i0)).toInt ≤ 31 := (hI6 (4 * n_4 + i0) hk_18).2.2.2.2.2.2.2.2
                        refine lv_iconst (v := 4) hx hb dX10_push_234 (by decide) ?_
                        refine lv_iload hx hb dX10_push_235 (lv_at hl 3 rfl) ?_
                        refine lv_imul hx hb dX10_push_237 ?_
                        refine W.eq (g2 := F0 m 238 ls [.int x_37, .int ((A 26) (4 * n_4 + i0)), .int x_45, .int ((A 13) n_4), .int ((A 22) (4 * n_4 + i0)), .int p0, .ref h0]) (by rw [ex_37]) ?_
                        refine lv_iadd hx hb dX10_push_238 ?_
                        refine lv_topi (fun x_97 ex_97 => ?_)
                        have fx_97 : x_97.toInt = ((A 26) (4 * n_4 + i0)).toInt + x_37.toInt := by have h9 := s_add (x := ((A 26) (4 * n_4 + i0))) (y := x_37) (by omega) (by omega); rw [ex_97]; exact h9
                        refine lv_aload_n hx hb dX10_push_239 rfl (lv_at hl 6 rfl) ?_
                        refine va_get (D := DG E) (ci := 10) (v := .ref (rf 27)) (C := RX10) (T := TX10) (N := 49) hx hb hts iw_X10 hown hK.1 (va_one hM.1) 0 rfl rfl 27 (by decide) (hts _ fl_X10_80) (fun _ h9 => h9) rfl dX10_push_240 ?_
                        refine lv_iload_n hx hb dX10_push_243 rfl (lv_at hl 4 rfl) ?_
                        have ha_98 : va_at (DG E) vwCl (rf 27, .inl (E.2.2 0, 16, .inl (A 27))) _ := hM.2 27 (by decide) (by decide) (by decide)
                        refine va_iald (D := DG E) hx hb hK.1 (va_one ha_98) 0 0 rfl rfl hi_14 dX10_push_244 ?_
                        refine W.eq (g2 := F0 m 245 ls [.int ((A 27) (4 * n_4 + i0)), .int x_97, .int x_45, .int ((A 13) n_4), .int ((A 22) (4 * n_4 + i0)), .int p0, .ref h0]) (by rw [en_13]) ?_
                        refine va_calli (rnV (fun H => MH E h0 rf t0 t1 t2 (uA A 15 u_29) 0 pk H) (As := [.int p0, .int ((A 22) (4 * n_4 + i0)), .int ((A 13) n_4), .int x_45, .int x_97, .int ((A 27) (4 * n_4 + i0))]) (rest := []) ⟨hx, hb, hml, hown, hts⟩ (u_X10_emit l E z0 G hGz h0 rf hR t0 t1 t2 (uA A 15 u_29) 0 pk p0 ((A 22) (4 * n_4 + i0)) ((A 13) n_4) x_45 x_97 ((A 27) (4 * n_4 + i0)) hI7 (show 0 ≤ p0.toInt ∧ p0.toInt ≤ 3 from by first | decide | omega) (show 0 ≤ pk.toInt ∧ pk.toInt ≤ 24 from by first | decide | omega) (show -1 ≤ x_97.toInt ∧ x_97.toInt ≤ 60 from by first | decide | omega) (show 0 ≤ ((A 22) (4 * n_4 + i0)).toInt from by first | decide | omega) (show ((A 22) (4 * n_4 + i0)).toInt < 1 ∨ 3 < ((A 22) (4 * n_4 + i0)).toInt ∨ (0 ≤ x_45.toInt ∧ x_45.toInt ≤ 5) from by first | decide | omega)) (cwV 6 hts (gdV ml_X10_199 im_X10_emit se_X10_X10_emit in_X10 co_X10_emit rfl) rfl rfl rfl (by decide +kernel) ⟨Nat.le_of_ble_eq_true rfl, Nat.le_of_ble_eq_true rfl⟩) hM (fun U hU hW => hK.go hW hS hAz hU) (va_recv hK.1 (va_one hM.1) (ci := 10) (q0 := 0) rfl rfl) rfl rfl hl.1 rfl (lv_room (Nat.le_of_ble_eq_true rfl)) dX10_push_245 ⟨Nat.le_of_ble_eq_true rfl, Nat.le_of_ble_eq_true rfl⟩) hS (fun q _ h => h) (fun q h => h) (fun r_99 ur_99 t H locs ht hvm hwr_99 hB hz hk hS => ?_)
                        have hM : MH E h0 rf t0 t1 t2 (uA (uA (uA (uA (uA (uA (uA (uA A 15 u_29) 41 (ur_99.1)) 42 (ur_99.2.1)) 43 (ur_99.2.2.1)) 44 (ur_99.2.2.2.1)) 45 (ur_99.2.2.2.2.1)) 46 (ur_99.2.2.2.2.2.1)) 47 (ur_99.2.2.2.2.2.2.1)) 0 ur_99.2.2.2.2.2.2.2 H := by rw [ht] at hB; exact hB
                        have hDr_99 : D_X10_emit (uA A 15 u_29) (0 : Int32) pk p0 ((A 22) (4 * n_4 + i0)) ((A 13) n_4) x_45 x_97 ((A 27) (4 * n_4 + i0)) (uA (uA (uA (uA (uA (uA (uA (uA A 15 u_29) 41 (ur_99.1)) 42 (ur_99.2.1)) 43 (ur_99.2.2.1)) 44 (ur_99.2.2.2.1)) 45 (ur_99.2.2.2.2.1)) 46 (ur_99.2.2.2.2.2.1)) 47 (ur_99.2.2.2.2.2.2.1)) (0 : Int32) (ur_99.2.2.2.2.2.2.2) r_99 := hwr_99.2.2.2.2.2
                        have hpr_99_0 : I7 (ur_99.1) (ur_99.2.1) (ur_99.2.2.2.1) (ur_99.2.2.2.2.1) (ur_99.2.2.2.2.2.1) := hwr_99.1
                        have hpr_99_1 : 0 ≤ ur_99.2.2.2.2.2.2.2.toInt ∧ ur_99.2.2.2.2.2.2.2.toInt ≤ 24 := hwr_99.2.1
                        have hpr_99_2 : -1 ≤ r_99.toInt ∧ r_99.toInt ≤ 23 := hwr_99.2.2.1
                        have hpr_99_3 : ∀ n : Nat, (n : Int) = r_99.toInt → (ur_99.2.1) n = ((A 22) (4 * n_4 + i0)) := hwr_99.2.2.2.1
                        have hpr_99_4 : ((ur_99.2.2.2.1) 24).toInt = ((A 44) 24).toInt ∧ ((ur_99.2.2.2.2.2.1) 24).toInt = ((A 46) 24).toInt := hwr_99.2.2.2.2.1
                        refine lv_istore (lv' := [(8, .int r_99), (7, .int x_45), (6, .int x_38), (5, .int 1), (4, .int x_16), (3, .int r_12), (2, .int ((A 13) n_4)), (0, .ref h0), (1, .int p0)]) hx hb dX10_push_248 hl (by decide) rfl (fun ls hl => ?_)
                        refine lv_aload_n hx hb dX10_push_250 rfl (lv_at hl 7 rfl) ?_
                        refine va_get (D := DG E) (ci := 10) (v := .ref (rf 22)) (C := RX10) (T := TX10) (N := 49) hx hb hts iw_X10 hown hK.1 (va_one hM.1) 0 rfl rfl 22 (by decide) (hts _ fl_X10_65) (fun _ h9 => h9) rfl dX10_push_251 ?_
                        refine lv_iload_n hx hb dX10_push_254 rfl (lv_at hl 5 rfl) ?_
                        have ha_100 : va_at (DG E) vwCl (rf 22, .inl (E.2.2 0, 16, .inl (A 22))) _ := hM.2 22 (by decide) (by decide) (by decide)
                        refine va_iald (D := DG E) hx hb hK.1 (va_one ha_100) 0 0 rfl rfl hi_14 dX10_push_255 ?_
                        refine W.eq (g2 := F0 m 256 ls [.int ((A 22) (4 * n_4 + i0))]) (by rw [en_13]) ?_
                        refine lv_iconst (v := 2) hx hb dX10_push_256 (by decide) ?_
                        refine lv_icmp_ge (tgt := 290) hx hb dX10_push_257 (by decide) (fun c_101 => by exfalso; simp only [lt_I, le_I, eq_I, i_0, i_1, i_2, i_3, i_4, i_5, i_6, i_7, i_8, i_10, i_12, i_16, i_20, i_23, i_24, i_31, i_32, i_63, i_64, i_m1, i_9, i_11, i_13, i_25, i_60, i_75, i_79, i_80, i_96, i_100] at c_101; omega) (fun c_101 => ?_)
                        simp only [lt_I, le_I, eq_I, i_0, i_1, i_2, i_3, i_4, i_5, i_6, i_7, i_8, i_10, i_12, i_16, i_20, i_23, i_24, i_31, i_32, i_63, i_64, i_m1, i_9, i_11, i_13, i_25, i_60, i_75, i_79, i_80, i_96, i_100] at c_101
                        refine lv_aload_n hx hb dX10_push_260 rfl (lv_at hl 7 rfl) ?_
                        refine lv_iload hx hb dX10_push_261 (lv_at hl 0 rfl) ?_
                        refine lv_iload_n hx hb dX10_push_263 rfl (lv_at hl 8 rfl) ?_
                        refine lv_aload_n hx hb dX10_push_264 rfl (lv_at hl 7 rfl) ?_
                        refine va_get (D := DG E) (ci := 10) (v := .ref (rf 23)) (C := RX10) (T := TX10) (N := 49) hx hb hts iw_X10 hown hK.1 (va_one hM.1) 0 rfl rfl 23 (by decide) (hts _ fl_X10_68) (fun _ h9 => h9) rfl dX10_push_265 ?_
                        refine lv_iload_n hx hb dX10_push_268 rfl (lv_at hl 5 rfl) ?_
                        have ha_102 : va_at (DG E) vwCl (rf 23, .inl (E.2.2 0, 16, .inl (A 23))) _ := hM.2 23 (by decide) (by decide) (by decide)
                        refine va_iald (D := DG E) hx hb hK.1 (va_one ha_102) 0 0 rfl rfl hi_14 dX10_push_269 ?_
                        refine W.eq (g2 := F0 m 270 ls [.int ((A 23) (4 * n_4 + i0)), .int p0, .int r_99, .ref h0]) (by rw [en_13]) ?_
                        have q_103 : 0 ≤ ((A 23) (4 * n_4 + i0)).toInt := (hI6 (4 * n_4 + i0) hk_18).2.2.1
                        refine lv_iconst (v := 4) hx hb dX10_push_270 (by decide) ?_
                        refine lv_iload hx hb dX10_push_271 (lv_at hl 4 rfl) ?_
                        refine lv_imul hx hb dX10_push_273 ?_
                        refine W.eq (g2 := F0 m 274 ls [.int x_37, .int ((A 23) (4 * n_4 + i0)), .int p0, .int r_99, .ref h0]) (by rw [ex_37]) ?_
                        refine lv_iadd hx hb dX10_push_274 ?_
                        refine lv_topi (fun x_104 ex_104 => ?_)
                        have fx_104 : x_104.toInt = ((A 23) (4 * n_4 + i0)).toInt + x_37.toInt := by have h9 := s_add (x := ((A 23) (4 * n_4 + i0))) (y := x_37) (by omega) (by omega); rw [ex_104]; exact h9
                        refine lv_iload hx hb dX10_push_275 (lv_at hl 2 rfl) ?_
                        refine lv_iconst (v := 4) hx hb dX10_push_277 (by decide) ?_
                        refine lv_icmp_ge (tgt := 286) hx hb dX10_push_278 (by decide) (fun c_105 => ?_) (fun c_105 => ?_)
                        · simp only [lt_I, le_I, eq_I, i_0, i_1, i_2, i_3, i_4, i_5, i_6, i_7, i_8, i_10, i_12, i_16, i_20, i_23, i_24, i_31, i_32, i_63, i_64, i_m1, i_9, i_11, i_13, i_25, i_60, i_75, i_79, i_80, i_96, i_100] at c_105
                          refine lv_iconst (v := 4) hx hb dX10_push_286 (by decide) ?_
                          refine va_callv (rnV (fun H => MH E h0 rf t0 t1 t2 (uA (uA (uA (uA (uA (uA (uA (uA A 15 u_29) 41 (ur_99.1)) 42 (ur_99.2.1)) 43 (ur_99.2.2.1)) 44 (ur_99.2.2.2.1)) 45 (ur_99.2.2.2.2.1)) 46 (ur_99.2.2.2.2.2.1)) 47 (ur_99.2.2.2.2.2.2.1)) 0 ur_99.2.2.2.2.2.2.2 H) (As := [.int r_99, .int p0, .int x_104, .int 4]) (rest := []) ⟨hx, hb, hml, hown, hts⟩ (u_X10_load l E z0 G hGz h0 rf hR t0 t1 t2 (uA (uA (uA (uA (uA (uA (uA (uA A 15 u_29) 41 (ur_99.1)) 42 (ur_99.2.1)) 43 (ur_99.2.2.1)) 44 (ur_99.2.2.2.1)) 45 (ur_99.2.2.2.2.1)) 46 (ur_99.2.2.2.2.2.1)) 47 (ur_99.2.2.2.2.2.2.1)) 0 ur_99.2.2.2.2.2.2.2 r_99 p0 x_104 4 hpr_99_0 (show -1 ≤ r_99.toInt ∧ r_99.toInt ≤ 23 from by have := i_4; first | decide | omega) (show 0 ≤ p0.toInt ∧ p0.toInt ≤ 3 from by have := i_4; first | decide | omega) (show 0 ≤ x_104.toInt ∧ x_104.toInt ≤ 32 from by have := i_4; first | decide | omega) (show 0 ≤ (4 : Int32).toInt ∧ (4 : Int32).toInt ≤ 4 from by have := i_4; first | decide | omega) (show x_104.toInt + (4 : Int32).toInt ≤ 32 from by have := i_4; first | decide | omega)) (cwV 4 hts (gdV ml_X10_203 im_X10_load se_X10_X10_load in_X10 co_X10_load rfl) rfl rfl rfl (by decide +kernel) ⟨Nat.le_of_ble_eq_true rfl, Nat.le_of_ble_eq_true rfl⟩) hM (fun U hU hW => hK.go hW hS hAz hU) (va_recv hK.1 (va_one hM.1) (ci := 10) (q0 := 0) rfl rfl) rfl rfl hl.1 rfl (lv_room (Nat.le_of_ble_eq_true rfl)) dX10_push_287 ⟨Nat.le_of_ble_eq_true rfl, Nat.le_of_ble_eq_true rfl⟩) hS (fun q _ h => h) (fun q h => h) (fun ur_106 t H locs ht hvm hwr_106 hB hz hk hS => ?_)
                          have hM : MH E h0 rf t0 t1 t2 (uA (uA (uA (uA (uA (uA (uA (uA (uA (uA A 15 u_29) 41 (ur_99.1)) 42 (ur_99.2.1)) 43 (ur_99.2.2.1)) 44 (ur_99.2.2.2.1)) 45 (ur_99.2.2.2.2.1)) 46 (ur_99.2.2.2.2.2.1)) 47 (ur_99.2.2.2.2.2.2.1)) 44 (ur_106.1)) 48 (ur_106.2)) 0 ur_99.2.2.2.2.2.2.2 H := by rw [ht] at hB; exact hB
                          have hDr_106 : D_X10_load (uA (uA (uA (uA (uA (uA (uA (uA A 15 u_29) 41 (ur_99.1)) 42 (ur_99.2.1)) 43 (ur_99.2.2.1)) 44 (ur_99.2.2.2.1)) 45 (ur_99.2.2.2.2.1)) 46 (ur_99.2.2.2.2.2.1)) 47 (ur_99.2.2.2.2.2.2.1)) (0 : Int32) (ur_99.2.2.2.2.2.2.2) r_99 p0 x_104 (4 : Int32) (uA (uA (uA (uA (uA (uA (uA (uA (uA (uA A 15 u_29) 41 (ur_99.1)) 42 (ur_99.2.1)) 43 (ur_99.2.2.1)) 44 (ur_99.2.2.2.1)) 45 (ur_99.2.2.2.2.1)) 46 (ur_99.2.2.2.2.2.1)) 47 (ur_99.2.2.2.2.2.2.1)) 44 (ur_106.1)) 48 (ur_106.2)) (0 : Int32) (ur_99.2.2.2.2.2.2.2) := hwr_106.2.2
                          have hpr_106_0 : I7 (ur_99.1) (ur_99.2.1) (ur_106.1) (ur_99.2.2.2.2.1) (ur_99.2.2.2.2.2.1) := hwr_106.1
                          have hpr_106_1 : ((ur_106.1) 24).toInt = ((ur_99.2.2.2.1) 24).toInt ∧ ((ur_99.2.2.2.2.2.1) 24).toInt = ((ur_99.2.2.2.2.2.1) 24).toInt := hwr_106.2.1
                          have := i_4
                          refine lv_aload_n hx hb dX10_push_290 rfl (lv_at hl 7 rfl) ?_
                          refine va_get (D := DG E) (ci := 10) (v := .ref (rf 22)) (C := RX10) (T := TX10) (N := 49) hx hb hts iw_X10 hown hK.1 (va_one hM.1) 0 rfl rfl 22 (by decide) (hts _ fl_X10_65) (fun _ h9 => h9) rfl dX10_push_291 ?_
                          refine lv_iload_n hx hb dX10_push_294 rfl (lv_at hl 5 rfl) ?_
                          have ha_107 : va_at (DG E) vwCl (rf 22, .inl (E.2.2 0, 16, .inl (A 22))) _ := hM.2 22 (by decide) (by decide) (by decide)
                          refine va_iald (D := DG E) hx hb hK.1 (va_one ha_107) 0 0 rfl rfl hi_14 dX10_push_295 ?_
                          refine W.eq (g2 := F0 m 296 ls [.int ((A 22) (4 * n_4 + i0))]) (by rw [en_13]) ?_
                          refine lv_iconst (v := 2) hx hb dX10_push_296 (by decide) ?_
                          refine lv_icmp_ne (tgt := 314) hx hb dX10_push_297 (by decide) (fun c_108 => ?_) (fun c_108 => by exfalso; simp only [lt_I, le_I, eq_I, i_0, i_1, i_2, i_3, i_4, i_5, i_6, i_7, i_8, i_10, i_12, i_16, i_20, i_23, i_24, i_31, i_32, i_63, i_64, i_m1, i_9, i_11, i_13, i_25, i_60, i_75, i_79, i_80, i_96, i_100] at c_108; omega)
                          simp only [lt_I, le_I, eq_I, i_0, i_1, i_2, i_3, i_4, i_5, i_6, i_7, i_8, i_10, i_12, i_16, i_20, i_23, i_24, i_31, i_32, i_63, i_64, i_m1, i_9, i_11, i_13, i_25, i_60, i_75, i_79, i_80, i_96, i_100] at c_108
                          refine lv_aload_n hx hb dX10_push_314 rfl (lv_at hl 7 rfl) ?_
                          refine va_get (D := DG E) (ci := 10) (v := .ref (rf 13)) (C := RX10) (T := TX10) (N := 49) hx hb hts iw_X10 hown hK.1 (va_one hM.1) 0 rfl rfl 13 (by decide) (hts _ fl_X10_37) (fun _ h9 => h9) rfl dX10_push_315 ?_
                          refine lv_iload_n hx hb dX10_push_318 rfl (lv_at hl 8 rfl) ?_
                          refine lv_iload_n hx hb dX10_push_319 rfl (lv_at hl 6 rfl) ?_
                          refine lv_iload hx hb dX10_push_320 (lv_at hl 3 rfl) ?_
                          refine lv_iadd hx hb dX10_push_322 ?_
                          refine W.eq (g2 := F0 m 323 ls [.int x_24, .int p0, .ref (rf 13)]) (by rw [ex_24]) ?_
                          refine lv_bipush (v := 64) hx hb dX10_push_323 (by decide) ?_
                          refine lv_irem hx hb dX10_push_325 (by decide) ?_
                          refine lv_topi (fun x_109 ex_109 => ?_)
                          have fx_109 : x_109.toInt = x_24.toInt % 64 := by have h9 := s_rem (x := x_24) 64 (by decide) (by decide) (by omega); rw [ex_109]; exact h9
                          have ha_110 : va_at (DG E) vwCl (rf 13, .inl (E.2.2 0, 4, .inl (A 13))) _ := hM.2 13 (by decide) (by decide) (by decide)
                          refine rr_iast (D := DG E) hx hb hK.1 0 ha_110 hS (by show G (rf 13) ≠ 0; rw [hR.2 13 (by decide) (by decide) (by decide)]; decide) rfl hi_2 dX10_push_326 (fun H locs hn ho hz hS => ?_)
                          rw [en_4] at hn
                          obtain ⟨g_110, eg_110⟩ : ∃ z : Nat → Int32, z = upd (A 13) n_4 x_109 := ⟨_, rfl⟩
                          have sg_110 : g_110 n_4 = x_109 := by rw [eg_110]; exact upd_s
                          have ng_110 : ∀ k, k ≠ n_4 → g_110 k = (A 13) k := fun k hk => by rw [eg_110]; exact upd_n hk
                          have hn : va_at (DG E) vwCl (rf 13, .inl (E.2.2 0, 4, .inl g_110)) H := by rw [eg_110]; exact hn
                          have hM : MH E h0 rf t0 t1 t2 (uA (uA (uA (uA (uA (uA (uA (uA (uA (uA (uA A 15 u_29) 41 (ur_99.1)) 42 (ur_99.2.1)) 43 (ur_99.2.2.1)) 44 (ur_99.2.2.2.1)) 45 (ur_99.2.2.2.2.1)) 46 (ur_99.2.2.2.2.2.1)) 47 (ur_99.2.2.2.2.2.2.1)) 44 (ur_106.1)) 48 (ur_106.2)) 13 g_110) 0 ur_99.2.2.2.2.2.2.2 H := hM.w hR 13 (by decide) (by decide) (by decide) hn ho
                          refine lv_iload_n hx hb dX10_push_327 rfl (lv_at hl 6 rfl) ?_
                          have hI4_111 : I4 (A 10) (A 20) (A 29) (A 24) (A 11) (A 12) g_110 := by
                            intro k hk
                            by_cases e : k = n_4
                            · rw [e]
                              exact ⟨fun _ => hPn _ (by rw [sg_110]; omega), Or.inl hst0⟩
                            · exact (hI4 k hk).cg rfl rfl (fun _ _ => rfl) (fun _ _ => rfl) rfl rfl (ng_110 k e)
                          exact W.iret (v := ((A 13) n_4)) hx hb hr (fun t ht hW => ⟨⟨((A 13) n_4), ((ur_99.1), (ur_99.2.1), (ur_99.2.2.1), (ur_106.1), (ur_99.2.2.2.2.1), (ur_99.2.2.2.2.2.1), (ur_99.2.2.2.2.2.2.1), (ur_106.2), g_110, u_29, ur_99.2.2.2.2.2.2.2, 0), rfl, ⟨hI4_111, hpr_106_0, (by show 0 ≤ ur_99.2.2.2.2.2.2.2.toInt ∧ ur_99.2.2.2.2.2.2.2.toInt ≤ 24; omega), (Or.inl ⟨c_1r, n_4, hn_4, (Or.inr ⟨c_5, (Or.inr ⟨c_8, (Or.inl ⟨c_10, r_12, hpr_12_0, hpr_12_1, i0, hi4, hn_13, x_16, ex_16, (Or.inl ⟨c_22, x_24, ex_24, fx_24, x_25, ex_25, fx_25, x_26, ex_26, fx_26, x_27, ex_27, fx_27, (Or.inl ⟨c_28, u_29, hJ_29, x_37, ex_37, fx_37, x_38, ex_38, fx_38, v_39, hv_39.2, r_41, hDr_41, hpr_41_0, hpr_41_1, v_42, hv_42.2, x_45, ex_45, fx_45, (Or.inr ⟨c_48, (Or.inl ⟨c_93, x_97, ex_97, fx_97, ur_99, r_99, hDr_99, hpr_99_0, hpr_99_1, hpr_99_2, hpr_99_3, hpr_99_4, x_104, ex_104, fx_104, (Or.inl ⟨c_105, ur_106, hDr_106, hpr_106_0, hpr_106_1, x_109, ex_109, fx_109, g_110, eg_110, rfl, rfl, rfl, rfl⟩)⟩)⟩)⟩)⟩)⟩)⟩)⟩)⟩)⟩, (by show MH E h0 rf t0 t1 t2 (uA (uA (uA (uA (uA (uA (uA (uA (uA (uA A 41 (ur_99.1)) 42 (ur_99.2.1)) 43 (ur_99.2.2.1)) 44 (ur_106.1)) 45 (ur_99.2.2.2.2.1)) 46 (ur_99.2.2.2.2.2.1)) 47 (ur_99.2.2.2.2.2.2.1)) 48 (ur_106.2)) 13 g_110) 15 u_29) 0 ur_99.2.2.2.2.2.2.2 t.heap; rw [ht]; exact hM.cge (funext fun j => (cgj j 48 rfl (fun a0 => (cgj j 47 rfl (fun a1 => (cgj j 46 rfl (fun a2 => (cgj j 45 rfl (fun a3 => (cgj j 44 rfl (fun a4 => (cgj j 43 rfl (fun a5 => (cgj j 42 rfl (fun a6 => (cgj j 41 rfl (fun a7 => (cgj j 15 rfl (fun a8 => (cgj j 13 rfl (fun a9 => (by simp only [uA_n a0, uA_n a1, uA_n a2, uA_n a3, uA_n a4, uA_n a5, uA_n a6, uA_n a7, uA_n a8, uA_n a9])))))))))))))))))))))))⟩, hS.F ht⟩) hS.2.2 dX10_push_328
                        · simp only [lt_I, le_I, eq_I, i_0, i_1, i_2, i_3, i_4, i_5, i_6, i_7, i_8, i_10, i_12, i_16, i_20, i_23, i_24, i_31, i_32, i_63, i_64, i_m1, i_9, i_11, i_13, i_25, i_60, i_75, i_79, i_80, i_96, i_100] at c_105
                          refine lv_iload hx hb dX10_push_281 (lv_at hl 2 rfl) ?_
                          refine lv_goto (tgt := 287) hx hb dX10_push_283 (by decide) ?_
                          refine va_callv (rnV (fun H => MH E h0 rf t0 t1 t2 (uA (uA (uA (uA (uA (uA (uA (uA A 15 u_29) 41 (ur_99.1)) 42 (ur_99.2.1)) 43 (ur_99.2.2.1)) 44 (ur_99.2.2.2.1)) 45 (ur_99.2.2.2.2.1)) 46 (ur_99.2.2.2.2.2.1)) 47 (ur_99.2.2.2.2.2.2.1)) 0 ur_99.2.2.2.2.2.2.2 H) (As := [.int r_99, .int p0, .int x_104, .int x_38]) (rest := []) ⟨hx, hb, hml, hown, hts⟩ (u_X10_load l E z0 G hGz h0 rf hR t0 t1 t2 (uA (uA (uA (uA (uA (uA (uA (uA A 15 u_29) 41 (ur_99.1)) 42 (ur_99.2.1)) 43 (ur_99.2.2.1)) 44 (ur_99.2.2.2.1)) 45 (ur_99.2.2.2.2.1)) 46 (ur_99.2.2.2.2.2.1)) 47 (ur_99.2.2.2.2.2.2.1)) 0 ur_99.2.2.2.2.2.2.2 r_99 p0 x_104 x_38 hpr_99_0 (show -1 ≤ r_99.toInt ∧ r_99.toInt ≤ 23 from by first | decide | omega) (show 0 ≤ p0.toInt ∧ p0.toInt ≤ 3 from by first | decide | omega) (show 0 ≤ x_104.toInt ∧ x_104.toInt ≤ 32 from by first | decide | omega) (show 0 ≤ x_38.toInt ∧ x_38.toInt ≤ 4 from by first | decide | omega) (show x_104.toInt + x_38.toInt ≤ 32 from by first | decide | omega)) (cwV 4 hts (gdV ml_X10_203 im_X10_load se_X10_X10_load in_X10 co_X10_load rfl) rfl rfl rfl (by decide +kernel) ⟨Nat.le_of_ble_eq_true rfl, Nat.le_of_ble_eq_true rfl⟩) hM (fun U hU hW => hK.go hW hS hAz hU) (va_recv hK.1 (va_one hM.1) (ci := 10) (q0 := 0) rfl rfl) rfl rfl hl.1 rfl (lv_room (Nat.le_of_ble_eq_true rfl)) dX10_push_287 ⟨Nat.le_of_ble_eq_true rfl, Nat.le_of_ble_eq_true rfl⟩) hS (fun q _ h => h) (fun q h => h) (fun ur_112 t H locs ht hvm hwr_112 hB hz hk hS => ?_)
                          have hM : MH E h0 rf t0 t1 t2 (uA (uA (uA (uA (uA (uA (uA (uA (uA (uA A 15 u_29) 41 (ur_99.1)) 42 (ur_99.2.1)) 43 (ur_99.2.2.1)) 44 (ur_99.2.2.2.1)) 45 (ur_99.2.2.2.2.1)) 46 (ur_99.2.2.2.2.2.1)) 47 (ur_99.2.2.2.2.2.2.1)) 44 (ur_112.1)) 48 (ur_112.2)) 0 ur_99.2.2.2.2.2.2.2 H := by rw [ht] at hB; exact hB
                          have hDr_112 : D_X10_load (uA (uA (uA (uA (uA (uA (uA (uA A 15 u_29) 41 (ur_99.1)) 42 (ur_99.2.1)) 43 (ur_99.2.2.1)) 44 (ur_99.2.2.2.1)) 45 (ur_99.2.2.2.2.1)) 46 (ur_99.2.2.2.2.2.1)) 47 (ur_99.2.2.2.2.2.2.1)) (0 : Int32) (ur_99.2.2.2.2.2.2.2) r_99 p0 x_104 x_38 (uA (uA (uA (uA (uA (uA (uA (uA (uA (uA A 15 u_29) 41 (ur_99.1)) 42 (ur_99.2.1)) 43 (ur_99.2.2.1)) 44 (ur_99.2.2.2.1)) 45 (ur_99.2.2.2.2.1)) 46 (ur_99.2.2.2.2.2.1)) 47 (ur_99.2.2.2.2.2.2.1)) 44 (ur_112.1)) 48 (ur_112.2)) (0 : Int32) (ur_99.2.2.2.2.2.2.2) := hwr_112.2.2
                          have hpr_112_0 : I7 (ur_99.1) (ur_99.2.1) (ur_112.1) (ur_99.2.2.2.2.1) (ur_99.2.2.2.2.2.1) := hwr_112.1
                          have hpr_112_1 : ((ur_112.1) 24).toInt = ((ur_99.2.2.2.1) 24).toInt ∧ ((ur_99.2.2.2.2.2.1) 24).toInt = ((ur_99.2.2.2.2.2.1) 24).toInt := hwr_112.2.1
                          refine lv_aload_n hx hb dX10_push_290 rfl (lv_at hl 7 rfl) ?_
                          refine va_get (D := DG E) (ci := 10) (v := .ref (rf 22)) (C := RX10) (T := TX10) (N := 49) hx hb hts iw_X10 hown hK.1 (va_one hM.1) 0 rfl rfl 22 (by decide) (hts _ fl_X10_65) (fun _ h9 => h9) rfl dX10_push_291 ?_
                          refine lv_iload_n hx hb dX10_push_294 rfl (lv_at hl 5 rfl) ?_
                          have ha_113 : va_at (DG E) vwCl (rf 22, .inl (E.2.2 0, 16, .inl (A 22))) _ := hM.2 22 (by decide) (by decide) (by decide)
                          refine va_iald (D := DG E) hx hb hK.1 (va_one ha_113) 0 0 rfl rfl hi_14 dX10_push_295 ?_
                          refine W.eq (g2 := F0 m 296 ls [.int ((A 22) (4 * n_4 + i0))]) (by rw [en_13]) ?_
                          refine lv_iconst (v := 2) hx hb dX10_push_296 (by decide) ?_
                          refine lv_icmp_ne (tgt := 314) hx hb dX10_push_297 (by decide) (fun c_114 => ?_) (fun c_114 => by exfalso; simp only [lt_I, le_I, eq_I, i_0, i_1, i_2, i_3, i_4, i_5, i_6, i_7, i_8, i_10, i_12, i_16, i_20, i_23, i_24, i_31, i_32, i_63, i_64, i_m1, i_9, i_11, i_13, i_25, i_60, i_75, i_79, i_80, i_96, i_100] at c_114; omega)
                          simp only [lt_I, le_I, eq_I, i_0, i_1, i_2, i_3, i_4, i_5, i_6, i_7, i_8, i_10, i_12, i_16, i_20, i_23, i_24, i_31, i_32, i_63, i_64, i_m1, i_9, i_11, i_13, i_25, i_60, i_75, i_79, i_80, i_96, i_100] at c_114
                          refine lv_aload_n hx hb dX10_push_314 rfl (lv_at hl 7 rfl) ?_
                          refine va_get (D := DG E) (ci := 10) (v := .ref (rf 13)) (C := RX10) (T := TX10) (N := 49) hx hb hts iw_X10 hown hK.1 (va_one hM.1) 0 rfl rfl 13 (by decide) (hts _ fl_X10_37) (fun _ h9 => h9) rfl dX10_push_315 ?_
                          refine lv_iload_n hx hb dX10_push_318 rfl (lv_at hl 8 rfl) ?_
                          refine lv_iload_n hx hb dX10_push_319 rfl (lv_at hl 6 rfl) ?_
                          refine lv_iload hx hb dX10_push_320 (lv_at hl 3 rfl) ?_
                          refine lv_iadd hx hb dX10_push_322 ?_
                          refine W.eq (g2 := F0 m 323 ls [.int x_24, .int p0, .ref (rf 13)]) (by rw [ex_24]) ?_
                          refine lv_bipush (v := 64) hx hb dX10_push_323 (by decide) ?_
                          refine lv_irem hx hb dX10_push_325 (by decide) ?_
                          refine lv_topi (fun x_115 ex_115 => ?_)
                          have fx_115 : x_115.toInt = x_24.toInt % 64 := by have h9 := s_rem (x := x_24) 64 (by decide) (by decide) (by omega); rw [ex_115]; exact h9
                          have ha_116 : va_at (DG E) vwCl (rf 13, .inl (E.2.2 0, 4, .inl (A 13))) _ := hM.2 13 (by decide) (by decide) (by decide)
                          refine rr_iast (D := DG E) hx hb hK.1 0 ha_116 hS (by show G (rf 13) ≠ 0; rw [hR.2 13 (by decide) (by decide) (by decide)]; decide) rfl hi_2 dX10_push_326 (fun H locs hn ho hz hS => ?_)
                          rw [en_4] at hn
                          obtain ⟨g_116, eg_116⟩ : ∃ z : Nat → Int32, z = upd (A 13) n_4 x_115 := ⟨_, rfl⟩
                          have sg_116 : g_116 n_4 = x_115 := by rw [eg_116]; exact upd_s
                          have ng_116 : ∀ k, k ≠ n_4 → g_116 k = (A 13) k := fun k hk => by rw [eg_116]; exact upd_n hk
                          have hn : va_at (DG E) vwCl (rf 13, .inl (E.2.2 0, 4, .inl g_116)) H := by rw [eg_116]; exact hn
                          have hM : MH E h0 rf t0 t1 t2 (uA (uA (uA (uA (uA (uA (uA (uA (uA (uA (uA A 15 u_29) 41 (ur_99.1)) 42 (ur_99.2.1)) 43 (ur_99.2.2.1)) 44 (ur_99.2.2.2.1)) 45 (ur_99.2.2.2.2.1)) 46 (ur_99.2.2.2.2.2.1)) 47 (ur_99.2.2.2.2.2.2.1)) 44 (ur_112.1)) 48 (ur_112.2)) 13 g_116) 0 ur_99.2.2.2.2.2.2.2 H := hM.w hR 13 (by decide) (by decide) (by decide) hn ho
                          refine lv_iload_n hx hb dX10_push_327 rfl (lv_at hl 6 rfl) ?_
                          have hI4_117 : I4 (A 10) (A 20) (A 29) (A 24) (A 11) (A 12) g_116 := by
                            intro k hk
                            by_cases e : k = n_4
                            · rw [e]
                              exact ⟨fun _ => hPn _ (by rw [sg_116]; omega), Or.inl hst0⟩
                            · exact (hI4 k hk).cg rfl rfl (fun _ _ => rfl) (fun _ _ => rfl) rfl rfl (ng_116 k e)
                          exact W.iret (v := ((A 13) n_4)) hx hb hr (fun t ht hW => ⟨⟨((A 13) n_4), ((ur_99.1), (ur_99.2.1), (ur_99.2.2.1), (ur_112.1), (ur_99.2.2.2.2.1), (ur_99.2.2.2.2.2.1), (ur_99.2.2.2.2.2.2.1), (ur_112.2), g_116, u_29, ur_99.2.2.2.2.2.2.2, 0), rfl, ⟨hI4_117, hpr_112_0, (by show 0 ≤ ur_99.2.2.2.2.2.2.2.toInt ∧ ur_99.2.2.2.2.2.2.2.toInt ≤ 24; omega), (Or.inl ⟨c_1r, n_4, hn_4, (Or.inr ⟨c_5, (Or.inr ⟨c_8, (Or.inl ⟨c_10, r_12, hpr_12_0, hpr_12_1, i0, hi4, hn_13, x_16, ex_16, (Or.inl ⟨c_22, x_24, ex_24, fx_24, x_25, ex_25, fx_25, x_26, ex_26, fx_26, x_27, ex_27, fx_27, (Or.inl ⟨c_28, u_29, hJ_29, x_37, ex_37, fx_37, x_38, ex_38, fx_38, v_39, hv_39.2, r_41, hDr_41, hpr_41_0, hpr_41_1, v_42, hv_42.2, x_45, ex_45, fx_45, (Or.inr ⟨c_48, (Or.inl ⟨c_93, x_97, ex_97, fx_97, ur_99, r_99, hDr_99, hpr_99_0, hpr_99_1, hpr_99_2, hpr_99_3, hpr_99_4, x_104, ex_104, fx_104, (Or.inr ⟨c_105, ur_112, hDr_112, hpr_112_0, hpr_112_1, x_115, ex_115, fx_115, g_116, eg_116, rfl, rfl, rfl, rfl⟩)⟩)⟩)⟩)⟩)⟩)⟩)⟩)⟩)⟩, (by show MH E h0 rf t0 t1 t2 (uA (uA (uA (uA (uA (uA (uA (uA (uA (uA A 41 (ur_99.1)) 42 (ur_99.2.1)) 43 (ur_99.2.2.1)) 44 (ur_112.1)) 45 (ur_99.2.2.2.2.1)) 46 (ur_99.2.2.2.2.2.1)) 47 (ur_99.2.2.2.2.2.2.1)) 48 (ur_112.2)) 13 g_116) 15 u_29) 0 ur_99.2.2.2.2.2.2.2 t.heap; rw [ht]; exact hM.cge (funext fun j => (cgj j 48 rfl (fun a0 => (cgj j 47 rfl (fun a1 => (cgj j 46 rfl (fun a2 => (cgj j 45 rfl (fun a3 => (cgj j 44 rfl (fun a4 => (cgj j 43 rfl (fun a5 => (cgj j 42 rfl (fun a6 => (cgj j 41 rfl (fun a7 => (cgj j 15 rfl (fun a8 => (cgj j 13 rfl (fun a9 => (by simp only [uA_n a0, uA_n a1, uA_n a2, uA_n a3, uA_n a4, uA_n a5, uA_n a6, uA_n a7, uA_n a8, uA_n a9])))))))))))))))))))))))⟩, hS.F ht⟩) hS.2.2 dX10_push_328
                      · simp only [lt_I, le_I, eq_I, i_0, i_1, i_2, i_3, i_4, i_5, i_6, i_7, i_8, i_10, i_12, i_16, i_20, i_23, i_24, i_31, i_32, i_63, i_64, i_m1, i_9, i_11, i_13, i_25, i_60, i_75, i_79, i_80, i_96, i_100] at c_93
                        refine lv_iconst (v := (-1)) hx hb dX10_push_224 (by decide) ?_
                        refine lv_goto (tgt := 239) hx hb dX10_push_225 (by decide) ?_
                        refine lv_aload_n hx hb dX10_push_239 rfl (lv_at hl 6 rfl) ?_
                        refine va_get (D := DG E) (ci := 10) (v := .ref (rf 27)) (C := RX10) (T := TX10) (N := 49) hx hb hts iw_X10 hown hK.1 (va_one hM.1) 0 rfl rfl 27 (by decide) (hts _ fl_X10_80) (fun _ h9 => h9) rfl dX10_push_240 ?_
                        refine lv_iload_n hx hb dX10_push_243 rfl (lv_at hl 4 rfl) ?_
                        have ha_118 : va_at (DG E) vwCl (rf 27, .inl (E.2.2 0, 16, .inl (A 27))) _ := hM.2 27 (by decide) (by decide) (by decide)
                        refine va_iald (D := DG E) hx hb hK.1 (va_one ha_118) 0 0 rfl rfl hi_14 dX10_push_244 ?_
                        refine W.eq (g2 := F0 m 245 ls [.int ((A 27) (4 * n_4 + i0)), .int (-1), .int x_45, .int ((A 13) n_4), .int ((A 22) (4 * n_4 + i0)), .int p0, .ref h0]) (by rw [en_13]) ?_
                        refine va_calli (rnV (fun H => MH E h0 rf t0 t1 t2 (uA A 15 u_29) 0 pk H) (As := [.int p0, .int ((A 22) (4 * n_4 + i0)), .int ((A 13) n_4), .int x_45, .int (-1), .int ((A 27) (4 * n_4 + i0))]) (rest := []) ⟨hx, hb, hml, hown, hts⟩ (u_X10_emit l E z0 G hGz h0 rf hR t0 t1 t2 (uA A 15 u_29) 0 pk p0 ((A 22) (4 * n_4 + i0)) ((A 13) n_4) x_45 (-1) ((A 27) (4 * n_4 + i0)) hI7 (show 0 ≤ p0.toInt ∧ p0.toInt ≤ 3 from by have := i_m1; first | decide | omega) (show 0 ≤ pk.toInt ∧ pk.toInt ≤ 24 from by have := i_m1; first | decide | omega) (show -1 ≤ (-1 : Int32).toInt ∧ (-1 : Int32).toInt ≤ 60 from by have := i_m1; first | decide | omega) (show 0 ≤ ((A 22) (4 * n_4 + i0)).toInt from by have := i_m1; first | decide | omega) (show ((A 22) (4 * n_4 + i0)).toInt < 1 ∨ 3 < ((A 22) (4 * n_4 + i0)).toInt ∨ (0 ≤ x_45.toInt ∧ x_45.toInt ≤ 5) from by have := i_m1; first | decide | omega)) (cwV 6 hts (gdV ml_X10_199 im_X10_emit se_X10_X10_emit in_X10 co_X10_emit rfl) rfl rfl rfl (by decide +kernel) ⟨Nat.le_of_ble_eq_true rfl, Nat.le_of_ble_eq_true rfl⟩) hM (fun U hU hW => hK.go hW hS hAz hU) (va_recv hK.1 (va_one hM.1) (ci := 10) (q0 := 0) rfl rfl) rfl rfl hl.1 rfl (lv_room (Nat.le_of_ble_eq_true rfl)) dX10_push_245 ⟨Nat.le_of_ble_eq_true rfl, Nat.le_of_ble_eq_true rfl⟩) hS (fun q _ h => h) (fun q h => h) (fun r_119 ur_119 t H locs ht hvm hwr_119 hB hz hk hS => ?_)
                        have hM : MH E h0 rf t0 t1 t2 (uA (uA (uA (uA (uA (uA (uA (uA A 15 u_29) 41 (ur_119.1)) 42 (ur_119.2.1)) 43 (ur_119.2.2.1)) 44 (ur_119.2.2.2.1)) 45 (ur_119.2.2.2.2.1)) 46 (ur_119.2.2.2.2.2.1)) 47 (ur_119.2.2.2.2.2.2.1)) 0 ur_119.2.2.2.2.2.2.2 H := by rw [ht] at hB; exact hB
                        have hDr_119 : D_X10_emit (uA A 15 u_29) (0 : Int32) pk p0 ((A 22) (4 * n_4 + i0)) ((A 13) n_4) x_45 (-1 : Int32) ((A 27) (4 * n_4 + i0)) (uA (uA (uA (uA (uA (uA (uA (uA A 15 u_29) 41 (ur_119.1)) 42 (ur_119.2.1)) 43 (ur_119.2.2.1)) 44 (ur_119.2.2.2.1)) 45 (ur_119.2.2.2.2.1)) 46 (ur_119.2.2.2.2.2.1)) 47 (ur_119.2.2.2.2.2.2.1)) (0 : Int32) (ur_119.2.2.2.2.2.2.2) r_119 := hwr_119.2.2.2.2.2
                        have hpr_119_0 : I7 (ur_119.1) (ur_119.2.1) (ur_119.2.2.2.1) (ur_119.2.2.2.2.1) (ur_119.2.2.2.2.2.1) := hwr_119.1
                        have hpr_119_1 : 0 ≤ ur_119.2.2.2.2.2.2.2.toInt ∧ ur_119.2.2.2.2.2.2.2.toInt ≤ 24 := hwr_119.2.1
                        have hpr_119_2 : -1 ≤ r_119.toInt ∧ r_119.toInt ≤ 23 := hwr_119.2.2.1
                        have hpr_119_3 : ∀ n : Nat, (n : Int) = r_119.toInt → (ur_119.2.1) n = ((A 22) (4 * n_4 + i0)) := hwr_119.2.2.2.1
                        have hpr_119_4 : ((ur_119.2.2.2.1) 24).toInt = ((A 44) 24).toInt ∧ ((ur_119.2.2.2.2.2.1) 24).toInt = ((A 46) 24).toInt := hwr_119.2.2.2.2.1
                        have := i_m1
                        refine lv_istore (lv' := [(8, .int r_119), (7, .int x_45), (6, .int x_38), (5, .int 1), (4, .int x_16), (3, .int r_12), (2, .int ((A 13) n_4)), (0, .ref h0), (1, .int p0)]) hx hb dX10_push_248 hl (by decide) rfl (fun ls hl => ?_)
                        refine lv_aload_n hx hb dX10_push_250 rfl (lv_at hl 7 rfl) ?_
                        refine va_get (D := DG E) (ci := 10) (v := .ref (rf 22)) (C := RX10) (T := TX10) (N := 49) hx hb hts iw_X10 hown hK.1 (va_one hM.1) 0 rfl rfl 22 (by decide) (hts _ fl_X10_65) (fun _ h9 => h9) rfl dX10_push_251 ?_
                        refine lv_iload_n hx hb dX10_push_254 rfl (lv_at hl 5 rfl) ?_
                        have ha_120 : va_at (DG E) vwCl (rf 22, .inl (E.2.2 0, 16, .inl (A 22))) _ := hM.2 22 (by decide) (by decide) (by decide)
                        refine va_iald (D := DG E) hx hb hK.1 (va_one ha_120) 0 0 rfl rfl hi_14 dX10_push_255 ?_
                        refine W.eq (g2 := F0 m 256 ls [.int ((A 22) (4 * n_4 + i0))]) (by rw [en_13]) ?_
                        refine lv_iconst (v := 2) hx hb dX10_push_256 (by decide) ?_
                        refine lv_icmp_ge (tgt := 290) hx hb dX10_push_257 (by decide) (fun c_121 => by exfalso; simp only [lt_I, le_I, eq_I, i_0, i_1, i_2, i_3, i_4, i_5, i_6, i_7, i_8, i_10, i_12, i_16, i_20, i_23, i_24, i_31, i_32, i_63, i_64, i_m1, i_9, i_11, i_13, i_25, i_60, i_75, i_79, i_80, i_96, i_100] at c_121; omega) (fun c_121 => ?_)
                        simp only [lt_I, le_I, eq_I, i_0, i_1, i_2, i_3, i_4, i_5, i_6, i_7, i_8, i_10, i_12, i_16, i_20, i_23, i_24, i_31, i_32, i_63, i_64, i_m1, i_9, i_11, i_13, i_25, i_60, i_75, i_79, i_80, i_96, i_100] at c_121
                        refine lv_aload_n hx hb dX10_push_260 rfl (lv_at hl 7 rfl) ?_
                        refine lv_iload hx hb dX10_push_261 (lv_at hl 0 rfl) ?_
                        refine lv_iload_n hx hb dX10_push_263 rfl (lv_at hl 8 rfl) ?_
                        refine lv_aload_n hx hb dX10_push_264 rfl (lv_at hl 7 rfl) ?_
                        refine va_get (D := DG E) (ci := 10) (v := .ref (rf 23)) (C := RX10) (T := TX10) (N := 49) hx hb hts iw_X10 hown hK.1 (va_one hM.1) 0 rfl rfl 23 (by decide) (hts _ fl_X10_68) (fun _ h9 => h9) rfl dX10_push_265 ?_
                        refine lv_iload_n hx hb dX10_push_268 rfl (lv_at hl 5 rfl) ?_
                        have ha_122 : va_at (DG E) vwCl (rf 23, .inl (E.2.2 0, 16, .inl (A 23))) _ := hM.2 23 (by decide) (by decide) (by decide)
                        refine va_iald (D := DG E) hx hb hK.1 (va_one ha_122) 0 0 rfl rfl hi_14 dX10_push_269 ?_
                        refine W.eq (g2 := F0 m 270 ls [.int ((A 23) (4 * n_4 + i0)), .int p0, .int r_119, .ref h0]) (by rw [en_13]) ?_
                        have q_123 : 0 ≤ ((A 23) (4 * n_4 + i0)).toInt := (hI6 (4 * n_4 + i0) hk_18).2.2.1
                        refine lv_iconst (v := 4) hx hb dX10_push_270 (by decide) ?_
                        refine lv_iload hx hb dX10_push_271 (lv_at hl 4 rfl) ?_
                        refine lv_imul hx hb dX10_push_273 ?_
                        refine W.eq (g2 := F0 m 274 ls [.int x_37, .int ((A 23) (4 * n_4 + i0)), .int p0, .int r_119, .ref h0]) (by rw [ex_37]) ?_
                        refine lv_iadd hx hb dX10_push_274 ?_
                        refine lv_topi (fun x_124 ex_124 => ?_)
                        have fx_124 : x_124.toInt = ((A 23) (4 * n_4 + i0)).toInt + x_37.toInt := by have h9 := s_add (x := ((A 23) (4 * n_4 + i0))) (y := x_37) (by omega) (by omega); rw [ex_124]; exact h9
                        refine lv_iload hx hb dX10_push_275 (lv_at hl 2 rfl) ?_
                        refine lv_iconst (v := 4) hx hb dX10_push_277 (by decide) ?_
                        refine lv_icmp_ge (tgt := 286) hx hb dX10_push_278 (by decide) (fun c_125 => ?_) (fun c_125 => ?_)
                        · simp only [lt_I, le_I, eq_I, i_0, i_1, i_2, i_3, i_4, i_5, i_6, i_7, i_8, i_10, i_12, i_16, i_20, i_23, i_24, i_31, i_32, i_63, i_64, i_m1, i_9, i_11, i_13, i_25, i_60, i_75, i_79, i_80, i_96, i_100] at c_125
                          refine lv_iconst (v := 4) hx hb dX10_push_286 (by decide) ?_
                          refine va_callv (rnV (fun H => MH E h0 rf t0 t1 t2 (uA (uA (uA (uA (uA (uA (uA (uA A 15 u_29) 41 (ur_119.1)) 42 (ur_119.2.1)) 43 (ur_119.2.2.1)) 44 (ur_119.2.2.2.1)) 45 (ur_119.2.2.2.2.1)) 46 (ur_119.2.2.2.2.2.1)) 47 (ur_119.2.2.2.2.2.2.1)) 0 ur_119.2.2.2.2.2.2.2 H) (As := [.int r_119, .int p0, .int x_124, .int 4]) (rest := []) ⟨hx, hb, hml, hown, hts⟩ (u_X10_load l E z0 G hGz h0 rf hR t0 t1 t2 (uA (uA (uA (uA (uA (uA (uA (uA A 15 u_29) 41 (ur_119.1)) 42 (ur_119.2.1)) 43 (ur_119.2.2.1)) 44 (ur_119.2.2.2.1)) 45 (ur_119.2.2.2.2.1)) 46 (ur_119.2.2.2.2.2.1)) 47 (ur_119.2.2.2.2.2.2.1)) 0 ur_119.2.2.2.2.2.2.2 r_119 p0 x_124 4 hpr_119_0 (show -1 ≤ r_119.toInt ∧ r_119.toInt ≤ 23 from by have := i_4; first | decide | omega) (show 0 ≤ p0.toInt ∧ p0.toInt ≤ 3 from by have := i_4; first | decide | omega) (show 0 ≤ x_124.toInt ∧ x_124.toInt ≤ 32 from by have := i_4; first | decide | omega) (show 0 ≤ (4 : Int32).toInt ∧ (4 : Int32).toInt ≤ 4 from by have := i_4; first | decide | omega) (show x_124.toInt + (4 : Int32).toInt ≤ 32 from by have := i_4; first | decide | omega)) (cwV 4 hts (gdV ml_X10_203 im_X10_load se_X10_X10_load in_X10 co_X10_load rfl) rfl rfl rfl (by decide +kernel) ⟨Nat.le_of_ble_eq_true rfl, Nat.le_of_ble_eq_true rfl⟩) hM (fun U hU hW => hK.go hW hS hAz hU) (va_recv hK.1 (va_one hM.1) (ci := 10) (q0 := 0) rfl rfl) rfl rfl hl.1 rfl (lv_room (Nat.le_of_ble_eq_true rfl)) dX10_push_287 ⟨Nat.le_of_ble_eq_true rfl, Nat.le_of_ble_eq_true rfl⟩) hS (fun q _ h => h) (fun q h => h) (fun ur_126 t H locs ht hvm hwr_126 hB hz hk hS => ?_)
                          have hM : MH E h0 rf t0 t1 t2 (uA (uA (uA (uA (uA (uA (uA (uA (uA (uA A 15 u_29) 41 (ur_119.1)) 42 (ur_119.2.1)) 43 (ur_119.2.2.1)) 44 (ur_119.2.2.2.1)) 45 (ur_119.2.2.2.2.1)) 46 (ur_119.2.2.2.2.2.1)) 47 (ur_119.2.2.2.2.2.2.1)) 44 (ur_126.1)) 48 (ur_126.2)) 0 ur_119.2.2.2.2.2.2.2 H := by rw [ht] at hB; exact hB
                          have hDr_126 : D_X10_load (uA (uA (uA (uA (uA (uA (uA (uA A 15 u_29) 41 (ur_119.1)) 42 (ur_119.2.1)) 43 (ur_119.2.2.1)) 44 (ur_119.2.2.2.1)) 45 (ur_119.2.2.2.2.1)) 46 (ur_119.2.2.2.2.2.1)) 47 (ur_119.2.2.2.2.2.2.1)) (0 : Int32) (ur_119.2.2.2.2.2.2.2) r_119 p0 x_124 (4 : Int32) (uA (uA (uA (uA (uA (uA (uA (uA (uA (uA A 15 u_29) 41 (ur_119.1)) 42 (ur_119.2.1)) 43 (ur_119.2.2.1)) 44 (ur_119.2.2.2.1)) 45 (ur_119.2.2.2.2.1)) 46 (ur_119.2.2.2.2.2.1)) 47 (ur_119.2.2.2.2.2.2.1)) 44 (ur_126.1)) 48 (ur_126.2)) (0 : Int32) (ur_119.2.2.2.2.2.2.2) := hwr_126.2.2
                          have hpr_126_0 : I7 (ur_119.1) (ur_119.2.1) (ur_126.1) (ur_119.2.2.2.2.1) (ur_119.2.2.2.2.2.1) := hwr_126.1
                          have hpr_126_1 : ((ur_126.1) 24).toInt = ((ur_119.2.2.2.1) 24).toInt ∧ ((ur_119.2.2.2.2.2.1) 24).toInt = ((ur_119.2.2.2.2.2.1) 24).toInt := hwr_126.2.1
                          have := i_4
                          refine lv_aload_n hx hb dX10_push_290 rfl (lv_at hl 7 rfl) ?_
                          refine va_get (D := DG E) (ci := 10) (v := .ref (rf 22)) (C := RX10) (T := TX10) (N := 49) hx hb hts iw_X10 hown hK.1 (va_one hM.1) 0 rfl rfl 22 (by decide) (hts _ fl_X10_65) (fun _ h9 => h9) rfl dX10_push_291 ?_
                          refine lv_iload_n hx hb dX10_push_294 rfl (lv_at hl 5 rfl) ?_
                          have ha_127 : va_at (DG E) vwCl (rf 22, .inl (E.2.2 0, 16, .inl (A 22))) _ := hM.2 22 (by decide) (by decide) (by decide)
                          refine va_iald (D := DG E) hx hb hK.1 (va_one ha_127) 0 0 rfl rfl hi_14 dX10_push_295 ?_
                          refine W.eq (g2 := F0 m 296 ls [.int ((A 22) (4 * n_4 + i0))]) (by rw [en_13]) ?_
                          refine lv_iconst (v := 2) hx hb dX10_push_296 (by decide) ?_
                          refine lv_icmp_ne (tgt := 314) hx hb dX10_push_297 (by decide) (fun c_128 => ?_) (fun c_128 => by exfalso; simp only [lt_I, le_I, eq_I, i_0, i_1, i_2, i_3, i_4, i_5, i_6, i_7, i_8, i_10, i_12, i_16, i_20, i_23, i_24, i_31, i_32, i_63, i_64, i_m1, i_9, i_11, i_13, i_25, i_60, i_75, i_79, i_80, i_96, i_100] at c_128; omega)
                          simp only [lt_I, le_I, eq_I, i_0, i_1, i_2, i_3, i_4, i_5, i_6, i_7, i_8, i_10, i_12, i_16, i_20, i_23, i_24, i_31, i_32, i_63, i_64, i_m1, i_9, i_11, i_13, i_25, i_60, i_75, i_79, i_80, i_96, i_100] at c_128
                          refine lv_aload_n hx hb dX10_push_314 rfl (lv_at hl 7 rfl) ?_
                          refine va_get (D := DG E) (ci := 10) (v := .ref (rf 13)) (C := RX10) (T := TX10) (N := 49) hx hb hts iw_X10 hown hK.1 (va_one hM.1) 0 rfl rfl 13 (by decide) (hts _ fl_X10_37) (fun _ h9 => h9) rfl dX10_push_315 ?_
                          refine lv_iload_n hx hb dX10_push_318 rfl (lv_at hl 8 rfl) ?_
                          refine lv_iload_n hx hb dX10_push_319 rfl (lv_at hl 6 rfl) ?_
                          refine lv_iload hx hb dX10_push_320 (lv_at hl 3 rfl) ?_
                          refine lv_iadd hx hb dX10_push_322 ?_
                          refine W.eq (g2 := F0 m 323 ls [.int x_24, .int p0, .ref (rf 13)]) (by rw [ex_24]) ?_
                          refine lv_bipush (v := 64) hx hb dX10_push_323 (by decide) ?_
                          refine lv_irem hx hb dX10_push_325 (by decide) ?_
                          refine lv_topi (fun x_129 ex_129 => ?_)
                          have fx_129 : x_129.toInt = x_24.toInt % 64 := by have h9 := s_rem (x := x_24) 64 (by decide) (by decide) (by omega); rw [ex_129]; exact h9
                          have ha_130 : va_at (DG E) vwCl (rf 13, .inl (E.2.2 0, 4, .inl (A 13))) _ := hM.2 13 (by decide) (by decide) (by decide)
                          refine rr_iast (D := DG E) hx hb hK.1 0 ha_130 hS (by show G (rf 13) ≠ 0; rw [hR.2 13 (by decide) (by decide) (by decide)]; decide) rfl hi_2 dX10_push_326 (fun H locs hn ho hz hS => ?_)
                          rw [en_4] at hn
                          obtain ⟨g_130, eg_130⟩ : ∃ z : Nat → Int32, z = upd (A 13) n_4 x_129 := ⟨_, rfl⟩
                          have sg_130 : g_130 n_4 = x_129 := by rw [eg_130]; exact upd_s
                          have ng_130 : ∀ k, k ≠ n_4 → g_130 k = (A 13) k := fun k hk => by rw [eg_130]; exact upd_n hk
                          have hn : va_at (DG E) vwCl (rf 13, .inl (E.2.2 0, 4, .inl g_130)) H := by rw [eg_130]; exact hn
                          have hM : MH E h0 rf t0 t1 t2 (uA (uA (uA (uA (uA (uA (uA (uA (uA (uA (uA A 15 u_29) 41 (ur_119.1)) 42 (ur_119.2.1)) 43 (ur_119.2.2.1)) 44 (ur_119.2.2.2.1)) 45 (ur_119.2.2.2.2.1)) 46 (ur_119.2.2.2.2.2.1)) 47 (ur_119.2.2.2.2.2.2.1)) 44 (ur_126.1)) 48 (ur_126.2)) 13 g_130) 0 ur_119.2.2.2.2.2.2.2 H := hM.w hR 13 (by decide) (by decide) (by decide) hn ho
                          refine lv_iload_n hx hb dX10_push_327 rfl (lv_at hl 6 rfl) ?_
                          have hI4_131 : I4 (A 10) (A 20) (A 29) (A 24) (A 11) (A 12) g_130 := by
                            intro k hk
                            by_cases e : k = n_4
                            · rw [e]
                              exact ⟨fun _ => hPn _ (by rw [sg_130]; omega), Or.inl hst0⟩
                            · exact (hI4 k hk).cg rfl rfl (fun _ _ => rfl) (fun _ _ => rfl) rfl rfl (ng_130 k e)
                          exact W.iret (v := ((A 13) n_4)) hx hb hr (fun t ht hW => ⟨⟨((A 13) n_4), ((ur_119.1), (ur_119.2.1), (ur_119.2.2.1), (ur_126.1), (ur_119.2.2.2.2.1), (ur_119.2.2.2.2.2.1), (ur_119.2.2.2.2.2.2.1), (ur_126.2), g_130, u_29, ur_119.2.2.2.2.2.2.2, 0), rfl, ⟨hI4_131, hpr_126_0, (by show 0 ≤ ur_119.2.2.2.2.2.2.2.toInt ∧ ur_119.2.2.2.2.2.2.2.toInt ≤ 24; omega), (Or.inl ⟨c_1r, n_4, hn_4, (Or.inr ⟨c_5, (Or.inr ⟨c_8, (Or.inl ⟨c_10, r_12, hpr_12_0, hpr_12_1, i0, hi4, hn_13, x_16, ex_16, (Or.inl ⟨c_22, x_24, ex_24, fx_24, x_25, ex_25, fx_25, x_26, ex_26, fx_26, x_27, ex_27, fx_27, (Or.inl ⟨c_28, u_29, hJ_29, x_37, ex_37, fx_37, x_38, ex_38, fx_38, v_39, hv_39.2, r_41, hDr_41, hpr_41_0, hpr_41_1, v_42, hv_42.2, x_45, ex_45, fx_45, (Or.inr ⟨c_48, (Or.inr ⟨c_93, ur_119, r_119, hDr_119, hpr_119_0, hpr_119_1, hpr_119_2, hpr_119_3, hpr_119_4, x_124, ex_124, fx_124, (Or.inl ⟨c_125, ur_126, hDr_126, hpr_126_0, hpr_126_1, x_129, ex_129, fx_129, g_130, eg_130, rfl, rfl, rfl, rfl⟩)⟩)⟩)⟩)⟩)⟩)⟩)⟩)⟩)⟩, (by show MH E h0 rf t0 t1 t2 (uA (uA (uA (uA (uA (uA (uA (uA (uA (uA A 41 (ur_119.1)) 42 (ur_119.2.1)) 43 (ur_119.2.2.1)) 44 (ur_126.1)) 45 (ur_119.2.2.2.2.1)) 46 (ur_119.2.2.2.2.2.1)) 47 (ur_119.2.2.2.2.2.2.1)) 48 (ur_126.2)) 13 g_130) 15 u_29) 0 ur_119.2.2.2.2.2.2.2 t.heap; rw [ht]; exact hM.cge (funext fun j => (cgj j 48 rfl (fun a0 => (cgj j 47 rfl (fun a1 => (cgj j 46 rfl (fun a2 => (cgj j 45 rfl (fun a3 => (cgj j 44 rfl (fun a4 => (cgj j 43 rfl (fun a5 => (cgj j 42 rfl (fun a6 => (cgj j 41 rfl (fun a7 => (cgj j 15 rfl (fun a8 => (cgj j 13 rfl (fun a9 => (by simp only [uA_n a0, uA_n a1, uA_n a2, uA_n a3, uA_n a4, uA_n a5, uA_n a6, uA_n a7, uA_n a8, uA_n a9])))))))))))))))))))))))⟩, hS.F ht⟩) hS.2.2 dX10_push_328
                        · simp only [lt_I, le_I, eq_I, i_0, i_1, i_2, i_3, i_4, i_5, i_6, i_7, i_8, i_10, i_12, i_16, i_20, i_23, i_24, i_31, i_32, i_63, i_64, i_m1, i_9, i_11, i_13, i_25, i_60, i_75, i_79, i_80, i_96, i_100] at c_125
                          refine lv_iload hx hb dX10_push_281 (lv_at hl 2 rfl) ?_
                          refine lv_goto (tgt := 287) hx hb dX10_push_283 (by decide) ?_
                          refine va_callv (rnV (fun H => MH E h0 rf t0 t1 t2 (uA (uA (uA (uA (uA (uA (uA (uA A 15 u_29) 41 (ur_119.1)) 42 (ur_119.2.1)) 43 (ur_119.2.2.1)) 44 (ur_119.2.2.2.1)) 45 (ur_119.2.2.2.2.1)) 46 (ur_119.2.2.2.2.2.1)) 47 (ur_119.2.2.2.2.2.2.1)) 0 ur_119.2.2.2.2.2.2.2 H) (As := [.int r_119, .int p0, .int x_124, .int x_38]) (rest := []) ⟨hx, hb, hml, hown, hts⟩ (u_X10_load l E z0 G hGz h0 rf hR t0 t1 t2 (uA (uA (uA (uA (uA (uA (uA (uA A 15 u_29) 41 (ur_119.1)) 42 (ur_119.2.1)) 43 (ur_119.2.2.1)) 44 (ur_119.2.2.2.1)) 45 (ur_119.2.2.2.2.1)) 46 (ur_119.2.2.2.2.2.1)) 47 (ur_119.2.2.2.2.2.2.1)) 0 ur_119.2.2.2.2.2.2.2 r_119 p0 x_124 x_38 hpr_119_0 (show -1 ≤ r_119.toInt ∧ r_119.toInt ≤ 23 from by first | decide | omega) (show 0 ≤ p0.toInt ∧ p0.toInt ≤ 3 from by first | decide | omega) (show 0 ≤ x_124.toInt ∧ x_124.toInt ≤ 32 from by first | decide | omega) (show 0 ≤ x_38.toInt ∧ x_38.toInt ≤ 4 from by first | decide | omega) (show x_124.toInt + x_38.toInt ≤ 32 from by first | decide | omega)) (cwV 4 hts (gdV ml_X10_203 im_X10_load se_X10_X10_load in_X10 co_X10_load rfl) rfl rfl rfl (by decide +kernel) ⟨Nat.le_of_ble_eq_true rfl, Nat.le_of_ble_eq_true rfl⟩) hM (fun U hU hW => hK.go hW hS hAz hU) (va_recv hK.1 (va_one hM.1) (ci := 10) (q0 := 0) rfl rfl) rfl rfl hl.1 rfl (lv_room (Nat.le_of_ble_eq_true rfl)) dX10_push_287 ⟨Nat.le_of_ble_eq_true rfl, Nat.le_of_ble_eq_true rfl⟩) hS (fun q _ h => h) (fun q h => h) (fun ur_132 t H locs ht hvm hwr_132 hB hz hk hS => ?_)
                          have hM : MH E h0 rf t0 t1 t2 (uA (uA (uA (uA (uA (uA (uA (uA (uA (uA A 15 u_29) 41 (ur_119.1)) 42 (ur_119.2.1)) 43 (ur_119.2.2.1)) 44 (ur_119.2.2.2.1)) 45 (ur_119.2.2.2.2.1)) 46 (ur_119.2.2.2.2.2.1)) 47 (ur_119.2.2.2.2.2.2.1)) 44 (ur_132.1)) 48 (ur_132.2)) 0 ur_119.2.2.2.2.2.2.2 H := by rw [ht] at hB; exact hB
                          have hDr_132 : D_X10_load (uA (uA (uA (uA (uA (uA (uA (uA A 15 u_29) 41 (ur_119.1)) 42 (ur_119.2.1)) 43 (ur_119.2.2.1)) 44 (ur_119.2.2.2.1)) 45 (ur_119.2.2.2.2.1)) 46 (ur_119.2.2.2.2.2.1)) 47 (ur_119.2.2.2.2.2.2.1)) (0 : Int32) (ur_119.2.2.2.2.2.2.2) r_119 p0 x_124 x_38 (uA (uA (uA (uA (uA (uA (uA (uA (uA (uA A 15 u_29) 41 (ur_119.1)) 42 (ur_119.2.1)) 43 (ur_119.2.2.1)) 44 (ur_119.2.2.2.1)) 45 (ur_119.2.2.2.2.1)) 46 (ur_119.2.2.2.2.2.1)) 47 (ur_119.2.2.2.2.2.2.1)) 44 (ur_132.1)) 48 (ur_132.2)) (0 : Int32) (ur_119.2.2.2.2.2.2.2) := hwr_132.2.2
                          have hpr_132_0 : I7 (ur_119.1) (ur_119.2.1) (ur_132.1) (ur_119.2.2.2.2.1) (ur_119.2.2.2.2.2.1) := hwr_132.1
                          have hpr_132_1 : ((ur_132.1) 24).toInt = ((ur_119.2.2.2.1) 24).toInt ∧ ((ur_119.2.2.2.2.2.1) 24).toInt = ((ur_119.2.2.2.2.2.1) 24).toInt := hwr_132.2.1
                          refine lv_aload_n hx hb dX10_push_290 rfl (lv_at hl 7 rfl) ?_
                          refine va_get (D := DG E) (ci := 10) (v := .ref (rf 22)) (C := RX10) (T := TX10) (N := 49) hx hb hts iw_X10 hown hK.1 (va_one hM.1) 0 rfl rfl 22 (by decide) (hts _ fl_X10_65) (fun _ h9 => h9) rfl dX10_push_291 ?_
                          refine lv_iload_n hx hb dX10_push_294 rfl (lv_at hl 5 rfl) ?_
                          have ha_133 : va_at (DG E) vwCl (rf 22, .inl (E.2.2 0, 16, .inl (A 22))) _ := hM.2 22 (by decide) (by decide) (by decide)
                          refine va_iald (D := DG E) hx hb hK.1 (va_one ha_133) 0 0 rfl rfl hi_14 dX10_push_295 ?_
                          refine W.eq (g2 := F0 m 296 ls [.int ((A 22) (4 * n_4 + i0))]) (by rw [en_13]) ?_
                          refine lv_iconst (v := 2) hx hb dX10_push_296 (by decide) ?_
                          refine lv_icmp_ne (tgt := 314) hx hb dX10_push_297 (by decide) (fun c_134 => ?_) (fun c_134 => by exfalso; simp only [lt_I, le_I, eq_I, i_0, i_1, i_2, i_3, i_4, i_5, i_6, i_7, i_8, i_10, i_12, i_16, i_20, i_23, i_24, i_31, i_32, i_63, i_64, i_m1, i_9, i_11, i_13, i_25, i_60, i_75, i_79, i_80, i_96, i_100] at c_134; omega)
                          simp only [lt_I, le_I, eq_I, i_0, i_1, i_2, i_3, i_4, i_5, i_6, i_7, i_8, i_10, i_12, i_16, i_20, i_23, i_24, i_31, i_32, i_63, i_64, i_m1, i_9, i_11, i_13, i_25, i_60, i_75, i_79, i_80, i_96, i_100] at c_134
                          refine lv_aload_n hx hb dX10_push_314 rfl (lv_at hl 7 rfl) ?_
                          refine va_get (D := DG E) (ci := 10) (v := .ref (rf 13)) (C := RX10) (T := TX10) (N := 49) hx hb hts iw_X10 hown hK.1 (va_one hM.1) 0 rfl rfl 13 (by decide) (hts _ fl_X10_37) (fun _ h9 => h9) rfl dX10_push_315 ?_
                          refine lv_iload_n hx hb dX10_push_318 rfl (lv_at hl 8 rfl) ?_
                          refine lv_iload_n hx hb dX10_push_319 rfl (lv_at hl 6 rfl) ?_
                          refine lv_iload hx hb dX10_push_320 (lv_at hl 3 rfl) ?_
                          refine lv_iadd hx hb dX10_push_322 ?_
                          refine W.eq (g2 := F0 m 323 ls [.int x_24, .int p0, .ref (rf 13)]) (by rw [ex_24]) ?_
                          refine lv_bipush (v := 64) hx hb dX10_push_323 (by decide) ?_
                          refine lv_irem hx hb dX10_push_325 (by decide) ?_
                          refine lv_topi (fun x_135 ex_135 => ?_)
                          have fx_135 : x_135.toInt = x_24.toInt % 64 := by have h9 := s_rem (x := x_24) 64 (by decide) (by decide) (by omega); rw [ex_135]; exact h9
                          have ha_136 : va_at (DG E) vwCl (rf 13, .inl (E.2.2 0, 4, .inl (A 13))) _ := hM.2 13 (by decide) (by decide) (by decide)
                          refine rr_iast (D := DG E) hx hb hK.1 0 ha_136 hS (by show G (rf 13) ≠ 0; rw [hR.2 13 (by decide) (by decide) (by decide)]; decide) rfl hi_2 dX10_push_326 (fun H locs hn ho hz hS => ?_)
                          rw [en_4] at hn
                          obtain ⟨g_136, eg_136⟩ : ∃ z : Nat → Int32, z = upd (A 13) n_4 x_135 := ⟨_, rfl⟩
                          have sg_136 : g_136 n_4 = x_135 := by rw [eg_136]; exact upd_s
                          have ng_136 : ∀ k, k ≠ n_4 → g_136 k = (A 13) k := fun k hk => by rw [eg_136]; exact upd_n hk
                          have hn : va_at (DG E) vwCl (rf 13, .inl (E.2.2 0, 4, .inl g_136)) H := by rw [eg_136]; exact hn
                          have hM : MH E h0 rf t0 t1 t2 (uA (uA (uA (uA (uA (uA (uA (uA (uA (uA (uA A 15 u_29) 41 (ur_119.1)) 42 (ur_119.2.1)) 43 (ur_119.2.2.1)) 44 (ur_119.2.2.2.1)) 45 (ur_119.2.2.2.2.1)) 46 (ur_119.2.2.2.2.2.1)) 47 (ur_119.2.2.2.2.2.2.1)) 44 (ur_132.1)) 48 (ur_132.2)) 13 g_136) 0 ur_119.2.2.2.2.2.2.2 H := hM.w hR 13 (by decide) (by decide) (by decide) hn ho
                          refine lv_iload_n hx hb dX10_push_327 rfl (lv_at hl 6 rfl) ?_
                          have hI4_137 : I4 (A 10) (A 20) (A 29) (A 24) (A 11) (A 12) g_136 := by
                            intro k hk
                            by_cases e : k = n_4
                            · rw [e]
                              exact ⟨fun _ => hPn _ (by rw [sg_136]; omega), Or.inl hst0⟩
                            · exact (hI4 k hk).cg rfl rfl (fun _ _ => rfl) (fun _ _ => rfl) rfl rfl (ng_136 k e)
                          exact W.iret (v := ((A 13) n_4)) hx hb hr (fun t ht hW => ⟨⟨((A 13) n_4), ((ur_119.1), (ur_119.2.1), (ur_119.2.2.1), (ur_132.1), (ur_119.2.2.2.2.1), (ur_119.2.2.2.2.2.1), (ur_119.2.2.2.2.2.2.1), (ur_132.2), g_136, u_29, ur_119.2.2.2.2.2.2.2, 0), rfl, ⟨hI4_137, hpr_132_0, (by show 0 ≤ ur_119.2.2.2.2.2.2.2.toInt ∧ ur_119.2.2.2.2.2.2.2.toInt ≤ 24; omega), (Or.inl ⟨c_1r, n_4, hn_4, (Or.inr ⟨c_5, (Or.inr ⟨c_8, (Or.inl ⟨c_10, r_12, hpr_12_0, hpr_12_1, i0, hi4, hn_13, x_16, ex_16, (Or.inl ⟨c_22, x_24, ex_24, fx_24, x_25, ex_25, fx_25, x_26, ex_26, fx_26, x_27, ex_27, fx_27, (Or.inl ⟨c_28, u_29, hJ_29, x_37, ex_37, fx_37, x_38, ex_38, fx_38, v_39, hv_39.2, r_41, hDr_41, hpr_41_0, hpr_41_1, v_42, hv_42.2, x_45, ex_45, fx_45, (Or.inr ⟨c_48, (Or.inr ⟨c_93, ur_119, r_119, hDr_119, hpr_119_0, hpr_119_1, hpr_119_2, hpr_119_3, hpr_119_4, x_124, ex_124, fx_124, (Or.inr ⟨c_125, ur_132, hDr_132, hpr_132_0, hpr_132_1, x_135, ex_135, fx_135, g_136, eg_136, rfl, rfl, rfl, rfl⟩)⟩)⟩)⟩)⟩)⟩)⟩)⟩)⟩)⟩, (by show MH E h0 rf t0 t1 t2 (uA (uA (uA (uA (uA (uA (uA (uA (uA (uA A 41 (ur_119.1)) 42 (ur_119.2.1)) 43 (ur_119.2.2.1)) 44 (ur_132.1)) 45 (ur_119.2.2.2.2.1)) 46 (ur_119.2.2.2.2.2.1)) 47 (ur_119.2.2.2.2.2.2.1)) 48 (ur_132.2)) 13 g_136) 15 u_29) 0 ur_119.2.2.2.2.2.2.2 t.heap; rw [ht]; exact hM.cge (funext fun j => (cgj j 48 rfl (fun a0 => (cgj j 47 rfl (fun a1 => (cgj j 46 rfl (fun a2 => (cgj j 45 rfl (fun a3 => (cgj j 44 rfl (fun a4 => (cgj j 43 rfl (fun a5 => (cgj j 42 rfl (fun a6 => (cgj j 41 rfl (fun a7 => (cgj j 15 rfl (fun a8 => (cgj j 13 rfl (fun a9 => (by simp only [uA_n a0, uA_n a1, uA_n a2, uA_n a3, uA_n a4, uA_n a5, uA_n a6, uA_n a7, uA_n a8, uA_n a9])))))))))))))))))))))))⟩, hS.F ht⟩) hS.2.2 dX10_push_328
                  · refine lv_iconst (v := 1) hx hb dX10_push_173 (by decide) ?_
                    refine lv_isub hx hb dX10_push_174 ?_
                    refine lv_topi (fun x_43 ex_43 => ?_)
                    have fx_43 : x_43.toInt = r_41.toInt - 1 := by have h9 := s_sub (x := r_41) (y := 1) (by rw [i_1]; omega) (by rw [i_1]; omega); rw [i_1] at h9; rw [ex_43]; exact h9
                    refine lv_icmp_ne (tgt := 182) hx hb dX10_push_175 (by decide) (fun c_44 => ?_) (fun c_44 => ?_)
                    · simp only [lt_I, le_I, eq_I, i_0, i_1, i_2, i_3, i_4, i_5, i_6, i_7, i_8, i_10, i_12, i_16, i_20, i_23, i_24, i_31, i_32, i_63, i_64, i_m1, i_9, i_11, i_13, i_25, i_60, i_75, i_79, i_80, i_96, i_100] at c_44
                      refine lv_iconst (v := 0) hx hb dX10_push_182 (by decide) ?_
                      exact key_42 0 ⟨(by first | decide | omega), (Or.inl ⟨x_43, ex_43, fx_43, c_44, rfl⟩)⟩
                    · simp only [lt_I, le_I, eq_I, i_0, i_1, i_2, i_3, i_4, i_5, i_6, i_7, i_8, i_10, i_12, i_16, i_20, i_23, i_24, i_31, i_32, i_63, i_64, i_m1, i_9, i_11, i_13, i_25, i_60, i_75, i_79, i_80, i_96, i_100] at c_44
                      refine lv_iconst (v := 2) hx hb dX10_push_178 (by decide) ?_
                      refine lv_goto (tgt := 183) hx hb dX10_push_179 (by decide) ?_
                      exact key_42 2 ⟨(by first | decide | omega), (Or.inr ⟨x_43, ex_43, fx_43, c_44, rfl⟩)⟩
                · refine lv_iload hx hb dX10_push_156 (lv_at hl 2 rfl) ?_
                  refine lv_if_ne (tgt := 165) hx hb dX10_push_158 (by decide) (fun c_40 => ?_) (fun c_40 => ?_)
                  · simp only [lt_I, le_I, eq_I, i_0, i_1, i_2, i_3, i_4, i_5, i_6, i_7, i_8, i_10, i_12, i_16, i_20, i_23, i_24, i_31, i_32, i_63, i_64, i_m1, i_9, i_11, i_13, i_25, i_60, i_75, i_79, i_80, i_96, i_100] at c_40
                    refine lv_iconst (v := 0) hx hb dX10_push_165 (by decide) ?_
                    exact key_39 0 ⟨(by first | decide | omega), (Or.inl ⟨c_40, rfl⟩)⟩
                  · simp only [lt_I, le_I, eq_I, i_0, i_1, i_2, i_3, i_4, i_5, i_6, i_7, i_8, i_10, i_12, i_16, i_20, i_23, i_24, i_31, i_32, i_63, i_64, i_m1, i_9, i_11, i_13, i_25, i_60, i_75, i_79, i_80, i_96, i_100] at c_40
                    refine lv_iconst (v := 1) hx hb dX10_push_161 (by decide) ?_
                    refine lv_goto (tgt := 166) hx hb dX10_push_162 (by decide) ?_
                    exact key_39 1 ⟨(by first | decide | omega), (Or.inr ⟨c_40, rfl⟩)⟩
              · refine lv_iload_n hx hb dX10_push_126 rfl (lv_at hl 3 rfl) ?_
                refine lv_aload_n hx hb dX10_push_127 rfl (lv_at hl 4 rfl) ?_
                refine va_get (D := DG E) (ci := 10) (v := .ref (rf 12)) (C := RX10) (T := TX10) (N := 49) hx hb hts iw_X10 hown hK.1 (va_one hM.1) 0 rfl rfl 12 (by decide) (hts _ fl_X10_34) (fun _ h9 => h9) rfl dX10_push_128 ?_
                refine lv_iload_n hx hb dX10_push_131 rfl (lv_at hl 5 rfl) ?_
                have ha_30 : va_at (DG E) vwCl (rf 12, .inl (E.2.2 0, 4, .inl (A 12))) _ := hM.2 12 (by decide) (by decide) (by decide)
                refine va_iald (D := DG E) hx hb hK.1 (va_one ha_30) 0 0 rfl rfl hi_2 dX10_push_132 ?_
                refine W.eq (g2 := F0 m 133 ls [.int ((A 12) n_4), .int ((A 13) n_4)]) (by rw [en_4]) ?_
                refine lv_icmp_ne (tgt := 143) hx hb dX10_push_133 (by decide) (fun c_31 => ?_) (fun c_31 => ?_)
                · simp only [lt_I, le_I, eq_I, i_0, i_1, i_2, i_3, i_4, i_5, i_6, i_7, i_8, i_10, i_12, i_16, i_20, i_23, i_24, i_31, i_32, i_63, i_64, i_m1, i_9, i_11, i_13, i_25, i_60, i_75, i_79, i_80, i_96, i_100] at c_31
                  exact key_29 ((A 15)) _ _ ⟨(by show MH E h0 rf t0 t1 t2 (uA A 15 (A 15)) 0 pk _; exact hM.cge (funext fun j => (cgj j 15 rfl (fun a0 => (by simp only [uA_n a0]))))), hS, trivial, (Or.inl ⟨c_31, rfl⟩)⟩
                · simp only [lt_I, le_I, eq_I, i_0, i_1, i_2, i_3, i_4, i_5, i_6, i_7, i_8, i_10, i_12, i_16, i_20, i_23, i_24, i_31, i_32, i_63, i_64, i_m1, i_9, i_11, i_13, i_25, i_60, i_75, i_79, i_80, i_96, i_100] at c_31
                  refine lv_aload_n hx hb dX10_push_136 rfl (lv_at hl 4 rfl) ?_
                  refine va_get (D := DG E) (ci := 10) (v := .ref (rf 15)) (C := RX10) (T := TX10) (N := 49) hx hb hts iw_X10 hown hK.1 (va_one hM.1) 0 rfl rfl 15 (by decide) (hts _ fl_X10_43) (fun _ h9 => h9) rfl dX10_push_137 ?_
                  refine lv_iload_n hx hb dX10_push_140 rfl (lv_at hl 5 rfl) ?_
                  refine lv_iconst (v := 0) hx hb dX10_push_141 (by decide) ?_
                  have ha_32 : va_at (DG E) vwCl (rf 15, .inl (E.2.2 0, 4, .inl (A 15))) _ := hM.2 15 (by decide) (by decide) (by decide)
                  refine rr_iast (D := DG E) hx hb hK.1 0 ha_32 hS (by show G (rf 15) ≠ 0; rw [hR.2 15 (by decide) (by decide) (by decide)]; decide) rfl hi_2 dX10_push_142 (fun H locs hn ho hz hS => ?_)
                  rw [en_4] at hn
                  obtain ⟨g_32, eg_32⟩ : ∃ z : Nat → Int32, z = upd (A 15) n_4 0 := ⟨_, rfl⟩
                  have sg_32 : g_32 n_4 = 0 := by rw [eg_32]; exact upd_s
                  have ng_32 : ∀ k, k ≠ n_4 → g_32 k = (A 15) k := fun k hk => by rw [eg_32]; exact upd_n hk
                  have hn : va_at (DG E) vwCl (rf 15, .inl (E.2.2 0, 4, .inl g_32)) H := by rw [eg_32]; exact hn
                  have hM : MH E h0 rf t0 t1 t2 (uA A 15 g_32) 0 pk H := hM.w hR 15 (by decide) (by decide) (by decide) hn ho
                  exact key_29 (g_32) _ _ ⟨hM, hS, trivial, (Or.inr ⟨c_31, g_32, eg_32, rfl⟩)⟩
            · simp only [lt_I, le_I, eq_I, i_0, i_1, i_2, i_3, i_4, i_5, i_6, i_7, i_8, i_10, i_12, i_16, i_20, i_23, i_24, i_31, i_32, i_63, i_64, i_m1, i_9, i_11, i_13, i_25, i_60, i_75, i_79, i_80, i_96, i_100] at c_28
              refine lv_iconst (v := (-1)) hx hb dX10_push_124 (by decide) ?_
              exact W.iret (v := (-1)) hx hb hr (fun t ht hW => ⟨⟨(-1), ((A 41), (A 42), (A 43), (A 44), (A 45), (A 46), (A 47), (A 48), (A 13), (A 15), pk, 0), rfl, ⟨hI4, hI7, (by show 0 ≤ pk.toInt ∧ pk.toInt ≤ 24; have := i_m1; omega), (Or.inl ⟨c_1r, n_4, hn_4, (Or.inr ⟨c_5, (Or.inr ⟨c_8, (Or.inl ⟨c_10, r_12, hpr_12_0, hpr_12_1, i0, hi4, hn_13, x_16, ex_16, (Or.inl ⟨c_22, x_24, ex_24, fx_24, x_25, ex_25, fx_25, x_26, ex_26, fx_26, x_27, ex_27, fx_27, (Or.inr ⟨c_28, rfl, rfl, rfl, rfl⟩)⟩)⟩)⟩)⟩)⟩)⟩, (by show MH E h0 rf t0 t1 t2 (uA (uA (uA (uA (uA (uA (uA (uA (uA (uA A 41 (A 41)) 42 (A 42)) 43 (A 43)) 44 (A 44)) 45 (A 45)) 46 (A 46)) 47 (A 47)) 48 (A 48)) 13 (A 13)) 15 (A 15)) 0 pk t.heap; rw [ht]; exact hM.cge (funext fun j => (cgj j 48 rfl (fun a0 => (cgj j 47 rfl (fun a1 => (cgj j 46 rfl (fun a2 => (cgj j 45 rfl (fun a3 => (cgj j 44 rfl (fun a4 => (cgj j 43 rfl (fun a5 => (cgj j 42 rfl (fun a6 => (cgj j 41 rfl (fun a7 => (cgj j 15 rfl (fun a8 => (cgj j 13 rfl (fun a9 => (by simp only [uA_n a0, uA_n a1, uA_n a2, uA_n a3, uA_n a4, uA_n a5, uA_n a6, uA_n a7, uA_n a8, uA_n a9])))))))))))))))))))))))⟩, hS.F ht⟩) hS.2.2 dX10_push_125
          · simp only [lt_I, le_I, eq_I, i_0, i_1, i_2, i_3, i_4, i_5, i_6, i_7, i_8, i_10, i_12, i_16, i_20, i_23, i_24, i_31, i_32, i_63, i_64, i_m1, i_9, i_11, i_13, i_25, i_60, i_75, i_79, i_80, i_96, i_100] at c_22
            refine lv_aload_n hx hb dX10_push_87 rfl (lv_at hl 3 rfl) ?_
            refine lv_iload_n hx hb dX10_push_88 rfl (lv_at hl 1 rfl) ?_
            refine va_calli (rnV (fun H => MH E h0 rf t0 t1 t2 A 0 pk H) (As := [.int r_12]) (rest := []) ⟨hx, hb, hml, hown, hts⟩ (u_X10_numbersOf l E z0 G hGz h0 rf hR t0 t1 t2 A 0 pk r_12 hI6 (show 0 ≤ r_12.toInt ∧ r_12.toInt ≤ 15 from by first | decide | omega)) (cwV 1 hts (gdV ml_X10_178 im_X10_numbersOf se_X10_X10_numbersOf in_X10 co_X10_numbersOf rfl) rfl rfl rfl (by decide +kernel) ⟨Nat.le_of_ble_eq_true rfl, Nat.le_of_ble_eq_true rfl⟩) hM (fun U hU hW => hK.go hW hS hAz hU) (va_recv hK.1 (va_one hM.1) (ci := 10) (q0 := 0) rfl rfl) rfl rfl hl.1 rfl (lv_room (Nat.le_of_ble_eq_true rfl)) dX10_push_89 ⟨Nat.le_of_ble_eq_true rfl, Nat.le_of_ble_eq_true rfl⟩) hS (fun q _ h => h.elim) (fun q h => h.elim) (fun r_138 ur_138 t H locs ht hvm hwr_138 hB hz hk hS => ?_)
            have hM := hM.kept (fun q hq => hk q hq (fun h => h))
            have hDr_138 : D_X10_numbersOf A (0 : Int32) pk r_12 r_138 := hwr_138.2.2
            have hpr_138_0 : 0 ≤ r_138.toInt ∧ r_138.toInt ≤ 3 := hwr_138.1
            have hpr_138_1 : ∀ n : Nat, (n : Int) = r_12.toInt → r_138.toInt = NB (A 24) n := hwr_138.2.1
            have iahpr_138_1 := hpr_138_1 (4 * n_4 + i0) (by omega)
            refine lv_iload hx hb dX10_push_92 (lv_at hl 0 rfl) ?_
            refine lv_isub hx hb dX10_push_94 ?_
            refine lv_topi (fun x_139 ex_139 => ?_)
            have fx_139 : x_139.toInt = r_138.toInt - x_16.toInt := by have h9 := s_sub (x := r_138) (y := x_16) (by omega) (by omega); rw [ex_139]; exact h9
            refine lv_goto (tgt := 99) hx hb dX10_push_95 (by decide) ?_
            have hn9 : 1 ≤ x_139.toInt := by omega
            refine lv_istore (lv' := [(5, .int x_139), (4, .int x_16), (3, .int r_12), (2, .int ((A 13) n_4)), (0, .ref h0), (1, .int p0)]) hx hb dX10_push_99 hl (by decide) rfl (fun ls hl => ?_)
            refine lv_aload_n hx hb dX10_push_101 rfl (lv_at hl 4 rfl) ?_
            refine va_get (D := DG E) (ci := 10) (v := .ref (rf 12)) (C := RX10) (T := TX10) (N := 49) hx hb hts iw_X10 hown hK.1 (va_one hM.1) 0 rfl rfl 12 (by decide) (hts _ fl_X10_34) (fun _ h9 => h9) rfl dX10_push_102 ?_
            refine lv_iload_n hx hb dX10_push_105 rfl (lv_at hl 5 rfl) ?_
            have ha_140 : va_at (DG E) vwCl (rf 12, .inl (E.2.2 0, 4, .inl (A 12))) _ := hM.2 12 (by decide) (by decide) (by decide)
            refine va_iald (D := DG E) hx hb hK.1 (va_one ha_140) 0 0 rfl rfl hi_2 dX10_push_106 ?_
            refine W.eq (g2 := F0 m 107 ls [.int ((A 12) n_4)]) (by rw [en_4]) ?_
            refine lv_iload_n hx hb dX10_push_107 rfl (lv_at hl 3 rfl) ?_
            refine lv_iload hx hb dX10_push_108 (lv_at hl 0 rfl) ?_
            refine lv_iadd hx hb dX10_push_110 ?_
            refine lv_topi (fun x_141 ex_141 => ?_)
            have fx_141 : x_141.toInt = ((A 13) n_4).toInt + x_139.toInt := by have h9 := s_add (x := ((A 13) n_4)) (y := x_139) (by omega) (by omega); rw [ex_141]; exact h9
            refine lv_iconst (v := 1) hx hb dX10_push_111 (by decide) ?_
            refine lv_isub hx hb dX10_push_112 ?_
            refine lv_topi (fun x_142 ex_142 => ?_)
            have fx_142 : x_142.toInt = x_141.toInt - 1 := by have h9 := s_sub (x := x_141) (y := 1) (by rw [i_1]; omega) (by rw [i_1]; omega); rw [i_1] at h9; rw [ex_142]; exact h9
            refine lv_bipush (v := 64) hx hb dX10_push_113 (by decide) ?_
            refine lv_irem hx hb dX10_push_115 (by decide) ?_
            refine lv_topi (fun x_143 ex_143 => ?_)
            have fx_143 : x_143.toInt = x_142.toInt % 64 := by have h9 := s_rem (x := x_142) 64 (by decide) (by decide) (by omega); rw [ex_143]; exact h9
            refine W.callR (W.runS (As := [.int ((A 12) n_4), .int x_143]) (rest := []) ⟨hx, hb, hml, hown, hts⟩ (c_X10_far l (((A 12) n_4)) x_143) (cwS 2 hts (gdS ml_X10_174 st_X10_far in_X10 co_X10_far rfl) rfl rfl rfl (by decide +kernel) ⟨Nat.le_of_ble_eq_true rfl, Nat.le_of_ble_eq_true rfl⟩) preEq rfl rfl hl.1 rfl (lv_room (Nat.le_of_ble_eq_true rfl)) dX10_push_116 ⟨Nat.le_of_ble_eq_true rfl, Nat.le_of_ble_eq_true rfl⟩) ?_
            refine W.eq (g2 := F0 m 119 ls [.int (((x_143 - ((A 12) n_4)) + 64) - ((x_143 - ((A 12) n_4)) + 64) / 64 * 64)]) (by rfl) ?_
            refine lv_topi (fun x_144 ex_144 => ?_)
            have fx_144 : x_144.toInt = (x_143.toInt - ((A 12) n_4).toInt + 64) % 64 := by rw [ex_144]; exact far_t (by omega) (by omega)
            have kx_144 : x_144.toInt = (farI ((A 12) n_4) x_143).toInt := by rw [ex_144]; rfl
            refine lv_bipush (v := 8) hx hb dX10_push_119 (by decide) ?_
            refine lv_icmp_lt (tgt := 126) hx hb dX10_push_121 (by decide) (fun c_145 => ?_) (fun c_145 => ?_)
            · simp only [lt_I, le_I, eq_I, i_0, i_1, i_2, i_3, i_4, i_5, i_6, i_7, i_8, i_10, i_12, i_16, i_20, i_23, i_24, i_31, i_32, i_63, i_64, i_m1, i_9, i_11, i_13, i_25, i_60, i_75, i_79, i_80, i_96, i_100] at c_145
              refine W.jh (σ := (Nat → Int32)) (P := fun u_146 H locs => MH E h0 rf t0 t1 t2 (uA A 15 u_146) 0 pk H ∧ va_S (fun q : Nat => G q ≠ 0) s.heap H locs ∧ (True) ∧ HID (((¬ ((A 13) n_4).toInt = ((A 12) n_4).toInt) ∧ u_146 = (A 15)) ∨ ((((A 13) n_4).toInt = ((A 12) n_4).toInt) ∧ ∃ g_149 : Nat → Int32, (g_149 = upd (A 15) n_4 0) ∧ u_146 = g_149))) (f := F0 m 143 ls []) (fun u_146 H locs hI => ?_) (fun key_146 => ?_)
              · obtain ⟨hM, hS, hF_146, hJ_146⟩ := hI
                refine lv_aload_n hx hb dX10_push_143 rfl (lv_at hl 4 rfl) ?_
                refine va_get (D := DG E) (ci := 10) (v := .ref (rf 24)) (C := RX10) (T := TX10) (N := 49) hx hb hts iw_X10 hown hK.1 (va_one hM.1) 0 rfl rfl 24 (by decide) (hts _ fl_X10_71) (fun _ h9 => h9) rfl dX10_push_144 ?_
                refine lv_iload_n hx hb dX10_push_147 rfl (lv_at hl 2 rfl) ?_
                have ha_150 : va_at (DG E) vwCl (rf 24, .inl (E.2.2 0, 16, .inl (A 24))) _ := hM.2 24 (by decide) (by decide) (by decide)
                refine va_iald (D := DG E) hx hb hK.1 (va_one ha_150) 0 0 rfl rfl hi_14 dX10_push_148 ?_
                refine W.eq (g2 := F0 m 149 ls [.int ((A 24) (4 * n_4 + i0))]) (by rw [en_13]) ?_
                have q_151 : 0 ≤ ((A 24) (4 * n_4 + i0)).toInt := (hI6 (4 * n_4 + i0) hk_18).2.2.2.1
                have q_152 : ((A 24) (4 * n_4 + i0)).toInt ≤ 12 := (hI6 (4 * n_4 + i0) hk_18).2.2.2.2.1
                have q_153 : ((A 23) (4 * n_4 + i0)).toInt + ((A 24) (4 * n_4 + i0)).toInt ≤ 32 := (hI6 (4 * n_4 + i0) hk_18).2.2.2.2.2.1
                refine lv_iconst (v := 4) hx hb dX10_push_149 (by decide) ?_
                refine lv_iload hx hb dX10_push_150 (lv_at hl 1 rfl) ?_
                refine lv_imul hx hb dX10_push_152 ?_
                refine lv_topi (fun x_154 ex_154 => ?_)
                have fx_154 : x_154.toInt = 4 * x_16.toInt := by rw [ex_154]; exact s_mulK i_4 (by omega) (by omega)
                refine lv_isub hx hb dX10_push_153 ?_
                refine lv_topi (fun x_155 ex_155 => ?_)
                have fx_155 : x_155.toInt = ((A 24) (4 * n_4 + i0)).toInt - x_154.toInt := by have h9 := s_sub (x := ((A 24) (4 * n_4 + i0))) (y := x_154) (by omega) (by omega); rw [ex_155]; exact h9
                refine lv_istore (lv' := [(6, .int x_155), (5, .int x_139), (4, .int x_16), (3, .int r_12), (2, .int ((A 13) n_4)), (0, .ref h0), (1, .int p0)]) hx hb dX10_push_154 hl (by decide) rfl (fun ls hl => ?_)
                refine W.jv (P := fun v_156 : Int32 => (0 ≤ v_156.toInt ∧ v_156.toInt ≤ 1) ∧ HID (((¬ x_16.toInt = 0) ∧ v_156 = 0) ∨ ((x_16.toInt = 0) ∧ v_156 = 1))) (f := fun v_156 => F0 m 166 ls ([.int v_156])) (fun v_156 hv_156 => ?_) (fun key_156 => ?_)
                · have hv_156_0 : 0 ≤ v_156.toInt ∧ v_156.toInt ≤ 1 := hv_156.1
                  refine lv_iload hx hb dX10_push_166 (lv_at hl 2 rfl) ?_
                  refine lv_aload_n hx hb dX10_push_168 rfl (lv_at hl 5 rfl) ?_
                  refine lv_iload_n hx hb dX10_push_169 rfl (lv_at hl 3 rfl) ?_
                  refine va_calli (rnV (fun H => MH E h0 rf t0 t1 t2 (uA A 15 u_146) 0 pk H) (As := [.int r_12]) (rest := [.int x_16, .int v_156]) ⟨hx, hb, hml, hown, hts⟩ (u_X10_numbersOf l E z0 G hGz h0 rf hR t0 t1 t2 (uA A 15 u_146) 0 pk r_12 hI6 (show 0 ≤ r_12.toInt ∧ r_12.toInt ≤ 15 from by first | decide | omega)) (cwV 1 hts (gdV ml_X10_178 im_X10_numbersOf se_X10_X10_numbersOf in_X10 co_X10_numbersOf rfl) rfl rfl rfl (by decide +kernel) ⟨Nat.le_of_ble_eq_true rfl, Nat.le_of_ble_eq_true rfl⟩) hM (fun U hU hW => hK.go hW hS hAz hU) (va_recv hK.1 (va_one hM.1) (ci := 10) (q0 := 0) rfl rfl) rfl rfl hl.1 rfl (lv_room (Nat.le_of_ble_eq_true rfl)) dX10_push_170 ⟨Nat.le_of_ble_eq_true rfl, Nat.le_of_ble_eq_true rfl⟩) hS (fun q _ h => h.elim) (fun q h => h.elim) (fun r_158 ur_158 t H locs ht hvm hwr_158 hB hz hk hS => ?_)
                  have hM := hM.kept (fun q hq => hk q hq (fun h => h))
                  have hDr_158 : D_X10_numbersOf (uA A 15 u_146) (0 : Int32) pk r_12 r_158 := hwr_158.2.2
                  have hpr_158_0 : 0 ≤ r_158.toInt ∧ r_158.toInt ≤ 3 := hwr_158.1
                  have hpr_158_1 : ∀ n : Nat, (n : Int) = r_12.toInt → r_158.toInt = NB (A 24) n := hwr_158.2.1
                  have iahpr_158_1 := hpr_158_1 (4 * n_4 + i0) (by omega)
                  refine W.jv (P := fun v_159 : Int32 => (0 ≤ v_159.toInt ∧ v_159.toInt ≤ 2) ∧ HID ((∃ x_160 : Int32, (x_160 = r_158 - 1) ∧ (x_160.toInt = r_158.toInt - 1) ∧ (¬ x_16.toInt = x_160.toInt) ∧ v_159 = 0) ∨ (∃ x_160 : Int32, (x_160 = r_158 - 1) ∧ (x_160.toInt = r_158.toInt - 1) ∧ (x_16.toInt = x_160.toInt) ∧ v_159 = 2))) (f := fun v_159 => F0 m 183 ls ([.int v_159, .int v_156])) (fun v_159 hv_159 => ?_) (fun key_159 => ?_)
                  · have hv_159_0 : 0 ≤ v_159.toInt ∧ v_159.toInt ≤ 2 := hv_159.1
                    refine lv_iadd hx hb dX10_push_183 ?_
                    refine lv_topi (fun x_162 ex_162 => ?_)
                    have fx_162 : x_162.toInt = v_156.toInt + v_159.toInt := by have h9 := s_add (x := v_156) (y := v_159) (by omega) (by omega); rw [ex_162]; exact h9
                    refine lv_istore (lv' := [(7, .int x_162), (6, .int x_155), (5, .int x_139), (4, .int x_16), (3, .int r_12), (2, .int ((A 13) n_4)), (0, .ref h0), (1, .int p0)]) hx hb dX10_push_184 hl (by decide) rfl (fun ls hl => ?_)
                    refine lv_aload_n hx hb dX10_push_186 rfl (lv_at hl 6 rfl) ?_
                    refine lv_iload_n hx hb dX10_push_187 rfl (lv_at hl 7 rfl) ?_
                    refine lv_aload_n hx hb dX10_push_188 rfl (lv_at hl 6 rfl) ?_
                    refine va_get (D := DG E) (ci := 10) (v := .ref (rf 22)) (C := RX10) (T := TX10) (N := 49) hx hb hts iw_X10 hown hK.1 (va_one hM.1) 0 rfl rfl 22 (by decide) (hts _ fl_X10_65) (fun _ h9 => h9) rfl dX10_push_189 ?_
                    refine lv_iload_n hx hb dX10_push_192 rfl (lv_at hl 4 rfl) ?_
                    have ha_163 : va_at (DG E) vwCl (rf 22, .inl (E.2.2 0, 16, .inl (A 22))) _ := hM.2 22 (by decide) (by decide) (by decide)
                    refine va_iald (D := DG E) hx hb hK.1 (va_one ha_163) 0 0 rfl rfl hi_14 dX10_push_193 ?_
                    refine W.eq (g2 := F0 m 194 ls [.int ((A 22) (4 * n_4 + i0)), .int p0, .ref h0]) (by rw [en_13]) ?_
                    refine lv_iload_n hx hb dX10_push_194 rfl (lv_at hl 5 rfl) ?_
                    refine lv_aload_n hx hb dX10_push_195 rfl (lv_at hl 6 rfl) ?_
                    refine va_get (D := DG E) (ci := 10) (v := .ref (rf 22)) (C := RX10) (T := TX10) (N := 49) hx hb hts iw_X10 hown hK.1 (va_one hM.1) 0 rfl rfl 22 (by decide) (hts _ fl_X10_65) (fun _ h9 => h9) rfl dX10_push_196 ?_
                    refine lv_iload_n hx hb dX10_push_199 rfl (lv_at hl 4 rfl) ?_
                    have ha_164 : va_at (DG E) vwCl (rf 22, .inl (E.2.2 0, 16, .inl (A 22))) _ := hM.2 22 (by decide) (by decide) (by decide)
                    refine va_iald (D := DG E) hx hb hK.1 (va_one ha_164) 0 0 rfl rfl hi_14 dX10_push_200 ?_
                    refine W.eq (g2 := F0 m 201 ls [.int ((A 22) (4 * n_4 + i0)), .int ((A 13) n_4), .int ((A 22) (4 * n_4 + i0)), .int p0, .ref h0]) (by rw [en_13]) ?_
                    refine lv_if_ne (tgt := 209) hx hb dX10_push_201 (by decide) (fun c_165 => ?_) (fun c_165 => by exfalso; simp only [lt_I, le_I, eq_I, i_0, i_1, i_2, i_3, i_4, i_5, i_6, i_7, i_8, i_10, i_12, i_16, i_20, i_23, i_24, i_31, i_32, i_63, i_64, i_m1, i_9, i_11, i_13, i_25, i_60, i_75, i_79, i_80, i_96, i_100] at c_165; omega)
                    simp only [lt_I, le_I, eq_I, i_0, i_1, i_2, i_3, i_4, i_5, i_6, i_7, i_8, i_10, i_12, i_16, i_20, i_23, i_24, i_31, i_32, i_63, i_64, i_m1, i_9, i_11, i_13, i_25, i_60, i_75, i_79, i_80, i_96, i_100] at c_165
                    refine lv_aload_n hx hb dX10_push_209 rfl (lv_at hl 6 rfl) ?_
                    refine va_get (D := DG E) (ci := 10) (v := .ref (rf 25)) (C := RX10) (T := TX10) (N := 49) hx hb hts iw_X10 hown hK.1 (va_one hM.1) 0 rfl rfl 25 (by decide) (hts _ fl_X10_74) (fun _ h9 => h9) rfl dX10_push_210 ?_
                    refine lv_iload_n hx hb dX10_push_213 rfl (lv_at hl 4 rfl) ?_
                    have ha_166 : va_at (DG E) vwCl (rf 25, .inl (E.2.2 0, 16, .inl (A 25))) _ := hM.2 25 (by decide) (by decide) (by decide)
                    refine va_iald (D := DG E) hx hb hK.1 (va_one ha_166) 0 0 rfl rfl hi_14 dX10_push_214 ?_
                    refine W.eq (g2 := F0 m 215 ls [.int ((A 25) (4 * n_4 + i0)), .int ((A 13) n_4), .int ((A 22) (4 * n_4 + i0)), .int p0, .ref h0]) (by rw [en_13]) ?_
                    refine lv_aload_n hx hb dX10_push_215 rfl (lv_at hl 6 rfl) ?_
                    refine va_get (D := DG E) (ci := 10) (v := .ref (rf 22)) (C := RX10) (T := TX10) (N := 49) hx hb hts iw_X10 hown hK.1 (va_one hM.1) 0 rfl rfl 22 (by decide) (hts _ fl_X10_65) (fun _ h9 => h9) rfl dX10_push_216 ?_
                    refine lv_iload_n hx hb dX10_push_219 rfl (lv_at hl 4 rfl) ?_
                    have ha_167 : va_at (DG E) vwCl (rf 22, .inl (E.2.2 0, 16, .inl (A 22))) _ := hM.2 22 (by decide) (by decide) (by decide)
                    refine va_iald (D := DG E) hx hb hK.1 (va_one ha_167) 0 0 rfl rfl hi_14 dX10_push_220 ?_
                    refine W.eq (g2 := F0 m 221 ls [.int ((A 22) (4 * n_4 + i0)), .int ((A 25) (4 * n_4 + i0)), .int ((A 13) n_4), .int ((A 22) (4 * n_4 + i0)), .int p0, .ref h0]) (by rw [en_13]) ?_
                    refine lv_if_ne (tgt := 228) hx hb dX10_push_221 (by decide) (fun c_168 => ?_) (fun c_168 => by exfalso; simp only [lt_I, le_I, eq_I, i_0, i_1, i_2, i_3, i_4, i_5, i_6, i_7, i_8, i_10, i_12, i_16, i_20, i_23, i_24, i_31, i_32, i_63, i_64, i_m1, i_9, i_11, i_13, i_25, i_60, i_75, i_79, i_80, i_96, i_100] at c_168; omega)
                    simp only [lt_I, le_I, eq_I, i_0, i_1, i_2, i_3, i_4, i_5, i_6, i_7, i_8, i_10, i_12, i_16, i_20, i_23, i_24, i_31, i_32, i_63, i_64, i_m1, i_9, i_11, i_13, i_25, i_60, i_75, i_79, i_80, i_96, i_100] at c_168
                    refine lv_aload_n hx hb dX10_push_228 rfl (lv_at hl 6 rfl) ?_
                    refine va_get (D := DG E) (ci := 10) (v := .ref (rf 26)) (C := RX10) (T := TX10) (N := 49) hx hb hts iw_X10 hown hK.1 (va_one hM.1) 0 rfl rfl 26 (by decide) (hts _ fl_X10_77) (fun _ h9 => h9) rfl dX10_push_229 ?_
                    refine lv_iload_n hx hb dX10_push_232 rfl (lv_at hl 4 rfl) ?_
                    have ha_169 : va_at (DG E) vwCl (rf 26, .inl (E.2.2 0, 16, .inl (A 26))) _ := hM.2 26 (by decide) (by decide) (by decide)
                    refine va_iald (D := DG E) hx hb hK.1 (va_one ha_169) 0 0 rfl rfl hi_14 dX10_push_233 ?_
                    refine W.eq (g2 := F0 m 234 ls [.int ((A 26) (4 * n_4 + i0)), .int ((A 25) (4 * n_4 + i0)), .int ((A 13) n_4), .int ((A 22) (4 * n_4 + i0)), .int p0, .ref h0]) (by rw [en_13]) ?_
                    have q_170 : -1 ≤ ((A 26) (4 * n_4 + i0)).toInt := (hI6 (4 * n_4 + i0) hk_18).2.2.2.2.2.2.2.1
                    have q_171 : ((A 26) (4 * n_4 + i0)).toInt ≤ 31 := (hI6 (4 * n_4 + i0) hk_18).2.2.2.2.2.2.2.2
                    refine lv_iconst (v := 4) hx hb dX10_push_234 (by decide) ?_
                    refine lv_iload hx hb dX10_push_235 (lv_at hl 3 rfl) ?_
                    refine lv_imul hx hb dX10_push_237 ?_
                    refine W.eq (g2 := F0 m 238 ls [.int x_154, .int ((A 26) (4 * n_4 + i0)), .int ((A 25) (4 * n_4 + i0)), .int ((A 13) n_4), .int ((A 22) (4 * n_4 + i0)), .int p0, .ref h0]) (by rw [ex_154]) ?_
                    refine lv_iadd hx hb dX10_push_238 ?_
                    refine lv_topi (fun x_172 ex_172 => ?_)
                    have fx_172 : x_172.toInt = ((A 26) (4 * n_4 + i0)).toInt + x_154.toInt := by have h9 := s_add (x := ((A 26) (4 * n_4 + i0))) (y := x_154) (by omega) (by omega); rw [ex_172]; exact h9
                    refine lv_aload_n hx hb dX10_push_239 rfl (lv_at hl 6 rfl) ?_
                    refine va_get (D := DG E) (ci := 10) (v := .ref (rf 27)) (C := RX10) (T := TX10) (N := 49) hx hb hts iw_X10 hown hK.1 (va_one hM.1) 0 rfl rfl 27 (by decide) (hts _ fl_X10_80) (fun _ h9 => h9) rfl dX10_push_240 ?_
                    refine lv_iload_n hx hb dX10_push_243 rfl (lv_at hl 4 rfl) ?_
                    have ha_173 : va_at (DG E) vwCl (rf 27, .inl (E.2.2 0, 16, .inl (A 27))) _ := hM.2 27 (by decide) (by decide) (by decide)
                    refine va_iald (D := DG E) hx hb hK.1 (va_one ha_173) 0 0 rfl rfl hi_14 dX10_push_244 ?_
                    refine W.eq (g2 := F0 m 245 ls [.int ((A 27) (4 * n_4 + i0)), .int x_172, .int ((A 25) (4 * n_4 + i0)), .int ((A 13) n_4), .int ((A 22) (4 * n_4 + i0)), .int p0, .ref h0]) (by rw [en_13]) ?_
                    refine va_calli (rnV (fun H => MH E h0 rf t0 t1 t2 (uA A 15 u_146) 0 pk H) (As := [.int p0, .int ((A 22) (4 * n_4 + i0)), .int ((A 13) n_4), .int ((A 25) (4 * n_4 + i0)), .int x_172, .int ((A 27) (4 * n_4 + i0))]) (rest := []) ⟨hx, hb, hml, hown, hts⟩ (u_X10_emit l E z0 G hGz h0 rf hR t0 t1 t2 (uA A 15 u_146) 0 pk p0 ((A 22) (4 * n_4 + i0)) ((A 13) n_4) ((A 25) (4 * n_4 + i0)) x_172 ((A 27) (4 * n_4 + i0)) hI7 (show 0 ≤ p0.toInt ∧ p0.toInt ≤ 3 from by first | decide | omega) (show 0 ≤ pk.toInt ∧ pk.toInt ≤ 24 from by first | decide | omega) (show -1 ≤ x_172.toInt ∧ x_172.toInt ≤ 60 from by first | decide | omega) (show 0 ≤ ((A 22) (4 * n_4 + i0)).toInt from by first | decide | omega) (show ((A 22) (4 * n_4 + i0)).toInt < 1 ∨ 3 < ((A 22) (4 * n_4 + i0)).toInt ∨ (0 ≤ ((A 25) (4 * n_4 + i0)).toInt ∧ ((A 25) (4 * n_4 + i0)).toInt ≤ 5) from by first | decide | omega)) (cwV 6 hts (gdV ml_X10_199 im_X10_emit se_X10_X10_emit in_X10 co_X10_emit rfl) rfl rfl rfl (by decide +kernel) ⟨Nat.le_of_ble_eq_true rfl, Nat.le_of_ble_eq_true rfl⟩) hM (fun U hU hW => hK.go hW hS hAz hU) (va_recv hK.1 (va_one hM.1) (ci := 10) (q0 := 0) rfl rfl) rfl rfl hl.1 rfl (lv_room (Nat.le_of_ble_eq_true rfl)) dX10_push_245 ⟨Nat.le_of_ble_eq_true rfl, Nat.le_of_ble_eq_true rfl⟩) hS (fun q _ h => h) (fun q h => h) (fun r_174 ur_174 t H locs ht hvm hwr_174 hB hz hk hS => ?_)
                    have hM : MH E h0 rf t0 t1 t2 (uA (uA (uA (uA (uA (uA (uA (uA A 15 u_146) 41 (ur_174.1)) 42 (ur_174.2.1)) 43 (ur_174.2.2.1)) 44 (ur_174.2.2.2.1)) 45 (ur_174.2.2.2.2.1)) 46 (ur_174.2.2.2.2.2.1)) 47 (ur_174.2.2.2.2.2.2.1)) 0 ur_174.2.2.2.2.2.2.2 H := by rw [ht] at hB; exact hB
                    have hDr_174 : D_X10_emit (uA A 15 u_146) (0 : Int32) pk p0 ((A 22) (4 * n_4 + i0)) ((A 13) n_4) ((A 25) (4 * n_4 + i0)) x_172 ((A 27) (4 * n_4 + i0)) (uA (uA (uA (uA (uA (uA (uA (uA A 15 u_146) 41 (ur_174.1)) 42 (ur_174.2.1)) 43 (ur_174.2.2.1)) 44 (ur_174.2.2.2.1)) 45 (ur_174.2.2.2.2.1)) 46 (ur_174.2.2.2.2.2.1)) 47 (ur_174.2.2.2.2.2.2.1)) (0 : Int32) (ur_174.2.2.2.2.2.2.2) r_174 := hwr_174.2.2.2.2.2
                    have hpr_174_0 : I7 (ur_174.1) (ur_174.2.1) (ur_174.2.2.2.1) (ur_174.2.2.2.2.1) (ur_174.2.2.2.2.2.1) := hwr_174.1
                    have hpr_174_1 : 0 ≤ ur_174.2.2.2.2.2.2.2.toInt ∧ ur_174.2.2.2.2.2.2.2.toInt ≤ 24 := hwr_174.2.1
                    have hpr_174_2 : -1 ≤ r_174.toInt ∧ r_174.toInt ≤ 23 := hwr_174.2.2.1
                    have hpr_174_3 : ∀ n : Nat, (n : Int) = r_174.toInt → (ur_174.2.1) n = ((A 22) (4 * n_4 + i0)) := hwr_174.2.2.2.1
                    have hpr_174_4 : ((ur_174.2.2.2.1) 24).toInt = ((A 44) 24).toInt ∧ ((ur_174.2.2.2.2.2.1) 24).toInt = ((A 46) 24).toInt := hwr_174.2.2.2.2.1
                    refine lv_istore (lv' := [(8, .int r_174), (7, .int x_162), (6, .int x_155), (5, .int x_139), (4, .int x_16), (3, .int r_12), (2, .int ((A 13) n_4)), (0, .ref h0), (1, .int p0)]) hx hb dX10_push_248 hl (by decide) rfl (fun ls hl => ?_)
                    refine lv_aload_n hx hb dX10_push_250 rfl (lv_at hl 7 rfl) ?_
                    refine va_get (D := DG E) (ci := 10) (v := .ref (rf 22)) (C := RX10) (T := TX10) (N := 49) hx hb hts iw_X10 hown hK.1 (va_one hM.1) 0 rfl rfl 22 (by decide) (hts _ fl_X10_65) (fun _ h9 => h9) rfl dX10_push_251 ?_
                    refine lv_iload_n hx hb dX10_push_254 rfl (lv_at hl 5 rfl) ?_
                    have ha_175 : va_at (DG E) vwCl (rf 22, .inl (E.2.2 0, 16, .inl (A 22))) _ := hM.2 22 (by decide) (by decide) (by decide)
                    refine va_iald (D := DG E) hx hb hK.1 (va_one ha_175) 0 0 rfl rfl hi_14 dX10_push_255 ?_
                    refine W.eq (g2 := F0 m 256 ls [.int ((A 22) (4 * n_4 + i0))]) (by rw [en_13]) ?_
                    refine lv_iconst (v := 2) hx hb dX10_push_256 (by decide) ?_
                    refine lv_icmp_ge (tgt := 290) hx hb dX10_push_257 (by decide) (fun c_176 => ?_) (fun c_176 => by exfalso; simp only [lt_I, le_I, eq_I, i_0, i_1, i_2, i_3, i_4, i_5, i_6, i_7, i_8, i_10, i_12, i_16, i_20, i_23, i_24, i_31, i_32, i_63, i_64, i_m1, i_9, i_11, i_13, i_25, i_60, i_75, i_79, i_80, i_96, i_100] at c_176; omega)
                    simp only [lt_I, le_I, eq_I, i_0, i_1, i_2, i_3, i_4, i_5, i_6, i_7, i_8, i_10, i_12, i_16, i_20, i_23, i_24, i_31, i_32, i_63, i_64, i_m1, i_9, i_11, i_13, i_25, i_60, i_75, i_79, i_80, i_96, i_100] at c_176
                    refine lv_aload_n hx hb dX10_push_290 rfl (lv_at hl 7 rfl) ?_
                    refine va_get (D := DG E) (ci := 10) (v := .ref (rf 22)) (C := RX10) (T := TX10) (N := 49) hx hb hts iw_X10 hown hK.1 (va_one hM.1) 0 rfl rfl 22 (by decide) (hts _ fl_X10_65) (fun _ h9 => h9) rfl dX10_push_291 ?_
                    refine lv_iload_n hx hb dX10_push_294 rfl (lv_at hl 5 rfl) ?_
                    have ha_177 : va_at (DG E) vwCl (rf 22, .inl (E.2.2 0, 16, .inl (A 22))) _ := hM.2 22 (by decide) (by decide) (by decide)
                    refine va_iald (D := DG E) hx hb hK.1 (va_one ha_177) 0 0 rfl rfl hi_14 dX10_push_295 ?_
                    refine W.eq (g2 := F0 m 296 ls [.int ((A 22) (4 * n_4 + i0))]) (by rw [en_13]) ?_
                    refine lv_iconst (v := 2) hx hb dX10_push_296 (by decide) ?_
                    refine lv_icmp_ne (tgt := 314) hx hb dX10_push_297 (by decide) (fun c_178 => ?_) (fun c_178 => ?_)
                    · simp only [lt_I, le_I, eq_I, i_0, i_1, i_2, i_3, i_4, i_5, i_6, i_7, i_8, i_10, i_12, i_16, i_20, i_23, i_24, i_31, i_32, i_63, i_64, i_m1, i_9, i_11, i_13, i_25, i_60, i_75, i_79, i_80, i_96, i_100] at c_178
                      refine lv_aload_n hx hb dX10_push_314 rfl (lv_at hl 7 rfl) ?_
                      refine va_get (D := DG E) (ci := 10) (v := .ref (rf 13)) (C := RX10) (T := TX10) (N := 49) hx hb hts iw_X10 hown hK.1 (va_one hM.1) 0 rfl rfl 13 (by decide) (hts _ fl_X10_37) (fun _ h9 => h9) rfl dX10_push_315 ?_
                      refine lv_iload_n hx hb dX10_push_318 rfl (lv_at hl 8 rfl) ?_
                      refine lv_iload_n hx hb dX10_push_319 rfl (lv_at hl 6 rfl) ?_
                      refine lv_iload hx hb dX10_push_320 (lv_at hl 3 rfl) ?_
                      refine lv_iadd hx hb dX10_push_322 ?_
                      refine W.eq (g2 := F0 m 323 ls [.int x_141, .int p0, .ref (rf 13)]) (by rw [ex_141]) ?_
                      refine lv_bipush (v := 64) hx hb dX10_push_323 (by decide) ?_
                      refine lv_irem hx hb dX10_push_325 (by decide) ?_
                      refine lv_topi (fun x_179 ex_179 => ?_)
                      have fx_179 : x_179.toInt = x_141.toInt % 64 := by have h9 := s_rem (x := x_141) 64 (by decide) (by decide) (by omega); rw [ex_179]; exact h9
                      have ha_180 : va_at (DG E) vwCl (rf 13, .inl (E.2.2 0, 4, .inl (A 13))) _ := hM.2 13 (by decide) (by decide) (by decide)
                      refine rr_iast (D := DG E) hx hb hK.1 0 ha_180 hS (by show G (rf 13) ≠ 0; rw [hR.2 13 (by decide) (by decide) (by decide)]; decide) rfl hi_2 dX10_push_326 (fun H locs hn ho hz hS => ?_)
                      rw [en_4] at hn
                      obtain ⟨g_180, eg_180⟩ : ∃ z : Nat → Int32, z = upd (A 13) n_4 x_179 := ⟨_, rfl⟩
                      have sg_180 : g_180 n_4 = x_179 := by rw [eg_180]; exact upd_s
                      have ng_180 : ∀ k, k ≠ n_4 → g_180 k = (A 13) k := fun k hk => by rw [eg_180]; exact upd_n hk
                      have hn : va_at (DG E) vwCl (rf 13, .inl (E.2.2 0, 4, .inl g_180)) H := by rw [eg_180]; exact hn
                      have hM : MH E h0 rf t0 t1 t2 (uA (uA (uA (uA (uA (uA (uA (uA (uA A 15 u_146) 41 (ur_174.1)) 42 (ur_174.2.1)) 43 (ur_174.2.2.1)) 44 (ur_174.2.2.2.1)) 45 (ur_174.2.2.2.2.1)) 46 (ur_174.2.2.2.2.2.1)) 47 (ur_174.2.2.2.2.2.2.1)) 13 g_180) 0 ur_174.2.2.2.2.2.2.2 H := hM.w hR 13 (by decide) (by decide) (by decide) hn ho
                      refine lv_iload_n hx hb dX10_push_327 rfl (lv_at hl 6 rfl) ?_
                      have hI4_181 : I4 (A 10) (A 20) (A 29) (A 24) (A 11) (A 12) g_180 := by
                        intro k hk
                        by_cases e : k = n_4
                        · rw [e]
                          exact ⟨fun _ => hPn _ (by rw [sg_180]; omega), Or.inl hst0⟩
                        · exact (hI4 k hk).cg rfl rfl (fun _ _ => rfl) (fun _ _ => rfl) rfl rfl (ng_180 k e)
                      exact W.iret (v := ((A 13) n_4)) hx hb hr (fun t ht hW => ⟨⟨((A 13) n_4), ((ur_174.1), (ur_174.2.1), (ur_174.2.2.1), (ur_174.2.2.2.1), (ur_174.2.2.2.2.1), (ur_174.2.2.2.2.2.1), (ur_174.2.2.2.2.2.2.1), (A 48), g_180, u_146, ur_174.2.2.2.2.2.2.2, 0), rfl, ⟨hI4_181, hpr_174_0, (by show 0 ≤ ur_174.2.2.2.2.2.2.2.toInt ∧ ur_174.2.2.2.2.2.2.2.toInt ≤ 24; omega), (Or.inl ⟨c_1r, n_4, hn_4, (Or.inr ⟨c_5, (Or.inr ⟨c_8, (Or.inl ⟨c_10, r_12, hpr_12_0, hpr_12_1, i0, hi4, hn_13, x_16, ex_16, (Or.inr ⟨c_22, r_138, hDr_138, hpr_138_0, hpr_138_1, x_139, ex_139, fx_139, x_141, ex_141, fx_141, x_142, ex_142, fx_142, x_143, ex_143, fx_143, x_144, ex_144, fx_144, (Or.inl ⟨c_145, u_146, hJ_146, x_154, ex_154, fx_154, x_155, ex_155, fx_155, v_156, hv_156.2, r_158, hDr_158, hpr_158_0, hpr_158_1, v_159, hv_159.2, x_162, ex_162, fx_162, x_172, ex_172, fx_172, ur_174, r_174, hDr_174, hpr_174_0, hpr_174_1, hpr_174_2, hpr_174_3, hpr_174_4, (Or.inl ⟨c_178, x_179, ex_179, fx_179, g_180, eg_180, rfl, rfl, rfl, rfl⟩)⟩)⟩)⟩)⟩)⟩)⟩)⟩, (by show MH E h0 rf t0 t1 t2 (uA (uA (uA (uA (uA (uA (uA (uA (uA (uA A 41 (ur_174.1)) 42 (ur_174.2.1)) 43 (ur_174.2.2.1)) 44 (ur_174.2.2.2.1)) 45 (ur_174.2.2.2.2.1)) 46 (ur_174.2.2.2.2.2.1)) 47 (ur_174.2.2.2.2.2.2.1)) 48 (A 48)) 13 g_180) 15 u_146) 0 ur_174.2.2.2.2.2.2.2 t.heap; rw [ht]; exact hM.cge (funext fun j => (cgj j 48 rfl (fun a0 => (cgj j 47 rfl (fun a1 => (cgj j 46 rfl (fun a2 => (cgj j 45 rfl (fun a3 => (cgj j 44 rfl (fun a4 => (cgj j 43 rfl (fun a5 => (cgj j 42 rfl (fun a6 => (cgj j 41 rfl (fun a7 => (cgj j 15 rfl (fun a8 => (cgj j 13 rfl (fun a9 => (by simp only [uA_n a0, uA_n a1, uA_n a2, uA_n a3, uA_n a4, uA_n a5, uA_n a6, uA_n a7, uA_n a8, uA_n a9])))))))))))))))))))))))⟩, hS.F ht⟩) hS.2.2 dX10_push_328
                    · simp only [lt_I, le_I, eq_I, i_0, i_1, i_2, i_3, i_4, i_5, i_6, i_7, i_8, i_10, i_12, i_16, i_20, i_23, i_24, i_31, i_32, i_63, i_64, i_m1, i_9, i_11, i_13, i_25, i_60, i_75, i_79, i_80, i_96, i_100] at c_178
                      refine lv_iload hx hb dX10_push_300 (lv_at hl 0 rfl) ?_
                      refine lv_if_lt (tgt := 314) hx hb dX10_push_302 (by decide) (fun c_182 => ?_) (fun c_182 => ?_)
                      · simp only [lt_I, le_I, eq_I, i_0, i_1, i_2, i_3, i_4, i_5, i_6, i_7, i_8, i_10, i_12, i_16, i_20, i_23, i_24, i_31, i_32, i_63, i_64, i_m1, i_9, i_11, i_13, i_25, i_60, i_75, i_79, i_80, i_96, i_100] at c_182
                        refine lv_aload_n hx hb dX10_push_314 rfl (lv_at hl 7 rfl) ?_
                        refine va_get (D := DG E) (ci := 10) (v := .ref (rf 13)) (C := RX10) (T := TX10) (N := 49) hx hb hts iw_X10 hown hK.1 (va_one hM.1) 0 rfl rfl 13 (by decide) (hts _ fl_X10_37) (fun _ h9 => h9) rfl dX10_push_315 ?_
                        refine lv_iload_n hx hb dX10_push_318 rfl (lv_at hl 8 rfl) ?_
                        refine lv_iload_n hx hb dX10_push_319 rfl (lv_at hl 6 rfl) ?_
                        refine lv_iload hx hb dX10_push_320 (lv_at hl 3 rfl) ?_
                        refine lv_iadd hx hb dX10_push_322 ?_
                        refine W.eq (g2 := F0 m 323 ls [.int x_141, .int p0, .ref (rf 13)]) (by rw [ex_141]) ?_
                        refine lv_bipush (v := 64) hx hb dX10_push_323 (by decide) ?_
                        refine lv_irem hx hb dX10_push_325 (by decide) ?_
                        refine lv_topi (fun x_183 ex_183 => ?_)
                        have fx_183 : x_183.toInt = x_141.toInt % 64 := by have h9 := s_rem (x := x_141) 64 (by decide) (by decide) (by omega); rw [ex_183]; exact h9
                        have ha_184 : va_at (DG E) vwCl (rf 13, .inl (E.2.2 0, 4, .inl (A 13))) _ := hM.2 13 (by decide) (by decide) (by decide)
                        refine rr_iast (D := DG E) hx hb hK.1 0 ha_184 hS (by show G (rf 13) ≠ 0; rw [hR.2 13 (by decide) (by decide) (by decide)]; decide) rfl hi_2 dX10_push_326 (fun H locs hn ho hz hS => ?_)
                        rw [en_4] at hn
                        obtain ⟨g_184, eg_184⟩ : ∃ z : Nat → Int32, z = upd (A 13) n_4 x_183 := ⟨_, rfl⟩
                        have sg_184 : g_184 n_4 = x_183 := by rw [eg_184]; exact upd_s
                        have ng_184 : ∀ k, k ≠ n_4 → g_184 k = (A 13) k := fun k hk => by rw [eg_184]; exact upd_n hk
                        have hn : va_at (DG E) vwCl (rf 13, .inl (E.2.2 0, 4, .inl g_184)) H := by rw [eg_184]; exact hn
                        have hM : MH E h0 rf t0 t1 t2 (uA (uA (uA (uA (uA (uA (uA (uA (uA A 15 u_146) 41 (ur_174.1)) 42 (ur_174.2.1)) 43 (ur_174.2.2.1)) 44 (ur_174.2.2.2.1)) 45 (ur_174.2.2.2.2.1)) 46 (ur_174.2.2.2.2.2.1)) 47 (ur_174.2.2.2.2.2.2.1)) 13 g_184) 0 ur_174.2.2.2.2.2.2.2 H := hM.w hR 13 (by decide) (by decide) (by decide) hn ho
                        refine lv_iload_n hx hb dX10_push_327 rfl (lv_at hl 6 rfl) ?_
                        have hI4_185 : I4 (A 10) (A 20) (A 29) (A 24) (A 11) (A 12) g_184 := by
                          intro k hk
                          by_cases e : k = n_4
                          · rw [e]
                            exact ⟨fun _ => hPn _ (by rw [sg_184]; omega), Or.inl hst0⟩
                          · exact (hI4 k hk).cg rfl rfl (fun _ _ => rfl) (fun _ _ => rfl) rfl rfl (ng_184 k e)
                        exact W.iret (v := ((A 13) n_4)) hx hb hr (fun t ht hW => ⟨⟨((A 13) n_4), ((ur_174.1), (ur_174.2.1), (ur_174.2.2.1), (ur_174.2.2.2.1), (ur_174.2.2.2.2.1), (ur_174.2.2.2.2.2.1), (ur_174.2.2.2.2.2.2.1), (A 48), g_184, u_146, ur_174.2.2.2.2.2.2.2, 0), rfl, ⟨hI4_185, hpr_174_0, (by show 0 ≤ ur_174.2.2.2.2.2.2.2.toInt ∧ ur_174.2.2.2.2.2.2.2.toInt ≤ 24; omega), (Or.inl ⟨c_1r, n_4, hn_4, (Or.inr ⟨c_5, (Or.inr ⟨c_8, (Or.inl ⟨c_10, r_12, hpr_12_0, hpr_12_1, i0, hi4, hn_13, x_16, ex_16, (Or.inr ⟨c_22, r_138, hDr_138, hpr_138_0, hpr_138_1, x_139, ex_139, fx_139, x_141, ex_141, fx_141, x_142, ex_142, fx_142, x_143, ex_143, fx_143, x_144, ex_144, fx_144, (Or.inl ⟨c_145, u_146, hJ_146, x_154, ex_154, fx_154, x_155, ex_155, fx_155, v_156, hv_156.2, r_158, hDr_158, hpr_158_0, hpr_158_1, v_159, hv_159.2, x_162, ex_162, fx_162, x_172, ex_172, fx_172, ur_174, r_174, hDr_174, hpr_174_0, hpr_174_1, hpr_174_2, hpr_174_3, hpr_174_4, (Or.inr ⟨c_178, (Or.inl ⟨c_182, x_183, ex_183, fx_183, g_184, eg_184, rfl, rfl, rfl, rfl⟩)⟩)⟩)⟩)⟩)⟩)⟩)⟩)⟩, (by show MH E h0 rf t0 t1 t2 (uA (uA (uA (uA (uA (uA (uA (uA (uA (uA A 41 (ur_174.1)) 42 (ur_174.2.1)) 43 (ur_174.2.2.1)) 44 (ur_174.2.2.2.1)) 45 (ur_174.2.2.2.2.1)) 46 (ur_174.2.2.2.2.2.1)) 47 (ur_174.2.2.2.2.2.2.1)) 48 (A 48)) 13 g_184) 15 u_146) 0 ur_174.2.2.2.2.2.2.2 t.heap; rw [ht]; exact hM.cge (funext fun j => (cgj j 48 rfl (fun a0 => (cgj j 47 rfl (fun a1 => (cgj j 46 rfl (fun a2 => (cgj j 45 rfl (fun a3 => (cgj j 44 rfl (fun a4 => (cgj j 43 rfl (fun a5 => (cgj j 42 rfl (fun a6 => (cgj j 41 rfl (fun a7 => (cgj j 15 rfl (fun a8 => (cgj j 13 rfl (fun a9 => (by simp only [uA_n a0, uA_n a1, uA_n a2, uA_n a3, uA_n a4, uA_n a5, uA_n a6, uA_n a7, uA_n a8, uA_n a9])))))))))))))))))))))))⟩, hS.F ht⟩) hS.2.2 dX10_push_328
                      · simp only [lt_I, le_I, eq_I, i_0, i_1, i_2, i_3, i_4, i_5, i_6, i_7, i_8, i_10, i_12, i_16, i_20, i_23, i_24, i_31, i_32, i_63, i_64, i_m1, i_9, i_11, i_13, i_25, i_60, i_75, i_79, i_80, i_96, i_100] at c_182
                        obtain ⟨n_186, hn_186, en_186⟩ := s_nat (x := r_174) (by omega)
                        have hkd : ((ur_174.2.1) n_186).toInt = ((A 22) (4 * n_4 + i0)).toInt := by rw [hpr_174_3 n_186 (by omega)]
                        refine lv_aload_n hx hb dX10_push_305 rfl (lv_at hl 7 rfl) ?_
                        refine va_get (D := DG E) (ci := 10) (v := .ref (rf 44)) (C := RX10) (T := TX10) (N := 49) hx hb hts iw_X10 hown hK.1 (va_one hM.1) 0 rfl rfl 44 (by decide) (hts _ fl_X10_128) (fun _ h9 => h9) rfl dX10_push_306 ?_
                        refine lv_iload hx hb dX10_push_309 (lv_at hl 0 rfl) ?_
                        refine lv_iload hx hb dX10_push_311 (lv_at hl 2 rfl) ?_
                        have hi_187 : vp_in r_174 25 := vp_in_iff.mpr (by omega)
                        have ha_188 : va_at (DG E) vwCl (rf 44, .inl (E.2.2 0, 25, .inl (ur_174.2.2.2.1))) _ := hM.2 44 (by decide) (by decide) (by decide)
                        refine rr_iast (D := DG E) hx hb hK.1 0 ha_188 hS (by show G (rf 44) ≠ 0; rw [hR.2 44 (by decide) (by decide) (by decide)]; decide) rfl hi_187 dX10_push_313 (fun H locs hn ho hz hS => ?_)
                        rw [en_186] at hn
                        obtain ⟨g_188, eg_188⟩ : ∃ z : Nat → Int32, z = upd (ur_174.2.2.2.1) n_186 x_155 := ⟨_, rfl⟩
                        have sg_188 : g_188 n_186 = x_155 := by rw [eg_188]; exact upd_s
                        have ng_188 : ∀ k, k ≠ n_186 → g_188 k = (ur_174.2.2.2.1) k := fun k hk => by rw [eg_188]; exact upd_n hk
                        have hn : va_at (DG E) vwCl (rf 44, .inl (E.2.2 0, 25, .inl g_188)) H := by rw [eg_188]; exact hn
                        have hM : MH E h0 rf t0 t1 t2 (uA (uA (uA (uA (uA (uA (uA (uA (uA A 15 u_146) 41 (ur_174.1)) 42 (ur_174.2.1)) 43 (ur_174.2.2.1)) 44 (ur_174.2.2.2.1)) 45 (ur_174.2.2.2.2.1)) 46 (ur_174.2.2.2.2.2.1)) 47 (ur_174.2.2.2.2.2.2.1)) 44 g_188) 0 ur_174.2.2.2.2.2.2.2 H := hM.w hR 44 (by decide) (by decide) (by decide) hn ho
                        refine lv_aload_n hx hb dX10_push_314 rfl (lv_at hl 7 rfl) ?_
                        refine va_get (D := DG E) (ci := 10) (v := .ref (rf 13)) (C := RX10) (T := TX10) (N := 49) hx hb hts iw_X10 hown hK.1 (va_one hM.1) 0 rfl rfl 13 (by decide) (hts _ fl_X10_37) (fun _ h9 => h9) rfl dX10_push_315 ?_
                        refine lv_iload_n hx hb dX10_push_318 rfl (lv_at hl 8 rfl) ?_
                        refine lv_iload_n hx hb dX10_push_319 rfl (lv_at hl 6 rfl) ?_
                        refine lv_iload hx hb dX10_push_320 (lv_at hl 3 rfl) ?_
                        refine lv_iadd hx hb dX10_push_322 ?_
                        refine W.eq (g2 := F0 m 323 ls [.int x_141, .int p0, .ref (rf 13)]) (by rw [ex_141]) ?_
                        refine lv_bipush (v := 64) hx hb dX10_push_323 (by decide) ?_
                        refine lv_irem hx hb dX10_push_325 (by decide) ?_
                        refine lv_topi (fun x_189 ex_189 => ?_)
                        have fx_189 : x_189.toInt = x_141.toInt % 64 := by have h9 := s_rem (x := x_141) 64 (by decide) (by decide) (by omega); rw [ex_189]; exact h9
                        have ha_190 : va_at (DG E) vwCl (rf 13, .inl (E.2.2 0, 4, .inl (A 13))) _ := hM.2 13 (by decide) (by decide) (by decide)
                        refine rr_iast (D := DG E) hx hb hK.1 0 ha_190 hS (by show G (rf 13) ≠ 0; rw [hR.2 13 (by decide) (by decide) (by decide)]; decide) rfl hi_2 dX10_push_326 (fun H locs hn ho hz hS => ?_)
                        rw [en_4] at hn
                        obtain ⟨g_190, eg_190⟩ : ∃ z : Nat → Int32, z = upd (A 13) n_4 x_189 := ⟨_, rfl⟩
                        have sg_190 : g_190 n_4 = x_189 := by rw [eg_190]; exact upd_s
                        have ng_190 : ∀ k, k ≠ n_4 → g_190 k = (A 13) k := fun k hk => by rw [eg_190]; exact upd_n hk
                        have hn : va_at (DG E) vwCl (rf 13, .inl (E.2.2 0, 4, .inl g_190)) H := by rw [eg_190]; exact hn
                        have hM : MH E h0 rf t0 t1 t2 (uA (uA (uA (uA (uA (uA (uA (uA (uA (uA A 15 u_146) 41 (ur_174.1)) 42 (ur_174.2.1)) 43 (ur_174.2.2.1)) 44 (ur_174.2.2.2.1)) 45 (ur_174.2.2.2.2.1)) 46 (ur_174.2.2.2.2.2.1)) 47 (ur_174.2.2.2.2.2.2.1)) 44 g_188) 13 g_190) 0 ur_174.2.2.2.2.2.2.2 H := hM.w hR 13 (by decide) (by decide) (by decide) hn ho
                        refine lv_iload_n hx hb dX10_push_327 rfl (lv_at hl 6 rfl) ?_
                        have hI4_191 : I4 (A 10) (A 20) (A 29) (A 24) (A 11) (A 12) g_190 := by
                          intro k hk
                          by_cases e : k = n_4
                          · rw [e]
                            exact ⟨fun _ => hPn _ (by rw [sg_190]; omega), Or.inl hst0⟩
                          · exact (hI4 k hk).cg rfl rfl (fun _ _ => rfl) (fun _ _ => rfl) rfl rfl (ng_190 k e)
                        have hI7_192 : I7 (ur_174.1) (ur_174.2.1) g_188 (ur_174.2.2.2.2.1) (ur_174.2.2.2.2.2.1) := by
                          intro n9 hn9
                          have h9 : 0 ≤ ((ur_174.1) n9).toInt ∧ ((ur_174.1) n9).toInt ≤ 3 ∧ 0 ≤ ((ur_174.2.2.2.1) n9).toInt ∧ ((ur_174.2.2.2.1) n9).toInt ≤ 12 ∧ (((ur_174.2.1) n9).toInt ≠ 0 ∧ ((ur_174.2.1) n9).toInt ≠ 1 ∧ ((ur_174.2.1) n9).toInt ≠ 4 ∨ ((ur_174.2.2.2.1) n9).toInt ≤ 4) ∧ (((ur_174.2.1) n9).toInt < 1 ∨ 3 < ((ur_174.2.1) n9).toInt ∨ (0 ≤ ((ur_174.2.2.2.2.1) n9).toInt ∧ ((ur_174.2.2.2.2.1) n9).toInt ≤ 5)) ∧ -1 ≤ ((ur_174.2.2.2.2.2.1) n9).toInt ∧ ((ur_174.2.2.2.2.2.1) n9).toInt ≤ 60 ∧ 0 ≤ ((ur_174.2.1) n9).toInt := hpr_174_0 n9 hn9
                          show 0 ≤ ((ur_174.1) n9).toInt ∧ ((ur_174.1) n9).toInt ≤ 3 ∧ 0 ≤ (g_188 n9).toInt ∧ (g_188 n9).toInt ≤ 12 ∧ (((ur_174.2.1) n9).toInt ≠ 0 ∧ ((ur_174.2.1) n9).toInt ≠ 1 ∧ ((ur_174.2.1) n9).toInt ≠ 4 ∨ (g_188 n9).toInt ≤ 4) ∧ (((ur_174.2.1) n9).toInt < 1 ∨ 3 < ((ur_174.2.1) n9).toInt ∨ (0 ≤ ((ur_174.2.2.2.2.1) n9).toInt ∧ ((ur_174.2.2.2.2.1) n9).toInt ≤ 5)) ∧ -1 ≤ ((ur_174.2.2.2.2.2.1) n9).toInt ∧ ((ur_174.2.2.2.2.2.1) n9).toInt ≤ 60 ∧ 0 ≤ ((ur_174.2.1) n9).toInt
                          by_cases ezn_186 : n9 = n_186
                          · rw [ezn_186] at h9 ⊢
                            rw [sg_188]
                            exact ⟨by first | exact h9.1 | omega, by first | exact h9.2.1 | omega, by first | exact h9.2.2.1 | omega, by first | exact h9.2.2.2.1 | omega, by first | exact h9.2.2.2.2.1 | omega, by first | exact h9.2.2.2.2.2.1 | omega, by first | exact h9.2.2.2.2.2.2.1 | omega, by first | exact h9.2.2.2.2.2.2.2.1 | omega, by first | exact h9.2.2.2.2.2.2.2.2 | omega⟩
                          · rw [ng_188 n9 ezn_186]
                            exact h9
                        exact W.iret (v := ((A 13) n_4)) hx hb hr (fun t ht hW => ⟨⟨((A 13) n_4), ((ur_174.1), (ur_174.2.1), (ur_174.2.2.1), g_188, (ur_174.2.2.2.2.1), (ur_174.2.2.2.2.2.1), (ur_174.2.2.2.2.2.2.1), (A 48), g_190, u_146, ur_174.2.2.2.2.2.2.2, 0), rfl, ⟨hI4_191, hI7_192, (by show 0 ≤ ur_174.2.2.2.2.2.2.2.toInt ∧ ur_174.2.2.2.2.2.2.2.toInt ≤ 24; omega), (Or.inl ⟨c_1r, n_4, hn_4, (Or.inr ⟨c_5, (Or.inr ⟨c_8, (Or.inl ⟨c_10, r_12, hpr_12_0, hpr_12_1, i0, hi4, hn_13, x_16, ex_16, (Or.inr ⟨c_22, r_138, hDr_138, hpr_138_0, hpr_138_1, x_139, ex_139, fx_139, x_141, ex_141, fx_141, x_142, ex_142, fx_142, x_143, ex_143, fx_143, x_144, ex_144, fx_144, (Or.inl ⟨c_145, u_146, hJ_146, x_154, ex_154, fx_154, x_155, ex_155, fx_155, v_156, hv_156.2, r_158, hDr_158, hpr_158_0, hpr_158_1, v_159, hv_159.2, x_162, ex_162, fx_162, x_172, ex_172, fx_172, ur_174, r_174, hDr_174, hpr_174_0, hpr_174_1, hpr_174_2, hpr_174_3, hpr_174_4, (Or.inr ⟨c_178, (Or.inr ⟨c_182, n_186, hn_186, g_188, eg_188, x_189, ex_189, fx_189, g_190, eg_190, rfl, rfl, rfl, rfl⟩)⟩)⟩)⟩)⟩)⟩)⟩)⟩)⟩, (by show MH E h0 rf t0 t1 t2 (uA (uA (uA (uA (uA (uA (uA (uA (uA (uA A 41 (ur_174.1)) 42 (ur_174.2.1)) 43 (ur_174.2.2.1)) 44 g_188) 45 (ur_174.2.2.2.2.1)) 46 (ur_174.2.2.2.2.2.1)) 47 (ur_174.2.2.2.2.2.2.1)) 48 (A 48)) 13 g_190) 15 u_146) 0 ur_174.2.2.2.2.2.2.2 t.heap; rw [ht]; exact hM.cge (funext fun j => (cgj j 48 rfl (fun a0 => (cgj j 47 rfl (fun a1 => (cgj j 46 rfl (fun a2 => (cgj j 45 rfl (fun a3 => (cgj j 44 rfl (fun a4 => (cgj j 43 rfl (fun a5 => (cgj j 42 rfl (fun a6 => (cgj j 41 rfl (fun a7 => (cgj j 15 rfl (fun a8 => (cgj j 13 rfl (fun a9 => (by simp only [uA_n a0, uA_n a1, uA_n a2, uA_n a3, uA_n a4, uA_n a5, uA_n a6, uA_n a7, uA_n a8, uA_n a9])))))))))))))))))))))))⟩, hS.F ht⟩) hS.2.2 dX10_push_328
                  · refine lv_iconst (v := 1) hx hb dX10_push_173 (by decide) ?_
                    refine lv_isub hx hb dX10_push_174 ?_
                    refine lv_topi (fun x_160 ex_160 => ?_)
                    have fx_160 : x_160.toInt = r_158.toInt - 1 := by have h9 := s_sub (x := r_158) (y := 1) (by rw [i_1]; omega) (by rw [i_1]; omega); rw [i_1] at h9; rw [ex_160]; exact h9
                    refine lv_icmp_ne (tgt := 182) hx hb dX10_push_175 (by decide) (fun c_161 => ?_) (fun c_161 => ?_)
                    · simp only [lt_I, le_I, eq_I, i_0, i_1, i_2, i_3, i_4, i_5, i_6, i_7, i_8, i_10, i_12, i_16, i_20, i_23, i_24, i_31, i_32, i_63, i_64, i_m1, i_9, i_11, i_13, i_25, i_60, i_75, i_79, i_80, i_96, i_100] at c_161
                      refine lv_iconst (v := 0) hx hb dX10_push_182 (by decide) ?_
                      exact key_159 0 ⟨(by first | decide | omega), (Or.inl ⟨x_160, ex_160, fx_160, c_161, rfl⟩)⟩
                    · simp only [lt_I, le_I, eq_I, i_0, i_1, i_2, i_3, i_4, i_5, i_6, i_7, i_8, i_10, i_12, i_16, i_20, i_23, i_24, i_31, i_32, i_63, i_64, i_m1, i_9, i_11, i_13, i_25, i_60, i_75, i_79, i_80, i_96, i_100] at c_161
                      refine lv_iconst (v := 2) hx hb dX10_push_178 (by decide) ?_
                      refine lv_goto (tgt := 183) hx hb dX10_push_179 (by decide) ?_
                      exact key_159 2 ⟨(by first | decide | omega), (Or.inr ⟨x_160, ex_160, fx_160, c_161, rfl⟩)⟩
                · refine lv_iload hx hb dX10_push_156 (lv_at hl 2 rfl) ?_
                  refine lv_if_ne (tgt := 165) hx hb dX10_push_158 (by decide) (fun c_157 => ?_) (fun c_157 => ?_)
                  · simp only [lt_I, le_I, eq_I, i_0, i_1, i_2, i_3, i_4, i_5, i_6, i_7, i_8, i_10, i_12, i_16, i_20, i_23, i_24, i_31, i_32, i_63, i_64, i_m1, i_9, i_11, i_13, i_25, i_60, i_75, i_79, i_80, i_96, i_100] at c_157
                    refine lv_iconst (v := 0) hx hb dX10_push_165 (by decide) ?_
                    exact key_156 0 ⟨(by first | decide | omega), (Or.inl ⟨c_157, rfl⟩)⟩
                  · simp only [lt_I, le_I, eq_I, i_0, i_1, i_2, i_3, i_4, i_5, i_6, i_7, i_8, i_10, i_12, i_16, i_20, i_23, i_24, i_31, i_32, i_63, i_64, i_m1, i_9, i_11, i_13, i_25, i_60, i_75, i_79, i_80, i_96, i_100] at c_157
                    refine lv_iconst (v := 1) hx hb dX10_push_161 (by decide) ?_
                    refine lv_goto (tgt := 166) hx hb dX10_push_162 (by decide) ?_
                    exact key_156 1 ⟨(by first | decide | omega), (Or.inr ⟨c_157, rfl⟩)⟩
              · refine lv_iload_n hx hb dX10_push_126 rfl (lv_at hl 3 rfl) ?_
                refine lv_aload_n hx hb dX10_push_127 rfl (lv_at hl 4 rfl) ?_
                refine va_get (D := DG E) (ci := 10) (v := .ref (rf 12)) (C := RX10) (T := TX10) (N := 49) hx hb hts iw_X10 hown hK.1 (va_one hM.1) 0 rfl rfl 12 (by decide) (hts _ fl_X10_34) (fun _ h9 => h9) rfl dX10_push_128 ?_
                refine lv_iload_n hx hb dX10_push_131 rfl (lv_at hl 5 rfl) ?_
                have ha_147 : va_at (DG E) vwCl (rf 12, .inl (E.2.2 0, 4, .inl (A 12))) _ := hM.2 12 (by decide) (by decide) (by decide)
                refine va_iald (D := DG E) hx hb hK.1 (va_one ha_147) 0 0 rfl rfl hi_2 dX10_push_132 ?_
                refine W.eq (g2 := F0 m 133 ls [.int ((A 12) n_4), .int ((A 13) n_4)]) (by rw [en_4]) ?_
                refine lv_icmp_ne (tgt := 143) hx hb dX10_push_133 (by decide) (fun c_148 => ?_) (fun c_148 => ?_)
                · simp only [lt_I, le_I, eq_I, i_0, i_1, i_2, i_3, i_4, i_5, i_6, i_7, i_8, i_10, i_12, i_16, i_20, i_23, i_24, i_31, i_32, i_63, i_64, i_m1, i_9, i_11, i_13, i_25, i_60, i_75, i_79, i_80, i_96, i_100] at c_148
                  exact key_146 ((A 15)) _ _ ⟨(by show MH E h0 rf t0 t1 t2 (uA A 15 (A 15)) 0 pk _; exact hM.cge (funext fun j => (cgj j 15 rfl (fun a0 => (by simp only [uA_n a0]))))), hS, trivial, (Or.inl ⟨c_148, rfl⟩)⟩
                · simp only [lt_I, le_I, eq_I, i_0, i_1, i_2, i_3, i_4, i_5, i_6, i_7, i_8, i_10, i_12, i_16, i_20, i_23, i_24, i_31, i_32, i_63, i_64, i_m1, i_9, i_11, i_13, i_25, i_60, i_75, i_79, i_80, i_96, i_100] at c_148
                  refine lv_aload_n hx hb dX10_push_136 rfl (lv_at hl 4 rfl) ?_
                  refine va_get (D := DG E) (ci := 10) (v := .ref (rf 15)) (C := RX10) (T := TX10) (N := 49) hx hb hts iw_X10 hown hK.1 (va_one hM.1) 0 rfl rfl 15 (by decide) (hts _ fl_X10_43) (fun _ h9 => h9) rfl dX10_push_137 ?_
                  refine lv_iload_n hx hb dX10_push_140 rfl (lv_at hl 5 rfl) ?_
                  refine lv_iconst (v := 0) hx hb dX10_push_141 (by decide) ?_
                  have ha_149 : va_at (DG E) vwCl (rf 15, .inl (E.2.2 0, 4, .inl (A 15))) _ := hM.2 15 (by decide) (by decide) (by decide)
                  refine rr_iast (D := DG E) hx hb hK.1 0 ha_149 hS (by show G (rf 15) ≠ 0; rw [hR.2 15 (by decide) (by decide) (by decide)]; decide) rfl hi_2 dX10_push_142 (fun H locs hn ho hz hS => ?_)
                  rw [en_4] at hn
                  obtain ⟨g_149, eg_149⟩ : ∃ z : Nat → Int32, z = upd (A 15) n_4 0 := ⟨_, rfl⟩
                  have sg_149 : g_149 n_4 = 0 := by rw [eg_149]; exact upd_s
                  have ng_149 : ∀ k, k ≠ n_4 → g_149 k = (A 15) k := fun k hk => by rw [eg_149]; exact upd_n hk
                  have hn : va_at (DG E) vwCl (rf 15, .inl (E.2.2 0, 4, .inl g_149)) H := by rw [eg_149]; exact hn
                  have hM : MH E h0 rf t0 t1 t2 (uA A 15 g_149) 0 pk H := hM.w hR 15 (by decide) (by decide) (by decide) hn ho
                  exact key_146 (g_149) _ _ ⟨hM, hS, trivial, (Or.inr ⟨c_148, g_149, eg_149, rfl⟩)⟩
            · simp only [lt_I, le_I, eq_I, i_0, i_1, i_2, i_3, i_4, i_5, i_6, i_7, i_8, i_10, i_12, i_16, i_20, i_23, i_24, i_31, i_32, i_63, i_64, i_m1, i_9, i_11, i_13, i_25, i_60, i_75, i_79, i_80, i_96, i_100] at c_145
              refine lv_iconst (v := (-1)) hx hb dX10_push_124 (by decide) ?_
              exact W.iret (v := (-1)) hx hb hr (fun t ht hW => ⟨⟨(-1), ((A 41), (A 42), (A 43), (A 44), (A 45), (A 46), (A 47), (A 48), (A 13), (A 15), pk, 0), rfl, ⟨hI4, hI7, (by show 0 ≤ pk.toInt ∧ pk.toInt ≤ 24; have := i_m1; omega), (Or.inl ⟨c_1r, n_4, hn_4, (Or.inr ⟨c_5, (Or.inr ⟨c_8, (Or.inl ⟨c_10, r_12, hpr_12_0, hpr_12_1, i0, hi4, hn_13, x_16, ex_16, (Or.inr ⟨c_22, r_138, hDr_138, hpr_138_0, hpr_138_1, x_139, ex_139, fx_139, x_141, ex_141, fx_141, x_142, ex_142, fx_142, x_143, ex_143, fx_143, x_144, ex_144, fx_144, (Or.inr ⟨c_145, rfl, rfl, rfl, rfl⟩)⟩)⟩)⟩)⟩)⟩)⟩, (by show MH E h0 rf t0 t1 t2 (uA (uA (uA (uA (uA (uA (uA (uA (uA (uA A 41 (A 41)) 42 (A 42)) 43 (A 43)) 44 (A 44)) 45 (A 45)) 46 (A 46)) 47 (A 47)) 48 (A 48)) 13 (A 13)) 15 (A 15)) 0 pk t.heap; rw [ht]; exact hM.cge (funext fun j => (cgj j 48 rfl (fun a0 => (cgj j 47 rfl (fun a1 => (cgj j 46 rfl (fun a2 => (cgj j 45 rfl (fun a3 => (cgj j 44 rfl (fun a4 => (cgj j 43 rfl (fun a5 => (cgj j 42 rfl (fun a6 => (cgj j 41 rfl (fun a7 => (cgj j 15 rfl (fun a8 => (cgj j 13 rfl (fun a9 => (by simp only [uA_n a0, uA_n a1, uA_n a2, uA_n a3, uA_n a4, uA_n a5, uA_n a6, uA_n a7, uA_n a8, uA_n a9])))))))))))))))))))))))⟩, hS.F ht⟩) hS.2.2 dX10_push_125
        · simp only [lt_I, le_I, eq_I, i_0, i_1, i_2, i_3, i_4, i_5, i_6, i_7, i_8, i_10, i_12, i_16, i_20, i_23, i_24, i_31, i_32, i_63, i_64, i_m1, i_9, i_11, i_13, i_25, i_60, i_75, i_79, i_80, i_96, i_100] at c_10
          refine lv_iconst (v := (-1)) hx hb dX10_push_49 (by decide) ?_
          exact W.iret (v := (-1)) hx hb hr (fun t ht hW => ⟨⟨(-1), ((A 41), (A 42), (A 43), (A 44), (A 45), (A 46), (A 47), (A 48), (A 13), (A 15), pk, 0), rfl, ⟨hI4, hI7, (by show 0 ≤ pk.toInt ∧ pk.toInt ≤ 24; have := i_m1; omega), (Or.inl ⟨c_1r, n_4, hn_4, (Or.inr ⟨c_5, (Or.inr ⟨c_8, (Or.inr ⟨c_10, rfl, rfl, rfl, rfl⟩)⟩)⟩)⟩)⟩, (by show MH E h0 rf t0 t1 t2 (uA (uA (uA (uA (uA (uA (uA (uA (uA (uA A 41 (A 41)) 42 (A 42)) 43 (A 43)) 44 (A 44)) 45 (A 45)) 46 (A 46)) 47 (A 47)) 48 (A 48)) 13 (A 13)) 15 (A 15)) 0 pk t.heap; rw [ht]; exact hM.cge (funext fun j => (cgj j 48 rfl (fun a0 => (cgj j 47 rfl (fun a1 => (cgj j 46 rfl (fun a2 => (cgj j 45 rfl (fun a3 => (cgj j 44 rfl (fun a4 => (cgj j 43 rfl (fun a5 => (cgj j 42 rfl (fun a6 => (cgj j 41 rfl (fun a7 => (cgj j 15 rfl (fun a8 => (cgj j 13 rfl (fun a9 => (by simp only [uA_n a0, uA_n a1, uA_n a2, uA_n a3, uA_n a4, uA_n a5, uA_n a6, uA_n a7, uA_n a8, uA_n a9])))))))))))))))))))))))⟩, hS.F ht⟩) hS.2.2 dX10_push_50
  · have c_1 := bI_0 c_1
    have c_1r := c_1
    try simp only [lt_I, le_I, eq_I, i_0, i_1, i_2, i_3, i_4, i_5, i_6, i_7, i_8, i_10, i_12, i_16, i_20, i_23, i_24, i_31, i_32, i_63, i_64, i_m1, i_9, i_11, i_13, i_25, i_60, i_75, i_79, i_80, i_96, i_100] at c_1
    refine lv_iconst (v := (-1)) hx hb dX10_push_13 (by decide) ?_
    exact W.iret (v := (-1)) hx hb hr (fun t ht hW => ⟨⟨(-1), ((A 41), (A 42), (A 43), (A 44), (A 45), (A 46), (A 47), (A 48), (A 13), (A 15), pk, 0), rfl, ⟨hI4, hI7, (by show 0 ≤ pk.toInt ∧ pk.toInt ≤ 24; have := i_m1; omega), (Or.inr ⟨c_1r, rfl, rfl, rfl, rfl⟩)⟩, (by show MH E h0 rf t0 t1 t2 (uA (uA (uA (uA (uA (uA (uA (uA (uA (uA A 41 (A 41)) 42 (A 42)) 43 (A 43)) 44 (A 44)) 45 (A 45)) 46 (A 46)) 47 (A 47)) 48 (A 48)) 13 (A 13)) 15 (A 15)) 0 pk t.heap; rw [ht]; exact hM.cge (funext fun j => (cgj j 48 rfl (fun a0 => (cgj j 47 rfl (fun a1 => (cgj j 46 rfl (fun a2 => (cgj j 45 rfl (fun a3 => (cgj j 44 rfl (fun a4 => (cgj j 43 rfl (fun a5 => (cgj j 42 rfl (fun a6 => (cgj j 41 rfl (fun a7 => (cgj j 15 rfl (fun a8 => (cgj j 13 rfl (fun a9 => (by simp only [uA_n a0, uA_n a1, uA_n a2, uA_n a3, uA_n a4, uA_n a5, uA_n a6, uA_n a7, uA_n a8, uA_n a9])))))))))))))))))))))))⟩, hS.F ht⟩) hS.2.2 dX10_push_14
end
