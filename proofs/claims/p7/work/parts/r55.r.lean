theorem dX10_cellsGood_0 : decode cX10_cellsGood 0 = .ok (.iload_n 1, 1) := by decide +kernel
theorem dX10_cellsGood_1 : decode cX10_cellsGood 1 = .ok (.iconst 3, 1) := by decide +kernel
theorem dX10_cellsGood_2 : decode cX10_cellsGood 2 = .ok (.invokestatic 156, 3) := by decide +kernel
theorem dX10_cellsGood_5 : decode cX10_cellsGood 5 = .ok (.ifCond .eq 30, 3) := by decide +kernel
theorem dX10_cellsGood_8 : decode cX10_cellsGood 8 = .ok (.iload_n 3, 1) := by decide +kernel
theorem dX10_cellsGood_9 : decode cX10_cellsGood 9 = .ok (.iconst 1, 1) := by decide +kernel
theorem dX10_cellsGood_10 : decode cX10_cellsGood 10 = .ok (.if_icmp .lt 25, 3) := by decide +kernel
theorem dX10_cellsGood_13 : decode cX10_cellsGood 13 = .ok (.iload_n 3, 1) := by decide +kernel
theorem dX10_cellsGood_14 : decode cX10_cellsGood 14 = .ok (.bipush 12, 2) := by decide +kernel
theorem dX10_cellsGood_16 : decode cX10_cellsGood 16 = .ok (.if_icmp .gt 19, 3) := by decide +kernel
theorem dX10_cellsGood_19 : decode cX10_cellsGood 19 = .ok (.iload_n 2, 1) := by decide +kernel
theorem dX10_cellsGood_20 : decode cX10_cellsGood 20 = .ok (.ifCond .lt 15, 3) := by decide +kernel
theorem dX10_cellsGood_23 : decode cX10_cellsGood 23 = .ok (.iload_n 2, 1) := by decide +kernel
theorem dX10_cellsGood_24 : decode cX10_cellsGood 24 = .ok (.bipush 32, 2) := by decide +kernel
theorem dX10_cellsGood_26 : decode cX10_cellsGood 26 = .ok (.iload_n 3, 1) := by decide +kernel
theorem dX10_cellsGood_27 : decode cX10_cellsGood 27 = .ok (.isub, 1) := by decide +kernel
theorem dX10_cellsGood_28 : decode cX10_cellsGood 28 = .ok (.if_icmp .gt 7, 3) := by decide +kernel
theorem dX10_cellsGood_31 : decode cX10_cellsGood 31 = .ok (.iconst 1, 1) := by decide +kernel
theorem dX10_cellsGood_32 : decode cX10_cellsGood 32 = .ok (.goto 4, 3) := by decide +kernel
theorem dX10_cellsGood_35 : decode cX10_cellsGood 35 = .ok (.iconst 0, 1) := by decide +kernel
theorem dX10_cellsGood_36 : decode cX10_cellsGood 36 = .ok (.ireturn, 1) := by decide +kernel
set_option maxHeartbeats 8000000 in
set_option maxRecDepth 100000 in
theorem u_X10_cellsGood (l : Launch) (E : EE) (z0 : Nat) (G : Nat → Nat) (hGz : ∀ q, G q ≠ 0 → z0 ≤ q) (h0 : Nat) (rf : Nat → Nat) (hR : MG G h0 rf) (t0 t1 t2 : Int32) (A : AA) (cd pk : Int32) (p0 : Int32) (p1 : Int32) (p2 : Int32) : Met l yX10_cellsGood [Cond.code yX10_cellsGood cX10_cellsGood 4 (some .boolean)] ({ frames := 1, cells := 0, slots := 0, locals := 21 } : Room) (va_Pc [.ref h0, .int p0, .int p1, .int p2] (fun U => MH E h0 rf t0 t1 t2 A cd pk U.heap ∧ KS E z0 U)) (va_Qi (fun (r : Int32) (u : Unit) => (r = 0 ∨ r = 1) ∧ (r.toInt = 0 ∨ (0 ≤ p0.toInt ∧ p0.toInt ≤ 3 ∧ 1 ≤ p2.toInt ∧ p2.toInt ≤ 12 ∧ 0 ≤ p1.toInt ∧ p1.toInt ≤ 31 ∧ p1.toInt + p2.toInt ≤ 32)) ∧ (D_X10_cellsGood A cd pk p0 p1 p2 r)) (fun u t => True) (fun _ : Nat => False)) 0 0 (fun _ : Nat => False) := by
  refine Met.ofW (cc := cX10_cellsGood) (maxL := 4) (ret := (some .boolean)) (by decide) rfl ?_
  intro p e s m args below meth c s₁ B hml hv
  obtain ⟨rfl, hM, hK⟩ := hv
  have hx := B.exec
  have hb := B.bytes
  have hr := B.returns
  have hts : ∀ w ∈ TS, w.before ([.ref h0, .int p0, .int p1, .int p2] : List Value).toArray s = true := fun w hw => hK.2.1 w hw _
  have hown : s.vm.findClass RX10 = some m.cls := findClass_of_methodNamed B.named
  have hlocks := B.notSynchronized
  have hS : va_S (fun _ : Nat => False) s.heap s.heap [] := va_S.rf
  have hAz : ∀ q, (fun _ : Nat => False) q → z0 ≤ q := fun _ h => h.elim
  have hl := lv_entry ([.ref h0, .int p0, .int p1, .int p2]) (n := 4) (Nat.le_of_ble_eq_true rfl)
  rw [lg_entry_eq]
  generalize (lg_sl ([.ref h0, .int p0, .int p1, .int p2]) ++ List.replicate (4 - (lg_sl ([.ref h0, .int p0, .int p1, .int p2])).length) Slot.unset).toArray = ls at hl ⊢
  have hl : lv_has ls 4 [(0, .ref h0), (1, .int p0), (2, .int p1), (3, .int p2)] := hl
  refine lv_iload_n hx hb dX10_cellsGood_0 rfl (lv_at hl 1 rfl) ?_
  refine lv_iconst (v := 3) hx hb dX10_cellsGood_1 (by decide) ?_
  refine W.callR (W.runS (As := [.int p0, .int 3]) (rest := []) ⟨hx, hb, hml, hown, hts⟩ (c_X10_within l p0 3) (cwS 2 hts (gdS ml_X10_156 st_X10_within in_X10 co_X10_within rfl) rfl rfl rfl (by decide +kernel) ⟨Nat.le_of_ble_eq_true rfl, Nat.le_of_ble_eq_true rfl⟩) preEq rfl rfl hl.1 rfl (lv_room (Nat.le_of_ble_eq_true rfl)) dX10_cellsGood_2 ⟨Nat.le_of_ble_eq_true rfl, Nat.le_of_ble_eq_true rfl⟩) ?_
  refine W.eq (g2 := F0 m 5 ls [.int (bI (0 ≤ p0.toInt ∧ p0.toInt ≤ (3 : Int32).toInt))]) (by rfl) ?_
  refine lv_if_eq (tgt := 35) hx hb dX10_cellsGood_5 (by decide) (fun c_1 => ?_) (fun c_1 => ?_)
  · have c_1 := bI_0 c_1
    have c_1r := c_1
    try simp only [lt_I, le_I, eq_I, i_0, i_1, i_2, i_3, i_4, i_5, i_6, i_7, i_8, i_10, i_12, i_16, i_20, i_23, i_24, i_31, i_32, i_63, i_64, i_m1, i_9, i_11, i_13, i_25, i_60, i_75, i_79, i_80, i_96, i_100] at c_1
    refine lv_iconst (v := 0) hx hb dX10_cellsGood_35 (by decide) ?_
    exact W.zret (v := 0) (ty := .boolean) hx hb hr rfl (fun t ht hW => ⟨⟨0, (), rfl, ⟨(by decide), (show (0 : Int32).toInt = 0 ∨ (0 ≤ p0.toInt ∧ p0.toInt ≤ 3 ∧ 1 ≤ p2.toInt ∧ p2.toInt ≤ 12 ∧ 0 ≤ p1.toInt ∧ p1.toInt ≤ 31 ∧ p1.toInt + p2.toInt ≤ 32) from (Or.inl rfl)), (Or.inl ⟨c_1r, rfl⟩)⟩, trivial⟩, hS.F ht⟩) hS.2.2 dX10_cellsGood_36
  · have c_1 := bI_n c_1
    have c_1r := c_1
    try simp only [lt_I, le_I, eq_I, i_0, i_1, i_2, i_3, i_4, i_5, i_6, i_7, i_8, i_10, i_12, i_16, i_20, i_23, i_24, i_31, i_32, i_63, i_64, i_m1, i_9, i_11, i_13, i_25, i_60, i_75, i_79, i_80, i_96, i_100] at c_1
    refine lv_iload_n hx hb dX10_cellsGood_8 rfl (lv_at hl 3 rfl) ?_
    refine lv_iconst (v := 1) hx hb dX10_cellsGood_9 (by decide) ?_
    refine lv_icmp_lt (tgt := 35) hx hb dX10_cellsGood_10 (by decide) (fun c_2 => ?_) (fun c_2 => ?_)
    · simp only [lt_I, le_I, eq_I, i_0, i_1, i_2, i_3, i_4, i_5, i_6, i_7, i_8, i_10, i_12, i_16, i_20, i_23, i_24, i_31, i_32, i_63, i_64, i_m1, i_9, i_11, i_13, i_25, i_60, i_75, i_79, i_80, i_96, i_100] at c_2
      refine lv_iconst (v := 0) hx hb dX10_cellsGood_35 (by decide) ?_
      exact W.zret (v := 0) (ty := .boolean) hx hb hr rfl (fun t ht hW => ⟨⟨0, (), rfl, ⟨(by decide), (show (0 : Int32).toInt = 0 ∨ (0 ≤ p0.toInt ∧ p0.toInt ≤ 3 ∧ 1 ≤ p2.toInt ∧ p2.toInt ≤ 12 ∧ 0 ≤ p1.toInt ∧ p1.toInt ≤ 31 ∧ p1.toInt + p2.toInt ≤ 32) from (Or.inl rfl)), (Or.inr (Or.inl ⟨c_1r, c_2, rfl⟩))⟩, trivial⟩, hS.F ht⟩) hS.2.2 dX10_cellsGood_36
    · simp only [lt_I, le_I, eq_I, i_0, i_1, i_2, i_3, i_4, i_5, i_6, i_7, i_8, i_10, i_12, i_16, i_20, i_23, i_24, i_31, i_32, i_63, i_64, i_m1, i_9, i_11, i_13, i_25, i_60, i_75, i_79, i_80, i_96, i_100] at c_2
      refine lv_iload_n hx hb dX10_cellsGood_13 rfl (lv_at hl 3 rfl) ?_
      refine lv_bipush (v := 12) hx hb dX10_cellsGood_14 (by decide) ?_
      refine lv_icmp_gt (tgt := 35) hx hb dX10_cellsGood_16 (by decide) (fun c_3 => ?_) (fun c_3 => ?_)
      · simp only [lt_I, le_I, eq_I, i_0, i_1, i_2, i_3, i_4, i_5, i_6, i_7, i_8, i_10, i_12, i_16, i_20, i_23, i_24, i_31, i_32, i_63, i_64, i_m1, i_9, i_11, i_13, i_25, i_60, i_75, i_79, i_80, i_96, i_100] at c_3
        refine lv_iconst (v := 0) hx hb dX10_cellsGood_35 (by decide) ?_
        exact W.zret (v := 0) (ty := .boolean) hx hb hr rfl (fun t ht hW => ⟨⟨0, (), rfl, ⟨(by decide), (show (0 : Int32).toInt = 0 ∨ (0 ≤ p0.toInt ∧ p0.toInt ≤ 3 ∧ 1 ≤ p2.toInt ∧ p2.toInt ≤ 12 ∧ 0 ≤ p1.toInt ∧ p1.toInt ≤ 31 ∧ p1.toInt + p2.toInt ≤ 32) from (Or.inl rfl)), (Or.inr (Or.inr (Or.inl ⟨c_1r, c_2, c_3, rfl⟩)))⟩, trivial⟩, hS.F ht⟩) hS.2.2 dX10_cellsGood_36
      · simp only [lt_I, le_I, eq_I, i_0, i_1, i_2, i_3, i_4, i_5, i_6, i_7, i_8, i_10, i_12, i_16, i_20, i_23, i_24, i_31, i_32, i_63, i_64, i_m1, i_9, i_11, i_13, i_25, i_60, i_75, i_79, i_80, i_96, i_100] at c_3
        refine lv_iload_n hx hb dX10_cellsGood_19 rfl (lv_at hl 2 rfl) ?_
        refine lv_if_lt (tgt := 35) hx hb dX10_cellsGood_20 (by decide) (fun c_4 => ?_) (fun c_4 => ?_)
        · simp only [lt_I, le_I, eq_I, i_0, i_1, i_2, i_3, i_4, i_5, i_6, i_7, i_8, i_10, i_12, i_16, i_20, i_23, i_24, i_31, i_32, i_63, i_64, i_m1, i_9, i_11, i_13, i_25, i_60, i_75, i_79, i_80, i_96, i_100] at c_4
          refine lv_iconst (v := 0) hx hb dX10_cellsGood_35 (by decide) ?_
          exact W.zret (v := 0) (ty := .boolean) hx hb hr rfl (fun t ht hW => ⟨⟨0, (), rfl, ⟨(by decide), (show (0 : Int32).toInt = 0 ∨ (0 ≤ p0.toInt ∧ p0.toInt ≤ 3 ∧ 1 ≤ p2.toInt ∧ p2.toInt ≤ 12 ∧ 0 ≤ p1.toInt ∧ p1.toInt ≤ 31 ∧ p1.toInt + p2.toInt ≤ 32) from (Or.inl rfl)), (Or.inr (Or.inr (Or.inr (Or.inl ⟨c_1r, c_2, c_3, c_4, rfl⟩))))⟩, trivial⟩, hS.F ht⟩) hS.2.2 dX10_cellsGood_36
        · simp only [lt_I, le_I, eq_I, i_0, i_1, i_2, i_3, i_4, i_5, i_6, i_7, i_8, i_10, i_12, i_16, i_20, i_23, i_24, i_31, i_32, i_63, i_64, i_m1, i_9, i_11, i_13, i_25, i_60, i_75, i_79, i_80, i_96, i_100] at c_4
          refine lv_iload_n hx hb dX10_cellsGood_23 rfl (lv_at hl 2 rfl) ?_
          refine lv_bipush (v := 32) hx hb dX10_cellsGood_24 (by decide) ?_
          refine lv_iload_n hx hb dX10_cellsGood_26 rfl (lv_at hl 3 rfl) ?_
          refine lv_isub hx hb dX10_cellsGood_27 ?_
          refine lv_topi (fun x_5 ex_5 => ?_)
          have fx_5 : x_5.toInt = 32 - p2.toInt := by have h9 := s_sub (x := 32) (y := p2) (by rw [i_32]; omega) (by rw [i_32]; omega); rw [i_32] at h9; rw [ex_5]; exact h9
          refine lv_icmp_gt (tgt := 35) hx hb dX10_cellsGood_28 (by decide) (fun c_6 => ?_) (fun c_6 => ?_)
          · simp only [lt_I, le_I, eq_I, i_0, i_1, i_2, i_3, i_4, i_5, i_6, i_7, i_8, i_10, i_12, i_16, i_20, i_23, i_24, i_31, i_32, i_63, i_64, i_m1, i_9, i_11, i_13, i_25, i_60, i_75, i_79, i_80, i_96, i_100] at c_6
            refine lv_iconst (v := 0) hx hb dX10_cellsGood_35 (by decide) ?_
            exact W.zret (v := 0) (ty := .boolean) hx hb hr rfl (fun t ht hW => ⟨⟨0, (), rfl, ⟨(by decide), (show (0 : Int32).toInt = 0 ∨ (0 ≤ p0.toInt ∧ p0.toInt ≤ 3 ∧ 1 ≤ p2.toInt ∧ p2.toInt ≤ 12 ∧ 0 ≤ p1.toInt ∧ p1.toInt ≤ 31 ∧ p1.toInt + p2.toInt ≤ 32) from (Or.inl rfl)), (Or.inr (Or.inr (Or.inr (Or.inr (Or.inl ⟨c_1r, c_2, c_3, c_4, x_5, ex_5, fx_5, c_6, rfl⟩)))))⟩, trivial⟩, hS.F ht⟩) hS.2.2 dX10_cellsGood_36
          · simp only [lt_I, le_I, eq_I, i_0, i_1, i_2, i_3, i_4, i_5, i_6, i_7, i_8, i_10, i_12, i_16, i_20, i_23, i_24, i_31, i_32, i_63, i_64, i_m1, i_9, i_11, i_13, i_25, i_60, i_75, i_79, i_80, i_96, i_100] at c_6
            refine lv_iconst (v := 1) hx hb dX10_cellsGood_31 (by decide) ?_
            refine lv_goto (tgt := 36) hx hb dX10_cellsGood_32 (by decide) ?_
            exact W.zret (v := 1) (ty := .boolean) hx hb hr rfl (fun t ht hW => ⟨⟨1, (), rfl, ⟨(by decide), (show (1 : Int32).toInt = 0 ∨ (0 ≤ p0.toInt ∧ p0.toInt ≤ 3 ∧ 1 ≤ p2.toInt ∧ p2.toInt ≤ 12 ∧ 0 ≤ p1.toInt ∧ p1.toInt ≤ 31 ∧ p1.toInt + p2.toInt ≤ 32) from (Or.inr (by omega))), (Or.inr (Or.inr (Or.inr (Or.inr (Or.inr ⟨c_1r, c_2, c_3, c_4, x_5, ex_5, fx_5, c_6, rfl⟩)))))⟩, trivial⟩, hS.F ht⟩) hS.2.2 dX10_cellsGood_36
theorem dX10_full_0 : decode cX10_full 0 = .ok (.aload_n 0, 1) := by decide +kernel
theorem dX10_full_1 : decode cX10_full 1 = .ok (.getfield 28, 3) := by decide +kernel
theorem dX10_full_4 : decode cX10_full 4 = .ok (.iload_n 1, 1) := by decide +kernel
theorem dX10_full_5 : decode cX10_full 5 = .ok (.iaload, 1) := by decide +kernel
theorem dX10_full_6 : decode cX10_full 6 = .ok (.iconst 1, 1) := by decide +kernel
theorem dX10_full_7 : decode cX10_full 7 = .ok (.if_icmp .ne 13, 3) := by decide +kernel
theorem dX10_full_10 : decode cX10_full 10 = .ok (.aload_n 0, 1) := by decide +kernel
theorem dX10_full_11 : decode cX10_full 11 = .ok (.getfield 59, 3) := by decide +kernel
theorem dX10_full_14 : decode cX10_full 14 = .ok (.iload_n 1, 1) := by decide +kernel
theorem dX10_full_15 : decode cX10_full 15 = .ok (.iaload, 1) := by decide +kernel
theorem dX10_full_16 : decode cX10_full 16 = .ok (.iconst 4, 1) := by decide +kernel
theorem dX10_full_17 : decode cX10_full 17 = .ok (.if_icmp .ne 7, 3) := by decide +kernel
theorem dX10_full_20 : decode cX10_full 20 = .ok (.iconst 1, 1) := by decide +kernel
theorem dX10_full_21 : decode cX10_full 21 = .ok (.goto 4, 3) := by decide +kernel
theorem dX10_full_24 : decode cX10_full 24 = .ok (.iconst 0, 1) := by decide +kernel
theorem dX10_full_25 : decode cX10_full 25 = .ok (.ireturn, 1) := by decide +kernel
set_option maxHeartbeats 8000000 in
set_option maxRecDepth 100000 in
theorem u_X10_full (l : Launch) (E : EE) (z0 : Nat) (G : Nat → Nat) (hGz : ∀ q, G q ≠ 0 → z0 ≤ q) (h0 : Nat) (rf : Nat → Nat) (hR : MG G h0 rf) (t0 t1 t2 : Int32) (A : AA) (cd pk : Int32) (p0 : Int32) (hy0 : 0 ≤ p0.toInt ∧ p0.toInt ≤ 3) : Met l yX10_full [Cond.code yX10_full cX10_full 2 (some .boolean)] ({ frames := 0, cells := 0, slots := 0, locals := 0 } : Room) (va_Pc [.ref h0, .int p0] (fun U => MH E h0 rf t0 t1 t2 A cd pk U.heap ∧ KS E z0 U)) (va_Qi (fun (r : Int32) (u : Unit) => (r = 0 ∨ r = 1) ∧ (∀ n : Nat, (n : Int) = p0.toInt → r.toInt = 1 ∨ (((A 10) n).toInt = 1 ∧ ((A 20) n).toInt ≠ 4)) ∧ (D_X10_full A cd pk p0 r)) (fun u t => True) (fun _ : Nat => False)) 0 0 (fun _ : Nat => False) := by
  refine Met.ofW (cc := cX10_full) (maxL := 2) (ret := (some .boolean)) (by decide) rfl ?_
  intro p e s m args below meth c s₁ B hml hv
  obtain ⟨rfl, hM, hK⟩ := hv
  have hx := B.exec
  have hb := B.bytes
  have hr := B.returns
  have hts : ∀ w ∈ TS, w.before ([.ref h0, .int p0] : List Value).toArray s = true := fun w hw => hK.2.1 w hw _
  have hown : s.vm.findClass RX10 = some m.cls := findClass_of_methodNamed B.named
  have hlocks := B.notSynchronized
  have hS : va_S (fun _ : Nat => False) s.heap s.heap [] := va_S.rf
  have hAz : ∀ q, (fun _ : Nat => False) q → z0 ≤ q := fun _ h => h.elim
  have hl := lv_entry ([.ref h0, .int p0]) (n := 2) (Nat.le_of_ble_eq_true rfl)
  rw [lg_entry_eq]
  generalize (lg_sl ([.ref h0, .int p0]) ++ List.replicate (2 - (lg_sl ([.ref h0, .int p0])).length) Slot.unset).toArray = ls at hl ⊢
  have hl : lv_has ls 2 [(0, .ref h0), (1, .int p0)] := hl
  refine lv_aload_n hx hb dX10_full_0 rfl (lv_at hl 0 rfl) ?_
  refine va_get (D := DG E) (ci := 10) (v := .ref (rf 10)) (C := RX10) (T := TX10) (N := 49) hx hb hts iw_X10 hown hK.1 (va_one hM.1) 0 rfl rfl 10 (by decide) (hts _ fl_X10_28) (fun _ h9 => h9) rfl dX10_full_1 ?_
  refine lv_iload_n hx hb dX10_full_4 rfl (lv_at hl 1 rfl) ?_
  have hi_1 : vp_in p0 4 := vp_in_iff.mpr (by omega)
  have ha_2 : va_at (DG E) vwCl (rf 10, .inl (E.2.2 0, 4, .inl (A 10))) _ := hM.2 10 (by decide) (by decide) (by decide)
  obtain ⟨n_3, hn_3, en_3⟩ := s_nat (x := p0) (by omega)
  refine va_iald (D := DG E) hx hb hK.1 (va_one ha_2) 0 0 rfl rfl hi_1 dX10_full_5 ?_
  refine W.eq (g2 := F0 m 6 ls [.int ((A 10) n_3)]) (by rw [en_3]) ?_
  refine lv_iconst (v := 1) hx hb dX10_full_6 (by decide) ?_
  refine lv_icmp_ne (tgt := 20) hx hb dX10_full_7 (by decide) (fun c_4 => ?_) (fun c_4 => ?_)
  · simp only [lt_I, le_I, eq_I, i_0, i_1, i_2, i_3, i_4, i_5, i_6, i_7, i_8, i_10, i_12, i_16, i_20, i_23, i_24, i_31, i_32, i_63, i_64, i_m1, i_9, i_11, i_13, i_25, i_60, i_75, i_79, i_80, i_96, i_100] at c_4
    refine lv_iconst (v := 1) hx hb dX10_full_20 (by decide) ?_
    refine lv_goto (tgt := 25) hx hb dX10_full_21 (by decide) ?_
    exact W.zret (v := 1) (ty := .boolean) hx hb hr rfl (fun t ht hW => ⟨⟨1, (), rfl, ⟨(by decide), (show ∀ n : Nat, (n : Int) = p0.toInt → (1 : Int32).toInt = 1 ∨ (((A 10) n).toInt = 1 ∧ ((A 20) n).toInt ≠ 4) from (fun n hn => by
        obtain rfl : n_3 = n := by omega
        exact Or.inl rfl)), (Or.inl ⟨n_3, hn_3, c_4, rfl⟩)⟩, trivial⟩, hS.F ht⟩) hS.2.2 dX10_full_25
  · simp only [lt_I, le_I, eq_I, i_0, i_1, i_2, i_3, i_4, i_5, i_6, i_7, i_8, i_10, i_12, i_16, i_20, i_23, i_24, i_31, i_32, i_63, i_64, i_m1, i_9, i_11, i_13, i_25, i_60, i_75, i_79, i_80, i_96, i_100] at c_4
    refine lv_aload_n hx hb dX10_full_10 rfl (lv_at hl 0 rfl) ?_
    refine va_get (D := DG E) (ci := 10) (v := .ref (rf 20)) (C := RX10) (T := TX10) (N := 49) hx hb hts iw_X10 hown hK.1 (va_one hM.1) 0 rfl rfl 20 (by decide) (hts _ fl_X10_59) (fun _ h9 => h9) rfl dX10_full_11 ?_
    refine lv_iload_n hx hb dX10_full_14 rfl (lv_at hl 1 rfl) ?_
    have ha_5 : va_at (DG E) vwCl (rf 20, .inl (E.2.2 0, 4, .inl (A 20))) _ := hM.2 20 (by decide) (by decide) (by decide)
    refine va_iald (D := DG E) hx hb hK.1 (va_one ha_5) 0 0 rfl rfl hi_1 dX10_full_15 ?_
    refine W.eq (g2 := F0 m 16 ls [.int ((A 20) n_3)]) (by rw [en_3]) ?_
    refine lv_iconst (v := 4) hx hb dX10_full_16 (by decide) ?_
    refine lv_icmp_ne (tgt := 24) hx hb dX10_full_17 (by decide) (fun c_6 => ?_) (fun c_6 => ?_)
    · simp only [lt_I, le_I, eq_I, i_0, i_1, i_2, i_3, i_4, i_5, i_6, i_7, i_8, i_10, i_12, i_16, i_20, i_23, i_24, i_31, i_32, i_63, i_64, i_m1, i_9, i_11, i_13, i_25, i_60, i_75, i_79, i_80, i_96, i_100] at c_6
      refine lv_iconst (v := 0) hx hb dX10_full_24 (by decide) ?_
      exact W.zret (v := 0) (ty := .boolean) hx hb hr rfl (fun t ht hW => ⟨⟨0, (), rfl, ⟨(by decide), (show ∀ n : Nat, (n : Int) = p0.toInt → (0 : Int32).toInt = 1 ∨ (((A 10) n).toInt = 1 ∧ ((A 20) n).toInt ≠ 4) from (fun n hn => by
        obtain rfl : n_3 = n := by omega
        exact Or.inr ⟨by omega, by omega⟩)), (Or.inr (Or.inl ⟨n_3, hn_3, c_4, c_6, rfl⟩))⟩, trivial⟩, hS.F ht⟩) hS.2.2 dX10_full_25
    · simp only [lt_I, le_I, eq_I, i_0, i_1, i_2, i_3, i_4, i_5, i_6, i_7, i_8, i_10, i_12, i_16, i_20, i_23, i_24, i_31, i_32, i_63, i_64, i_m1, i_9, i_11, i_13, i_25, i_60, i_75, i_79, i_80, i_96, i_100] at c_6
      refine lv_iconst (v := 1) hx hb dX10_full_20 (by decide) ?_
      refine lv_goto (tgt := 25) hx hb dX10_full_21 (by decide) ?_
      exact W.zret (v := 1) (ty := .boolean) hx hb hr rfl (fun t ht hW => ⟨⟨1, (), rfl, ⟨(by decide), (show ∀ n : Nat, (n : Int) = p0.toInt → (1 : Int32).toInt = 1 ∨ (((A 10) n).toInt = 1 ∧ ((A 20) n).toInt ≠ 4) from (fun n hn => by
        obtain rfl : n_3 = n := by omega
        exact Or.inl rfl)), (Or.inr (Or.inr ⟨n_3, hn_3, c_4, c_6, rfl⟩))⟩, trivial⟩, hS.F ht⟩) hS.2.2 dX10_full_25
theorem dX10_send_0 : decode cX10_send 0 = .ok (.aload_n 0, 1) := by decide +kernel
theorem dX10_send_1 : decode cX10_send 1 = .ok (.iconst 0, 1) := by decide +kernel
theorem dX10_send_2 : decode cX10_send 2 = .ok (.putfield 153, 3) := by decide +kernel
theorem dX10_send_5 : decode cX10_send 5 = .ok (.aload_n 0, 1) := by decide +kernel
theorem dX10_send_6 : decode cX10_send 6 = .ok (.iload_n 1, 1) := by decide +kernel
theorem dX10_send_7 : decode cX10_send 7 = .ok (.iload_n 2, 1) := by decide +kernel
theorem dX10_send_8 : decode cX10_send 8 = .ok (.iload_n 3, 1) := by decide +kernel
theorem dX10_send_9 : decode cX10_send 9 = .ok (.invokevirtual 181, 3) := by decide +kernel
theorem dX10_send_12 : decode cX10_send 12 = .ok (.ifCond .ne 9, 3) := by decide +kernel
theorem dX10_send_15 : decode cX10_send 15 = .ok (.aload_n 0, 1) := by decide +kernel
theorem dX10_send_16 : decode cX10_send 16 = .ok (.iconst 1, 1) := by decide +kernel
theorem dX10_send_17 : decode cX10_send 17 = .ok (.invokevirtual 185, 3) := by decide +kernel
theorem dX10_send_20 : decode cX10_send 20 = .ok (.ireturn, 1) := by decide +kernel
theorem dX10_send_21 : decode cX10_send 21 = .ok (.aload_n 0, 1) := by decide +kernel
theorem dX10_send_22 : decode cX10_send 22 = .ok (.iload_n 1, 1) := by decide +kernel
theorem dX10_send_23 : decode cX10_send 23 = .ok (.invokevirtual 188, 3) := by decide +kernel
theorem dX10_send_26 : decode cX10_send 26 = .ok (.ifCond .eq 11, 3) := by decide +kernel
theorem dX10_send_29 : decode cX10_send 29 = .ok (.aload_n 0, 1) := by decide +kernel
theorem dX10_send_30 : decode cX10_send 30 = .ok (.iconst 2, 1) := by decide +kernel
theorem dX10_send_31 : decode cX10_send 31 = .ok (.invokevirtual 185, 3) := by decide +kernel
theorem dX10_send_34 : decode cX10_send 34 = .ok (.goto 14, 3) := by decide +kernel
theorem dX10_send_37 : decode cX10_send 37 = .ok (.aload_n 0, 1) := by decide +kernel
theorem dX10_send_38 : decode cX10_send 38 = .ok (.iload_n 1, 1) := by decide +kernel
theorem dX10_send_39 : decode cX10_send 39 = .ok (.iconst 0, 1) := by decide +kernel
theorem dX10_send_40 : decode cX10_send 40 = .ok (.iload_n 2, 1) := by decide +kernel
theorem dX10_send_41 : decode cX10_send 41 = .ok (.iload_n 3, 1) := by decide +kernel
theorem dX10_send_42 : decode cX10_send 42 = .ok (.iconst (-1), 1) := by decide +kernel
theorem dX10_send_43 : decode cX10_send 43 = .ok (.iconst (-1), 1) := by decide +kernel
theorem dX10_send_44 : decode cX10_send 44 = .ok (.iconst 0, 1) := by decide +kernel
theorem dX10_send_45 : decode cX10_send 45 = .ok (.invokevirtual 192, 3) := by decide +kernel
theorem dX10_send_48 : decode cX10_send 48 = .ok (.ireturn, 1) := by decide +kernel
set_option maxHeartbeats 8000000 in
set_option maxRecDepth 100000 in
theorem u_X10_send (l : Launch) (E : EE) (z0 : Nat) (G : Nat → Nat) (hGz : ∀ q, G q ≠ 0 → z0 ≤ q) (h0 : Nat) (rf : Nat → Nat) (hR : MG G h0 rf) (t0 t1 t2 : Int32) (A : AA) (cd pk : Int32) (p0 : Int32) (p1 : Int32) (p2 : Int32) (hI4 : I4 (A 10) (A 20) (A 29) (A 24) (A 11) (A 12) (A 13)) (hI6 : I6 (A 22) (A 23) (A 24) (A 25) (A 26)) (hI8 : I8 (A 20) (A 30) (A 37) (A 36)) : Met l yX10_send [Cond.code yX10_send cX10_send 4 (some .int)] ({ frames := 2, cells := 0, slots := 0, locals := 49 } : Room) (va_Pc [.ref h0, .int p0, .int p1, .int p2] (fun U => MH E h0 rf t0 t1 t2 A cd pk U.heap ∧ KS E z0 U)) (va_Qi (fun (r : Int32) (u : (Nat → Int32) × (Nat → Int32) × (Nat → Int32) × (Nat → Int32) × (Nat → Int32) × (Nat → Int32) × (Nat → Int32) × (Nat → Int32) × (Nat → Int32) × (Nat → Int32) × (Nat → Int32) × Int32) => (I4 (A 10) (u.2.1) (u.2.2.2.2.2.2.2.2.2.2.1) (u.2.2.2.2.2.1) (u.1) (A 12) (A 13)) ∧ (I6 (u.2.2.2.1) (u.2.2.2.2.1) (u.2.2.2.2.2.1) (u.2.2.2.2.2.2.1) (u.2.2.2.2.2.2.2.1)) ∧ (I8 (u.2.1) (A 30) (A 37) (A 36)) ∧ (D_X10_send A cd pk p0 p1 p2 (uA (uA (uA (uA (uA (uA (uA (uA (uA (uA (uA A 11 (u.1)) 20 (u.2.1)) 21 (u.2.2.1)) 22 (u.2.2.2.1)) 23 (u.2.2.2.2.1)) 24 (u.2.2.2.2.2.1)) 25 (u.2.2.2.2.2.2.1)) 26 (u.2.2.2.2.2.2.2.1)) 27 (u.2.2.2.2.2.2.2.2.1)) 28 (u.2.2.2.2.2.2.2.2.2.1)) 29 (u.2.2.2.2.2.2.2.2.2.2.1)) (u.2.2.2.2.2.2.2.2.2.2.2) pk r)) (fun u t => MH E h0 rf t0 t1 t2 (uA (uA (uA (uA (uA (uA (uA (uA (uA (uA (uA A 11 (u.1)) 20 (u.2.1)) 21 (u.2.2.1)) 22 (u.2.2.2.1)) 23 (u.2.2.2.2.1)) 24 (u.2.2.2.2.2.1)) 25 (u.2.2.2.2.2.2.1)) 26 (u.2.2.2.2.2.2.2.1)) 27 (u.2.2.2.2.2.2.2.2.1)) 28 (u.2.2.2.2.2.2.2.2.2.1)) 29 (u.2.2.2.2.2.2.2.2.2.2.1)) (u.2.2.2.2.2.2.2.2.2.2.2) pk t.heap) (fun q : Nat => G q ≠ 0)) 0 0 (fun q : Nat => G q ≠ 0) := by
  refine Met.ofW (cc := cX10_send) (maxL := 4) (ret := (some .int)) (by decide) rfl ?_
  intro p e s m args below meth c s₁ B hml hv
  obtain ⟨rfl, hM, hK⟩ := hv
  have hx := B.exec
  have hb := B.bytes
  have hr := B.returns
  have hts : ∀ w ∈ TS, w.before ([.ref h0, .int p0, .int p1, .int p2] : List Value).toArray s = true := fun w hw => hK.2.1 w hw _
  have hown : s.vm.findClass RX10 = some m.cls := findClass_of_methodNamed B.named
  have hlocks := B.notSynchronized
  have hS : va_S (fun q : Nat => G q ≠ 0) s.heap s.heap [] := va_S.rf
  have hAz : ∀ q, (fun q : Nat => G q ≠ 0) q → z0 ≤ q := hGz
  have hl := lv_entry ([.ref h0, .int p0, .int p1, .int p2]) (n := 4) (Nat.le_of_ble_eq_true rfl)
  rw [lg_entry_eq]
  generalize (lg_sl ([.ref h0, .int p0, .int p1, .int p2]) ++ List.replicate (4 - (lg_sl ([.ref h0, .int p0, .int p1, .int p2])).length) Slot.unset).toArray = ls at hl ⊢
  have hl : lv_has ls 4 [(0, .ref h0), (1, .int p0), (2, .int p1), (3, .int p2)] := hl
  refine lv_aload_n hx hb dX10_send_0 rfl (lv_at hl 0 rfl) ?_
  refine lv_iconst (v := 0) hx hb dX10_send_1 (by decide) ?_
  refine rr_put (D := DG E) (ci := 10) (v := .int 0) (ty := .int) (C := RX10) (T := TX10) (N := 49) hx hb hts iw_X10 tyX10 tyX10_ok nmX10 hown hK.1 hM.1 hS (by show G h0 ≠ 0; rw [hR.1]; decide) rfl 3 (by decide) (hts _ fl_X10_153) (fun _ h9 => h9) rfl (by decide +kernel) rfl rfl (Nat.le_of_ble_eq_true rfl) dX10_send_2 (fun H locs hn ho hz hS => ?_)
  have hM : MH E h0 rf t0 t1 t2 A 0 pk H := hM.sc hR hn ho
  refine lv_aload_n hx hb dX10_send_5 rfl (lv_at hl 0 rfl) ?_
  refine lv_iload_n hx hb dX10_send_6 rfl (lv_at hl 1 rfl) ?_
  refine lv_iload_n hx hb dX10_send_7 rfl (lv_at hl 2 rfl) ?_
  refine lv_iload_n hx hb dX10_send_8 rfl (lv_at hl 3 rfl) ?_
  refine va_calli (rnV (fun H => MH E h0 rf t0 t1 t2 A 0 pk H) (As := [.int p0, .int p1, .int p2]) (rest := []) ⟨hx, hb, hml, hown, hts⟩ (u_X10_cellsGood l E z0 G hGz h0 rf hR t0 t1 t2 A 0 pk p0 p1 p2) (cwV 3 hts (gdV ml_X10_181 im_X10_cellsGood se_X10_X10_cellsGood in_X10 co_X10_cellsGood rfl) rfl rfl rfl (by decide +kernel) ⟨Nat.le_of_ble_eq_true rfl, Nat.le_of_ble_eq_true rfl⟩) hM (fun U hU hW => hK.go hW hS hAz hU) (va_recv hK.1 (va_one hM.1) (ci := 10) (q0 := 0) rfl rfl) rfl rfl hl.1 rfl (lv_room (Nat.le_of_ble_eq_true rfl)) dX10_send_9 ⟨Nat.le_of_ble_eq_true rfl, Nat.le_of_ble_eq_true rfl⟩) hS (fun q _ h => h.elim) (fun q h => h.elim) (fun r_1 ur_1 t H locs ht hvm hwr_1 hB hz hk hS => ?_)
  have hM := hM.kept (fun q hq => hk q hq (fun h => h))
  have hDr_1 : D_X10_cellsGood A (0 : Int32) pk p0 p1 p2 r_1 := hwr_1.2.2
  have hpr_1_0 : r_1 = 0 ∨ r_1 = 1 := hwr_1.1
  have hpr_1_1 : r_1.toInt = 0 ∨ (0 ≤ p0.toInt ∧ p0.toInt ≤ 3 ∧ 1 ≤ p2.toInt ∧ p2.toInt ≤ 12 ∧ 0 ≤ p1.toInt ∧ p1.toInt ≤ 31 ∧ p1.toInt + p2.toInt ≤ 32) := hwr_1.2.1
  have hzr_1 := s_rng hpr_1_0
  refine lv_if_ne (tgt := 21) hx hb dX10_send_12 (by decide) (fun c_2 => ?_) (fun c_2 => ?_)
  · simp only [lt_I, le_I, eq_I, i_0, i_1, i_2, i_3, i_4, i_5, i_6, i_7, i_8, i_10, i_12, i_16, i_20, i_23, i_24, i_31, i_32, i_63, i_64, i_m1, i_9, i_11, i_13, i_25, i_60, i_75, i_79, i_80, i_96, i_100] at c_2
    replace hpr_1_1 := hpr_1_1.resolve_left (by omega)
    refine lv_aload_n hx hb dX10_send_21 rfl (lv_at hl 0 rfl) ?_
    refine lv_iload_n hx hb dX10_send_22 rfl (lv_at hl 1 rfl) ?_
    refine va_calli (rnV (fun H => MH E h0 rf t0 t1 t2 A 0 pk H) (As := [.int p0]) (rest := []) ⟨hx, hb, hml, hown, hts⟩ (u_X10_full l E z0 G hGz h0 rf hR t0 t1 t2 A 0 pk p0 (show 0 ≤ p0.toInt ∧ p0.toInt ≤ 3 from by first | decide | omega)) (cwV 1 hts (gdV ml_X10_188 im_X10_full se_X10_X10_full in_X10 co_X10_full rfl) rfl rfl rfl (by decide +kernel) ⟨Nat.le_of_ble_eq_true rfl, Nat.le_of_ble_eq_true rfl⟩) hM (fun U hU hW => hK.go hW hS hAz hU) (va_recv hK.1 (va_one hM.1) (ci := 10) (q0 := 0) rfl rfl) rfl rfl hl.1 rfl (lv_room (Nat.le_of_ble_eq_true rfl)) dX10_send_23 ⟨Nat.le_of_ble_eq_true rfl, Nat.le_of_ble_eq_true rfl⟩) hS (fun q _ h => h.elim) (fun q h => h.elim) (fun r_3 ur_3 t H locs ht hvm hwr_3 hB hz hk hS => ?_)
    have hM := hM.kept (fun q hq => hk q hq (fun h => h))
    have hDr_3 : D_X10_full A (0 : Int32) pk p0 r_3 := hwr_3.2.2
    have hpr_3_0 : r_3 = 0 ∨ r_3 = 1 := hwr_3.1
    have hpr_3_1 : ∀ n : Nat, (n : Int) = p0.toInt → r_3.toInt = 1 ∨ (((A 10) n).toInt = 1 ∧ ((A 20) n).toInt ≠ 4) := hwr_3.2.1
    obtain ⟨n_4, hn_4, en_4⟩ := s_nat (x := p0) (by omega)
    have iahpr_3_1 := hpr_3_1 n_4 (by omega)
    have hzr_3 := s_rng hpr_3_0
    refine lv_if_eq (tgt := 37) hx hb dX10_send_26 (by decide) (fun c_5 => ?_) (fun c_5 => ?_)
    · simp only [lt_I, le_I, eq_I, i_0, i_1, i_2, i_3, i_4, i_5, i_6, i_7, i_8, i_10, i_12, i_16, i_20, i_23, i_24, i_31, i_32, i_63, i_64, i_m1, i_9, i_11, i_13, i_25, i_60, i_75, i_79, i_80, i_96, i_100] at c_5
      refine lv_aload_n hx hb dX10_send_37 rfl (lv_at hl 0 rfl) ?_
      refine lv_iload_n hx hb dX10_send_38 rfl (lv_at hl 1 rfl) ?_
      refine lv_iconst (v := 0) hx hb dX10_send_39 (by decide) ?_
      refine lv_iload_n hx hb dX10_send_40 rfl (lv_at hl 2 rfl) ?_
      refine lv_iload_n hx hb dX10_send_41 rfl (lv_at hl 3 rfl) ?_
      refine lv_iconst (v := (-1)) hx hb dX10_send_42 (by decide) ?_
      refine lv_iconst (v := (-1)) hx hb dX10_send_43 (by decide) ?_
      refine lv_iconst (v := 0) hx hb dX10_send_44 (by decide) ?_
      refine va_calli (rnV (fun H => MH E h0 rf t0 t1 t2 A 0 pk H) (As := [.int p0, .int 0, .int p1, .int p2, .int (-1), .int (-1), .int 0]) (rest := []) ⟨hx, hb, hml, hown, hts⟩ (u_X10_post l E z0 G hGz h0 rf hR t0 t1 t2 A 0 pk p0 0 p1 p2 (-1) (-1) 0 hI4 hI6 hI8 (show 0 ≤ p0.toInt ∧ p0.toInt ≤ 3 from by have := i_m1; have := i_0; first | decide | omega) (show 0 ≤ (0 : Int32).toInt ∧ (0 : Int32).toInt ≤ 3 from by have := i_m1; have := i_0; first | decide | omega) (show 0 ≤ p1.toInt ∧ p1.toInt ≤ 32 from by have := i_m1; have := i_0; first | decide | omega) (show 1 ≤ p2.toInt ∧ p2.toInt ≤ 12 from by have := i_m1; have := i_0; first | decide | omega) (show p1.toInt + p2.toInt ≤ 32 from by have := i_m1; have := i_0; first | decide | omega) (show (0 : Int32).toInt = 0 ∨ (0 ≤ (-1 : Int32).toInt ∧ (-1 : Int32).toInt ≤ 5) from by have := i_m1; have := i_0; first | decide | omega) (show -1 ≤ (-1 : Int32).toInt ∧ (-1 : Int32).toInt ≤ 31 from by have := i_m1; have := i_0; first | decide | omega) (show ∀ n : Nat, (n : Int) = p0.toInt → ((A 10) n).toInt = 1 ∧ ((A 20) n).toInt ≠ 4 from (fun n hn => by
        obtain rfl : n_4 = n := by omega
        exact iahpr_3_1.resolve_left (by omega)))) (cwV 7 hts (gdV ml_X10_192 im_X10_post se_X10_X10_post in_X10 co_X10_post rfl) rfl rfl rfl (by decide +kernel) ⟨Nat.le_of_ble_eq_true rfl, Nat.le_of_ble_eq_true rfl⟩) hM (fun U hU hW => hK.go hW hS hAz hU) (va_recv hK.1 (va_one hM.1) (ci := 10) (q0 := 0) rfl rfl) rfl rfl hl.1 rfl (lv_room (Nat.le_of_ble_eq_true rfl)) dX10_send_45 ⟨Nat.le_of_ble_eq_true rfl, Nat.le_of_ble_eq_true rfl⟩) hS (fun q _ h => h) (fun q h => h) (fun r_6 ur_6 t H locs ht hvm hwr_6 hB hz hk hS => ?_)
      have hM : MH E h0 rf t0 t1 t2 (uA (uA (uA (uA (uA (uA (uA (uA (uA (uA (uA A 11 (ur_6.1)) 20 (ur_6.2.1)) 21 (ur_6.2.2.1)) 22 (ur_6.2.2.2.1)) 23 (ur_6.2.2.2.2.1)) 24 (ur_6.2.2.2.2.2.1)) 25 (ur_6.2.2.2.2.2.2.1)) 26 (ur_6.2.2.2.2.2.2.2.1)) 27 (ur_6.2.2.2.2.2.2.2.2.1)) 28 (ur_6.2.2.2.2.2.2.2.2.2.1)) 29 (ur_6.2.2.2.2.2.2.2.2.2.2)) 0 pk H := by rw [ht] at hB; exact hB
      have hDr_6 : D_X10_post A (0 : Int32) pk p0 (0 : Int32) p1 p2 (-1 : Int32) (-1 : Int32) (0 : Int32) (uA (uA (uA (uA (uA (uA (uA (uA (uA (uA (uA A 11 (ur_6.1)) 20 (ur_6.2.1)) 21 (ur_6.2.2.1)) 22 (ur_6.2.2.2.1)) 23 (ur_6.2.2.2.2.1)) 24 (ur_6.2.2.2.2.2.1)) 25 (ur_6.2.2.2.2.2.2.1)) 26 (ur_6.2.2.2.2.2.2.2.1)) 27 (ur_6.2.2.2.2.2.2.2.2.1)) 28 (ur_6.2.2.2.2.2.2.2.2.2.1)) 29 (ur_6.2.2.2.2.2.2.2.2.2.2)) (0 : Int32) pk r_6 := hwr_6.2.2.2
      have hpr_6_0 : I4 (A 10) (ur_6.2.1) (ur_6.2.2.2.2.2.2.2.2.2.2) (ur_6.2.2.2.2.2.1) (ur_6.1) (A 12) (A 13) := hwr_6.1
      have hpr_6_1 : I6 (ur_6.2.2.2.1) (ur_6.2.2.2.2.1) (ur_6.2.2.2.2.2.1) (ur_6.2.2.2.2.2.2.1) (ur_6.2.2.2.2.2.2.2.1) := hwr_6.2.1
      have hpr_6_2 : I8 (ur_6.2.1) (A 30) (A 37) (A 36) := hwr_6.2.2.1
      have := i_m1
      have := i_0
      exact W.iret (v := r_6) hx hb hr (fun t ht hW => ⟨⟨r_6, ((ur_6.1), (ur_6.2.1), (ur_6.2.2.1), (ur_6.2.2.2.1), (ur_6.2.2.2.2.1), (ur_6.2.2.2.2.2.1), (ur_6.2.2.2.2.2.2.1), (ur_6.2.2.2.2.2.2.2.1), (ur_6.2.2.2.2.2.2.2.2.1), (ur_6.2.2.2.2.2.2.2.2.2.1), (ur_6.2.2.2.2.2.2.2.2.2.2), 0), rfl, ⟨hpr_6_0, hpr_6_1, hpr_6_2, (Or.inl ⟨r_1, hDr_1, hpr_1_0, c_2, r_3, hDr_3, hpr_3_0, hpr_3_1, n_4, hn_4, c_5, ur_6, r_6, hDr_6, hpr_6_0, hpr_6_1, hpr_6_2, rfl, rfl, rfl, rfl⟩)⟩, (by show MH E h0 rf t0 t1 t2 (uA (uA (uA (uA (uA (uA (uA (uA (uA (uA (uA A 11 (ur_6.1)) 20 (ur_6.2.1)) 21 (ur_6.2.2.1)) 22 (ur_6.2.2.2.1)) 23 (ur_6.2.2.2.2.1)) 24 (ur_6.2.2.2.2.2.1)) 25 (ur_6.2.2.2.2.2.2.1)) 26 (ur_6.2.2.2.2.2.2.2.1)) 27 (ur_6.2.2.2.2.2.2.2.2.1)) 28 (ur_6.2.2.2.2.2.2.2.2.2.1)) 29 (ur_6.2.2.2.2.2.2.2.2.2.2)) 0 pk t.heap; rw [ht]; exact hM)⟩, hS.F ht⟩) hS.2.2 dX10_send_48
    · simp only [lt_I, le_I, eq_I, i_0, i_1, i_2, i_3, i_4, i_5, i_6, i_7, i_8, i_10, i_12, i_16, i_20, i_23, i_24, i_31, i_32, i_63, i_64, i_m1, i_9, i_11, i_13, i_25, i_60, i_75, i_79, i_80, i_96, i_100] at c_5
      refine lv_aload_n hx hb dX10_send_29 rfl (lv_at hl 0 rfl) ?_
      refine lv_iconst (v := 2) hx hb dX10_send_30 (by decide) ?_
      refine va_calli (rnV (fun H => MH E h0 rf t0 t1 t2 A 0 pk H) (As := [.int 2]) (rest := []) ⟨hx, hb, hml, hown, hts⟩ (u_X10_fail l E z0 G hGz h0 rf hR t0 t1 t2 A 0 pk 2) (cwV 1 hts (gdV ml_X10_185 im_X10_fail se_X10_X10_fail in_X10 co_X10_fail rfl) rfl rfl rfl (by decide +kernel) ⟨Nat.le_of_ble_eq_true rfl, Nat.le_of_ble_eq_true rfl⟩) hM (fun U hU hW => hK.go hW hS hAz hU) (va_recv hK.1 (va_one hM.1) (ci := 10) (q0 := 0) rfl rfl) rfl rfl hl.1 rfl (lv_room (Nat.le_of_ble_eq_true rfl)) dX10_send_31 ⟨Nat.le_of_ble_eq_true rfl, Nat.le_of_ble_eq_true rfl⟩) hS (fun q _ h => h) (fun q h => h) (fun r_7 ur_7 t H locs ht hvm hwr_7 hB hz hk hS => ?_)
      have hM : MH E h0 rf t0 t1 t2 A ur_7 pk H := by rw [ht] at hB; exact hB
      have hDr_7 : D_X10_fail A (0 : Int32) pk (2 : Int32) A ur_7 pk r_7 := hwr_7.2
      have hpr_7_0 : ur_7 = (2 : Int32) := hwr_7.1
      have := i_2
      refine lv_goto (tgt := 48) hx hb dX10_send_34 (by decide) ?_
      exact W.iret (v := r_7) hx hb hr (fun t ht hW => ⟨⟨r_7, ((A 11), (A 20), (A 21), (A 22), (A 23), (A 24), (A 25), (A 26), (A 27), (A 28), (A 29), ur_7), rfl, ⟨hI4, hI6, hI8, (Or.inr (Or.inl ⟨r_1, hDr_1, hpr_1_0, c_2, r_3, hDr_3, hpr_3_0, hpr_3_1, n_4, hn_4, c_5, ur_7, r_7, hDr_7, hpr_7_0, rfl, rfl, rfl, rfl⟩))⟩, (by show MH E h0 rf t0 t1 t2 (uA (uA (uA (uA (uA (uA (uA (uA (uA (uA (uA A 11 (A 11)) 20 (A 20)) 21 (A 21)) 22 (A 22)) 23 (A 23)) 24 (A 24)) 25 (A 25)) 26 (A 26)) 27 (A 27)) 28 (A 28)) 29 (A 29)) ur_7 pk t.heap; rw [ht]; exact hM.cg9 rfl rfl rfl rfl rfl rfl rfl rfl rfl rfl rfl rfl rfl rfl rfl rfl rfl rfl rfl rfl rfl rfl rfl rfl rfl rfl rfl rfl rfl rfl rfl rfl rfl rfl rfl rfl rfl rfl rfl rfl rfl rfl rfl rfl)⟩, hS.F ht⟩) hS.2.2 dX10_send_48
  · simp only [lt_I, le_I, eq_I, i_0, i_1, i_2, i_3, i_4, i_5, i_6, i_7, i_8, i_10, i_12, i_16, i_20, i_23, i_24, i_31, i_32, i_63, i_64, i_m1, i_9, i_11, i_13, i_25, i_60, i_75, i_79, i_80, i_96, i_100] at c_2
    clear hpr_1_1
    refine lv_aload_n hx hb dX10_send_15 rfl (lv_at hl 0 rfl) ?_
    refine lv_iconst (v := 1) hx hb dX10_send_16 (by decide) ?_
    refine va_calli (rnV (fun H => MH E h0 rf t0 t1 t2 A 0 pk H) (As := [.int 1]) (rest := []) ⟨hx, hb, hml, hown, hts⟩ (u_X10_fail l E z0 G hGz h0 rf hR t0 t1 t2 A 0 pk 1) (cwV 1 hts (gdV ml_X10_185 im_X10_fail se_X10_X10_fail in_X10 co_X10_fail rfl) rfl rfl rfl (by decide +kernel) ⟨Nat.le_of_ble_eq_true rfl, Nat.le_of_ble_eq_true rfl⟩) hM (fun U hU hW => hK.go hW hS hAz hU) (va_recv hK.1 (va_one hM.1) (ci := 10) (q0 := 0) rfl rfl) rfl rfl hl.1 rfl (lv_room (Nat.le_of_ble_eq_true rfl)) dX10_send_17 ⟨Nat.le_of_ble_eq_true rfl, Nat.le_of_ble_eq_true rfl⟩) hS (fun q _ h => h) (fun q h => h) (fun r_8 ur_8 t H locs ht hvm hwr_8 hB hz hk hS => ?_)
    have hM : MH E h0 rf t0 t1 t2 A ur_8 pk H := by rw [ht] at hB; exact hB
    have hDr_8 : D_X10_fail A (0 : Int32) pk (1 : Int32) A ur_8 pk r_8 := hwr_8.2
    have hpr_8_0 : ur_8 = (1 : Int32) := hwr_8.1
    have := i_1
    exact W.iret (v := r_8) hx hb hr (fun t ht hW => ⟨⟨r_8, ((A 11), (A 20), (A 21), (A 22), (A 23), (A 24), (A 25), (A 26), (A 27), (A 28), (A 29), ur_8), rfl, ⟨hI4, hI6, hI8, (Or.inr (Or.inr ⟨r_1, hDr_1, hpr_1_0, c_2, ur_8, r_8, hDr_8, hpr_8_0, rfl, rfl, rfl, rfl⟩))⟩, (by show MH E h0 rf t0 t1 t2 (uA (uA (uA (uA (uA (uA (uA (uA (uA (uA (uA A 11 (A 11)) 20 (A 20)) 21 (A 21)) 22 (A 22)) 23 (A 23)) 24 (A 24)) 25 (A 25)) 26 (A 26)) 27 (A 27)) 28 (A 28)) 29 (A 29)) ur_8 pk t.heap; rw [ht]; exact hM.cg9 rfl rfl rfl rfl rfl rfl rfl rfl rfl rfl rfl rfl rfl rfl rfl rfl rfl rfl rfl rfl rfl rfl rfl rfl rfl rfl rfl rfl rfl rfl rfl rfl rfl rfl rfl rfl rfl rfl rfl rfl rfl rfl rfl rfl)⟩, hS.F ht⟩) hS.2.2 dX10_send_20
theorem dX10_move_0 : decode cX10_move 0 = .ok (.aload_n 0, 1) := by decide +kernel
theorem dX10_move_1 : decode cX10_move 1 = .ok (.iconst 0, 1) := by decide +kernel
theorem dX10_move_2 : decode cX10_move 2 = .ok (.putfield 153, 3) := by decide +kernel
theorem dX10_move_5 : decode cX10_move 5 = .ok (.aload_n 0, 1) := by decide +kernel
theorem dX10_move_6 : decode cX10_move 6 = .ok (.iload_n 1, 1) := by decide +kernel
theorem dX10_move_7 : decode cX10_move 7 = .ok (.iload_n 3, 1) := by decide +kernel
theorem dX10_move_8 : decode cX10_move 8 = .ok (.iload 4, 2) := by decide +kernel
theorem dX10_move_10 : decode cX10_move 10 = .ok (.invokevirtual 181, 3) := by decide +kernel
theorem dX10_move_13 : decode cX10_move 13 = .ok (.ifCond .eq 22, 3) := by decide +kernel
theorem dX10_move_16 : decode cX10_move 16 = .ok (.iload 5, 2) := by decide +kernel
theorem dX10_move_18 : decode cX10_move 18 = .ok (.iconst 5, 1) := by decide +kernel
theorem dX10_move_19 : decode cX10_move 19 = .ok (.invokestatic 156, 3) := by decide +kernel
theorem dX10_move_22 : decode cX10_move 22 = .ok (.ifCond .eq 13, 3) := by decide +kernel
theorem dX10_move_25 : decode cX10_move 25 = .ok (.iload 6, 2) := by decide +kernel
theorem dX10_move_27 : decode cX10_move 27 = .ok (.bipush 31, 2) := by decide +kernel
theorem dX10_move_29 : decode cX10_move 29 = .ok (.invokestatic 156, 3) := by decide +kernel
theorem dX10_move_32 : decode cX10_move 32 = .ok (.ifCond .ne 9, 3) := by decide +kernel
theorem dX10_move_35 : decode cX10_move 35 = .ok (.aload_n 0, 1) := by decide +kernel
theorem dX10_move_36 : decode cX10_move 36 = .ok (.iconst 1, 1) := by decide +kernel
theorem dX10_move_37 : decode cX10_move 37 = .ok (.invokevirtual 185, 3) := by decide +kernel
theorem dX10_move_40 : decode cX10_move 40 = .ok (.ireturn, 1) := by decide +kernel
theorem dX10_move_41 : decode cX10_move 41 = .ok (.aload_n 0, 1) := by decide +kernel
theorem dX10_move_42 : decode cX10_move 42 = .ok (.iload_n 1, 1) := by decide +kernel
theorem dX10_move_43 : decode cX10_move 43 = .ok (.invokevirtual 188, 3) := by decide +kernel
theorem dX10_move_46 : decode cX10_move 46 = .ok (.ifCond .eq 11, 3) := by decide +kernel
theorem dX10_move_49 : decode cX10_move 49 = .ok (.aload_n 0, 1) := by decide +kernel
theorem dX10_move_50 : decode cX10_move 50 = .ok (.iconst 2, 1) := by decide +kernel
theorem dX10_move_51 : decode cX10_move 51 = .ok (.invokevirtual 185, 3) := by decide +kernel
theorem dX10_move_54 : decode cX10_move 54 = .ok (.goto 25, 3) := by decide +kernel
theorem dX10_move_57 : decode cX10_move 57 = .ok (.aload_n 0, 1) := by decide +kernel
theorem dX10_move_58 : decode cX10_move 58 = .ok (.iload_n 1, 1) := by decide +kernel
theorem dX10_move_59 : decode cX10_move 59 = .ok (.iload_n 2, 1) := by decide +kernel
theorem dX10_move_60 : decode cX10_move 60 = .ok (.ifCond .eq 7, 3) := by decide +kernel
theorem dX10_move_63 : decode cX10_move 63 = .ok (.iconst 2, 1) := by decide +kernel
theorem dX10_move_64 : decode cX10_move 64 = .ok (.goto 4, 3) := by decide +kernel
theorem dX10_move_67 : decode cX10_move 67 = .ok (.iconst 1, 1) := by decide +kernel
theorem dX10_move_68 : decode cX10_move 68 = .ok (.iload_n 3, 1) := by decide +kernel
theorem dX10_move_69 : decode cX10_move 69 = .ok (.iload 4, 2) := by decide +kernel
theorem dX10_move_71 : decode cX10_move 71 = .ok (.iload 5, 2) := by decide +kernel
theorem dX10_move_73 : decode cX10_move 73 = .ok (.iload 6, 2) := by decide +kernel
theorem dX10_move_75 : decode cX10_move 75 = .ok (.iconst 0, 1) := by decide +kernel
theorem dX10_move_76 : decode cX10_move 76 = .ok (.invokevirtual 192, 3) := by decide +kernel
theorem dX10_move_79 : decode cX10_move 79 = .ok (.ireturn, 1) := by decide +kernel
set_option maxHeartbeats 8000000 in
set_option maxRecDepth 100000 in
theorem u_X10_move (l : Launch) (E : EE) (z0 : Nat) (G : Nat → Nat) (hGz : ∀ q, G q ≠ 0 → z0 ≤ q) (h0 : Nat) (rf : Nat → Nat) (hR : MG G h0 rf) (t0 t1 t2 : Int32) (A : AA) (cd pk : Int32) (p0 : Int32) (p1 : Int32) (p2 : Int32) (p3 : Int32) (p4 : Int32) (p5 : Int32) (hI4 : I4 (A 10) (A 20) (A 29) (A 24) (A 11) (A 12) (A 13)) (hI6 : I6 (A 22) (A 23) (A 24) (A 25) (A 26)) (hI8 : I8 (A 20) (A 30) (A 37) (A 36)) : Met l yX10_move [Cond.code yX10_move cX10_move 7 (some .int)] ({ frames := 2, cells := 0, slots := 0, locals := 49 } : Room) (va_Pc [.ref h0, .int p0, .int p1, .int p2, .int p3, .int p4, .int p5] (fun U => MH E h0 rf t0 t1 t2 A cd pk U.heap ∧ KS E z0 U)) (va_Qi (fun (r : Int32) (u : (Nat → Int32) × (Nat → Int32) × (Nat → Int32) × (Nat → Int32) × (Nat → Int32) × (Nat → Int32) × (Nat → Int32) × (Nat → Int32) × (Nat → Int32) × (Nat → Int32) × (Nat → Int32) × Int32) => (I4 (A 10) (u.2.1) (u.2.2.2.2.2.2.2.2.2.2.1) (u.2.2.2.2.2.1) (u.1) (A 12) (A 13)) ∧ (I6 (u.2.2.2.1) (u.2.2.2.2.1) (u.2.2.2.2.2.1) (u.2.2.2.2.2.2.1) (u.2.2.2.2.2.2.2.1)) ∧ (I8 (u.2.1) (A 30) (A 37) (A 36)) ∧ (D_X10_move A cd pk p0 p1 p2 p3 p4 p5 (uA (uA (uA (uA (uA (uA (uA (uA (uA (uA (uA A 11 (u.1)) 20 (u.2.1)) 21 (u.2.2.1)) 22 (u.2.2.2.1)) 23 (u.2.2.2.2.1)) 24 (u.2.2.2.2.2.1)) 25 (u.2.2.2.2.2.2.1)) 26 (u.2.2.2.2.2.2.2.1)) 27 (u.2.2.2.2.2.2.2.2.1)) 28 (u.2.2.2.2.2.2.2.2.2.1)) 29 (u.2.2.2.2.2.2.2.2.2.2.1)) (u.2.2.2.2.2.2.2.2.2.2.2) pk r)) (fun u t => MH E h0 rf t0 t1 t2 (uA (uA (uA (uA (uA (uA (uA (uA (uA (uA (uA A 11 (u.1)) 20 (u.2.1)) 21 (u.2.2.1)) 22 (u.2.2.2.1)) 23 (u.2.2.2.2.1)) 24 (u.2.2.2.2.2.1)) 25 (u.2.2.2.2.2.2.1)) 26 (u.2.2.2.2.2.2.2.1)) 27 (u.2.2.2.2.2.2.2.2.1)) 28 (u.2.2.2.2.2.2.2.2.2.1)) 29 (u.2.2.2.2.2.2.2.2.2.2.1)) (u.2.2.2.2.2.2.2.2.2.2.2) pk t.heap) (fun q : Nat => G q ≠ 0)) 0 0 (fun q : Nat => G q ≠ 0) := by
  refine Met.ofW (cc := cX10_move) (maxL := 7) (ret := (some .int)) (by decide) rfl ?_
  intro p e s m args below meth c s₁ B hml hv
  obtain ⟨rfl, hM, hK⟩ := hv
  have hx := B.exec
  have hb := B.bytes
  have hr := B.returns
  have hts : ∀ w ∈ TS, w.before ([.ref h0, .int p0, .int p1, .int p2, .int p3, .int p4, .int p5] : List Value).toArray s = true := fun w hw => hK.2.1 w hw _
  have hown : s.vm.findClass RX10 = some m.cls := findClass_of_methodNamed B.named
  have hlocks := B.notSynchronized
  have hS : va_S (fun q : Nat => G q ≠ 0) s.heap s.heap [] := va_S.rf
  have hAz : ∀ q, (fun q : Nat => G q ≠ 0) q → z0 ≤ q := hGz
  have hl := lv_entry ([.ref h0, .int p0, .int p1, .int p2, .int p3, .int p4, .int p5]) (n := 7) (Nat.le_of_ble_eq_true rfl)
  rw [lg_entry_eq]
  generalize (lg_sl ([.ref h0, .int p0, .int p1, .int p2, .int p3, .int p4, .int p5]) ++ List.replicate (7 - (lg_sl ([.ref h0, .int p0, .int p1, .int p2, .int p3, .int p4, .int p5])).length) Slot.unset).toArray = ls at hl ⊢
  have hl : lv_has ls 7 [(0, .ref h0), (1, .int p0), (2, .int p1), (3, .int p2), (4, .int p3), (5, .int p4), (6, .int p5)] := hl
  refine lv_aload_n hx hb dX10_move_0 rfl (lv_at hl 0 rfl) ?_
  refine lv_iconst (v := 0) hx hb dX10_move_1 (by decide) ?_
  refine rr_put (D := DG E) (ci := 10) (v := .int 0) (ty := .int) (C := RX10) (T := TX10) (N := 49) hx hb hts iw_X10 tyX10 tyX10_ok nmX10 hown hK.1 hM.1 hS (by show G h0 ≠ 0; rw [hR.1]; decide) rfl 3 (by decide) (hts _ fl_X10_153) (fun _ h9 => h9) rfl (by decide +kernel) rfl rfl (Nat.le_of_ble_eq_true rfl) dX10_move_2 (fun H locs hn ho hz hS => ?_)
  have hM : MH E h0 rf t0 t1 t2 A 0 pk H := hM.sc hR hn ho
  refine lv_aload_n hx hb dX10_move_5 rfl (lv_at hl 0 rfl) ?_
  refine lv_iload_n hx hb dX10_move_6 rfl (lv_at hl 1 rfl) ?_
  refine lv_iload_n hx hb dX10_move_7 rfl (lv_at hl 3 rfl) ?_
  refine lv_iload hx hb dX10_move_8 (lv_at hl 4 rfl) ?_
  refine va_calli (rnV (fun H => MH E h0 rf t0 t1 t2 A 0 pk H) (As := [.int p0, .int p2, .int p3]) (rest := []) ⟨hx, hb, hml, hown, hts⟩ (u_X10_cellsGood l E z0 G hGz h0 rf hR t0 t1 t2 A 0 pk p0 p2 p3) (cwV 3 hts (gdV ml_X10_181 im_X10_cellsGood se_X10_X10_cellsGood in_X10 co_X10_cellsGood rfl) rfl rfl rfl (by decide +kernel) ⟨Nat.le_of_ble_eq_true rfl, Nat.le_of_ble_eq_true rfl⟩) hM (fun U hU hW => hK.go hW hS hAz hU) (va_recv hK.1 (va_one hM.1) (ci := 10) (q0 := 0) rfl rfl) rfl rfl hl.1 rfl (lv_room (Nat.le_of_ble_eq_true rfl)) dX10_move_10 ⟨Nat.le_of_ble_eq_true rfl, Nat.le_of_ble_eq_true rfl⟩) hS (fun q _ h => h.elim) (fun q h => h.elim) (fun r_1 ur_1 t H locs ht hvm hwr_1 hB hz hk hS => ?_)
  have hM := hM.kept (fun q hq => hk q hq (fun h => h))
  have hDr_1 : D_X10_cellsGood A (0 : Int32) pk p0 p2 p3 r_1 := hwr_1.2.2
  have hpr_1_0 : r_1 = 0 ∨ r_1 = 1 := hwr_1.1
  have hpr_1_1 : r_1.toInt = 0 ∨ (0 ≤ p0.toInt ∧ p0.toInt ≤ 3 ∧ 1 ≤ p3.toInt ∧ p3.toInt ≤ 12 ∧ 0 ≤ p2.toInt ∧ p2.toInt ≤ 31 ∧ p2.toInt + p3.toInt ≤ 32) := hwr_1.2.1
  have hzr_1 := s_rng hpr_1_0
  refine lv_if_eq (tgt := 35) hx hb dX10_move_13 (by decide) (fun c_2 => ?_) (fun c_2 => ?_)
  · simp only [lt_I, le_I, eq_I, i_0, i_1, i_2, i_3, i_4, i_5, i_6, i_7, i_8, i_10, i_12, i_16, i_20, i_23, i_24, i_31, i_32, i_63, i_64, i_m1, i_9, i_11, i_13, i_25, i_60, i_75, i_79, i_80, i_96, i_100] at c_2
    clear hpr_1_1
    refine lv_aload_n hx hb dX10_move_35 rfl (lv_at hl 0 rfl) ?_
    refine lv_iconst (v := 1) hx hb dX10_move_36 (by decide) ?_
    refine va_calli (rnV (fun H => MH E h0 rf t0 t1 t2 A 0 pk H) (As := [.int 1]) (rest := []) ⟨hx, hb, hml, hown, hts⟩ (u_X10_fail l E z0 G hGz h0 rf hR t0 t1 t2 A 0 pk 1) (cwV 1 hts (gdV ml_X10_185 im_X10_fail se_X10_X10_fail in_X10 co_X10_fail rfl) rfl rfl rfl (by decide +kernel) ⟨Nat.le_of_ble_eq_true rfl, Nat.le_of_ble_eq_true rfl⟩) hM (fun U hU hW => hK.go hW hS hAz hU) (va_recv hK.1 (va_one hM.1) (ci := 10) (q0 := 0) rfl rfl) rfl rfl hl.1 rfl (lv_room (Nat.le_of_ble_eq_true rfl)) dX10_move_37 ⟨Nat.le_of_ble_eq_true rfl, Nat.le_of_ble_eq_true rfl⟩) hS (fun q _ h => h) (fun q h => h) (fun r_3 ur_3 t H locs ht hvm hwr_3 hB hz hk hS => ?_)
    have hM : MH E h0 rf t0 t1 t2 A ur_3 pk H := by rw [ht] at hB; exact hB
    have hDr_3 : D_X10_fail A (0 : Int32) pk (1 : Int32) A ur_3 pk r_3 := hwr_3.2
    have hpr_3_0 : ur_3 = (1 : Int32) := hwr_3.1
    have := i_1
    exact W.iret (v := r_3) hx hb hr (fun t ht hW => ⟨⟨r_3, ((A 11), (A 20), (A 21), (A 22), (A 23), (A 24), (A 25), (A 26), (A 27), (A 28), (A 29), ur_3), rfl, ⟨hI4, hI6, hI8, (Or.inl ⟨r_1, hDr_1, hpr_1_0, c_2, ur_3, r_3, hDr_3, hpr_3_0, rfl, rfl, rfl, rfl⟩)⟩, (by show MH E h0 rf t0 t1 t2 (uA (uA (uA (uA (uA (uA (uA (uA (uA (uA (uA A 11 (A 11)) 20 (A 20)) 21 (A 21)) 22 (A 22)) 23 (A 23)) 24 (A 24)) 25 (A 25)) 26 (A 26)) 27 (A 27)) 28 (A 28)) 29 (A 29)) ur_3 pk t.heap; rw [ht]; exact hM.cg9 rfl rfl rfl rfl rfl rfl rfl rfl rfl rfl rfl rfl rfl rfl rfl rfl rfl rfl rfl rfl rfl rfl rfl rfl rfl rfl rfl rfl rfl rfl rfl rfl rfl rfl rfl rfl rfl rfl rfl rfl rfl rfl rfl rfl)⟩, hS.F ht⟩) hS.2.2 dX10_move_40
  · simp only [lt_I, le_I, eq_I, i_0, i_1, i_2, i_3, i_4, i_5, i_6, i_7, i_8, i_10, i_12, i_16, i_20, i_23, i_24, i_31, i_32, i_63, i_64, i_m1, i_9, i_11, i_13, i_25, i_60, i_75, i_79, i_80, i_96, i_100] at c_2
    replace hpr_1_1 := hpr_1_1.resolve_left (by omega)
    refine lv_iload hx hb dX10_move_16 (lv_at hl 5 rfl) ?_
    refine lv_iconst (v := 5) hx hb dX10_move_18 (by decide) ?_
    refine W.callR (W.runS (As := [.int p4, .int 5]) (rest := []) ⟨hx, hb, hml, hown, hts⟩ (c_X10_within l p4 5) (cwS 2 hts (gdS ml_X10_156 st_X10_within in_X10 co_X10_within rfl) rfl rfl rfl (by decide +kernel) ⟨Nat.le_of_ble_eq_true rfl, Nat.le_of_ble_eq_true rfl⟩) preEq rfl rfl hl.1 rfl (lv_room (Nat.le_of_ble_eq_true rfl)) dX10_move_19 ⟨Nat.le_of_ble_eq_true rfl, Nat.le_of_ble_eq_true rfl⟩) ?_
    refine W.eq (g2 := F0 m 22 ls [.int (bI (0 ≤ p4.toInt ∧ p4.toInt ≤ (5 : Int32).toInt))]) (by rfl) ?_
    refine lv_if_eq (tgt := 35) hx hb dX10_move_22 (by decide) (fun c_4 => ?_) (fun c_4 => ?_)
    · have c_4 := bI_0 c_4
      have c_4r := c_4
      try simp only [lt_I, le_I, eq_I, i_0, i_1, i_2, i_3, i_4, i_5, i_6, i_7, i_8, i_10, i_12, i_16, i_20, i_23, i_24, i_31, i_32, i_63, i_64, i_m1, i_9, i_11, i_13, i_25, i_60, i_75, i_79, i_80, i_96, i_100] at c_4
      refine lv_aload_n hx hb dX10_move_35 rfl (lv_at hl 0 rfl) ?_
      refine lv_iconst (v := 1) hx hb dX10_move_36 (by decide) ?_
      refine va_calli (rnV (fun H => MH E h0 rf t0 t1 t2 A 0 pk H) (As := [.int 1]) (rest := []) ⟨hx, hb, hml, hown, hts⟩ (u_X10_fail l E z0 G hGz h0 rf hR t0 t1 t2 A 0 pk 1) (cwV 1 hts (gdV ml_X10_185 im_X10_fail se_X10_X10_fail in_X10 co_X10_fail rfl) rfl rfl rfl (by decide +kernel) ⟨Nat.le_of_ble_eq_true rfl, Nat.le_of_ble_eq_true rfl⟩) hM (fun U hU hW => hK.go hW hS hAz hU) (va_recv hK.1 (va_one hM.1) (ci := 10) (q0 := 0) rfl rfl) rfl rfl hl.1 rfl (lv_room (Nat.le_of_ble_eq_true rfl)) dX10_move_37 ⟨Nat.le_of_ble_eq_true rfl, Nat.le_of_ble_eq_true rfl⟩) hS (fun q _ h => h) (fun q h => h) (fun r_5 ur_5 t H locs ht hvm hwr_5 hB hz hk hS => ?_)
      have hM : MH E h0 rf t0 t1 t2 A ur_5 pk H := by rw [ht] at hB; exact hB
      have hDr_5 : D_X10_fail A (0 : Int32) pk (1 : Int32) A ur_5 pk r_5 := hwr_5.2
      have hpr_5_0 : ur_5 = (1 : Int32) := hwr_5.1
      have := i_1
      exact W.iret (v := r_5) hx hb hr (fun t ht hW => ⟨⟨r_5, ((A 11), (A 20), (A 21), (A 22), (A 23), (A 24), (A 25), (A 26), (A 27), (A 28), (A 29), ur_5), rfl, ⟨hI4, hI6, hI8, (Or.inr (Or.inl ⟨r_1, hDr_1, hpr_1_0, c_2, c_4r, ur_5, r_5, hDr_5, hpr_5_0, rfl, rfl, rfl, rfl⟩))⟩, (by show MH E h0 rf t0 t1 t2 (uA (uA (uA (uA (uA (uA (uA (uA (uA (uA (uA A 11 (A 11)) 20 (A 20)) 21 (A 21)) 22 (A 22)) 23 (A 23)) 24 (A 24)) 25 (A 25)) 26 (A 26)) 27 (A 27)) 28 (A 28)) 29 (A 29)) ur_5 pk t.heap; rw [ht]; exact hM.cg9 rfl rfl rfl rfl rfl rfl rfl rfl rfl rfl rfl rfl rfl rfl rfl rfl rfl rfl rfl rfl rfl rfl rfl rfl rfl rfl rfl rfl rfl rfl rfl rfl rfl rfl rfl rfl rfl rfl rfl rfl rfl rfl rfl rfl)⟩, hS.F ht⟩) hS.2.2 dX10_move_40
    · have c_4 := bI_n c_4
      have c_4r := c_4
      try simp only [lt_I, le_I, eq_I, i_0, i_1, i_2, i_3, i_4, i_5, i_6, i_7, i_8, i_10, i_12, i_16, i_20, i_23, i_24, i_31, i_32, i_63, i_64, i_m1, i_9, i_11, i_13, i_25, i_60, i_75, i_79, i_80, i_96, i_100] at c_4
      refine lv_iload hx hb dX10_move_25 (lv_at hl 6 rfl) ?_
      refine lv_bipush (v := 31) hx hb dX10_move_27 (by decide) ?_
      refine W.callR (W.runS (As := [.int p5, .int 31]) (rest := []) ⟨hx, hb, hml, hown, hts⟩ (c_X10_within l p5 31) (cwS 2 hts (gdS ml_X10_156 st_X10_within in_X10 co_X10_within rfl) rfl rfl rfl (by decide +kernel) ⟨Nat.le_of_ble_eq_true rfl, Nat.le_of_ble_eq_true rfl⟩) preEq rfl rfl hl.1 rfl (lv_room (Nat.le_of_ble_eq_true rfl)) dX10_move_29 ⟨Nat.le_of_ble_eq_true rfl, Nat.le_of_ble_eq_true rfl⟩) ?_
      refine W.eq (g2 := F0 m 32 ls [.int (bI (0 ≤ p5.toInt ∧ p5.toInt ≤ (31 : Int32).toInt))]) (by rfl) ?_
      refine lv_if_ne (tgt := 41) hx hb dX10_move_32 (by decide) (fun c_6 => ?_) (fun c_6 => ?_)
      · have c_6 := bI_n c_6
        have c_6r := c_6
        try simp only [lt_I, le_I, eq_I, i_0, i_1, i_2, i_3, i_4, i_5, i_6, i_7, i_8, i_10, i_12, i_16, i_20, i_23, i_24, i_31, i_32, i_63, i_64, i_m1, i_9, i_11, i_13, i_25, i_60, i_75, i_79, i_80, i_96, i_100] at c_6
        refine lv_aload_n hx hb dX10_move_41 rfl (lv_at hl 0 rfl) ?_
        refine lv_iload_n hx hb dX10_move_42 rfl (lv_at hl 1 rfl) ?_
        refine va_calli (rnV (fun H => MH E h0 rf t0 t1 t2 A 0 pk H) (As := [.int p0]) (rest := []) ⟨hx, hb, hml, hown, hts⟩ (u_X10_full l E z0 G hGz h0 rf hR t0 t1 t2 A 0 pk p0 (show 0 ≤ p0.toInt ∧ p0.toInt ≤ 3 from by first | decide | omega)) (cwV 1 hts (gdV ml_X10_188 im_X10_full se_X10_X10_full in_X10 co_X10_full rfl) rfl rfl rfl (by decide +kernel) ⟨Nat.le_of_ble_eq_true rfl, Nat.le_of_ble_eq_true rfl⟩) hM (fun U hU hW => hK.go hW hS hAz hU) (va_recv hK.1 (va_one hM.1) (ci := 10) (q0 := 0) rfl rfl) rfl rfl hl.1 rfl (lv_room (Nat.le_of_ble_eq_true rfl)) dX10_move_43 ⟨Nat.le_of_ble_eq_true rfl, Nat.le_of_ble_eq_true rfl⟩) hS (fun q _ h => h.elim) (fun q h => h.elim) (fun r_7 ur_7 t H locs ht hvm hwr_7 hB hz hk hS => ?_)
        have hM := hM.kept (fun q hq => hk q hq (fun h => h))
        have hDr_7 : D_X10_full A (0 : Int32) pk p0 r_7 := hwr_7.2.2
        have hpr_7_0 : r_7 = 0 ∨ r_7 = 1 := hwr_7.1
        have hpr_7_1 : ∀ n : Nat, (n : Int) = p0.toInt → r_7.toInt = 1 ∨ (((A 10) n).toInt = 1 ∧ ((A 20) n).toInt ≠ 4) := hwr_7.2.1
        obtain ⟨n_8, hn_8, en_8⟩ := s_nat (x := p0) (by omega)
        have iahpr_7_1 := hpr_7_1 n_8 (by omega)
        have hzr_7 := s_rng hpr_7_0
        refine lv_if_eq (tgt := 57) hx hb dX10_move_46 (by decide) (fun c_9 => ?_) (fun c_9 => ?_)
        · simp only [lt_I, le_I, eq_I, i_0, i_1, i_2, i_3, i_4, i_5, i_6, i_7, i_8, i_10, i_12, i_16, i_20, i_23, i_24, i_31, i_32, i_63, i_64, i_m1, i_9, i_11, i_13, i_25, i_60, i_75, i_79, i_80, i_96, i_100] at c_9
          refine lv_aload_n hx hb dX10_move_57 rfl (lv_at hl 0 rfl) ?_
          refine lv_iload_n hx hb dX10_move_58 rfl (lv_at hl 1 rfl) ?_
          refine lv_iload_n hx hb dX10_move_59 rfl (lv_at hl 2 rfl) ?_
          refine lv_if_eq (tgt := 67) hx hb dX10_move_60 (by decide) (fun c_10 => ?_) (fun c_10 => ?_)
          · simp only [lt_I, le_I, eq_I, i_0, i_1, i_2, i_3, i_4, i_5, i_6, i_7, i_8, i_10, i_12, i_16, i_20, i_23, i_24, i_31, i_32, i_63, i_64, i_m1, i_9, i_11, i_13, i_25, i_60, i_75, i_79, i_80, i_96, i_100] at c_10
            refine lv_iconst (v := 1) hx hb dX10_move_67 (by decide) ?_
            refine lv_iload_n hx hb dX10_move_68 rfl (lv_at hl 3 rfl) ?_
            refine lv_iload hx hb dX10_move_69 (lv_at hl 4 rfl) ?_
            refine lv_iload hx hb dX10_move_71 (lv_at hl 5 rfl) ?_
            refine lv_iload hx hb dX10_move_73 (lv_at hl 6 rfl) ?_
            refine lv_iconst (v := 0) hx hb dX10_move_75 (by decide) ?_
            refine va_calli (rnV (fun H => MH E h0 rf t0 t1 t2 A 0 pk H) (As := [.int p0, .int 1, .int p2, .int p3, .int p4, .int p5, .int 0]) (rest := []) ⟨hx, hb, hml, hown, hts⟩ (u_X10_post l E z0 G hGz h0 rf hR t0 t1 t2 A 0 pk p0 1 p2 p3 p4 p5 0 hI4 hI6 hI8 (show 0 ≤ p0.toInt ∧ p0.toInt ≤ 3 from by have := i_0; have := i_1; first | decide | omega) (show 0 ≤ (1 : Int32).toInt ∧ (1 : Int32).toInt ≤ 3 from by have := i_0; have := i_1; first | decide | omega) (show 0 ≤ p2.toInt ∧ p2.toInt ≤ 32 from by have := i_0; have := i_1; first | decide | omega) (show 1 ≤ p3.toInt ∧ p3.toInt ≤ 12 from by have := i_0; have := i_1; first | decide | omega) (show p2.toInt + p3.toInt ≤ 32 from by have := i_0; have := i_1; first | decide | omega) (show (1 : Int32).toInt = 0 ∨ (0 ≤ p4.toInt ∧ p4.toInt ≤ 5) from by have := i_0; have := i_1; first | decide | omega) (show -1 ≤ p5.toInt ∧ p5.toInt ≤ 31 from by have := i_0; have := i_1; first | decide | omega) (show ∀ n : Nat, (n : Int) = p0.toInt → ((A 10) n).toInt = 1 ∧ ((A 20) n).toInt ≠ 4 from (fun n hn => by
        obtain rfl : n_8 = n := by omega
        exact iahpr_7_1.resolve_left (by omega)))) (cwV 7 hts (gdV ml_X10_192 im_X10_post se_X10_X10_post in_X10 co_X10_post rfl) rfl rfl rfl (by decide +kernel) ⟨Nat.le_of_ble_eq_true rfl, Nat.le_of_ble_eq_true rfl⟩) hM (fun U hU hW => hK.go hW hS hAz hU) (va_recv hK.1 (va_one hM.1) (ci := 10) (q0 := 0) rfl rfl) rfl rfl hl.1 rfl (lv_room (Nat.le_of_ble_eq_true rfl)) dX10_move_76 ⟨Nat.le_of_ble_eq_true rfl, Nat.le_of_ble_eq_true rfl⟩) hS (fun q _ h => h) (fun q h => h) (fun r_11 ur_11 t H locs ht hvm hwr_11 hB hz hk hS => ?_)
            have hM : MH E h0 rf t0 t1 t2 (uA (uA (uA (uA (uA (uA (uA (uA (uA (uA (uA A 11 (ur_11.1)) 20 (ur_11.2.1)) 21 (ur_11.2.2.1)) 22 (ur_11.2.2.2.1)) 23 (ur_11.2.2.2.2.1)) 24 (ur_11.2.2.2.2.2.1)) 25 (ur_11.2.2.2.2.2.2.1)) 26 (ur_11.2.2.2.2.2.2.2.1)) 27 (ur_11.2.2.2.2.2.2.2.2.1)) 28 (ur_11.2.2.2.2.2.2.2.2.2.1)) 29 (ur_11.2.2.2.2.2.2.2.2.2.2)) 0 pk H := by rw [ht] at hB; exact hB
            have hDr_11 : D_X10_post A (0 : Int32) pk p0 (1 : Int32) p2 p3 p4 p5 (0 : Int32) (uA (uA (uA (uA (uA (uA (uA (uA (uA (uA (uA A 11 (ur_11.1)) 20 (ur_11.2.1)) 21 (ur_11.2.2.1)) 22 (ur_11.2.2.2.1)) 23 (ur_11.2.2.2.2.1)) 24 (ur_11.2.2.2.2.2.1)) 25 (ur_11.2.2.2.2.2.2.1)) 26 (ur_11.2.2.2.2.2.2.2.1)) 27 (ur_11.2.2.2.2.2.2.2.2.1)) 28 (ur_11.2.2.2.2.2.2.2.2.2.1)) 29 (ur_11.2.2.2.2.2.2.2.2.2.2)) (0 : Int32) pk r_11 := hwr_11.2.2.2
            have hpr_11_0 : I4 (A 10) (ur_11.2.1) (ur_11.2.2.2.2.2.2.2.2.2.2) (ur_11.2.2.2.2.2.1) (ur_11.1) (A 12) (A 13) := hwr_11.1
            have hpr_11_1 : I6 (ur_11.2.2.2.1) (ur_11.2.2.2.2.1) (ur_11.2.2.2.2.2.1) (ur_11.2.2.2.2.2.2.1) (ur_11.2.2.2.2.2.2.2.1) := hwr_11.2.1
            have hpr_11_2 : I8 (ur_11.2.1) (A 30) (A 37) (A 36) := hwr_11.2.2.1
            have := i_0
            have := i_1
            exact W.iret (v := r_11) hx hb hr (fun t ht hW => ⟨⟨r_11, ((ur_11.1), (ur_11.2.1), (ur_11.2.2.1), (ur_11.2.2.2.1), (ur_11.2.2.2.2.1), (ur_11.2.2.2.2.2.1), (ur_11.2.2.2.2.2.2.1), (ur_11.2.2.2.2.2.2.2.1), (ur_11.2.2.2.2.2.2.2.2.1), (ur_11.2.2.2.2.2.2.2.2.2.1), (ur_11.2.2.2.2.2.2.2.2.2.2), 0), rfl, ⟨hpr_11_0, hpr_11_1, hpr_11_2, (Or.inr (Or.inr (Or.inl ⟨r_1, hDr_1, hpr_1_0, c_2, c_4r, c_6r, r_7, hDr_7, hpr_7_0, hpr_7_1, n_8, hn_8, c_9, c_10, ur_11, r_11, hDr_11, hpr_11_0, hpr_11_1, hpr_11_2, rfl, rfl, rfl, rfl⟩)))⟩, (by show MH E h0 rf t0 t1 t2 (uA (uA (uA (uA (uA (uA (uA (uA (uA (uA (uA A 11 (ur_11.1)) 20 (ur_11.2.1)) 21 (ur_11.2.2.1)) 22 (ur_11.2.2.2.1)) 23 (ur_11.2.2.2.2.1)) 24 (ur_11.2.2.2.2.2.1)) 25 (ur_11.2.2.2.2.2.2.1)) 26 (ur_11.2.2.2.2.2.2.2.1)) 27 (ur_11.2.2.2.2.2.2.2.2.1)) 28 (ur_11.2.2.2.2.2.2.2.2.2.1)) 29 (ur_11.2.2.2.2.2.2.2.2.2.2)) 0 pk t.heap; rw [ht]; exact hM)⟩, hS.F ht⟩) hS.2.2 dX10_move_79
          · simp only [lt_I, le_I, eq_I, i_0, i_1, i_2, i_3, i_4, i_5, i_6, i_7, i_8, i_10, i_12, i_16, i_20, i_23, i_24, i_31, i_32, i_63, i_64, i_m1, i_9, i_11, i_13, i_25, i_60, i_75, i_79, i_80, i_96, i_100] at c_10
            refine lv_iconst (v := 2) hx hb dX10_move_63 (by decide) ?_
            refine lv_goto (tgt := 68) hx hb dX10_move_64 (by decide) ?_
            refine lv_iload_n hx hb dX10_move_68 rfl (lv_at hl 3 rfl) ?_
            refine lv_iload hx hb dX10_move_69 (lv_at hl 4 rfl) ?_
            refine lv_iload hx hb dX10_move_71 (lv_at hl 5 rfl) ?_
            refine lv_iload hx hb dX10_move_73 (lv_at hl 6 rfl) ?_
            refine lv_iconst (v := 0) hx hb dX10_move_75 (by decide) ?_
            refine va_calli (rnV (fun H => MH E h0 rf t0 t1 t2 A 0 pk H) (As := [.int p0, .int 2, .int p2, .int p3, .int p4, .int p5, .int 0]) (rest := []) ⟨hx, hb, hml, hown, hts⟩ (u_X10_post l E z0 G hGz h0 rf hR t0 t1 t2 A 0 pk p0 2 p2 p3 p4 p5 0 hI4 hI6 hI8 (show 0 ≤ p0.toInt ∧ p0.toInt ≤ 3 from by have := i_0; have := i_2; first | decide | omega) (show 0 ≤ (2 : Int32).toInt ∧ (2 : Int32).toInt ≤ 3 from by have := i_0; have := i_2; first | decide | omega) (show 0 ≤ p2.toInt ∧ p2.toInt ≤ 32 from by have := i_0; have := i_2; first | decide | omega) (show 1 ≤ p3.toInt ∧ p3.toInt ≤ 12 from by have := i_0; have := i_2; first | decide | omega) (show p2.toInt + p3.toInt ≤ 32 from by have := i_0; have := i_2; first | decide | omega) (show (2 : Int32).toInt = 0 ∨ (0 ≤ p4.toInt ∧ p4.toInt ≤ 5) from by have := i_0; have := i_2; first | decide | omega) (show -1 ≤ p5.toInt ∧ p5.toInt ≤ 31 from by have := i_0; have := i_2; first | decide | omega) (show ∀ n : Nat, (n : Int) = p0.toInt → ((A 10) n).toInt = 1 ∧ ((A 20) n).toInt ≠ 4 from (fun n hn => by
        obtain rfl : n_8 = n := by omega
        exact iahpr_7_1.resolve_left (by omega)))) (cwV 7 hts (gdV ml_X10_192 im_X10_post se_X10_X10_post in_X10 co_X10_post rfl) rfl rfl rfl (by decide +kernel) ⟨Nat.le_of_ble_eq_true rfl, Nat.le_of_ble_eq_true rfl⟩) hM (fun U hU hW => hK.go hW hS hAz hU) (va_recv hK.1 (va_one hM.1) (ci := 10) (q0 := 0) rfl rfl) rfl rfl hl.1 rfl (lv_room (Nat.le_of_ble_eq_true rfl)) dX10_move_76 ⟨Nat.le_of_ble_eq_true rfl, Nat.le_of_ble_eq_true rfl⟩) hS (fun q _ h => h) (fun q h => h) (fun r_12 ur_12 t H locs ht hvm hwr_12 hB hz hk hS => ?_)
            have hM : MH E h0 rf t0 t1 t2 (uA (uA (uA (uA (uA (uA (uA (uA (uA (uA (uA A 11 (ur_12.1)) 20 (ur_12.2.1)) 21 (ur_12.2.2.1)) 22 (ur_12.2.2.2.1)) 23 (ur_12.2.2.2.2.1)) 24 (ur_12.2.2.2.2.2.1)) 25 (ur_12.2.2.2.2.2.2.1)) 26 (ur_12.2.2.2.2.2.2.2.1)) 27 (ur_12.2.2.2.2.2.2.2.2.1)) 28 (ur_12.2.2.2.2.2.2.2.2.2.1)) 29 (ur_12.2.2.2.2.2.2.2.2.2.2)) 0 pk H := by rw [ht] at hB; exact hB
            have hDr_12 : D_X10_post A (0 : Int32) pk p0 (2 : Int32) p2 p3 p4 p5 (0 : Int32) (uA (uA (uA (uA (uA (uA (uA (uA (uA (uA (uA A 11 (ur_12.1)) 20 (ur_12.2.1)) 21 (ur_12.2.2.1)) 22 (ur_12.2.2.2.1)) 23 (ur_12.2.2.2.2.1)) 24 (ur_12.2.2.2.2.2.1)) 25 (ur_12.2.2.2.2.2.2.1)) 26 (ur_12.2.2.2.2.2.2.2.1)) 27 (ur_12.2.2.2.2.2.2.2.2.1)) 28 (ur_12.2.2.2.2.2.2.2.2.2.1)) 29 (ur_12.2.2.2.2.2.2.2.2.2.2)) (0 : Int32) pk r_12 := hwr_12.2.2.2
            have hpr_12_0 : I4 (A 10) (ur_12.2.1) (ur_12.2.2.2.2.2.2.2.2.2.2) (ur_12.2.2.2.2.2.1) (ur_12.1) (A 12) (A 13) := hwr_12.1
            have hpr_12_1 : I6 (ur_12.2.2.2.1) (ur_12.2.2.2.2.1) (ur_12.2.2.2.2.2.1) (ur_12.2.2.2.2.2.2.1) (ur_12.2.2.2.2.2.2.2.1) := hwr_12.2.1
            have hpr_12_2 : I8 (ur_12.2.1) (A 30) (A 37) (A 36) := hwr_12.2.2.1
            have := i_0
            have := i_2
            exact W.iret (v := r_12) hx hb hr (fun t ht hW => ⟨⟨r_12, ((ur_12.1), (ur_12.2.1), (ur_12.2.2.1), (ur_12.2.2.2.1), (ur_12.2.2.2.2.1), (ur_12.2.2.2.2.2.1), (ur_12.2.2.2.2.2.2.1), (ur_12.2.2.2.2.2.2.2.1), (ur_12.2.2.2.2.2.2.2.2.1), (ur_12.2.2.2.2.2.2.2.2.2.1), (ur_12.2.2.2.2.2.2.2.2.2.2), 0), rfl, ⟨hpr_12_0, hpr_12_1, hpr_12_2, (Or.inr (Or.inr (Or.inr (Or.inl ⟨r_1, hDr_1, hpr_1_0, c_2, c_4r, c_6r, r_7, hDr_7, hpr_7_0, hpr_7_1, n_8, hn_8, c_9, c_10, ur_12, r_12, hDr_12, hpr_12_0, hpr_12_1, hpr_12_2, rfl, rfl, rfl, rfl⟩))))⟩, (by show MH E h0 rf t0 t1 t2 (uA (uA (uA (uA (uA (uA (uA (uA (uA (uA (uA A 11 (ur_12.1)) 20 (ur_12.2.1)) 21 (ur_12.2.2.1)) 22 (ur_12.2.2.2.1)) 23 (ur_12.2.2.2.2.1)) 24 (ur_12.2.2.2.2.2.1)) 25 (ur_12.2.2.2.2.2.2.1)) 26 (ur_12.2.2.2.2.2.2.2.1)) 27 (ur_12.2.2.2.2.2.2.2.2.1)) 28 (ur_12.2.2.2.2.2.2.2.2.2.1)) 29 (ur_12.2.2.2.2.2.2.2.2.2.2)) 0 pk t.heap; rw [ht]; exact hM)⟩, hS.F ht⟩) hS.2.2 dX10_move_79
        · simp only [lt_I, le_I, eq_I, i_0, i_1, i_2, i_3, i_4, i_5, i_6, i_7, i_8, i_10, i_12, i_16, i_20, i_23, i_24, i_31, i_32, i_63, i_64, i_m1, i_9, i_11, i_13, i_25, i_60, i_75, i_79, i_80, i_96, i_100] at c_9
          refine lv_aload_n hx hb dX10_move_49 rfl (lv_at hl 0 rfl) ?_
          refine lv_iconst (v := 2) hx hb dX10_move_50 (by decide) ?_
          refine va_calli (rnV (fun H => MH E h0 rf t0 t1 t2 A 0 pk H) (As := [.int 2]) (rest := []) ⟨hx, hb, hml, hown, hts⟩ (u_X10_fail l E z0 G hGz h0 rf hR t0 t1 t2 A 0 pk 2) (cwV 1 hts (gdV ml_X10_185 im_X10_fail se_X10_X10_fail in_X10 co_X10_fail rfl) rfl rfl rfl (by decide +kernel) ⟨Nat.le_of_ble_eq_true rfl, Nat.le_of_ble_eq_true rfl⟩) hM (fun U hU hW => hK.go hW hS hAz hU) (va_recv hK.1 (va_one hM.1) (ci := 10) (q0 := 0) rfl rfl) rfl rfl hl.1 rfl (lv_room (Nat.le_of_ble_eq_true rfl)) dX10_move_51 ⟨Nat.le_of_ble_eq_true rfl, Nat.le_of_ble_eq_true rfl⟩) hS (fun q _ h => h) (fun q h => h) (fun r_13 ur_13 t H locs ht hvm hwr_13 hB hz hk hS => ?_)
          have hM : MH E h0 rf t0 t1 t2 A ur_13 pk H := by rw [ht] at hB; exact hB
          have hDr_13 : D_X10_fail A (0 : Int32) pk (2 : Int32) A ur_13 pk r_13 := hwr_13.2
          have hpr_13_0 : ur_13 = (2 : Int32) := hwr_13.1
          have := i_2
          refine lv_goto (tgt := 79) hx hb dX10_move_54 (by decide) ?_
          exact W.iret (v := r_13) hx hb hr (fun t ht hW => ⟨⟨r_13, ((A 11), (A 20), (A 21), (A 22), (A 23), (A 24), (A 25), (A 26), (A 27), (A 28), (A 29), ur_13), rfl, ⟨hI4, hI6, hI8, (Or.inr (Or.inr (Or.inr (Or.inr (Or.inl ⟨r_1, hDr_1, hpr_1_0, c_2, c_4r, c_6r, r_7, hDr_7, hpr_7_0, hpr_7_1, n_8, hn_8, c_9, ur_13, r_13, hDr_13, hpr_13_0, rfl, rfl, rfl, rfl⟩)))))⟩, (by show MH E h0 rf t0 t1 t2 (uA (uA (uA (uA (uA (uA (uA (uA (uA (uA (uA A 11 (A 11)) 20 (A 20)) 21 (A 21)) 22 (A 22)) 23 (A 23)) 24 (A 24)) 25 (A 25)) 26 (A 26)) 27 (A 27)) 28 (A 28)) 29 (A 29)) ur_13 pk t.heap; rw [ht]; exact hM.cg9 rfl rfl rfl rfl rfl rfl rfl rfl rfl rfl rfl rfl rfl rfl rfl rfl rfl rfl rfl rfl rfl rfl rfl rfl rfl rfl rfl rfl rfl rfl rfl rfl rfl rfl rfl rfl rfl rfl rfl rfl rfl rfl rfl rfl)⟩, hS.F ht⟩) hS.2.2 dX10_move_79
      · have c_6 := bI_0 c_6
        have c_6r := c_6
        try simp only [lt_I, le_I, eq_I, i_0, i_1, i_2, i_3, i_4, i_5, i_6, i_7, i_8, i_10, i_12, i_16, i_20, i_23, i_24, i_31, i_32, i_63, i_64, i_m1, i_9, i_11, i_13, i_25, i_60, i_75, i_79, i_80, i_96, i_100] at c_6
        refine lv_aload_n hx hb dX10_move_35 rfl (lv_at hl 0 rfl) ?_
        refine lv_iconst (v := 1) hx hb dX10_move_36 (by decide) ?_
        refine va_calli (rnV (fun H => MH E h0 rf t0 t1 t2 A 0 pk H) (As := [.int 1]) (rest := []) ⟨hx, hb, hml, hown, hts⟩ (u_X10_fail l E z0 G hGz h0 rf hR t0 t1 t2 A 0 pk 1) (cwV 1 hts (gdV ml_X10_185 im_X10_fail se_X10_X10_fail in_X10 co_X10_fail rfl) rfl rfl rfl (by decide +kernel) ⟨Nat.le_of_ble_eq_true rfl, Nat.le_of_ble_eq_true rfl⟩) hM (fun U hU hW => hK.go hW hS hAz hU) (va_recv hK.1 (va_one hM.1) (ci := 10) (q0 := 0) rfl rfl) rfl rfl hl.1 rfl (lv_room (Nat.le_of_ble_eq_true rfl)) dX10_move_37 ⟨Nat.le_of_ble_eq_true rfl, Nat.le_of_ble_eq_true rfl⟩) hS (fun q _ h => h) (fun q h => h) (fun r_14 ur_14 t H locs ht hvm hwr_14 hB hz hk hS => ?_)
        have hM : MH E h0 rf t0 t1 t2 A ur_14 pk H := by rw [ht] at hB; exact hB
        have hDr_14 : D_X10_fail A (0 : Int32) pk (1 : Int32) A ur_14 pk r_14 := hwr_14.2
        have hpr_14_0 : ur_14 = (1 : Int32) := hwr_14.1
        have := i_1
        exact W.iret (v := r_14) hx hb hr (fun t ht hW => ⟨⟨r_14, ((A 11), (A 20), (A 21), (A 22), (A 23), (A 24), (A 25), (A 26), (A 27), (A 28), (A 29), ur_14), rfl, ⟨hI4, hI6, hI8, (Or.inr (Or.inr (Or.inr (Or.inr (Or.inr ⟨r_1, hDr_1, hpr_1_0, c_2, c_4r, c_6r, ur_14, r_14, hDr_14, hpr_14_0, rfl, rfl, rfl, rfl⟩)))))⟩, (by show MH E h0 rf t0 t1 t2 (uA (uA (uA (uA (uA (uA (uA (uA (uA (uA (uA A 11 (A 11)) 20 (A 20)) 21 (A 21)) 22 (A 22)) 23 (A 23)) 24 (A 24)) 25 (A 25)) 26 (A 26)) 27 (A 27)) 28 (A 28)) 29 (A 29)) ur_14 pk t.heap; rw [ht]; exact hM.cg9 rfl rfl rfl rfl rfl rfl rfl rfl rfl rfl rfl rfl rfl rfl rfl rfl rfl rfl rfl rfl rfl rfl rfl rfl rfl rfl rfl rfl rfl rfl rfl rfl rfl rfl rfl rfl rfl rfl rfl rfl rfl rfl rfl rfl)⟩, hS.F ht⟩) hS.2.2 dX10_move_40
theorem dX10_add_0 : decode cX10_add 0 = .ok (.aload_n 0, 1) := by decide +kernel
theorem dX10_add_1 : decode cX10_add 1 = .ok (.iconst 0, 1) := by decide +kernel
theorem dX10_add_2 : decode cX10_add 2 = .ok (.putfield 153, 3) := by decide +kernel
theorem dX10_add_5 : decode cX10_add 5 = .ok (.aload_n 0, 1) := by decide +kernel
theorem dX10_add_6 : decode cX10_add 6 = .ok (.iload_n 1, 1) := by decide +kernel
theorem dX10_add_7 : decode cX10_add 7 = .ok (.iload_n 2, 1) := by decide +kernel
theorem dX10_add_8 : decode cX10_add 8 = .ok (.iconst 1, 1) := by decide +kernel
theorem dX10_add_9 : decode cX10_add 9 = .ok (.invokevirtual 181, 3) := by decide +kernel
theorem dX10_add_12 : decode cX10_add 12 = .ok (.ifCond .eq 21, 3) := by decide +kernel
theorem dX10_add_15 : decode cX10_add 15 = .ok (.iload_n 3, 1) := by decide +kernel
theorem dX10_add_16 : decode cX10_add 16 = .ok (.iconst 5, 1) := by decide +kernel
theorem dX10_add_17 : decode cX10_add 17 = .ok (.invokestatic 156, 3) := by decide +kernel
theorem dX10_add_20 : decode cX10_add 20 = .ok (.ifCond .eq 13, 3) := by decide +kernel
theorem dX10_add_23 : decode cX10_add 23 = .ok (.iload 4, 2) := by decide +kernel
theorem dX10_add_25 : decode cX10_add 25 = .ok (.bipush 31, 2) := by decide +kernel
theorem dX10_add_27 : decode cX10_add 27 = .ok (.invokestatic 156, 3) := by decide +kernel
theorem dX10_add_30 : decode cX10_add 30 = .ok (.ifCond .ne 9, 3) := by decide +kernel
theorem dX10_add_33 : decode cX10_add 33 = .ok (.aload_n 0, 1) := by decide +kernel
theorem dX10_add_34 : decode cX10_add 34 = .ok (.iconst 1, 1) := by decide +kernel
theorem dX10_add_35 : decode cX10_add 35 = .ok (.invokevirtual 185, 3) := by decide +kernel
theorem dX10_add_38 : decode cX10_add 38 = .ok (.ireturn, 1) := by decide +kernel
theorem dX10_add_39 : decode cX10_add 39 = .ok (.aload_n 0, 1) := by decide +kernel
theorem dX10_add_40 : decode cX10_add 40 = .ok (.iload_n 1, 1) := by decide +kernel
theorem dX10_add_41 : decode cX10_add 41 = .ok (.invokevirtual 188, 3) := by decide +kernel
theorem dX10_add_44 : decode cX10_add 44 = .ok (.ifCond .eq 11, 3) := by decide +kernel
theorem dX10_add_47 : decode cX10_add 47 = .ok (.aload_n 0, 1) := by decide +kernel
theorem dX10_add_48 : decode cX10_add 48 = .ok (.iconst 2, 1) := by decide +kernel
theorem dX10_add_49 : decode cX10_add 49 = .ok (.invokevirtual 185, 3) := by decide +kernel
theorem dX10_add_52 : decode cX10_add 52 = .ok (.goto 16, 3) := by decide +kernel
theorem dX10_add_55 : decode cX10_add 55 = .ok (.aload_n 0, 1) := by decide +kernel
theorem dX10_add_56 : decode cX10_add 56 = .ok (.iload_n 1, 1) := by decide +kernel
theorem dX10_add_57 : decode cX10_add 57 = .ok (.iconst 3, 1) := by decide +kernel
theorem dX10_add_58 : decode cX10_add 58 = .ok (.iload_n 2, 1) := by decide +kernel
theorem dX10_add_59 : decode cX10_add 59 = .ok (.iconst 1, 1) := by decide +kernel
theorem dX10_add_60 : decode cX10_add 60 = .ok (.iload_n 3, 1) := by decide +kernel
theorem dX10_add_61 : decode cX10_add 61 = .ok (.iload 4, 2) := by decide +kernel
theorem dX10_add_63 : decode cX10_add 63 = .ok (.iload 5, 2) := by decide +kernel
theorem dX10_add_65 : decode cX10_add 65 = .ok (.invokevirtual 192, 3) := by decide +kernel
theorem dX10_add_68 : decode cX10_add 68 = .ok (.ireturn, 1) := by decide +kernel
set_option maxHeartbeats 8000000 in
set_option maxRecDepth 100000 in
theorem u_X10_add (l : Launch) (E : EE) (z0 : Nat) (G : Nat → Nat) (hGz : ∀ q, G q ≠ 0 → z0 ≤ q) (h0 : Nat) (rf : Nat → Nat) (hR : MG G h0 rf) (t0 t1 t2 : Int32) (A : AA) (cd pk : Int32) (p0 : Int32) (p1 : Int32) (p2 : Int32) (p3 : Int32) (p4 : Int32) (hI4 : I4 (A 10) (A 20) (A 29) (A 24) (A 11) (A 12) (A 13)) (hI6 : I6 (A 22) (A 23) (A 24) (A 25) (A 26)) (hI8 : I8 (A 20) (A 30) (A 37) (A 36)) : Met l yX10_add [Cond.code yX10_add cX10_add 6 (some .int)] ({ frames := 2, cells := 0, slots := 0, locals := 49 } : Room) (va_Pc [.ref h0, .int p0, .int p1, .int p2, .int p3, .int p4] (fun U => MH E h0 rf t0 t1 t2 A cd pk U.heap ∧ KS E z0 U)) (va_Qi (fun (r : Int32) (u : (Nat → Int32) × (Nat → Int32) × (Nat → Int32) × (Nat → Int32) × (Nat → Int32) × (Nat → Int32) × (Nat → Int32) × (Nat → Int32) × (Nat → Int32) × (Nat → Int32) × (Nat → Int32) × Int32) => (I4 (A 10) (u.2.1) (u.2.2.2.2.2.2.2.2.2.2.1) (u.2.2.2.2.2.1) (u.1) (A 12) (A 13)) ∧ (I6 (u.2.2.2.1) (u.2.2.2.2.1) (u.2.2.2.2.2.1) (u.2.2.2.2.2.2.1) (u.2.2.2.2.2.2.2.1)) ∧ (I8 (u.2.1) (A 30) (A 37) (A 36)) ∧ (D_X10_add A cd pk p0 p1 p2 p3 p4 (uA (uA (uA (uA (uA (uA (uA (uA (uA (uA (uA A 11 (u.1)) 20 (u.2.1)) 21 (u.2.2.1)) 22 (u.2.2.2.1)) 23 (u.2.2.2.2.1)) 24 (u.2.2.2.2.2.1)) 25 (u.2.2.2.2.2.2.1)) 26 (u.2.2.2.2.2.2.2.1)) 27 (u.2.2.2.2.2.2.2.2.1)) 28 (u.2.2.2.2.2.2.2.2.2.1)) 29 (u.2.2.2.2.2.2.2.2.2.2.1)) (u.2.2.2.2.2.2.2.2.2.2.2) pk r)) (fun u t => MH E h0 rf t0 t1 t2 (uA (uA (uA (uA (uA (uA (uA (uA (uA (uA (uA A 11 (u.1)) 20 (u.2.1)) 21 (u.2.2.1)) 22 (u.2.2.2.1)) 23 (u.2.2.2.2.1)) 24 (u.2.2.2.2.2.1)) 25 (u.2.2.2.2.2.2.1)) 26 (u.2.2.2.2.2.2.2.1)) 27 (u.2.2.2.2.2.2.2.2.1)) 28 (u.2.2.2.2.2.2.2.2.2.1)) 29 (u.2.2.2.2.2.2.2.2.2.2.1)) (u.2.2.2.2.2.2.2.2.2.2.2) pk t.heap) (fun q : Nat => G q ≠ 0)) 0 0 (fun q : Nat => G q ≠ 0) := by
  refine Met.ofW (cc := cX10_add) (maxL := 6) (ret := (some .int)) (by decide) rfl ?_
  intro p e s m args below meth c s₁ B hml hv
  obtain ⟨rfl, hM, hK⟩ := hv
  have hx := B.exec
  have hb := B.bytes
  have hr := B.returns
  have hts : ∀ w ∈ TS, w.before ([.ref h0, .int p0, .int p1, .int p2, .int p3, .int p4] : List Value).toArray s = true := fun w hw => hK.2.1 w hw _
  have hown : s.vm.findClass RX10 = some m.cls := findClass_of_methodNamed B.named
  have hlocks := B.notSynchronized
  have hS : va_S (fun q : Nat => G q ≠ 0) s.heap s.heap [] := va_S.rf
  have hAz : ∀ q, (fun q : Nat => G q ≠ 0) q → z0 ≤ q := hGz
  have hl := lv_entry ([.ref h0, .int p0, .int p1, .int p2, .int p3, .int p4]) (n := 6) (Nat.le_of_ble_eq_true rfl)
  rw [lg_entry_eq]
  generalize (lg_sl ([.ref h0, .int p0, .int p1, .int p2, .int p3, .int p4]) ++ List.replicate (6 - (lg_sl ([.ref h0, .int p0, .int p1, .int p2, .int p3, .int p4])).length) Slot.unset).toArray = ls at hl ⊢
  have hl : lv_has ls 6 [(0, .ref h0), (1, .int p0), (2, .int p1), (3, .int p2), (4, .int p3), (5, .int p4)] := hl
  refine lv_aload_n hx hb dX10_add_0 rfl (lv_at hl 0 rfl) ?_
  refine lv_iconst (v := 0) hx hb dX10_add_1 (by decide) ?_
  refine rr_put (D := DG E) (ci := 10) (v := .int 0) (ty := .int) (C := RX10) (T := TX10) (N := 49) hx hb hts iw_X10 tyX10 tyX10_ok nmX10 hown hK.1 hM.1 hS (by show G h0 ≠ 0; rw [hR.1]; decide) rfl 3 (by decide) (hts _ fl_X10_153) (fun _ h9 => h9) rfl (by decide +kernel) rfl rfl (Nat.le_of_ble_eq_true rfl) dX10_add_2 (fun H locs hn ho hz hS => ?_)
  have hM : MH E h0 rf t0 t1 t2 A 0 pk H := hM.sc hR hn ho
  refine lv_aload_n hx hb dX10_add_5 rfl (lv_at hl 0 rfl) ?_
  refine lv_iload_n hx hb dX10_add_6 rfl (lv_at hl 1 rfl) ?_
  refine lv_iload_n hx hb dX10_add_7 rfl (lv_at hl 2 rfl) ?_
  refine lv_iconst (v := 1) hx hb dX10_add_8 (by decide) ?_
  refine va_calli (rnV (fun H => MH E h0 rf t0 t1 t2 A 0 pk H) (As := [.int p0, .int p1, .int 1]) (rest := []) ⟨hx, hb, hml, hown, hts⟩ (u_X10_cellsGood l E z0 G hGz h0 rf hR t0 t1 t2 A 0 pk p0 p1 1) (cwV 3 hts (gdV ml_X10_181 im_X10_cellsGood se_X10_X10_cellsGood in_X10 co_X10_cellsGood rfl) rfl rfl rfl (by decide +kernel) ⟨Nat.le_of_ble_eq_true rfl, Nat.le_of_ble_eq_true rfl⟩) hM (fun U hU hW => hK.go hW hS hAz hU) (va_recv hK.1 (va_one hM.1) (ci := 10) (q0 := 0) rfl rfl) rfl rfl hl.1 rfl (lv_room (Nat.le_of_ble_eq_true rfl)) dX10_add_9 ⟨Nat.le_of_ble_eq_true rfl, Nat.le_of_ble_eq_true rfl⟩) hS (fun q _ h => h.elim) (fun q h => h.elim) (fun r_1 ur_1 t H locs ht hvm hwr_1 hB hz hk hS => ?_)
  have hM := hM.kept (fun q hq => hk q hq (fun h => h))
  have hDr_1 : D_X10_cellsGood A (0 : Int32) pk p0 p1 (1 : Int32) r_1 := hwr_1.2.2
  have hpr_1_0 : r_1 = 0 ∨ r_1 = 1 := hwr_1.1
  have hpr_1_1 : r_1.toInt = 0 ∨ (0 ≤ p0.toInt ∧ p0.toInt ≤ 3 ∧ 1 ≤ (1 : Int32).toInt ∧ (1 : Int32).toInt ≤ 12 ∧ 0 ≤ p1.toInt ∧ p1.toInt ≤ 31 ∧ p1.toInt + (1 : Int32).toInt ≤ 32) := hwr_1.2.1
  have := i_1
  have hzr_1 := s_rng hpr_1_0
  refine lv_if_eq (tgt := 33) hx hb dX10_add_12 (by decide) (fun c_2 => ?_) (fun c_2 => ?_)
  · simp only [lt_I, le_I, eq_I, i_0, i_1, i_2, i_3, i_4, i_5, i_6, i_7, i_8, i_10, i_12, i_16, i_20, i_23, i_24, i_31, i_32, i_63, i_64, i_m1, i_9, i_11, i_13, i_25, i_60, i_75, i_79, i_80, i_96, i_100] at c_2
    clear hpr_1_1
    refine lv_aload_n hx hb dX10_add_33 rfl (lv_at hl 0 rfl) ?_
    refine lv_iconst (v := 1) hx hb dX10_add_34 (by decide) ?_
    refine va_calli (rnV (fun H => MH E h0 rf t0 t1 t2 A 0 pk H) (As := [.int 1]) (rest := []) ⟨hx, hb, hml, hown, hts⟩ (u_X10_fail l E z0 G hGz h0 rf hR t0 t1 t2 A 0 pk 1) (cwV 1 hts (gdV ml_X10_185 im_X10_fail se_X10_X10_fail in_X10 co_X10_fail rfl) rfl rfl rfl (by decide +kernel) ⟨Nat.le_of_ble_eq_true rfl, Nat.le_of_ble_eq_true rfl⟩) hM (fun U hU hW => hK.go hW hS hAz hU) (va_recv hK.1 (va_one hM.1) (ci := 10) (q0 := 0) rfl rfl) rfl rfl hl.1 rfl (lv_room (Nat.le_of_ble_eq_true rfl)) dX10_add_35 ⟨Nat.le_of_ble_eq_true rfl, Nat.le_of_ble_eq_true rfl⟩) hS (fun q _ h => h) (fun q h => h) (fun r_3 ur_3 t H locs ht hvm hwr_3 hB hz hk hS => ?_)
    have hM : MH E h0 rf t0 t1 t2 A ur_3 pk H := by rw [ht] at hB; exact hB
    have hDr_3 : D_X10_fail A (0 : Int32) pk (1 : Int32) A ur_3 pk r_3 := hwr_3.2
    have hpr_3_0 : ur_3 = (1 : Int32) := hwr_3.1
    exact W.iret (v := r_3) hx hb hr (fun t ht hW => ⟨⟨r_3, ((A 11), (A 20), (A 21), (A 22), (A 23), (A 24), (A 25), (A 26), (A 27), (A 28), (A 29), ur_3), rfl, ⟨hI4, hI6, hI8, (Or.inl ⟨r_1, hDr_1, hpr_1_0, c_2, ur_3, r_3, hDr_3, hpr_3_0, rfl, rfl, rfl, rfl⟩)⟩, (by show MH E h0 rf t0 t1 t2 (uA (uA (uA (uA (uA (uA (uA (uA (uA (uA (uA A 11 (A 11)) 20 (A 20)) 21 (A 21)) 22 (A 22)) 23 (A 23)) 24 (A 24)) 25 (A 25)) 26 (A 26)) 27 (A 27)) 28 (A 28)) 29 (A 29)) ur_3 pk t.heap; rw [ht]; exact hM.cg9 rfl rfl rfl rfl rfl rfl rfl rfl rfl rfl rfl rfl rfl rfl rfl rfl rfl rfl rfl rfl rfl rfl rfl rfl rfl rfl rfl rfl rfl rfl rfl rfl rfl rfl rfl rfl rfl rfl rfl rfl rfl rfl rfl rfl)⟩, hS.F ht⟩) hS.2.2 dX10_add_38
  · simp only [lt_I, le_I, eq_I, i_0, i_1, i_2, i_3, i_4, i_5, i_6, i_7, i_8, i_10, i_12, i_16, i_20, i_23, i_24, i_31, i_32, i_63, i_64, i_m1, i_9, i_11, i_13, i_25, i_60, i_75, i_79, i_80, i_96, i_100] at c_2
    replace hpr_1_1 := hpr_1_1.resolve_left (by omega)
    refine lv_iload_n hx hb dX10_add_15 rfl (lv_at hl 3 rfl) ?_
    refine lv_iconst (v := 5) hx hb dX10_add_16 (by decide) ?_
    refine W.callR (W.runS (As := [.int p2, .int 5]) (rest := []) ⟨hx, hb, hml, hown, hts⟩ (c_X10_within l p2 5) (cwS 2 hts (gdS ml_X10_156 st_X10_within in_X10 co_X10_within rfl) rfl rfl rfl (by decide +kernel) ⟨Nat.le_of_ble_eq_true rfl, Nat.le_of_ble_eq_true rfl⟩) preEq rfl rfl hl.1 rfl (lv_room (Nat.le_of_ble_eq_true rfl)) dX10_add_17 ⟨Nat.le_of_ble_eq_true rfl, Nat.le_of_ble_eq_true rfl⟩) ?_
    refine W.eq (g2 := F0 m 20 ls [.int (bI (0 ≤ p2.toInt ∧ p2.toInt ≤ (5 : Int32).toInt))]) (by rfl) ?_
    refine lv_if_eq (tgt := 33) hx hb dX10_add_20 (by decide) (fun c_4 => ?_) (fun c_4 => ?_)
    · have c_4 := bI_0 c_4
      have c_4r := c_4
      try simp only [lt_I, le_I, eq_I, i_0, i_1, i_2, i_3, i_4, i_5, i_6, i_7, i_8, i_10, i_12, i_16, i_20, i_23, i_24, i_31, i_32, i_63, i_64, i_m1, i_9, i_11, i_13, i_25, i_60, i_75, i_79, i_80, i_96, i_100] at c_4
      refine lv_aload_n hx hb dX10_add_33 rfl (lv_at hl 0 rfl) ?_
      refine lv_iconst (v := 1) hx hb dX10_add_34 (by decide) ?_
      refine va_calli (rnV (fun H => MH E h0 rf t0 t1 t2 A 0 pk H) (As := [.int 1]) (rest := []) ⟨hx, hb, hml, hown, hts⟩ (u_X10_fail l E z0 G hGz h0 rf hR t0 t1 t2 A 0 pk 1) (cwV 1 hts (gdV ml_X10_185 im_X10_fail se_X10_X10_fail in_X10 co_X10_fail rfl) rfl rfl rfl (by decide +kernel) ⟨Nat.le_of_ble_eq_true rfl, Nat.le_of_ble_eq_true rfl⟩) hM (fun U hU hW => hK.go hW hS hAz hU) (va_recv hK.1 (va_one hM.1) (ci := 10) (q0 := 0) rfl rfl) rfl rfl hl.1 rfl (lv_room (Nat.le_of_ble_eq_true rfl)) dX10_add_35 ⟨Nat.le_of_ble_eq_true rfl, Nat.le_of_ble_eq_true rfl⟩) hS (fun q _ h => h) (fun q h => h) (fun r_5 ur_5 t H locs ht hvm hwr_5 hB hz hk hS => ?_)
      have hM : MH E h0 rf t0 t1 t2 A ur_5 pk H := by rw [ht] at hB; exact hB
      have hDr_5 : D_X10_fail A (0 : Int32) pk (1 : Int32) A ur_5 pk r_5 := hwr_5.2
      have hpr_5_0 : ur_5 = (1 : Int32) := hwr_5.1
      exact W.iret (v := r_5) hx hb hr (fun t ht hW => ⟨⟨r_5, ((A 11), (A 20), (A 21), (A 22), (A 23), (A 24), (A 25), (A 26), (A 27), (A 28), (A 29), ur_5), rfl, ⟨hI4, hI6, hI8, (Or.inr (Or.inl ⟨r_1, hDr_1, hpr_1_0, c_2, c_4r, ur_5, r_5, hDr_5, hpr_5_0, rfl, rfl, rfl, rfl⟩))⟩, (by show MH E h0 rf t0 t1 t2 (uA (uA (uA (uA (uA (uA (uA (uA (uA (uA (uA A 11 (A 11)) 20 (A 20)) 21 (A 21)) 22 (A 22)) 23 (A 23)) 24 (A 24)) 25 (A 25)) 26 (A 26)) 27 (A 27)) 28 (A 28)) 29 (A 29)) ur_5 pk t.heap; rw [ht]; exact hM.cg9 rfl rfl rfl rfl rfl rfl rfl rfl rfl rfl rfl rfl rfl rfl rfl rfl rfl rfl rfl rfl rfl rfl rfl rfl rfl rfl rfl rfl rfl rfl rfl rfl rfl rfl rfl rfl rfl rfl rfl rfl rfl rfl rfl rfl)⟩, hS.F ht⟩) hS.2.2 dX10_add_38
    · have c_4 := bI_n c_4
      have c_4r := c_4
      try simp only [lt_I, le_I, eq_I, i_0, i_1, i_2, i_3, i_4, i_5, i_6, i_7, i_8, i_10, i_12, i_16, i_20, i_23, i_24, i_31, i_32, i_63, i_64, i_m1, i_9, i_11, i_13, i_25, i_60, i_75, i_79, i_80, i_96, i_100] at c_4
      refine lv_iload hx hb dX10_add_23 (lv_at hl 4 rfl) ?_
      refine lv_bipush (v := 31) hx hb dX10_add_25 (by decide) ?_
      refine W.callR (W.runS (As := [.int p3, .int 31]) (rest := []) ⟨hx, hb, hml, hown, hts⟩ (c_X10_within l p3 31) (cwS 2 hts (gdS ml_X10_156 st_X10_within in_X10 co_X10_within rfl) rfl rfl rfl (by decide +kernel) ⟨Nat.le_of_ble_eq_true rfl, Nat.le_of_ble_eq_true rfl⟩) preEq rfl rfl hl.1 rfl (lv_room (Nat.le_of_ble_eq_true rfl)) dX10_add_27 ⟨Nat.le_of_ble_eq_true rfl, Nat.le_of_ble_eq_true rfl⟩) ?_
      refine W.eq (g2 := F0 m 30 ls [.int (bI (0 ≤ p3.toInt ∧ p3.toInt ≤ (31 : Int32).toInt))]) (by rfl) ?_
      refine lv_if_ne (tgt := 39) hx hb dX10_add_30 (by decide) (fun c_6 => ?_) (fun c_6 => ?_)
      · have c_6 := bI_n c_6
        have c_6r := c_6
        try simp only [lt_I, le_I, eq_I, i_0, i_1, i_2, i_3, i_4, i_5, i_6, i_7, i_8, i_10, i_12, i_16, i_20, i_23, i_24, i_31, i_32, i_63, i_64, i_m1, i_9, i_11, i_13, i_25, i_60, i_75, i_79, i_80, i_96, i_100] at c_6
        refine lv_aload_n hx hb dX10_add_39 rfl (lv_at hl 0 rfl) ?_
        refine lv_iload_n hx hb dX10_add_40 rfl (lv_at hl 1 rfl) ?_
        refine va_calli (rnV (fun H => MH E h0 rf t0 t1 t2 A 0 pk H) (As := [.int p0]) (rest := []) ⟨hx, hb, hml, hown, hts⟩ (u_X10_full l E z0 G hGz h0 rf hR t0 t1 t2 A 0 pk p0 (show 0 ≤ p0.toInt ∧ p0.toInt ≤ 3 from by first | decide | omega)) (cwV 1 hts (gdV ml_X10_188 im_X10_full se_X10_X10_full in_X10 co_X10_full rfl) rfl rfl rfl (by decide +kernel) ⟨Nat.le_of_ble_eq_true rfl, Nat.le_of_ble_eq_true rfl⟩) hM (fun U hU hW => hK.go hW hS hAz hU) (va_recv hK.1 (va_one hM.1) (ci := 10) (q0 := 0) rfl rfl) rfl rfl hl.1 rfl (lv_room (Nat.le_of_ble_eq_true rfl)) dX10_add_41 ⟨Nat.le_of_ble_eq_true rfl, Nat.le_of_ble_eq_true rfl⟩) hS (fun q _ h => h.elim) (fun q h => h.elim) (fun r_7 ur_7 t H locs ht hvm hwr_7 hB hz hk hS => ?_)
        have hM := hM.kept (fun q hq => hk q hq (fun h => h))
        have hDr_7 : D_X10_full A (0 : Int32) pk p0 r_7 := hwr_7.2.2
        have hpr_7_0 : r_7 = 0 ∨ r_7 = 1 := hwr_7.1
        have hpr_7_1 : ∀ n : Nat, (n : Int) = p0.toInt → r_7.toInt = 1 ∨ (((A 10) n).toInt = 1 ∧ ((A 20) n).toInt ≠ 4) := hwr_7.2.1
        obtain ⟨n_8, hn_8, en_8⟩ := s_nat (x := p0) (by omega)
        have iahpr_7_1 := hpr_7_1 n_8 (by omega)
        have hzr_7 := s_rng hpr_7_0
        refine lv_if_eq (tgt := 55) hx hb dX10_add_44 (by decide) (fun c_9 => ?_) (fun c_9 => ?_)
        · simp only [lt_I, le_I, eq_I, i_0, i_1, i_2, i_3, i_4, i_5, i_6, i_7, i_8, i_10, i_12, i_16, i_20, i_23, i_24, i_31, i_32, i_63, i_64, i_m1, i_9, i_11, i_13, i_25, i_60, i_75, i_79, i_80, i_96, i_100] at c_9
          refine lv_aload_n hx hb dX10_add_55 rfl (lv_at hl 0 rfl) ?_
          refine lv_iload_n hx hb dX10_add_56 rfl (lv_at hl 1 rfl) ?_
          refine lv_iconst (v := 3) hx hb dX10_add_57 (by decide) ?_
          refine lv_iload_n hx hb dX10_add_58 rfl (lv_at hl 2 rfl) ?_
          refine lv_iconst (v := 1) hx hb dX10_add_59 (by decide) ?_
          refine lv_iload_n hx hb dX10_add_60 rfl (lv_at hl 3 rfl) ?_
          refine lv_iload hx hb dX10_add_61 (lv_at hl 4 rfl) ?_
          refine lv_iload hx hb dX10_add_63 (lv_at hl 5 rfl) ?_
          refine va_calli (rnV (fun H => MH E h0 rf t0 t1 t2 A 0 pk H) (As := [.int p0, .int 3, .int p1, .int 1, .int p2, .int p3, .int p4]) (rest := []) ⟨hx, hb, hml, hown, hts⟩ (u_X10_post l E z0 G hGz h0 rf hR t0 t1 t2 A 0 pk p0 3 p1 1 p2 p3 p4 hI4 hI6 hI8 (show 0 ≤ p0.toInt ∧ p0.toInt ≤ 3 from by have := i_1; have := i_3; first | decide | omega) (show 0 ≤ (3 : Int32).toInt ∧ (3 : Int32).toInt ≤ 3 from by have := i_1; have := i_3; first | decide | omega) (show 0 ≤ p1.toInt ∧ p1.toInt ≤ 32 from by have := i_1; have := i_3; first | decide | omega) (show 1 ≤ (1 : Int32).toInt ∧ (1 : Int32).toInt ≤ 12 from by have := i_1; have := i_3; first | decide | omega) (show p1.toInt + (1 : Int32).toInt ≤ 32 from by have := i_1; have := i_3; first | decide | omega) (show (3 : Int32).toInt = 0 ∨ (0 ≤ p2.toInt ∧ p2.toInt ≤ 5) from by have := i_1; have := i_3; first | decide | omega) (show -1 ≤ p3.toInt ∧ p3.toInt ≤ 31 from by have := i_1; have := i_3; first | decide | omega) (show ∀ n : Nat, (n : Int) = p0.toInt → ((A 10) n).toInt = 1 ∧ ((A 20) n).toInt ≠ 4 from (fun n hn => by
        obtain rfl : n_8 = n := by omega
        exact iahpr_7_1.resolve_left (by omega)))) (cwV 7 hts (gdV ml_X10_192 im_X10_post se_X10_X10_post in_X10 co_X10_post rfl) rfl rfl rfl (by decide +kernel) ⟨Nat.le_of_ble_eq_true rfl, Nat.le_of_ble_eq_true rfl⟩) hM (fun U hU hW => hK.go hW hS hAz hU) (va_recv hK.1 (va_one hM.1) (ci := 10) (q0 := 0) rfl rfl) rfl rfl hl.1 rfl (lv_room (Nat.le_of_ble_eq_true rfl)) dX10_add_65 ⟨Nat.le_of_ble_eq_true rfl, Nat.le_of_ble_eq_true rfl⟩) hS (fun q _ h => h) (fun q h => h) (fun r_10 ur_10 t H locs ht hvm hwr_10 hB hz hk hS => ?_)
          have hM : MH E h0 rf t0 t1 t2 (uA (uA (uA (uA (uA (uA (uA (uA (uA (uA (uA A 11 (ur_10.1)) 20 (ur_10.2.1)) 21 (ur_10.2.2.1)) 22 (ur_10.2.2.2.1)) 23 (ur_10.2.2.2.2.1)) 24 (ur_10.2.2.2.2.2.1)) 25 (ur_10.2.2.2.2.2.2.1)) 26 (ur_10.2.2.2.2.2.2.2.1)) 27 (ur_10.2.2.2.2.2.2.2.2.1)) 28 (ur_10.2.2.2.2.2.2.2.2.2.1)) 29 (ur_10.2.2.2.2.2.2.2.2.2.2)) 0 pk H := by rw [ht] at hB; exact hB
          have hDr_10 : D_X10_post A (0 : Int32) pk p0 (3 : Int32) p1 (1 : Int32) p2 p3 p4 (uA (uA (uA (uA (uA (uA (uA (uA (uA (uA (uA A 11 (ur_10.1)) 20 (ur_10.2.1)) 21 (ur_10.2.2.1)) 22 (ur_10.2.2.2.1)) 23 (ur_10.2.2.2.2.1)) 24 (ur_10.2.2.2.2.2.1)) 25 (ur_10.2.2.2.2.2.2.1)) 26 (ur_10.2.2.2.2.2.2.2.1)) 27 (ur_10.2.2.2.2.2.2.2.2.1)) 28 (ur_10.2.2.2.2.2.2.2.2.2.1)) 29 (ur_10.2.2.2.2.2.2.2.2.2.2)) (0 : Int32) pk r_10 := hwr_10.2.2.2
          have hpr_10_0 : I4 (A 10) (ur_10.2.1) (ur_10.2.2.2.2.2.2.2.2.2.2) (ur_10.2.2.2.2.2.1) (ur_10.1) (A 12) (A 13) := hwr_10.1
          have hpr_10_1 : I6 (ur_10.2.2.2.1) (ur_10.2.2.2.2.1) (ur_10.2.2.2.2.2.1) (ur_10.2.2.2.2.2.2.1) (ur_10.2.2.2.2.2.2.2.1) := hwr_10.2.1
          have hpr_10_2 : I8 (ur_10.2.1) (A 30) (A 37) (A 36) := hwr_10.2.2.1
          have := i_3
          exact W.iret (v := r_10) hx hb hr (fun t ht hW => ⟨⟨r_10, ((ur_10.1), (ur_10.2.1), (ur_10.2.2.1), (ur_10.2.2.2.1), (ur_10.2.2.2.2.1), (ur_10.2.2.2.2.2.1), (ur_10.2.2.2.2.2.2.1), (ur_10.2.2.2.2.2.2.2.1), (ur_10.2.2.2.2.2.2.2.2.1), (ur_10.2.2.2.2.2.2.2.2.2.1), (ur_10.2.2.2.2.2.2.2.2.2.2), 0), rfl, ⟨hpr_10_0, hpr_10_1, hpr_10_2, (Or.inr (Or.inr (Or.inl ⟨r_1, hDr_1, hpr_1_0, c_2, c_4r, c_6r, r_7, hDr_7, hpr_7_0, hpr_7_1, n_8, hn_8, c_9, ur_10, r_10, hDr_10, hpr_10_0, hpr_10_1, hpr_10_2, rfl, rfl, rfl, rfl⟩)))⟩, (by show MH E h0 rf t0 t1 t2 (uA (uA (uA (uA (uA (uA (uA (uA (uA (uA (uA A 11 (ur_10.1)) 20 (ur_10.2.1)) 21 (ur_10.2.2.1)) 22 (ur_10.2.2.2.1)) 23 (ur_10.2.2.2.2.1)) 24 (ur_10.2.2.2.2.2.1)) 25 (ur_10.2.2.2.2.2.2.1)) 26 (ur_10.2.2.2.2.2.2.2.1)) 27 (ur_10.2.2.2.2.2.2.2.2.1)) 28 (ur_10.2.2.2.2.2.2.2.2.2.1)) 29 (ur_10.2.2.2.2.2.2.2.2.2.2)) 0 pk t.heap; rw [ht]; exact hM)⟩, hS.F ht⟩) hS.2.2 dX10_add_68
        · simp only [lt_I, le_I, eq_I, i_0, i_1, i_2, i_3, i_4, i_5, i_6, i_7, i_8, i_10, i_12, i_16, i_20, i_23, i_24, i_31, i_32, i_63, i_64, i_m1, i_9, i_11, i_13, i_25, i_60, i_75, i_79, i_80, i_96, i_100] at c_9
          refine lv_aload_n hx hb dX10_add_47 rfl (lv_at hl 0 rfl) ?_
          refine lv_iconst (v := 2) hx hb dX10_add_48 (by decide) ?_
          refine va_calli (rnV (fun H => MH E h0 rf t0 t1 t2 A 0 pk H) (As := [.int 2]) (rest := []) ⟨hx, hb, hml, hown, hts⟩ (u_X10_fail l E z0 G hGz h0 rf hR t0 t1 t2 A 0 pk 2) (cwV 1 hts (gdV ml_X10_185 im_X10_fail se_X10_X10_fail in_X10 co_X10_fail rfl) rfl rfl rfl (by decide +kernel) ⟨Nat.le_of_ble_eq_true rfl, Nat.le_of_ble_eq_true rfl⟩) hM (fun U hU hW => hK.go hW hS hAz hU) (va_recv hK.1 (va_one hM.1) (ci := 10) (q0 := 0) rfl rfl) rfl rfl hl.1 rfl (lv_room (Nat.le_of_ble_eq_true rfl)) dX10_add_49 ⟨Nat.le_of_ble_eq_true rfl, Nat.le_of_ble_eq_true rfl⟩) hS (fun q _ h => h) (fun q h => h) (fun r_11 ur_11 t H locs ht hvm hwr_11 hB hz hk hS => ?_)
          have hM : MH E h0 rf t0 t1 t2 A ur_11 pk H := by rw [ht] at hB; exact hB
          have hDr_11 : D_X10_fail A (0 : Int32) pk (2 : Int32) A ur_11 pk r_11 := hwr_11.2
          have hpr_11_0 : ur_11 = (2 : Int32) := hwr_11.1
          have := i_2
          refine lv_goto (tgt := 68) hx hb dX10_add_52 (by decide) ?_
          exact W.iret (v := r_11) hx hb hr (fun t ht hW => ⟨⟨r_11, ((A 11), (A 20), (A 21), (A 22), (A 23), (A 24), (A 25), (A 26), (A 27), (A 28), (A 29), ur_11), rfl, ⟨hI4, hI6, hI8, (Or.inr (Or.inr (Or.inr (Or.inl ⟨r_1, hDr_1, hpr_1_0, c_2, c_4r, c_6r, r_7, hDr_7, hpr_7_0, hpr_7_1, n_8, hn_8, c_9, ur_11, r_11, hDr_11, hpr_11_0, rfl, rfl, rfl, rfl⟩))))⟩, (by show MH E h0 rf t0 t1 t2 (uA (uA (uA (uA (uA (uA (uA (uA (uA (uA (uA A 11 (A 11)) 20 (A 20)) 21 (A 21)) 22 (A 22)) 23 (A 23)) 24 (A 24)) 25 (A 25)) 26 (A 26)) 27 (A 27)) 28 (A 28)) 29 (A 29)) ur_11 pk t.heap; rw [ht]; exact hM.cg9 rfl rfl rfl rfl rfl rfl rfl rfl rfl rfl rfl rfl rfl rfl rfl rfl rfl rfl rfl rfl rfl rfl rfl rfl rfl rfl rfl rfl rfl rfl rfl rfl rfl rfl rfl rfl rfl rfl rfl rfl rfl rfl rfl rfl)⟩, hS.F ht⟩) hS.2.2 dX10_add_68
      · have c_6 := bI_0 c_6
        have c_6r := c_6
        try simp only [lt_I, le_I, eq_I, i_0, i_1, i_2, i_3, i_4, i_5, i_6, i_7, i_8, i_10, i_12, i_16, i_20, i_23, i_24, i_31, i_32, i_63, i_64, i_m1, i_9, i_11, i_13, i_25, i_60, i_75, i_79, i_80, i_96, i_100] at c_6
        refine lv_aload_n hx hb dX10_add_33 rfl (lv_at hl 0 rfl) ?_
        refine lv_iconst (v := 1) hx hb dX10_add_34 (by decide) ?_
        refine va_calli (rnV (fun H => MH E h0 rf t0 t1 t2 A 0 pk H) (As := [.int 1]) (rest := []) ⟨hx, hb, hml, hown, hts⟩ (u_X10_fail l E z0 G hGz h0 rf hR t0 t1 t2 A 0 pk 1) (cwV 1 hts (gdV ml_X10_185 im_X10_fail se_X10_X10_fail in_X10 co_X10_fail rfl) rfl rfl rfl (by decide +kernel) ⟨Nat.le_of_ble_eq_true rfl, Nat.le_of_ble_eq_true rfl⟩) hM (fun U hU hW => hK.go hW hS hAz hU) (va_recv hK.1 (va_one hM.1) (ci := 10) (q0 := 0) rfl rfl) rfl rfl hl.1 rfl (lv_room (Nat.le_of_ble_eq_true rfl)) dX10_add_35 ⟨Nat.le_of_ble_eq_true rfl, Nat.le_of_ble_eq_true rfl⟩) hS (fun q _ h => h) (fun q h => h) (fun r_12 ur_12 t H locs ht hvm hwr_12 hB hz hk hS => ?_)
        have hM : MH E h0 rf t0 t1 t2 A ur_12 pk H := by rw [ht] at hB; exact hB
        have hDr_12 : D_X10_fail A (0 : Int32) pk (1 : Int32) A ur_12 pk r_12 := hwr_12.2
        have hpr_12_0 : ur_12 = (1 : Int32) := hwr_12.1
        exact W.iret (v := r_12) hx hb hr (fun t ht hW => ⟨⟨r_12, ((A 11), (A 20), (A 21), (A 22), (A 23), (A 24), (A 25), (A 26), (A 27), (A 28), (A 29), ur_12), rfl, ⟨hI4, hI6, hI8, (Or.inr (Or.inr (Or.inr (Or.inr ⟨r_1, hDr_1, hpr_1_0, c_2, c_4r, c_6r, ur_12, r_12, hDr_12, hpr_12_0, rfl, rfl, rfl, rfl⟩))))⟩, (by show MH E h0 rf t0 t1 t2 (uA (uA (uA (uA (uA (uA (uA (uA (uA (uA (uA A 11 (A 11)) 20 (A 20)) 21 (A 21)) 22 (A 22)) 23 (A 23)) 24 (A 24)) 25 (A 25)) 26 (A 26)) 27 (A 27)) 28 (A 28)) 29 (A 29)) ur_12 pk t.heap; rw [ht]; exact hM.cg9 rfl rfl rfl rfl rfl rfl rfl rfl rfl rfl rfl rfl rfl rfl rfl rfl rfl rfl rfl rfl rfl rfl rfl rfl rfl rfl rfl rfl rfl rfl rfl rfl rfl rfl rfl rfl rfl rfl rfl rfl rfl rfl rfl rfl)⟩, hS.F ht⟩) hS.2.2 dX10_add_38
theorem dX10_receive_0 : decode cX10_receive 0 = .ok (.aload_n 0, 1) := by decide +kernel
theorem dX10_receive_1 : decode cX10_receive 1 = .ok (.iconst 0, 1) := by decide +kernel
theorem dX10_receive_2 : decode cX10_receive 2 = .ok (.putfield 153, 3) := by decide +kernel
theorem dX10_receive_5 : decode cX10_receive 5 = .ok (.aload_n 0, 1) := by decide +kernel
theorem dX10_receive_6 : decode cX10_receive 6 = .ok (.iload_n 1, 1) := by decide +kernel
theorem dX10_receive_7 : decode cX10_receive 7 = .ok (.iload_n 2, 1) := by decide +kernel
theorem dX10_receive_8 : decode cX10_receive 8 = .ok (.iload_n 3, 1) := by decide +kernel
theorem dX10_receive_9 : decode cX10_receive 9 = .ok (.invokevirtual 181, 3) := by decide +kernel
theorem dX10_receive_12 : decode cX10_receive 12 = .ok (.ifCond .ne 9, 3) := by decide +kernel
theorem dX10_receive_15 : decode cX10_receive 15 = .ok (.aload_n 0, 1) := by decide +kernel
theorem dX10_receive_16 : decode cX10_receive 16 = .ok (.iconst 1, 1) := by decide +kernel
theorem dX10_receive_17 : decode cX10_receive 17 = .ok (.invokevirtual 185, 3) := by decide +kernel
theorem dX10_receive_20 : decode cX10_receive 20 = .ok (.ireturn, 1) := by decide +kernel
theorem dX10_receive_21 : decode cX10_receive 21 = .ok (.aload_n 0, 1) := by decide +kernel
theorem dX10_receive_22 : decode cX10_receive 22 = .ok (.getfield 28, 3) := by decide +kernel
theorem dX10_receive_25 : decode cX10_receive 25 = .ok (.iload_n 1, 1) := by decide +kernel
theorem dX10_receive_26 : decode cX10_receive 26 = .ok (.iaload, 1) := by decide +kernel
theorem dX10_receive_27 : decode cX10_receive 27 = .ok (.iconst 2, 1) := by decide +kernel
theorem dX10_receive_28 : decode cX10_receive 28 = .ok (.if_icmp .eq 13, 3) := by decide +kernel
theorem dX10_receive_31 : decode cX10_receive 31 = .ok (.aload_n 0, 1) := by decide +kernel
theorem dX10_receive_32 : decode cX10_receive 32 = .ok (.getfield 89, 3) := by decide +kernel
theorem dX10_receive_35 : decode cX10_receive 35 = .ok (.iload_n 1, 1) := by decide +kernel
theorem dX10_receive_36 : decode cX10_receive 36 = .ok (.iaload, 1) := by decide +kernel
theorem dX10_receive_37 : decode cX10_receive 37 = .ok (.iconst 4, 1) := by decide +kernel
theorem dX10_receive_38 : decode cX10_receive 38 = .ok (.if_icmp .ne 9, 3) := by decide +kernel
theorem dX10_receive_41 : decode cX10_receive 41 = .ok (.aload_n 0, 1) := by decide +kernel
theorem dX10_receive_42 : decode cX10_receive 42 = .ok (.iconst 2, 1) := by decide +kernel
theorem dX10_receive_43 : decode cX10_receive 43 = .ok (.invokevirtual 185, 3) := by decide +kernel
theorem dX10_receive_46 : decode cX10_receive 46 = .ok (.ireturn, 1) := by decide +kernel
theorem dX10_receive_47 : decode cX10_receive 47 = .ok (.iconst 4, 1) := by decide +kernel
theorem dX10_receive_48 : decode cX10_receive 48 = .ok (.iload_n 1, 1) := by decide +kernel
theorem dX10_receive_49 : decode cX10_receive 49 = .ok (.imul, 1) := by decide +kernel
theorem dX10_receive_50 : decode cX10_receive 50 = .ok (.aload_n 0, 1) := by decide +kernel
theorem dX10_receive_51 : decode cX10_receive 51 = .ok (.getfield 89, 3) := by decide +kernel
theorem dX10_receive_54 : decode cX10_receive 54 = .ok (.iload_n 1, 1) := by decide +kernel
theorem dX10_receive_55 : decode cX10_receive 55 = .ok (.iaload, 1) := by decide +kernel
theorem dX10_receive_56 : decode cX10_receive 56 = .ok (.iadd, 1) := by decide +kernel
theorem dX10_receive_57 : decode cX10_receive 57 = .ok (.istore 4, 2) := by decide +kernel
theorem dX10_receive_59 : decode cX10_receive 59 = .ok (.aload_n 0, 1) := by decide +kernel
theorem dX10_receive_60 : decode cX10_receive 60 = .ok (.getfield 95, 3) := by decide +kernel
theorem dX10_receive_63 : decode cX10_receive 63 = .ok (.iload 4, 2) := by decide +kernel
theorem dX10_receive_65 : decode cX10_receive 65 = .ok (.iload_n 2, 1) := by decide +kernel
theorem dX10_receive_66 : decode cX10_receive 66 = .ok (.iastore, 1) := by decide +kernel
theorem dX10_receive_67 : decode cX10_receive 67 = .ok (.aload_n 0, 1) := by decide +kernel
theorem dX10_receive_68 : decode cX10_receive 68 = .ok (.getfield 98, 3) := by decide +kernel
theorem dX10_receive_71 : decode cX10_receive 71 = .ok (.iload 4, 2) := by decide +kernel
theorem dX10_receive_73 : decode cX10_receive 73 = .ok (.iload_n 3, 1) := by decide +kernel
theorem dX10_receive_74 : decode cX10_receive 74 = .ok (.iastore, 1) := by decide +kernel
theorem dX10_receive_75 : decode cX10_receive 75 = .ok (.aload_n 0, 1) := by decide +kernel
theorem dX10_receive_76 : decode cX10_receive 76 = .ok (.getfield 101, 3) := by decide +kernel
theorem dX10_receive_79 : decode cX10_receive 79 = .ok (.iload 4, 2) := by decide +kernel
theorem dX10_receive_81 : decode cX10_receive 81 = .ok (.aload_n 0, 1) := by decide +kernel
theorem dX10_receive_82 : decode cX10_receive 82 = .ok (.getfield 92, 3) := by decide +kernel
theorem dX10_receive_85 : decode cX10_receive 85 = .ok (.iload_n 1, 1) := by decide +kernel
theorem dX10_receive_86 : decode cX10_receive 86 = .ok (.iaload, 1) := by decide +kernel
theorem dX10_receive_87 : decode cX10_receive 87 = .ok (.iastore, 1) := by decide +kernel
theorem dX10_receive_88 : decode cX10_receive 88 = .ok (.aload_n 0, 1) := by decide +kernel
theorem dX10_receive_89 : decode cX10_receive 89 = .ok (.getfield 104, 3) := by decide +kernel
theorem dX10_receive_92 : decode cX10_receive 92 = .ok (.iload 4, 2) := by decide +kernel
theorem dX10_receive_94 : decode cX10_receive 94 = .ok (.iconst 0, 1) := by decide +kernel
theorem dX10_receive_95 : decode cX10_receive 95 = .ok (.iastore, 1) := by decide +kernel
theorem dX10_receive_96 : decode cX10_receive 96 = .ok (.aload_n 0, 1) := by decide +kernel
theorem dX10_receive_97 : decode cX10_receive 97 = .ok (.getfield 89, 3) := by decide +kernel
theorem dX10_receive_100 : decode cX10_receive 100 = .ok (.iload_n 1, 1) := by decide +kernel
theorem dX10_receive_101 : decode cX10_receive 101 = .ok (.dup2, 1) := by decide +kernel
theorem dX10_receive_102 : decode cX10_receive 102 = .ok (.iaload, 1) := by decide +kernel
theorem dX10_receive_103 : decode cX10_receive 103 = .ok (.iconst 1, 1) := by decide +kernel
theorem dX10_receive_104 : decode cX10_receive 104 = .ok (.iadd, 1) := by decide +kernel
theorem dX10_receive_105 : decode cX10_receive 105 = .ok (.iastore, 1) := by decide +kernel
theorem dX10_receive_106 : decode cX10_receive 106 = .ok (.aload_n 0, 1) := by decide +kernel
theorem dX10_receive_107 : decode cX10_receive 107 = .ok (.getfield 92, 3) := by decide +kernel
theorem dX10_receive_110 : decode cX10_receive 110 = .ok (.iload_n 1, 1) := by decide +kernel
theorem dX10_receive_111 : decode cX10_receive 111 = .ok (.dup2, 1) := by decide +kernel
theorem dX10_receive_112 : decode cX10_receive 112 = .ok (.iaload, 1) := by decide +kernel
theorem dX10_receive_113 : decode cX10_receive 113 = .ok (.iconst 1, 1) := by decide +kernel
theorem dX10_receive_114 : decode cX10_receive 114 = .ok (.iadd, 1) := by decide +kernel
theorem dX10_receive_115 : decode cX10_receive 115 = .ok (.iastore, 1) := by decide +kernel
theorem dX10_receive_116 : decode cX10_receive 116 = .ok (.aload_n 0, 1) := by decide +kernel
theorem dX10_receive_117 : decode cX10_receive 117 = .ok (.getfield 92, 3) := by decide +kernel
theorem dX10_receive_120 : decode cX10_receive 120 = .ok (.iload_n 1, 1) := by decide +kernel
theorem dX10_receive_121 : decode cX10_receive 121 = .ok (.iaload, 1) := by decide +kernel
theorem dX10_receive_122 : decode cX10_receive 122 = .ok (.iconst 1, 1) := by decide +kernel
theorem dX10_receive_123 : decode cX10_receive 123 = .ok (.isub, 1) := by decide +kernel
theorem dX10_receive_124 : decode cX10_receive 124 = .ok (.ireturn, 1) := by decide +kernel
set_option maxHeartbeats 8000000 in
set_option maxRecDepth 100000 in
theorem u_X10_receive (l : Launch) (E : EE) (z0 : Nat) (G : Nat → Nat) (hGz : ∀ q, G q ≠ 0 → z0 ≤ q) (h0 : Nat) (rf : Nat → Nat) (hR : MG G h0 rf) (t0 t1 t2 : Int32) (A : AA) (cd pk : Int32) (p0 : Int32) (p1 : Int32) (p2 : Int32) (hI5 : I5 (A 32) (A 33) (A 35)) (hI8 : I8 (A 20) (A 30) (A 37) (A 36)) : Met l yX10_receive [Cond.code yX10_receive cX10_receive 5 (some .int)] ({ frames := 2, cells := 0, slots := 0, locals := 44 } : Room) (va_Pc [.ref h0, .int p0, .int p1, .int p2] (fun U => MH E h0 rf t0 t1 t2 A cd pk U.heap ∧ KS E z0 U)) (va_Qi (fun (r : Int32) (u : (Nat → Int32) × (Nat → Int32) × (Nat → Int32) × (Nat → Int32) × (Nat → Int32) × (Nat → Int32) × Int32) => (I5 (u.2.2.1) (u.2.2.2.1) (u.2.2.2.2.2.1)) ∧ (I8 (A 20) (u.1) (A 37) (A 36)) ∧ (D_X10_receive A cd pk p0 p1 p2 (uA (uA (uA (uA (uA (uA A 30 (u.1)) 31 (u.2.1)) 32 (u.2.2.1)) 33 (u.2.2.2.1)) 34 (u.2.2.2.2.1)) 35 (u.2.2.2.2.2.1)) (u.2.2.2.2.2.2) pk r)) (fun u t => MH E h0 rf t0 t1 t2 (uA (uA (uA (uA (uA (uA A 30 (u.1)) 31 (u.2.1)) 32 (u.2.2.1)) 33 (u.2.2.2.1)) 34 (u.2.2.2.2.1)) 35 (u.2.2.2.2.2.1)) (u.2.2.2.2.2.2) pk t.heap) (fun q : Nat => G q ≠ 0)) 0 0 (fun q : Nat => G q ≠ 0) := by
  refine Met.ofW (cc := cX10_receive) (maxL := 5) (ret := (some .int)) (by decide) rfl ?_
  intro p e s m args below meth c s₁ B hml hv
  obtain ⟨rfl, hM, hK⟩ := hv
  have hx := B.exec
  have hb := B.bytes
  have hr := B.returns
  have hts : ∀ w ∈ TS, w.before ([.ref h0, .int p0, .int p1, .int p2] : List Value).toArray s = true := fun w hw => hK.2.1 w hw _
  have hown : s.vm.findClass RX10 = some m.cls := findClass_of_methodNamed B.named
  have hlocks := B.notSynchronized
  have hS : va_S (fun q : Nat => G q ≠ 0) s.heap s.heap [] := va_S.rf
  have hAz : ∀ q, (fun q : Nat => G q ≠ 0) q → z0 ≤ q := hGz
  have hl := lv_entry ([.ref h0, .int p0, .int p1, .int p2]) (n := 5) (Nat.le_of_ble_eq_true rfl)
  rw [lg_entry_eq]
  generalize (lg_sl ([.ref h0, .int p0, .int p1, .int p2]) ++ List.replicate (5 - (lg_sl ([.ref h0, .int p0, .int p1, .int p2])).length) Slot.unset).toArray = ls at hl ⊢
  have hl : lv_has ls 5 [(0, .ref h0), (1, .int p0), (2, .int p1), (3, .int p2)] := hl
  refine lv_aload_n hx hb dX10_receive_0 rfl (lv_at hl 0 rfl) ?_
  refine lv_iconst (v := 0) hx hb dX10_receive_1 (by decide) ?_
  refine rr_put (D := DG E) (ci := 10) (v := .int 0) (ty := .int) (C := RX10) (T := TX10) (N := 49) hx hb hts iw_X10 tyX10 tyX10_ok nmX10 hown hK.1 hM.1 hS (by show G h0 ≠ 0; rw [hR.1]; decide) rfl 3 (by decide) (hts _ fl_X10_153) (fun _ h9 => h9) rfl (by decide +kernel) rfl rfl (Nat.le_of_ble_eq_true rfl) dX10_receive_2 (fun H locs hn ho hz hS => ?_)
  have hM : MH E h0 rf t0 t1 t2 A 0 pk H := hM.sc hR hn ho
  refine lv_aload_n hx hb dX10_receive_5 rfl (lv_at hl 0 rfl) ?_
  refine lv_iload_n hx hb dX10_receive_6 rfl (lv_at hl 1 rfl) ?_
  refine lv_iload_n hx hb dX10_receive_7 rfl (lv_at hl 2 rfl) ?_
  refine lv_iload_n hx hb dX10_receive_8 rfl (lv_at hl 3 rfl) ?_
  refine va_calli (rnV (fun H => MH E h0 rf t0 t1 t2 A 0 pk H) (As := [.int p0, .int p1, .int p2]) (rest := []) ⟨hx, hb, hml, hown, hts⟩ (u_X10_cellsGood l E z0 G hGz h0 rf hR t0 t1 t2 A 0 pk p0 p1 p2) (cwV 3 hts (gdV ml_X10_181 im_X10_cellsGood se_X10_X10_cellsGood in_X10 co_X10_cellsGood rfl) rfl rfl rfl (by decide +kernel) ⟨Nat.le_of_ble_eq_true rfl, Nat.le_of_ble_eq_true rfl⟩) hM (fun U hU hW => hK.go hW hS hAz hU) (va_recv hK.1 (va_one hM.1) (ci := 10) (q0 := 0) rfl rfl) rfl rfl hl.1 rfl (lv_room (Nat.le_of_ble_eq_true rfl)) dX10_receive_9 ⟨Nat.le_of_ble_eq_true rfl, Nat.le_of_ble_eq_true rfl⟩) hS (fun q _ h => h.elim) (fun q h => h.elim) (fun r_1 ur_1 t H locs ht hvm hwr_1 hB hz hk hS => ?_)
  have hM := hM.kept (fun q hq => hk q hq (fun h => h))
  have hDr_1 : D_X10_cellsGood A (0 : Int32) pk p0 p1 p2 r_1 := hwr_1.2.2
  have hpr_1_0 : r_1 = 0 ∨ r_1 = 1 := hwr_1.1
  have hpr_1_1 : r_1.toInt = 0 ∨ (0 ≤ p0.toInt ∧ p0.toInt ≤ 3 ∧ 1 ≤ p2.toInt ∧ p2.toInt ≤ 12 ∧ 0 ≤ p1.toInt ∧ p1.toInt ≤ 31 ∧ p1.toInt + p2.toInt ≤ 32) := hwr_1.2.1
  have hzr_1 := s_rng hpr_1_0
  refine lv_if_ne (tgt := 21) hx hb dX10_receive_12 (by decide) (fun c_2 => ?_) (fun c_2 => ?_)
  · simp only [lt_I, le_I, eq_I, i_0, i_1, i_2, i_3, i_4, i_5, i_6, i_7, i_8, i_10, i_12, i_16, i_20, i_23, i_24, i_31, i_32, i_63, i_64, i_m1, i_9, i_11, i_13, i_25, i_60, i_75, i_79, i_80, i_96, i_100] at c_2
    replace hpr_1_1 := hpr_1_1.resolve_left (by omega)
    refine lv_aload_n hx hb dX10_receive_21 rfl (lv_at hl 0 rfl) ?_
    refine va_get (D := DG E) (ci := 10) (v := .ref (rf 10)) (C := RX10) (T := TX10) (N := 49) hx hb hts iw_X10 hown hK.1 (va_one hM.1) 0 rfl rfl 10 (by decide) (hts _ fl_X10_28) (fun _ h9 => h9) rfl dX10_receive_22 ?_
    refine lv_iload_n hx hb dX10_receive_25 rfl (lv_at hl 1 rfl) ?_
    have hi_3 : vp_in p0 4 := vp_in_iff.mpr (by omega)
    have ha_4 : va_at (DG E) vwCl (rf 10, .inl (E.2.2 0, 4, .inl (A 10))) _ := hM.2 10 (by decide) (by decide) (by decide)
    obtain ⟨n_5, hn_5, en_5⟩ := s_nat (x := p0) (by omega)
    refine va_iald (D := DG E) hx hb hK.1 (va_one ha_4) 0 0 rfl rfl hi_3 dX10_receive_26 ?_
    refine W.eq (g2 := F0 m 27 ls [.int ((A 10) n_5)]) (by rw [en_5]) ?_
    refine lv_iconst (v := 2) hx hb dX10_receive_27 (by decide) ?_
    refine lv_icmp_eq (tgt := 41) hx hb dX10_receive_28 (by decide) (fun c_6 => ?_) (fun c_6 => ?_)
    · simp only [lt_I, le_I, eq_I, i_0, i_1, i_2, i_3, i_4, i_5, i_6, i_7, i_8, i_10, i_12, i_16, i_20, i_23, i_24, i_31, i_32, i_63, i_64, i_m1, i_9, i_11, i_13, i_25, i_60, i_75, i_79, i_80, i_96, i_100] at c_6
      refine lv_aload_n hx hb dX10_receive_41 rfl (lv_at hl 0 rfl) ?_
      refine lv_iconst (v := 2) hx hb dX10_receive_42 (by decide) ?_
      refine va_calli (rnV (fun H => MH E h0 rf t0 t1 t2 A 0 pk H) (As := [.int 2]) (rest := []) ⟨hx, hb, hml, hown, hts⟩ (u_X10_fail l E z0 G hGz h0 rf hR t0 t1 t2 A 0 pk 2) (cwV 1 hts (gdV ml_X10_185 im_X10_fail se_X10_X10_fail in_X10 co_X10_fail rfl) rfl rfl rfl (by decide +kernel) ⟨Nat.le_of_ble_eq_true rfl, Nat.le_of_ble_eq_true rfl⟩) hM (fun U hU hW => hK.go hW hS hAz hU) (va_recv hK.1 (va_one hM.1) (ci := 10) (q0 := 0) rfl rfl) rfl rfl hl.1 rfl (lv_room (Nat.le_of_ble_eq_true rfl)) dX10_receive_43 ⟨Nat.le_of_ble_eq_true rfl, Nat.le_of_ble_eq_true rfl⟩) hS (fun q _ h => h) (fun q h => h) (fun r_7 ur_7 t H locs ht hvm hwr_7 hB hz hk hS => ?_)
      have hM : MH E h0 rf t0 t1 t2 A ur_7 pk H := by rw [ht] at hB; exact hB
      have hDr_7 : D_X10_fail A (0 : Int32) pk (2 : Int32) A ur_7 pk r_7 := hwr_7.2
      have hpr_7_0 : ur_7 = (2 : Int32) := hwr_7.1
      have := i_2
      exact W.iret (v := r_7) hx hb hr (fun t ht hW => ⟨⟨r_7, ((A 30), (A 31), (A 32), (A 33), (A 34), (A 35), ur_7), rfl, ⟨hI5, hI8, (Or.inl ⟨r_1, hDr_1, hpr_1_0, c_2, n_5, hn_5, c_6, ur_7, r_7, hDr_7, hpr_7_0, rfl, rfl, rfl, rfl⟩)⟩, (by show MH E h0 rf t0 t1 t2 (uA (uA (uA (uA (uA (uA A 30 (A 30)) 31 (A 31)) 32 (A 32)) 33 (A 33)) 34 (A 34)) 35 (A 35)) ur_7 pk t.heap; rw [ht]; exact hM.cg9 rfl rfl rfl rfl rfl rfl rfl rfl rfl rfl rfl rfl rfl rfl rfl rfl rfl rfl rfl rfl rfl rfl rfl rfl rfl rfl rfl rfl rfl rfl rfl rfl rfl rfl rfl rfl rfl rfl rfl rfl rfl rfl rfl rfl)⟩, hS.F ht⟩) hS.2.2 dX10_receive_46
    · simp only [lt_I, le_I, eq_I, i_0, i_1, i_2, i_3, i_4, i_5, i_6, i_7, i_8, i_10, i_12, i_16, i_20, i_23, i_24, i_31, i_32, i_63, i_64, i_m1, i_9, i_11, i_13, i_25, i_60, i_75, i_79, i_80, i_96, i_100] at c_6
      refine lv_aload_n hx hb dX10_receive_31 rfl (lv_at hl 0 rfl) ?_
      refine va_get (D := DG E) (ci := 10) (v := .ref (rf 30)) (C := RX10) (T := TX10) (N := 49) hx hb hts iw_X10 hown hK.1 (va_one hM.1) 0 rfl rfl 30 (by decide) (hts _ fl_X10_89) (fun _ h9 => h9) rfl dX10_receive_32 ?_
      refine lv_iload_n hx hb dX10_receive_35 rfl (lv_at hl 1 rfl) ?_
      have ha_8 : va_at (DG E) vwCl (rf 30, .inl (E.2.2 0, 4, .inl (A 30))) _ := hM.2 30 (by decide) (by decide) (by decide)
      refine va_iald (D := DG E) hx hb hK.1 (va_one ha_8) 0 0 rfl rfl hi_3 dX10_receive_36 ?_
      refine W.eq (g2 := F0 m 37 ls [.int ((A 30) n_5)]) (by rw [en_5]) ?_
      have hk_9 : n_5 < 4 := by omega
      have q_10 : 0 ≤ ((A 30) n_5).toInt := (hI8 n_5 hk_9).2.2.1
      have q_11 : ((A 30) n_5).toInt ≤ 4 := (hI8 n_5 hk_9).2.2.2.1
      refine lv_iconst (v := 4) hx hb dX10_receive_37 (by decide) ?_
      refine lv_icmp_ne (tgt := 47) hx hb dX10_receive_38 (by decide) (fun c_12 => ?_) (fun c_12 => ?_)
      · simp only [lt_I, le_I, eq_I, i_0, i_1, i_2, i_3, i_4, i_5, i_6, i_7, i_8, i_10, i_12, i_16, i_20, i_23, i_24, i_31, i_32, i_63, i_64, i_m1, i_9, i_11, i_13, i_25, i_60, i_75, i_79, i_80, i_96, i_100] at c_12
        refine lv_iconst (v := 4) hx hb dX10_receive_47 (by decide) ?_
        refine lv_iload_n hx hb dX10_receive_48 rfl (lv_at hl 1 rfl) ?_
        refine lv_imul hx hb dX10_receive_49 ?_
        refine lv_topi (fun x_13 ex_13 => ?_)
        have fx_13 : x_13.toInt = 4 * p0.toInt := by rw [ex_13]; exact s_mulK i_4 (by omega) (by omega)
        refine lv_aload_n hx hb dX10_receive_50 rfl (lv_at hl 0 rfl) ?_
        refine va_get (D := DG E) (ci := 10) (v := .ref (rf 30)) (C := RX10) (T := TX10) (N := 49) hx hb hts iw_X10 hown hK.1 (va_one hM.1) 0 rfl rfl 30 (by decide) (hts _ fl_X10_89) (fun _ h9 => h9) rfl dX10_receive_51 ?_
        refine lv_iload_n hx hb dX10_receive_54 rfl (lv_at hl 1 rfl) ?_
        have ha_14 : va_at (DG E) vwCl (rf 30, .inl (E.2.2 0, 4, .inl (A 30))) _ := hM.2 30 (by decide) (by decide) (by decide)
        refine va_iald (D := DG E) hx hb hK.1 (va_one ha_14) 0 0 rfl rfl hi_3 dX10_receive_55 ?_
        refine W.eq (g2 := F0 m 56 ls [.int ((A 30) n_5), .int x_13]) (by rw [en_5]) ?_
        refine lv_iadd hx hb dX10_receive_56 ?_
        refine lv_topi (fun x_15 ex_15 => ?_)
        have fx_15 : x_15.toInt = x_13.toInt + ((A 30) n_5).toInt := by have h9 := s_add (x := x_13) (y := ((A 30) n_5)) (by omega) (by omega); rw [ex_15]; exact h9
        refine lv_istore (lv' := [(4, .int x_15), (0, .ref h0), (1, .int p0), (2, .int p1), (3, .int p2)]) hx hb dX10_receive_57 hl (by decide) rfl (fun ls hl => ?_)
        refine lv_aload_n hx hb dX10_receive_59 rfl (lv_at hl 1 rfl) ?_
        refine va_get (D := DG E) (ci := 10) (v := .ref (rf 32)) (C := RX10) (T := TX10) (N := 49) hx hb hts iw_X10 hown hK.1 (va_one hM.1) 0 rfl rfl 32 (by decide) (hts _ fl_X10_95) (fun _ h9 => h9) rfl dX10_receive_60 ?_
        refine lv_iload hx hb dX10_receive_63 (lv_at hl 0 rfl) ?_
        refine lv_iload_n hx hb dX10_receive_65 rfl (lv_at hl 3 rfl) ?_
        have hi_16 : vp_in x_15 16 := vp_in_iff.mpr (by omega)
        have ha_17 : va_at (DG E) vwCl (rf 32, .inl (E.2.2 0, 16, .inl (A 32))) _ := hM.2 32 (by decide) (by decide) (by decide)
        obtain ⟨n_18, hn_18, en_18⟩ := s_nat (x := x_15) (by omega)
        refine rr_iast (D := DG E) hx hb hK.1 0 ha_17 hS (by show G (rf 32) ≠ 0; rw [hR.2 32 (by decide) (by decide) (by decide)]; decide) rfl hi_16 dX10_receive_66 (fun H locs hn ho hz hS => ?_)
        rw [en_18] at hn
        obtain ⟨g_17, eg_17⟩ : ∃ z : Nat → Int32, z = upd (A 32) n_18 p1 := ⟨_, rfl⟩
        have sg_17 : g_17 n_18 = p1 := by rw [eg_17]; exact upd_s
        have ng_17 : ∀ k, k ≠ n_18 → g_17 k = (A 32) k := fun k hk => by rw [eg_17]; exact upd_n hk
        have hn : va_at (DG E) vwCl (rf 32, .inl (E.2.2 0, 16, .inl g_17)) H := by rw [eg_17]; exact hn
        have hM : MH E h0 rf t0 t1 t2 (uA A 32 g_17) 0 pk H := hM.w hR 32 (by decide) (by decide) (by decide) hn ho
        refine lv_aload_n hx hb dX10_receive_67 rfl (lv_at hl 1 rfl) ?_
        refine va_get (D := DG E) (ci := 10) (v := .ref (rf 33)) (C := RX10) (T := TX10) (N := 49) hx hb hts iw_X10 hown hK.1 (va_one hM.1) 0 rfl rfl 33 (by decide) (hts _ fl_X10_98) (fun _ h9 => h9) rfl dX10_receive_68 ?_
        refine lv_iload hx hb dX10_receive_71 (lv_at hl 0 rfl) ?_
        refine lv_iload_n hx hb dX10_receive_73 rfl (lv_at hl 4 rfl) ?_
        have ha_19 : va_at (DG E) vwCl (rf 33, .inl (E.2.2 0, 16, .inl (A 33))) _ := hM.2 33 (by decide) (by decide) (by decide)
        refine rr_iast (D := DG E) hx hb hK.1 0 ha_19 hS (by show G (rf 33) ≠ 0; rw [hR.2 33 (by decide) (by decide) (by decide)]; decide) rfl hi_16 dX10_receive_74 (fun H locs hn ho hz hS => ?_)
        rw [en_18] at hn
        obtain ⟨g_19, eg_19⟩ : ∃ z : Nat → Int32, z = upd (A 33) n_18 p2 := ⟨_, rfl⟩
        have sg_19 : g_19 n_18 = p2 := by rw [eg_19]; exact upd_s
        have ng_19 : ∀ k, k ≠ n_18 → g_19 k = (A 33) k := fun k hk => by rw [eg_19]; exact upd_n hk
        have hn : va_at (DG E) vwCl (rf 33, .inl (E.2.2 0, 16, .inl g_19)) H := by rw [eg_19]; exact hn
        have hM : MH E h0 rf t0 t1 t2 (uA (uA A 32 g_17) 33 g_19) 0 pk H := hM.w hR 33 (by decide) (by decide) (by decide) hn ho
        refine lv_aload_n hx hb dX10_receive_75 rfl (lv_at hl 1 rfl) ?_
        refine va_get (D := DG E) (ci := 10) (v := .ref (rf 34)) (C := RX10) (T := TX10) (N := 49) hx hb hts iw_X10 hown hK.1 (va_one hM.1) 0 rfl rfl 34 (by decide) (hts _ fl_X10_101) (fun _ h9 => h9) rfl dX10_receive_76 ?_
        refine lv_iload hx hb dX10_receive_79 (lv_at hl 0 rfl) ?_
        refine lv_aload_n hx hb dX10_receive_81 rfl (lv_at hl 1 rfl) ?_
        refine va_get (D := DG E) (ci := 10) (v := .ref (rf 31)) (C := RX10) (T := TX10) (N := 49) hx hb hts iw_X10 hown hK.1 (va_one hM.1) 0 rfl rfl 31 (by decide) (hts _ fl_X10_92) (fun _ h9 => h9) rfl dX10_receive_82 ?_
        refine lv_iload_n hx hb dX10_receive_85 rfl (lv_at hl 2 rfl) ?_
        have ha_20 : va_at (DG E) vwCl (rf 31, .inl (E.2.2 0, 4, .inl (A 31))) _ := hM.2 31 (by decide) (by decide) (by decide)
        refine va_iald (D := DG E) hx hb hK.1 (va_one ha_20) 0 0 rfl rfl hi_3 dX10_receive_86 ?_
        refine W.eq (g2 := F0 m 87 ls [.int ((A 31) n_5), .int x_15, .ref (rf 34)]) (by rw [en_5]) ?_
        have ha_21 : va_at (DG E) vwCl (rf 34, .inl (E.2.2 0, 16, .inl (A 34))) _ := hM.2 34 (by decide) (by decide) (by decide)
        refine rr_iast (D := DG E) hx hb hK.1 0 ha_21 hS (by show G (rf 34) ≠ 0; rw [hR.2 34 (by decide) (by decide) (by decide)]; decide) rfl hi_16 dX10_receive_87 (fun H locs hn ho hz hS => ?_)
        rw [en_18] at hn
        obtain ⟨g_21, eg_21⟩ : ∃ z : Nat → Int32, z = upd (A 34) n_18 ((A 31) n_5) := ⟨_, rfl⟩
        have sg_21 : g_21 n_18 = ((A 31) n_5) := by rw [eg_21]; exact upd_s
        have ng_21 : ∀ k, k ≠ n_18 → g_21 k = (A 34) k := fun k hk => by rw [eg_21]; exact upd_n hk
        have hn : va_at (DG E) vwCl (rf 34, .inl (E.2.2 0, 16, .inl g_21)) H := by rw [eg_21]; exact hn
        have hM : MH E h0 rf t0 t1 t2 (uA (uA (uA A 32 g_17) 33 g_19) 34 g_21) 0 pk H := hM.w hR 34 (by decide) (by decide) (by decide) hn ho
        refine lv_aload_n hx hb dX10_receive_88 rfl (lv_at hl 1 rfl) ?_
        refine va_get (D := DG E) (ci := 10) (v := .ref (rf 35)) (C := RX10) (T := TX10) (N := 49) hx hb hts iw_X10 hown hK.1 (va_one hM.1) 0 rfl rfl 35 (by decide) (hts _ fl_X10_104) (fun _ h9 => h9) rfl dX10_receive_89 ?_
        refine lv_iload hx hb dX10_receive_92 (lv_at hl 0 rfl) ?_
        refine lv_iconst (v := 0) hx hb dX10_receive_94 (by decide) ?_
        have ha_22 : va_at (DG E) vwCl (rf 35, .inl (E.2.2 0, 16, .inl (A 35))) _ := hM.2 35 (by decide) (by decide) (by decide)
        refine rr_iast (D := DG E) hx hb hK.1 0 ha_22 hS (by show G (rf 35) ≠ 0; rw [hR.2 35 (by decide) (by decide) (by decide)]; decide) rfl hi_16 dX10_receive_95 (fun H locs hn ho hz hS => ?_)
        rw [en_18] at hn
        obtain ⟨g_22, eg_22⟩ : ∃ z : Nat → Int32, z = upd (A 35) n_18 0 := ⟨_, rfl⟩
        have sg_22 : g_22 n_18 = 0 := by rw [eg_22]; exact upd_s
        have ng_22 : ∀ k, k ≠ n_18 → g_22 k = (A 35) k := fun k hk => by rw [eg_22]; exact upd_n hk
        have hn : va_at (DG E) vwCl (rf 35, .inl (E.2.2 0, 16, .inl g_22)) H := by rw [eg_22]; exact hn
        have hM : MH E h0 rf t0 t1 t2 (uA (uA (uA (uA A 32 g_17) 33 g_19) 34 g_21) 35 g_22) 0 pk H := hM.w hR 35 (by decide) (by decide) (by decide) hn ho
        refine lv_aload_n hx hb dX10_receive_96 rfl (lv_at hl 1 rfl) ?_
        refine va_get (D := DG E) (ci := 10) (v := .ref (rf 30)) (C := RX10) (T := TX10) (N := 49) hx hb hts iw_X10 hown hK.1 (va_one hM.1) 0 rfl rfl 30 (by decide) (hts _ fl_X10_89) (fun _ h9 => h9) rfl dX10_receive_97 ?_
        refine lv_iload_n hx hb dX10_receive_100 rfl (lv_at hl 2 rfl) ?_
        refine lv_dup2_11 hx hb dX10_receive_101 rfl rfl ?_
        have ha_23 : va_at (DG E) vwCl (rf 30, .inl (E.2.2 0, 4, .inl (A 30))) _ := hM.2 30 (by decide) (by decide) (by decide)
        refine va_iald (D := DG E) hx hb hK.1 (va_one ha_23) 0 0 rfl rfl hi_3 dX10_receive_102 ?_
        refine W.eq (g2 := F0 m 103 ls [.int ((A 30) n_5), .int p0, .ref (rf 30)]) (by rw [en_5]) ?_
        refine lv_iconst (v := 1) hx hb dX10_receive_103 (by decide) ?_
        refine lv_iadd hx hb dX10_receive_104 ?_
        refine lv_topi (fun x_24 ex_24 => ?_)
        have fx_24 : x_24.toInt = ((A 30) n_5).toInt + 1 := by have h9 := s_add (x := ((A 30) n_5)) (y := 1) (by rw [i_1]; omega) (by rw [i_1]; omega); rw [i_1] at h9; rw [ex_24]; exact h9
        have ha_25 : va_at (DG E) vwCl (rf 30, .inl (E.2.2 0, 4, .inl (A 30))) _ := hM.2 30 (by decide) (by decide) (by decide)
        refine rr_iast (D := DG E) hx hb hK.1 0 ha_25 hS (by show G (rf 30) ≠ 0; rw [hR.2 30 (by decide) (by decide) (by decide)]; decide) rfl hi_3 dX10_receive_105 (fun H locs hn ho hz hS => ?_)
        rw [en_5] at hn
        obtain ⟨g_25, eg_25⟩ : ∃ z : Nat → Int32, z = upd (A 30) n_5 x_24 := ⟨_, rfl⟩
        have sg_25 : g_25 n_5 = x_24 := by rw [eg_25]; exact upd_s
        have ng_25 : ∀ k, k ≠ n_5 → g_25 k = (A 30) k := fun k hk => by rw [eg_25]; exact upd_n hk
        have hn : va_at (DG E) vwCl (rf 30, .inl (E.2.2 0, 4, .inl g_25)) H := by rw [eg_25]; exact hn
        have hM : MH E h0 rf t0 t1 t2 (uA (uA (uA (uA (uA A 32 g_17) 33 g_19) 34 g_21) 35 g_22) 30 g_25) 0 pk H := hM.w hR 30 (by decide) (by decide) (by decide) hn ho
        refine lv_aload_n hx hb dX10_receive_106 rfl (lv_at hl 1 rfl) ?_
        refine va_get (D := DG E) (ci := 10) (v := .ref (rf 31)) (C := RX10) (T := TX10) (N := 49) hx hb hts iw_X10 hown hK.1 (va_one hM.1) 0 rfl rfl 31 (by decide) (hts _ fl_X10_92) (fun _ h9 => h9) rfl dX10_receive_107 ?_
        refine lv_iload_n hx hb dX10_receive_110 rfl (lv_at hl 2 rfl) ?_
        refine lv_dup2_11 hx hb dX10_receive_111 rfl rfl ?_
        have ha_26 : va_at (DG E) vwCl (rf 31, .inl (E.2.2 0, 4, .inl (A 31))) _ := hM.2 31 (by decide) (by decide) (by decide)
        refine va_iald (D := DG E) hx hb hK.1 (va_one ha_26) 0 0 rfl rfl hi_3 dX10_receive_112 ?_
        refine W.eq (g2 := F0 m 113 ls [.int ((A 31) n_5), .int p0, .ref (rf 31)]) (by rw [en_5]) ?_
        refine lv_iconst (v := 1) hx hb dX10_receive_113 (by decide) ?_
        refine lv_iadd hx hb dX10_receive_114 ?_
        refine lv_topi (fun x_27 ex_27 => ?_)
        have ha_28 : va_at (DG E) vwCl (rf 31, .inl (E.2.2 0, 4, .inl (A 31))) _ := hM.2 31 (by decide) (by decide) (by decide)
        refine rr_iast (D := DG E) hx hb hK.1 0 ha_28 hS (by show G (rf 31) ≠ 0; rw [hR.2 31 (by decide) (by decide) (by decide)]; decide) rfl hi_3 dX10_receive_115 (fun H locs hn ho hz hS => ?_)
        rw [en_5] at hn
        obtain ⟨g_28, eg_28⟩ : ∃ z : Nat → Int32, z = upd (A 31) n_5 x_27 := ⟨_, rfl⟩
        have sg_28 : g_28 n_5 = x_27 := by rw [eg_28]; exact upd_s
        have ng_28 : ∀ k, k ≠ n_5 → g_28 k = (A 31) k := fun k hk => by rw [eg_28]; exact upd_n hk
        have hn : va_at (DG E) vwCl (rf 31, .inl (E.2.2 0, 4, .inl g_28)) H := by rw [eg_28]; exact hn
        have hM : MH E h0 rf t0 t1 t2 (uA (uA (uA (uA (uA (uA A 32 g_17) 33 g_19) 34 g_21) 35 g_22) 30 g_25) 31 g_28) 0 pk H := hM.w hR 31 (by decide) (by decide) (by decide) hn ho
        refine lv_aload_n hx hb dX10_receive_116 rfl (lv_at hl 1 rfl) ?_
        refine va_get (D := DG E) (ci := 10) (v := .ref (rf 31)) (C := RX10) (T := TX10) (N := 49) hx hb hts iw_X10 hown hK.1 (va_one hM.1) 0 rfl rfl 31 (by decide) (hts _ fl_X10_92) (fun _ h9 => h9) rfl dX10_receive_117 ?_
        refine lv_iload_n hx hb dX10_receive_120 rfl (lv_at hl 2 rfl) ?_
        have ha_29 : va_at (DG E) vwCl (rf 31, .inl (E.2.2 0, 4, .inl g_28)) _ := hM.2 31 (by decide) (by decide) (by decide)
        refine va_iald (D := DG E) hx hb hK.1 (va_one ha_29) 0 0 rfl rfl hi_3 dX10_receive_121 ?_
        refine W.eq (g2 := F0 m 122 ls [.int x_27]) (by rw [en_5, sg_28]) ?_
        refine lv_iconst (v := 1) hx hb dX10_receive_122 (by decide) ?_
        refine lv_isub hx hb dX10_receive_123 ?_
        refine lv_topi (fun x_30 ex_30 => ?_)
        have hI5_31 : I5 g_17 g_19 g_22 := by
          intro n9 hn9
          have h9 : 0 ≤ ((A 32) n9).toInt ∧ 0 ≤ ((A 35) n9).toInt ∧ ((A 35) n9).toInt ≤ ((A 33) n9).toInt ∧ ((A 32) n9).toInt + ((A 33) n9).toInt ≤ 32 := hI5 n9 hn9
          show 0 ≤ (g_17 n9).toInt ∧ 0 ≤ (g_22 n9).toInt ∧ (g_22 n9).toInt ≤ (g_19 n9).toInt ∧ (g_17 n9).toInt + (g_19 n9).toInt ≤ 32
          by_cases ezn_18 : n9 = n_18
          · rw [ezn_18] at h9 ⊢
            rw [sg_17]
            rw [sg_19]
            rw [sg_22]
            have := i_0
            clear h9
            exact ⟨by omega, by omega, by omega, by omega⟩
          · rw [ng_17 n9 ezn_18]
            rw [ng_19 n9 ezn_18]
            rw [ng_22 n9 ezn_18]
            exact h9
        have hI8_32 : I8 (A 20) g_25 (A 37) (A 36) := by
          intro n9 hn9
          have h9 : 0 ≤ ((A 20) n9).toInt ∧ ((A 20) n9).toInt ≤ 4 ∧ 0 ≤ ((A 30) n9).toInt ∧ ((A 30) n9).toInt ≤ 4 ∧ 0 ≤ ((A 37) n9).toInt ∧ ((A 37) n9).toInt ≤ 2 ∧ (((A 36) n9).toInt = 0 ∨ 1 ≤ ((A 30) n9).toInt) := hI8 n9 hn9
          show 0 ≤ ((A 20) n9).toInt ∧ ((A 20) n9).toInt ≤ 4 ∧ 0 ≤ (g_25 n9).toInt ∧ (g_25 n9).toInt ≤ 4 ∧ 0 ≤ ((A 37) n9).toInt ∧ ((A 37) n9).toInt ≤ 2 ∧ (((A 36) n9).toInt = 0 ∨ 1 ≤ (g_25 n9).toInt)
          by_cases ezn_5 : n9 = n_5
          · rw [ezn_5] at h9 ⊢
            rw [sg_25]
            exact ⟨by first | exact h9.1 | omega, by first | exact h9.2.1 | omega, by first | exact h9.2.2.1 | omega, by first | exact h9.2.2.2.1 | omega, by first | exact h9.2.2.2.2.1 | omega, by first | exact h9.2.2.2.2.2.1 | omega, by first | exact h9.2.2.2.2.2.2 | omega⟩
          · rw [ng_25 n9 ezn_5]
            exact h9
        exact W.iret (v := x_30) hx hb hr (fun t ht hW => ⟨⟨x_30, (g_25, g_28, g_17, g_19, g_21, g_22, 0), rfl, ⟨hI5_31, hI8_32, (Or.inr (Or.inl ⟨r_1, hDr_1, hpr_1_0, c_2, n_5, hn_5, c_6, c_12, x_13, ex_13, fx_13, x_15, ex_15, fx_15, n_18, hn_18, g_17, eg_17, g_19, eg_19, g_21, eg_21, g_22, eg_22, x_24, ex_24, fx_24, g_25, eg_25, x_27, ex_27, g_28, eg_28, x_30, ex_30, rfl, rfl, rfl, rfl⟩))⟩, (by show MH E h0 rf t0 t1 t2 (uA (uA (uA (uA (uA (uA A 30 g_25) 31 g_28) 32 g_17) 33 g_19) 34 g_21) 35 g_22) 0 pk t.heap; rw [ht]; exact hM.cg9 rfl rfl rfl rfl rfl rfl rfl rfl rfl rfl rfl rfl rfl rfl rfl rfl rfl rfl rfl rfl rfl rfl rfl rfl rfl rfl rfl rfl rfl rfl rfl rfl rfl rfl rfl rfl rfl rfl rfl rfl rfl rfl rfl rfl)⟩, hS.F ht⟩) hS.2.2 dX10_receive_124
      · simp only [lt_I, le_I, eq_I, i_0, i_1, i_2, i_3, i_4, i_5, i_6, i_7, i_8, i_10, i_12, i_16, i_20, i_23, i_24, i_31, i_32, i_63, i_64, i_m1, i_9, i_11, i_13, i_25, i_60, i_75, i_79, i_80, i_96, i_100] at c_12
        refine lv_aload_n hx hb dX10_receive_41 rfl (lv_at hl 0 rfl) ?_
        refine lv_iconst (v := 2) hx hb dX10_receive_42 (by decide) ?_
        refine va_calli (rnV (fun H => MH E h0 rf t0 t1 t2 A 0 pk H) (As := [.int 2]) (rest := []) ⟨hx, hb, hml, hown, hts⟩ (u_X10_fail l E z0 G hGz h0 rf hR t0 t1 t2 A 0 pk 2) (cwV 1 hts (gdV ml_X10_185 im_X10_fail se_X10_X10_fail in_X10 co_X10_fail rfl) rfl rfl rfl (by decide +kernel) ⟨Nat.le_of_ble_eq_true rfl, Nat.le_of_ble_eq_true rfl⟩) hM (fun U hU hW => hK.go hW hS hAz hU) (va_recv hK.1 (va_one hM.1) (ci := 10) (q0 := 0) rfl rfl) rfl rfl hl.1 rfl (lv_room (Nat.le_of_ble_eq_true rfl)) dX10_receive_43 ⟨Nat.le_of_ble_eq_true rfl, Nat.le_of_ble_eq_true rfl⟩) hS (fun q _ h => h) (fun q h => h) (fun r_33 ur_33 t H locs ht hvm hwr_33 hB hz hk hS => ?_)
        have hM : MH E h0 rf t0 t1 t2 A ur_33 pk H := by rw [ht] at hB; exact hB
        have hDr_33 : D_X10_fail A (0 : Int32) pk (2 : Int32) A ur_33 pk r_33 := hwr_33.2
        have hpr_33_0 : ur_33 = (2 : Int32) := hwr_33.1
        have := i_2
        exact W.iret (v := r_33) hx hb hr (fun t ht hW => ⟨⟨r_33, ((A 30), (A 31), (A 32), (A 33), (A 34), (A 35), ur_33), rfl, ⟨hI5, hI8, (Or.inr (Or.inr (Or.inl ⟨r_1, hDr_1, hpr_1_0, c_2, n_5, hn_5, c_6, c_12, ur_33, r_33, hDr_33, hpr_33_0, rfl, rfl, rfl, rfl⟩)))⟩, (by show MH E h0 rf t0 t1 t2 (uA (uA (uA (uA (uA (uA A 30 (A 30)) 31 (A 31)) 32 (A 32)) 33 (A 33)) 34 (A 34)) 35 (A 35)) ur_33 pk t.heap; rw [ht]; exact hM.cg9 rfl rfl rfl rfl rfl rfl rfl rfl rfl rfl rfl rfl rfl rfl rfl rfl rfl rfl rfl rfl rfl rfl rfl rfl rfl rfl rfl rfl rfl rfl rfl rfl rfl rfl rfl rfl rfl rfl rfl rfl rfl rfl rfl rfl)⟩, hS.F ht⟩) hS.2.2 dX10_receive_46
  · simp only [lt_I, le_I, eq_I, i_0, i_1, i_2, i_3, i_4, i_5, i_6, i_7, i_8, i_10, i_12, i_16, i_20, i_23, i_24, i_31, i_32, i_63, i_64, i_m1, i_9, i_11, i_13, i_25, i_60, i_75, i_79, i_80, i_96, i_100] at c_2
    clear hpr_1_1
    refine lv_aload_n hx hb dX10_receive_15 rfl (lv_at hl 0 rfl) ?_
    refine lv_iconst (v := 1) hx hb dX10_receive_16 (by decide) ?_
    refine va_calli (rnV (fun H => MH E h0 rf t0 t1 t2 A 0 pk H) (As := [.int 1]) (rest := []) ⟨hx, hb, hml, hown, hts⟩ (u_X10_fail l E z0 G hGz h0 rf hR t0 t1 t2 A 0 pk 1) (cwV 1 hts (gdV ml_X10_185 im_X10_fail se_X10_X10_fail in_X10 co_X10_fail rfl) rfl rfl rfl (by decide +kernel) ⟨Nat.le_of_ble_eq_true rfl, Nat.le_of_ble_eq_true rfl⟩) hM (fun U hU hW => hK.go hW hS hAz hU) (va_recv hK.1 (va_one hM.1) (ci := 10) (q0 := 0) rfl rfl) rfl rfl hl.1 rfl (lv_room (Nat.le_of_ble_eq_true rfl)) dX10_receive_17 ⟨Nat.le_of_ble_eq_true rfl, Nat.le_of_ble_eq_true rfl⟩) hS (fun q _ h => h) (fun q h => h) (fun r_34 ur_34 t H locs ht hvm hwr_34 hB hz hk hS => ?_)
    have hM : MH E h0 rf t0 t1 t2 A ur_34 pk H := by rw [ht] at hB; exact hB
    have hDr_34 : D_X10_fail A (0 : Int32) pk (1 : Int32) A ur_34 pk r_34 := hwr_34.2
    have hpr_34_0 : ur_34 = (1 : Int32) := hwr_34.1
    have := i_1
    exact W.iret (v := r_34) hx hb hr (fun t ht hW => ⟨⟨r_34, ((A 30), (A 31), (A 32), (A 33), (A 34), (A 35), ur_34), rfl, ⟨hI5, hI8, (Or.inr (Or.inr (Or.inr ⟨r_1, hDr_1, hpr_1_0, c_2, ur_34, r_34, hDr_34, hpr_34_0, rfl, rfl, rfl, rfl⟩)))⟩, (by show MH E h0 rf t0 t1 t2 (uA (uA (uA (uA (uA (uA A 30 (A 30)) 31 (A 31)) 32 (A 32)) 33 (A 33)) 34 (A 34)) 35 (A 35)) ur_34 pk t.heap; rw [ht]; exact hM.cg9 rfl rfl rfl rfl rfl rfl rfl rfl rfl rfl rfl rfl rfl rfl rfl rfl rfl rfl rfl rfl rfl rfl rfl rfl rfl rfl rfl rfl rfl rfl rfl rfl rfl rfl rfl rfl rfl rfl rfl rfl rfl rfl rfl rfl)⟩, hS.F ht⟩) hS.2.2 dX10_receive_20
theorem dX10_ready_0 : decode cX10_ready 0 = .ok (.aload_n 0, 1) := by decide +kernel
theorem dX10_ready_1 : decode cX10_ready 1 = .ok (.iconst 0, 1) := by decide +kernel
theorem dX10_ready_2 : decode cX10_ready 2 = .ok (.putfield 153, 3) := by decide +kernel
theorem dX10_ready_5 : decode cX10_ready 5 = .ok (.iload_n 1, 1) := by decide +kernel
theorem dX10_ready_6 : decode cX10_ready 6 = .ok (.iconst 3, 1) := by decide +kernel
theorem dX10_ready_7 : decode cX10_ready 7 = .ok (.invokestatic 156, 3) := by decide +kernel
theorem dX10_ready_10 : decode cX10_ready 10 = .ok (.ifCond .eq 21, 3) := by decide +kernel
theorem dX10_ready_13 : decode cX10_ready 13 = .ok (.iload_n 2, 1) := by decide +kernel
theorem dX10_ready_14 : decode cX10_ready 14 = .ok (.bipush 63, 2) := by decide +kernel
theorem dX10_ready_16 : decode cX10_ready 16 = .ok (.invokestatic 156, 3) := by decide +kernel
theorem dX10_ready_19 : decode cX10_ready 19 = .ok (.ifCond .eq 12, 3) := by decide +kernel
theorem dX10_ready_22 : decode cX10_ready 22 = .ok (.iload_n 3, 1) := by decide +kernel
theorem dX10_ready_23 : decode cX10_ready 23 = .ok (.bipush 63, 2) := by decide +kernel
theorem dX10_ready_25 : decode cX10_ready 25 = .ok (.invokestatic 156, 3) := by decide +kernel
theorem dX10_ready_28 : decode cX10_ready 28 = .ok (.ifCond .ne 11, 3) := by decide +kernel
theorem dX10_ready_31 : decode cX10_ready 31 = .ok (.aload_n 0, 1) := by decide +kernel
theorem dX10_ready_32 : decode cX10_ready 32 = .ok (.iconst 1, 1) := by decide +kernel
theorem dX10_ready_33 : decode cX10_ready 33 = .ok (.putfield 153, 3) := by decide +kernel
theorem dX10_ready_36 : decode cX10_ready 36 = .ok (.goto 17, 3) := by decide +kernel
theorem dX10_ready_39 : decode cX10_ready 39 = .ok (.aload_n 0, 1) := by decide +kernel
theorem dX10_ready_40 : decode cX10_ready 40 = .ok (.getfield 28, 3) := by decide +kernel
theorem dX10_ready_43 : decode cX10_ready 43 = .ok (.iload_n 1, 1) := by decide +kernel
theorem dX10_ready_44 : decode cX10_ready 44 = .ok (.iaload, 1) := by decide +kernel
theorem dX10_ready_45 : decode cX10_ready 45 = .ok (.ifCond .eq 8, 3) := by decide +kernel
theorem dX10_ready_48 : decode cX10_ready 48 = .ok (.aload_n 0, 1) := by decide +kernel
theorem dX10_ready_49 : decode cX10_ready 49 = .ok (.iconst 2, 1) := by decide +kernel
theorem dX10_ready_50 : decode cX10_ready 50 = .ok (.putfield 153, 3) := by decide +kernel
theorem dX10_ready_53 : decode cX10_ready 53 = .ok (.aload_n 0, 1) := by decide +kernel
theorem dX10_ready_54 : decode cX10_ready 54 = .ok (.getfield 153, 3) := by decide +kernel
theorem dX10_ready_57 : decode cX10_ready 57 = .ok (.ifCond .eq 4, 3) := by decide +kernel
theorem dX10_ready_60 : decode cX10_ready 60 = .ok (.return_, 1) := by decide +kernel
theorem dX10_ready_61 : decode cX10_ready 61 = .ok (.aload_n 0, 1) := by decide +kernel
theorem dX10_ready_62 : decode cX10_ready 62 = .ok (.getfield 28, 3) := by decide +kernel
theorem dX10_ready_65 : decode cX10_ready 65 = .ok (.iload_n 1, 1) := by decide +kernel
theorem dX10_ready_66 : decode cX10_ready 66 = .ok (.iconst 1, 1) := by decide +kernel
theorem dX10_ready_67 : decode cX10_ready 67 = .ok (.iastore, 1) := by decide +kernel
theorem dX10_ready_68 : decode cX10_ready 68 = .ok (.aload_n 0, 1) := by decide +kernel
theorem dX10_ready_69 : decode cX10_ready 69 = .ok (.getfield 31, 3) := by decide +kernel
theorem dX10_ready_72 : decode cX10_ready 72 = .ok (.iload_n 1, 1) := by decide +kernel
theorem dX10_ready_73 : decode cX10_ready 73 = .ok (.iload_n 2, 1) := by decide +kernel
theorem dX10_ready_74 : decode cX10_ready 74 = .ok (.iastore, 1) := by decide +kernel
theorem dX10_ready_75 : decode cX10_ready 75 = .ok (.aload_n 0, 1) := by decide +kernel
theorem dX10_ready_76 : decode cX10_ready 76 = .ok (.getfield 34, 3) := by decide +kernel
theorem dX10_ready_79 : decode cX10_ready 79 = .ok (.iload_n 1, 1) := by decide +kernel
theorem dX10_ready_80 : decode cX10_ready 80 = .ok (.iload_n 2, 1) := by decide +kernel
theorem dX10_ready_81 : decode cX10_ready 81 = .ok (.iastore, 1) := by decide +kernel
theorem dX10_ready_82 : decode cX10_ready 82 = .ok (.aload_n 0, 1) := by decide +kernel
theorem dX10_ready_83 : decode cX10_ready 83 = .ok (.getfield 37, 3) := by decide +kernel
theorem dX10_ready_86 : decode cX10_ready 86 = .ok (.iload_n 1, 1) := by decide +kernel
theorem dX10_ready_87 : decode cX10_ready 87 = .ok (.iload_n 2, 1) := by decide +kernel
theorem dX10_ready_88 : decode cX10_ready 88 = .ok (.iastore, 1) := by decide +kernel
theorem dX10_ready_89 : decode cX10_ready 89 = .ok (.aload_n 0, 1) := by decide +kernel
theorem dX10_ready_90 : decode cX10_ready 90 = .ok (.getfield 40, 3) := by decide +kernel
theorem dX10_ready_93 : decode cX10_ready 93 = .ok (.iload_n 1, 1) := by decide +kernel
theorem dX10_ready_94 : decode cX10_ready 94 = .ok (.iload_n 3, 1) := by decide +kernel
theorem dX10_ready_95 : decode cX10_ready 95 = .ok (.iastore, 1) := by decide +kernel
theorem dX10_ready_96 : decode cX10_ready 96 = .ok (.return_, 1) := by decide +kernel
set_option maxHeartbeats 8000000 in
set_option maxRecDepth 100000 in
theorem u_X10_ready (l : Launch) (E : EE) (z0 : Nat) (G : Nat → Nat) (hGz : ∀ q, G q ≠ 0 → z0 ≤ q) (h0 : Nat) (rf : Nat → Nat) (hR : MG G h0 rf) (t0 t1 t2 : Int32) (A : AA) (cd pk : Int32) (p0 : Int32) (p1 : Int32) (p2 : Int32) (hI4 : I4 (A 10) (A 20) (A 29) (A 24) (A 11) (A 12) (A 13)) : Met l yX10_ready [Cond.code yX10_ready cX10_ready 4 none] ({ frames := 1, cells := 0, slots := 0, locals := 21 } : Room) (va_Pc [.ref h0, .int p0, .int p1, .int p2] (fun U => MH E h0 rf t0 t1 t2 A cd pk U.heap ∧ KS E z0 U)) (va_Qv (fun (u : (Nat → Int32) × (Nat → Int32) × (Nat → Int32) × (Nat → Int32) × (Nat → Int32) × Int32) => (I4 (u.1) (A 20) (A 29) (A 24) (u.2.1) (u.2.2.1) (u.2.2.2.1)) ∧ (D_X10_ready A cd pk p0 p1 p2 (uA (uA (uA (uA (uA A 10 (u.1)) 11 (u.2.1)) 12 (u.2.2.1)) 13 (u.2.2.2.1)) 14 (u.2.2.2.2.1)) (u.2.2.2.2.2) pk)) (fun u t => MH E h0 rf t0 t1 t2 (uA (uA (uA (uA (uA A 10 (u.1)) 11 (u.2.1)) 12 (u.2.2.1)) 13 (u.2.2.2.1)) 14 (u.2.2.2.2.1)) (u.2.2.2.2.2) pk t.heap) (fun q : Nat => G q ≠ 0)) 0 0 (fun q : Nat => G q ≠ 0) := by
  refine Met.ofW (cc := cX10_ready) (maxL := 4) (ret := none) (by decide) rfl ?_
  intro p e s m args below meth c s₁ B hml hv
  obtain ⟨rfl, hM, hK⟩ := hv
  have hx := B.exec
  have hb := B.bytes
  have hr := B.returns
  have hts : ∀ w ∈ TS, w.before ([.ref h0, .int p0, .int p1, .int p2] : List Value).toArray s = true := fun w hw => hK.2.1 w hw _
  have hown : s.vm.findClass RX10 = some m.cls := findClass_of_methodNamed B.named
  have hlocks := B.notSynchronized
  have hS : va_S (fun q : Nat => G q ≠ 0) s.heap s.heap [] := va_S.rf
  have hAz : ∀ q, (fun q : Nat => G q ≠ 0) q → z0 ≤ q := hGz
  have hl := lv_entry ([.ref h0, .int p0, .int p1, .int p2]) (n := 4) (Nat.le_of_ble_eq_true rfl)
  rw [lg_entry_eq]
  generalize (lg_sl ([.ref h0, .int p0, .int p1, .int p2]) ++ List.replicate (4 - (lg_sl ([.ref h0, .int p0, .int p1, .int p2])).length) Slot.unset).toArray = ls at hl ⊢
  have hl : lv_has ls 4 [(0, .ref h0), (1, .int p0), (2, .int p1), (3, .int p2)] := hl
  refine lv_aload_n hx hb dX10_ready_0 rfl (lv_at hl 0 rfl) ?_
  refine lv_iconst (v := 0) hx hb dX10_ready_1 (by decide) ?_
  refine rr_put (D := DG E) (ci := 10) (v := .int 0) (ty := .int) (C := RX10) (T := TX10) (N := 49) hx hb hts iw_X10 tyX10 tyX10_ok nmX10 hown hK.1 hM.1 hS (by show G h0 ≠ 0; rw [hR.1]; decide) rfl 3 (by decide) (hts _ fl_X10_153) (fun _ h9 => h9) rfl (by decide +kernel) rfl rfl (Nat.le_of_ble_eq_true rfl) dX10_ready_2 (fun H locs hn ho hz hS => ?_)
  have hM : MH E h0 rf t0 t1 t2 A 0 pk H := hM.sc hR hn ho
  refine lv_iload_n hx hb dX10_ready_5 rfl (lv_at hl 1 rfl) ?_
  refine lv_iconst (v := 3) hx hb dX10_ready_6 (by decide) ?_
  refine W.callR (W.runS (As := [.int p0, .int 3]) (rest := []) ⟨hx, hb, hml, hown, hts⟩ (c_X10_within l p0 3) (cwS 2 hts (gdS ml_X10_156 st_X10_within in_X10 co_X10_within rfl) rfl rfl rfl (by decide +kernel) ⟨Nat.le_of_ble_eq_true rfl, Nat.le_of_ble_eq_true rfl⟩) preEq rfl rfl hl.1 rfl (lv_room (Nat.le_of_ble_eq_true rfl)) dX10_ready_7 ⟨Nat.le_of_ble_eq_true rfl, Nat.le_of_ble_eq_true rfl⟩) ?_
  refine W.eq (g2 := F0 m 10 ls [.int (bI (0 ≤ p0.toInt ∧ p0.toInt ≤ (3 : Int32).toInt))]) (by rfl) ?_
  refine lv_if_eq (tgt := 31) hx hb dX10_ready_10 (by decide) (fun c_1 => ?_) (fun c_1 => ?_)
  · have c_1 := bI_0 c_1
    have c_1r := c_1
    try simp only [lt_I, le_I, eq_I, i_0, i_1, i_2, i_3, i_4, i_5, i_6, i_7, i_8, i_10, i_12, i_16, i_20, i_23, i_24, i_31, i_32, i_63, i_64, i_m1, i_9, i_11, i_13, i_25, i_60, i_75, i_79, i_80, i_96, i_100] at c_1
    refine lv_aload_n hx hb dX10_ready_31 rfl (lv_at hl 0 rfl) ?_
    refine lv_iconst (v := 1) hx hb dX10_ready_32 (by decide) ?_
    refine rr_put (D := DG E) (ci := 10) (v := .int 1) (ty := .int) (C := RX10) (T := TX10) (N := 49) hx hb hts iw_X10 tyX10 tyX10_ok nmX10 hown hK.1 hM.1 hS (by show G h0 ≠ 0; rw [hR.1]; decide) rfl 3 (by decide) (hts _ fl_X10_153) (fun _ h9 => h9) rfl (by decide +kernel) rfl rfl (Nat.le_of_ble_eq_true rfl) dX10_ready_33 (fun H locs hn ho hz hS => ?_)
    have hM : MH E h0 rf t0 t1 t2 A 1 pk H := hM.sc hR hn ho
    refine lv_goto (tgt := 53) hx hb dX10_ready_36 (by decide) ?_
    refine lv_aload_n hx hb dX10_ready_53 rfl (lv_at hl 0 rfl) ?_
    refine va_get (D := DG E) (ci := 10) (v := .int 1) (C := RX10) (T := TX10) (N := 49) hx hb hts iw_X10 hown hK.1 (va_one hM.1) 0 rfl rfl 3 (by decide) (hts _ fl_X10_153) (fun _ h9 => h9) rfl dX10_ready_54 ?_
    refine lv_if_eq (tgt := 61) hx hb dX10_ready_57 (by decide) (fun c_2 => absurd c_2 (by decide)) (fun c_2 => ?_)
    exact W.vret hx hb hr (fun t ht hW => ⟨⟨((A 10), (A 11), (A 12), (A 13), (A 14), 1), rfl, ⟨hI4, (Or.inl ⟨c_1r, rfl, rfl, rfl⟩)⟩, (by show MH E h0 rf t0 t1 t2 (uA (uA (uA (uA (uA A 10 (A 10)) 11 (A 11)) 12 (A 12)) 13 (A 13)) 14 (A 14)) 1 pk t.heap; rw [ht]; exact hM.cg9 rfl rfl rfl rfl rfl rfl rfl rfl rfl rfl rfl rfl rfl rfl rfl rfl rfl rfl rfl rfl rfl rfl rfl rfl rfl rfl rfl rfl rfl rfl rfl rfl rfl rfl rfl rfl rfl rfl rfl rfl rfl rfl rfl rfl)⟩, hS.F ht⟩) hS.2.2 dX10_ready_60
  · have c_1 := bI_n c_1
    have c_1r := c_1
    try simp only [lt_I, le_I, eq_I, i_0, i_1, i_2, i_3, i_4, i_5, i_6, i_7, i_8, i_10, i_12, i_16, i_20, i_23, i_24, i_31, i_32, i_63, i_64, i_m1, i_9, i_11, i_13, i_25, i_60, i_75, i_79, i_80, i_96, i_100] at c_1
    refine lv_iload_n hx hb dX10_ready_13 rfl (lv_at hl 2 rfl) ?_
    refine lv_bipush (v := 63) hx hb dX10_ready_14 (by decide) ?_
    refine W.callR (W.runS (As := [.int p1, .int 63]) (rest := []) ⟨hx, hb, hml, hown, hts⟩ (c_X10_within l p1 63) (cwS 2 hts (gdS ml_X10_156 st_X10_within in_X10 co_X10_within rfl) rfl rfl rfl (by decide +kernel) ⟨Nat.le_of_ble_eq_true rfl, Nat.le_of_ble_eq_true rfl⟩) preEq rfl rfl hl.1 rfl (lv_room (Nat.le_of_ble_eq_true rfl)) dX10_ready_16 ⟨Nat.le_of_ble_eq_true rfl, Nat.le_of_ble_eq_true rfl⟩) ?_
    refine W.eq (g2 := F0 m 19 ls [.int (bI (0 ≤ p1.toInt ∧ p1.toInt ≤ (63 : Int32).toInt))]) (by rfl) ?_
    refine lv_if_eq (tgt := 31) hx hb dX10_ready_19 (by decide) (fun c_3 => ?_) (fun c_3 => ?_)
    · have c_3 := bI_0 c_3
      have c_3r := c_3
      try simp only [lt_I, le_I, eq_I, i_0, i_1, i_2, i_3, i_4, i_5, i_6, i_7, i_8, i_10, i_12, i_16, i_20, i_23, i_24, i_31, i_32, i_63, i_64, i_m1, i_9, i_11, i_13, i_25, i_60, i_75, i_79, i_80, i_96, i_100] at c_3
      refine lv_aload_n hx hb dX10_ready_31 rfl (lv_at hl 0 rfl) ?_
      refine lv_iconst (v := 1) hx hb dX10_ready_32 (by decide) ?_
      refine rr_put (D := DG E) (ci := 10) (v := .int 1) (ty := .int) (C := RX10) (T := TX10) (N := 49) hx hb hts iw_X10 tyX10 tyX10_ok nmX10 hown hK.1 hM.1 hS (by show G h0 ≠ 0; rw [hR.1]; decide) rfl 3 (by decide) (hts _ fl_X10_153) (fun _ h9 => h9) rfl (by decide +kernel) rfl rfl (Nat.le_of_ble_eq_true rfl) dX10_ready_33 (fun H locs hn ho hz hS => ?_)
      have hM : MH E h0 rf t0 t1 t2 A 1 pk H := hM.sc hR hn ho
      refine lv_goto (tgt := 53) hx hb dX10_ready_36 (by decide) ?_
      refine lv_aload_n hx hb dX10_ready_53 rfl (lv_at hl 0 rfl) ?_
      refine va_get (D := DG E) (ci := 10) (v := .int 1) (C := RX10) (T := TX10) (N := 49) hx hb hts iw_X10 hown hK.1 (va_one hM.1) 0 rfl rfl 3 (by decide) (hts _ fl_X10_153) (fun _ h9 => h9) rfl dX10_ready_54 ?_
      refine lv_if_eq (tgt := 61) hx hb dX10_ready_57 (by decide) (fun c_4 => absurd c_4 (by decide)) (fun c_4 => ?_)
      exact W.vret hx hb hr (fun t ht hW => ⟨⟨((A 10), (A 11), (A 12), (A 13), (A 14), 1), rfl, ⟨hI4, (Or.inr (Or.inl ⟨c_1r, c_3r, rfl, rfl, rfl⟩))⟩, (by show MH E h0 rf t0 t1 t2 (uA (uA (uA (uA (uA A 10 (A 10)) 11 (A 11)) 12 (A 12)) 13 (A 13)) 14 (A 14)) 1 pk t.heap; rw [ht]; exact hM.cg9 rfl rfl rfl rfl rfl rfl rfl rfl rfl rfl rfl rfl rfl rfl rfl rfl rfl rfl rfl rfl rfl rfl rfl rfl rfl rfl rfl rfl rfl rfl rfl rfl rfl rfl rfl rfl rfl rfl rfl rfl rfl rfl rfl rfl)⟩, hS.F ht⟩) hS.2.2 dX10_ready_60
    · have c_3 := bI_n c_3
      have c_3r := c_3
      try simp only [lt_I, le_I, eq_I, i_0, i_1, i_2, i_3, i_4, i_5, i_6, i_7, i_8, i_10, i_12, i_16, i_20, i_23, i_24, i_31, i_32, i_63, i_64, i_m1, i_9, i_11, i_13, i_25, i_60, i_75, i_79, i_80, i_96, i_100] at c_3
      refine lv_iload_n hx hb dX10_ready_22 rfl (lv_at hl 3 rfl) ?_
      refine lv_bipush (v := 63) hx hb dX10_ready_23 (by decide) ?_
      refine W.callR (W.runS (As := [.int p2, .int 63]) (rest := []) ⟨hx, hb, hml, hown, hts⟩ (c_X10_within l p2 63) (cwS 2 hts (gdS ml_X10_156 st_X10_within in_X10 co_X10_within rfl) rfl rfl rfl (by decide +kernel) ⟨Nat.le_of_ble_eq_true rfl, Nat.le_of_ble_eq_true rfl⟩) preEq rfl rfl hl.1 rfl (lv_room (Nat.le_of_ble_eq_true rfl)) dX10_ready_25 ⟨Nat.le_of_ble_eq_true rfl, Nat.le_of_ble_eq_true rfl⟩) ?_
      refine W.eq (g2 := F0 m 28 ls [.int (bI (0 ≤ p2.toInt ∧ p2.toInt ≤ (63 : Int32).toInt))]) (by rfl) ?_
      refine lv_if_ne (tgt := 39) hx hb dX10_ready_28 (by decide) (fun c_5 => ?_) (fun c_5 => ?_)
      · have c_5 := bI_n c_5
        have c_5r := c_5
        try simp only [lt_I, le_I, eq_I, i_0, i_1, i_2, i_3, i_4, i_5, i_6, i_7, i_8, i_10, i_12, i_16, i_20, i_23, i_24, i_31, i_32, i_63, i_64, i_m1, i_9, i_11, i_13, i_25, i_60, i_75, i_79, i_80, i_96, i_100] at c_5
        refine lv_aload_n hx hb dX10_ready_39 rfl (lv_at hl 0 rfl) ?_
        refine va_get (D := DG E) (ci := 10) (v := .ref (rf 10)) (C := RX10) (T := TX10) (N := 49) hx hb hts iw_X10 hown hK.1 (va_one hM.1) 0 rfl rfl 10 (by decide) (hts _ fl_X10_28) (fun _ h9 => h9) rfl dX10_ready_40 ?_
        refine lv_iload_n hx hb dX10_ready_43 rfl (lv_at hl 1 rfl) ?_
        have hi_6 : vp_in p0 4 := vp_in_iff.mpr (by omega)
        have ha_7 : va_at (DG E) vwCl (rf 10, .inl (E.2.2 0, 4, .inl (A 10))) _ := hM.2 10 (by decide) (by decide) (by decide)
        obtain ⟨n_8, hn_8, en_8⟩ := s_nat (x := p0) (by omega)
        refine va_iald (D := DG E) hx hb hK.1 (va_one ha_7) 0 0 rfl rfl hi_6 dX10_ready_44 ?_
        refine W.eq (g2 := F0 m 45 ls [.int ((A 10) n_8)]) (by rw [en_8]) ?_
        refine lv_if_eq (tgt := 53) hx hb dX10_ready_45 (by decide) (fun c_9 => ?_) (fun c_9 => ?_)
        · simp only [lt_I, le_I, eq_I, i_0, i_1, i_2, i_3, i_4, i_5, i_6, i_7, i_8, i_10, i_12, i_16, i_20, i_23, i_24, i_31, i_32, i_63, i_64, i_m1, i_9, i_11, i_13, i_25, i_60, i_75, i_79, i_80, i_96, i_100] at c_9
          refine lv_aload_n hx hb dX10_ready_53 rfl (lv_at hl 0 rfl) ?_
          refine va_get (D := DG E) (ci := 10) (v := .int 0) (C := RX10) (T := TX10) (N := 49) hx hb hts iw_X10 hown hK.1 (va_one hM.1) 0 rfl rfl 3 (by decide) (hts _ fl_X10_153) (fun _ h9 => h9) rfl dX10_ready_54 ?_
          refine lv_if_eq (tgt := 61) hx hb dX10_ready_57 (by decide) (fun c_10 => ?_) (fun c_10 => absurd c_10 (by decide))
          refine lv_aload_n hx hb dX10_ready_61 rfl (lv_at hl 0 rfl) ?_
          refine va_get (D := DG E) (ci := 10) (v := .ref (rf 10)) (C := RX10) (T := TX10) (N := 49) hx hb hts iw_X10 hown hK.1 (va_one hM.1) 0 rfl rfl 10 (by decide) (hts _ fl_X10_28) (fun _ h9 => h9) rfl dX10_ready_62 ?_
          refine lv_iload_n hx hb dX10_ready_65 rfl (lv_at hl 1 rfl) ?_
          refine lv_iconst (v := 1) hx hb dX10_ready_66 (by decide) ?_
          have ha_11 : va_at (DG E) vwCl (rf 10, .inl (E.2.2 0, 4, .inl (A 10))) _ := hM.2 10 (by decide) (by decide) (by decide)
          refine rr_iast (D := DG E) hx hb hK.1 0 ha_11 hS (by show G (rf 10) ≠ 0; rw [hR.2 10 (by decide) (by decide) (by decide)]; decide) rfl hi_6 dX10_ready_67 (fun H locs hn ho hz hS => ?_)
          rw [en_8] at hn
          obtain ⟨g_11, eg_11⟩ : ∃ z : Nat → Int32, z = upd (A 10) n_8 1 := ⟨_, rfl⟩
          have sg_11 : g_11 n_8 = 1 := by rw [eg_11]; exact upd_s
          have ng_11 : ∀ k, k ≠ n_8 → g_11 k = (A 10) k := fun k hk => by rw [eg_11]; exact upd_n hk
          have hn : va_at (DG E) vwCl (rf 10, .inl (E.2.2 0, 4, .inl g_11)) H := by rw [eg_11]; exact hn
          have hM : MH E h0 rf t0 t1 t2 (uA A 10 g_11) 0 pk H := hM.w hR 10 (by decide) (by decide) (by decide) hn ho
          refine lv_aload_n hx hb dX10_ready_68 rfl (lv_at hl 0 rfl) ?_
          refine va_get (D := DG E) (ci := 10) (v := .ref (rf 11)) (C := RX10) (T := TX10) (N := 49) hx hb hts iw_X10 hown hK.1 (va_one hM.1) 0 rfl rfl 11 (by decide) (hts _ fl_X10_31) (fun _ h9 => h9) rfl dX10_ready_69 ?_
          refine lv_iload_n hx hb dX10_ready_72 rfl (lv_at hl 1 rfl) ?_
          refine lv_iload_n hx hb dX10_ready_73 rfl (lv_at hl 2 rfl) ?_
          have ha_12 : va_at (DG E) vwCl (rf 11, .inl (E.2.2 0, 4, .inl (A 11))) _ := hM.2 11 (by decide) (by decide) (by decide)
          refine rr_iast (D := DG E) hx hb hK.1 0 ha_12 hS (by show G (rf 11) ≠ 0; rw [hR.2 11 (by decide) (by decide) (by decide)]; decide) rfl hi_6 dX10_ready_74 (fun H locs hn ho hz hS => ?_)
          rw [en_8] at hn
          obtain ⟨g_12, eg_12⟩ : ∃ z : Nat → Int32, z = upd (A 11) n_8 p1 := ⟨_, rfl⟩
          have sg_12 : g_12 n_8 = p1 := by rw [eg_12]; exact upd_s
          have ng_12 : ∀ k, k ≠ n_8 → g_12 k = (A 11) k := fun k hk => by rw [eg_12]; exact upd_n hk
          have hn : va_at (DG E) vwCl (rf 11, .inl (E.2.2 0, 4, .inl g_12)) H := by rw [eg_12]; exact hn
          have hM : MH E h0 rf t0 t1 t2 (uA (uA A 10 g_11) 11 g_12) 0 pk H := hM.w hR 11 (by decide) (by decide) (by decide) hn ho
          refine lv_aload_n hx hb dX10_ready_75 rfl (lv_at hl 0 rfl) ?_
          refine va_get (D := DG E) (ci := 10) (v := .ref (rf 12)) (C := RX10) (T := TX10) (N := 49) hx hb hts iw_X10 hown hK.1 (va_one hM.1) 0 rfl rfl 12 (by decide) (hts _ fl_X10_34) (fun _ h9 => h9) rfl dX10_ready_76 ?_
          refine lv_iload_n hx hb dX10_ready_79 rfl (lv_at hl 1 rfl) ?_
          refine lv_iload_n hx hb dX10_ready_80 rfl (lv_at hl 2 rfl) ?_
          have ha_13 : va_at (DG E) vwCl (rf 12, .inl (E.2.2 0, 4, .inl (A 12))) _ := hM.2 12 (by decide) (by decide) (by decide)
          refine rr_iast (D := DG E) hx hb hK.1 0 ha_13 hS (by show G (rf 12) ≠ 0; rw [hR.2 12 (by decide) (by decide) (by decide)]; decide) rfl hi_6 dX10_ready_81 (fun H locs hn ho hz hS => ?_)
          rw [en_8] at hn
          obtain ⟨g_13, eg_13⟩ : ∃ z : Nat → Int32, z = upd (A 12) n_8 p1 := ⟨_, rfl⟩
          have sg_13 : g_13 n_8 = p1 := by rw [eg_13]; exact upd_s
          have ng_13 : ∀ k, k ≠ n_8 → g_13 k = (A 12) k := fun k hk => by rw [eg_13]; exact upd_n hk
          have hn : va_at (DG E) vwCl (rf 12, .inl (E.2.2 0, 4, .inl g_13)) H := by rw [eg_13]; exact hn
          have hM : MH E h0 rf t0 t1 t2 (uA (uA (uA A 10 g_11) 11 g_12) 12 g_13) 0 pk H := hM.w hR 12 (by decide) (by decide) (by decide) hn ho
          refine lv_aload_n hx hb dX10_ready_82 rfl (lv_at hl 0 rfl) ?_
          refine va_get (D := DG E) (ci := 10) (v := .ref (rf 13)) (C := RX10) (T := TX10) (N := 49) hx hb hts iw_X10 hown hK.1 (va_one hM.1) 0 rfl rfl 13 (by decide) (hts _ fl_X10_37) (fun _ h9 => h9) rfl dX10_ready_83 ?_
          refine lv_iload_n hx hb dX10_ready_86 rfl (lv_at hl 1 rfl) ?_
          refine lv_iload_n hx hb dX10_ready_87 rfl (lv_at hl 2 rfl) ?_
          have ha_14 : va_at (DG E) vwCl (rf 13, .inl (E.2.2 0, 4, .inl (A 13))) _ := hM.2 13 (by decide) (by decide) (by decide)
          refine rr_iast (D := DG E) hx hb hK.1 0 ha_14 hS (by show G (rf 13) ≠ 0; rw [hR.2 13 (by decide) (by decide) (by decide)]; decide) rfl hi_6 dX10_ready_88 (fun H locs hn ho hz hS => ?_)
          rw [en_8] at hn
          obtain ⟨g_14, eg_14⟩ : ∃ z : Nat → Int32, z = upd (A 13) n_8 p1 := ⟨_, rfl⟩
          have sg_14 : g_14 n_8 = p1 := by rw [eg_14]; exact upd_s
          have ng_14 : ∀ k, k ≠ n_8 → g_14 k = (A 13) k := fun k hk => by rw [eg_14]; exact upd_n hk
          have hn : va_at (DG E) vwCl (rf 13, .inl (E.2.2 0, 4, .inl g_14)) H := by rw [eg_14]; exact hn
          have hM : MH E h0 rf t0 t1 t2 (uA (uA (uA (uA A 10 g_11) 11 g_12) 12 g_13) 13 g_14) 0 pk H := hM.w hR 13 (by decide) (by decide) (by decide) hn ho
          refine lv_aload_n hx hb dX10_ready_89 rfl (lv_at hl 0 rfl) ?_
          refine va_get (D := DG E) (ci := 10) (v := .ref (rf 14)) (C := RX10) (T := TX10) (N := 49) hx hb hts iw_X10 hown hK.1 (va_one hM.1) 0 rfl rfl 14 (by decide) (hts _ fl_X10_40) (fun _ h9 => h9) rfl dX10_ready_90 ?_
          refine lv_iload_n hx hb dX10_ready_93 rfl (lv_at hl 1 rfl) ?_
          refine lv_iload_n hx hb dX10_ready_94 rfl (lv_at hl 3 rfl) ?_
          have ha_15 : va_at (DG E) vwCl (rf 14, .inl (E.2.2 0, 4, .inl (A 14))) _ := hM.2 14 (by decide) (by decide) (by decide)
          refine rr_iast (D := DG E) hx hb hK.1 0 ha_15 hS (by show G (rf 14) ≠ 0; rw [hR.2 14 (by decide) (by decide) (by decide)]; decide) rfl hi_6 dX10_ready_95 (fun H locs hn ho hz hS => ?_)
          rw [en_8] at hn
          obtain ⟨g_15, eg_15⟩ : ∃ z : Nat → Int32, z = upd (A 14) n_8 p2 := ⟨_, rfl⟩
          have sg_15 : g_15 n_8 = p2 := by rw [eg_15]; exact upd_s
          have ng_15 : ∀ k, k ≠ n_8 → g_15 k = (A 14) k := fun k hk => by rw [eg_15]; exact upd_n hk
          have hn : va_at (DG E) vwCl (rf 14, .inl (E.2.2 0, 4, .inl g_15)) H := by rw [eg_15]; exact hn
          have hM : MH E h0 rf t0 t1 t2 (uA (uA (uA (uA (uA A 10 g_11) 11 g_12) 12 g_13) 13 g_14) 14 g_15) 0 pk H := hM.w hR 14 (by decide) (by decide) (by decide) hn ho
          have hI4_16 : I4 g_11 (A 20) (A 29) (A 24) g_12 g_13 g_14 := by
            intro k hk
            by_cases e : k = n_8
            · rw [e]
              refine ⟨fun _ => ?_, Or.inl (by rw [sg_11]; decide)⟩
              have e0 : ((A 20) n_8).toInt = 0 := (hI4 n_8 (by omega)).2.resolve_left (by omega)
              rw [e0, sg_12, sg_13, sg_14]
              exact PJ.new (by omega)
            · exact (hI4 k hk).cg (ng_11 k e) rfl (fun _ _ => rfl) (fun _ _ => rfl) (ng_12 k e) (ng_13 k e) (ng_14 k e)
          exact W.vret hx hb hr (fun t ht hW => ⟨⟨(g_11, g_12, g_13, g_14, g_15, 0), rfl, ⟨hI4_16, (Or.inr (Or.inr (Or.inl ⟨c_1r, c_3r, c_5r, n_8, hn_8, c_9, g_11, eg_11, g_12, eg_12, g_13, eg_13, g_14, eg_14, g_15, eg_15, rfl, rfl, rfl⟩)))⟩, (by show MH E h0 rf t0 t1 t2 (uA (uA (uA (uA (uA A 10 g_11) 11 g_12) 12 g_13) 13 g_14) 14 g_15) 0 pk t.heap; rw [ht]; exact hM)⟩, hS.F ht⟩) hS.2.2 dX10_ready_96
        · simp only [lt_I, le_I, eq_I, i_0, i_1, i_2, i_3, i_4, i_5, i_6, i_7, i_8, i_10, i_12, i_16, i_20, i_23, i_24, i_31, i_32, i_63, i_64, i_m1, i_9, i_11, i_13, i_25, i_60, i_75, i_79, i_80, i_96, i_100] at c_9
          refine lv_aload_n hx hb dX10_ready_48 rfl (lv_at hl 0 rfl) ?_
          refine lv_iconst (v := 2) hx hb dX10_ready_49 (by decide) ?_
          refine rr_put (D := DG E) (ci := 10) (v := .int 2) (ty := .int) (C := RX10) (T := TX10) (N := 49) hx hb hts iw_X10 tyX10 tyX10_ok nmX10 hown hK.1 hM.1 hS (by show G h0 ≠ 0; rw [hR.1]; decide) rfl 3 (by decide) (hts _ fl_X10_153) (fun _ h9 => h9) rfl (by decide +kernel) rfl rfl (Nat.le_of_ble_eq_true rfl) dX10_ready_50 (fun H locs hn ho hz hS => ?_)
          have hM : MH E h0 rf t0 t1 t2 A 2 pk H := hM.sc hR hn ho
          refine lv_aload_n hx hb dX10_ready_53 rfl (lv_at hl 0 rfl) ?_
          refine va_get (D := DG E) (ci := 10) (v := .int 2) (C := RX10) (T := TX10) (N := 49) hx hb hts iw_X10 hown hK.1 (va_one hM.1) 0 rfl rfl 3 (by decide) (hts _ fl_X10_153) (fun _ h9 => h9) rfl dX10_ready_54 ?_
          refine lv_if_eq (tgt := 61) hx hb dX10_ready_57 (by decide) (fun c_17 => absurd c_17 (by decide)) (fun c_17 => ?_)
          exact W.vret hx hb hr (fun t ht hW => ⟨⟨((A 10), (A 11), (A 12), (A 13), (A 14), 2), rfl, ⟨hI4, (Or.inr (Or.inr (Or.inr (Or.inl ⟨c_1r, c_3r, c_5r, n_8, hn_8, c_9, rfl, rfl, rfl⟩))))⟩, (by show MH E h0 rf t0 t1 t2 (uA (uA (uA (uA (uA A 10 (A 10)) 11 (A 11)) 12 (A 12)) 13 (A 13)) 14 (A 14)) 2 pk t.heap; rw [ht]; exact hM.cg9 rfl rfl rfl rfl rfl rfl rfl rfl rfl rfl rfl rfl rfl rfl rfl rfl rfl rfl rfl rfl rfl rfl rfl rfl rfl rfl rfl rfl rfl rfl rfl rfl rfl rfl rfl rfl rfl rfl rfl rfl rfl rfl rfl rfl)⟩, hS.F ht⟩) hS.2.2 dX10_ready_60
      · have c_5 := bI_0 c_5
        have c_5r := c_5
        try simp only [lt_I, le_I, eq_I, i_0, i_1, i_2, i_3, i_4, i_5, i_6, i_7, i_8, i_10, i_12, i_16, i_20, i_23, i_24, i_31, i_32, i_63, i_64, i_m1, i_9, i_11, i_13, i_25, i_60, i_75, i_79, i_80, i_96, i_100] at c_5
        refine lv_aload_n hx hb dX10_ready_31 rfl (lv_at hl 0 rfl) ?_
        refine lv_iconst (v := 1) hx hb dX10_ready_32 (by decide) ?_
        refine rr_put (D := DG E) (ci := 10) (v := .int 1) (ty := .int) (C := RX10) (T := TX10) (N := 49) hx hb hts iw_X10 tyX10 tyX10_ok nmX10 hown hK.1 hM.1 hS (by show G h0 ≠ 0; rw [hR.1]; decide) rfl 3 (by decide) (hts _ fl_X10_153) (fun _ h9 => h9) rfl (by decide +kernel) rfl rfl (Nat.le_of_ble_eq_true rfl) dX10_ready_33 (fun H locs hn ho hz hS => ?_)
        have hM : MH E h0 rf t0 t1 t2 A 1 pk H := hM.sc hR hn ho
        refine lv_goto (tgt := 53) hx hb dX10_ready_36 (by decide) ?_
        refine lv_aload_n hx hb dX10_ready_53 rfl (lv_at hl 0 rfl) ?_
        refine va_get (D := DG E) (ci := 10) (v := .int 1) (C := RX10) (T := TX10) (N := 49) hx hb hts iw_X10 hown hK.1 (va_one hM.1) 0 rfl rfl 3 (by decide) (hts _ fl_X10_153) (fun _ h9 => h9) rfl dX10_ready_54 ?_
        refine lv_if_eq (tgt := 61) hx hb dX10_ready_57 (by decide) (fun c_18 => absurd c_18 (by decide)) (fun c_18 => ?_)
        exact W.vret hx hb hr (fun t ht hW => ⟨⟨((A 10), (A 11), (A 12), (A 13), (A 14), 1), rfl, ⟨hI4, (Or.inr (Or.inr (Or.inr (Or.inr ⟨c_1r, c_3r, c_5r, rfl, rfl, rfl⟩))))⟩, (by show MH E h0 rf t0 t1 t2 (uA (uA (uA (uA (uA A 10 (A 10)) 11 (A 11)) 12 (A 12)) 13 (A 13)) 14 (A 14)) 1 pk t.heap; rw [ht]; exact hM.cg9 rfl rfl rfl rfl rfl rfl rfl rfl rfl rfl rfl rfl rfl rfl rfl rfl rfl rfl rfl rfl rfl rfl rfl rfl rfl rfl rfl rfl rfl rfl rfl rfl rfl rfl rfl rfl rfl rfl rfl rfl rfl rfl rfl rfl)⟩, hS.F ht⟩) hS.2.2 dX10_ready_60
theorem dX10_reset_0 : decode cX10_reset 0 = .ok (.aload_n 0, 1) := by decide +kernel
theorem dX10_reset_1 : decode cX10_reset 1 = .ok (.iconst 0, 1) := by decide +kernel
theorem dX10_reset_2 : decode cX10_reset 2 = .ok (.putfield 153, 3) := by decide +kernel
theorem dX10_reset_5 : decode cX10_reset 5 = .ok (.iload_n 1, 1) := by decide +kernel
theorem dX10_reset_6 : decode cX10_reset 6 = .ok (.iconst 3, 1) := by decide +kernel
theorem dX10_reset_7 : decode cX10_reset 7 = .ok (.invokestatic 156, 3) := by decide +kernel
theorem dX10_reset_10 : decode cX10_reset 10 = .ok (.ifCond .ne 5, 3) := by decide +kernel
theorem dX10_reset_13 : decode cX10_reset 13 = .ok (.iconst 0, 1) := by decide +kernel
theorem dX10_reset_14 : decode cX10_reset 14 = .ok (.ireturn, 1) := by decide +kernel
theorem dX10_reset_15 : decode cX10_reset 15 = .ok (.aload_n 0, 1) := by decide +kernel
theorem dX10_reset_16 : decode cX10_reset 16 = .ok (.getfield 28, 3) := by decide +kernel
theorem dX10_reset_19 : decode cX10_reset 19 = .ok (.iload_n 1, 1) := by decide +kernel
theorem dX10_reset_20 : decode cX10_reset 20 = .ok (.iconst 0, 1) := by decide +kernel
theorem dX10_reset_21 : decode cX10_reset 21 = .ok (.iastore, 1) := by decide +kernel
theorem dX10_reset_22 : decode cX10_reset 22 = .ok (.aload_n 0, 1) := by decide +kernel
theorem dX10_reset_23 : decode cX10_reset 23 = .ok (.getfield 59, 3) := by decide +kernel
theorem dX10_reset_26 : decode cX10_reset 26 = .ok (.iload_n 1, 1) := by decide +kernel
theorem dX10_reset_27 : decode cX10_reset 27 = .ok (.iconst 0, 1) := by decide +kernel
theorem dX10_reset_28 : decode cX10_reset 28 = .ok (.iastore, 1) := by decide +kernel
theorem dX10_reset_29 : decode cX10_reset 29 = .ok (.aload_n 0, 1) := by decide +kernel
theorem dX10_reset_30 : decode cX10_reset 30 = .ok (.getfield 62, 3) := by decide +kernel
theorem dX10_reset_33 : decode cX10_reset 33 = .ok (.iload_n 1, 1) := by decide +kernel
theorem dX10_reset_34 : decode cX10_reset 34 = .ok (.iconst 0, 1) := by decide +kernel
theorem dX10_reset_35 : decode cX10_reset 35 = .ok (.iastore, 1) := by decide +kernel
theorem dX10_reset_36 : decode cX10_reset 36 = .ok (.aload_n 0, 1) := by decide +kernel
theorem dX10_reset_37 : decode cX10_reset 37 = .ok (.getfield 89, 3) := by decide +kernel
theorem dX10_reset_40 : decode cX10_reset 40 = .ok (.iload_n 1, 1) := by decide +kernel
theorem dX10_reset_41 : decode cX10_reset 41 = .ok (.iconst 0, 1) := by decide +kernel
theorem dX10_reset_42 : decode cX10_reset 42 = .ok (.iastore, 1) := by decide +kernel
theorem dX10_reset_43 : decode cX10_reset 43 = .ok (.aload_n 0, 1) := by decide +kernel
theorem dX10_reset_44 : decode cX10_reset 44 = .ok (.getfield 92, 3) := by decide +kernel
theorem dX10_reset_47 : decode cX10_reset 47 = .ok (.iload_n 1, 1) := by decide +kernel
theorem dX10_reset_48 : decode cX10_reset 48 = .ok (.iconst 0, 1) := by decide +kernel
theorem dX10_reset_49 : decode cX10_reset 49 = .ok (.iastore, 1) := by decide +kernel
theorem dX10_reset_50 : decode cX10_reset 50 = .ok (.aload_n 0, 1) := by decide +kernel
theorem dX10_reset_51 : decode cX10_reset 51 = .ok (.getfield 107, 3) := by decide +kernel
theorem dX10_reset_54 : decode cX10_reset 54 = .ok (.iload_n 1, 1) := by decide +kernel
theorem dX10_reset_55 : decode cX10_reset 55 = .ok (.iconst 0, 1) := by decide +kernel
theorem dX10_reset_56 : decode cX10_reset 56 = .ok (.bastore, 1) := by decide +kernel
theorem dX10_reset_57 : decode cX10_reset 57 = .ok (.aload_n 0, 1) := by decide +kernel
theorem dX10_reset_58 : decode cX10_reset 58 = .ok (.getfield 56, 3) := by decide +kernel
theorem dX10_reset_61 : decode cX10_reset 61 = .ok (.iload_n 1, 1) := by decide +kernel
theorem dX10_reset_62 : decode cX10_reset 62 = .ok (.iconst 0, 1) := by decide +kernel
theorem dX10_reset_63 : decode cX10_reset 63 = .ok (.bastore, 1) := by decide +kernel
theorem dX10_reset_64 : decode cX10_reset 64 = .ok (.aload_n 0, 1) := by decide +kernel
theorem dX10_reset_65 : decode cX10_reset 65 = .ok (.getfield 52, 3) := by decide +kernel
theorem dX10_reset_68 : decode cX10_reset 68 = .ok (.iload_n 1, 1) := by decide +kernel
theorem dX10_reset_69 : decode cX10_reset 69 = .ok (.iconst 0, 1) := by decide +kernel
theorem dX10_reset_70 : decode cX10_reset 70 = .ok (.bastore, 1) := by decide +kernel
theorem dX10_reset_71 : decode cX10_reset 71 = .ok (.aload_n 0, 1) := by decide +kernel
theorem dX10_reset_72 : decode cX10_reset 72 = .ok (.getfield 43, 3) := by decide +kernel
theorem dX10_reset_75 : decode cX10_reset 75 = .ok (.iload_n 1, 1) := by decide +kernel
theorem dX10_reset_76 : decode cX10_reset 76 = .ok (.iconst 0, 1) := by decide +kernel
theorem dX10_reset_77 : decode cX10_reset 77 = .ok (.iastore, 1) := by decide +kernel
theorem dX10_reset_78 : decode cX10_reset 78 = .ok (.aload_n 0, 1) := by decide +kernel
theorem dX10_reset_79 : decode cX10_reset 79 = .ok (.getfield 46, 3) := by decide +kernel
theorem dX10_reset_82 : decode cX10_reset 82 = .ok (.iload_n 1, 1) := by decide +kernel
theorem dX10_reset_83 : decode cX10_reset 83 = .ok (.iconst 0, 1) := by decide +kernel
theorem dX10_reset_84 : decode cX10_reset 84 = .ok (.iastore, 1) := by decide +kernel
theorem dX10_reset_85 : decode cX10_reset 85 = .ok (.aload_n 0, 1) := by decide +kernel
theorem dX10_reset_86 : decode cX10_reset 86 = .ok (.getfield 49, 3) := by decide +kernel
theorem dX10_reset_89 : decode cX10_reset 89 = .ok (.iload_n 1, 1) := by decide +kernel
theorem dX10_reset_90 : decode cX10_reset 90 = .ok (.iconst 0, 1) := by decide +kernel
theorem dX10_reset_91 : decode cX10_reset 91 = .ok (.iastore, 1) := by decide +kernel
theorem dX10_reset_92 : decode cX10_reset 92 = .ok (.aload_n 0, 1) := by decide +kernel
theorem dX10_reset_93 : decode cX10_reset 93 = .ok (.getfield 110, 3) := by decide +kernel
theorem dX10_reset_96 : decode cX10_reset 96 = .ok (.iload_n 1, 1) := by decide +kernel
theorem dX10_reset_97 : decode cX10_reset 97 = .ok (.iconst 0, 1) := by decide +kernel
theorem dX10_reset_98 : decode cX10_reset 98 = .ok (.iastore, 1) := by decide +kernel
theorem dX10_reset_99 : decode cX10_reset 99 = .ok (.iconst 1, 1) := by decide +kernel
theorem dX10_reset_100 : decode cX10_reset 100 = .ok (.ireturn, 1) := by decide +kernel
set_option maxHeartbeats 8000000 in
set_option maxRecDepth 100000 in
theorem u_X10_reset (l : Launch) (E : EE) (z0 : Nat) (G : Nat → Nat) (hGz : ∀ q, G q ≠ 0 → z0 ≤ q) (h0 : Nat) (rf : Nat → Nat) (hR : MG G h0 rf) (t0 t1 t2 : Int32) (A : AA) (cd pk : Int32) (p0 : Int32) (hI4 : I4 (A 10) (A 20) (A 29) (A 24) (A 11) (A 12) (A 13)) (hI8 : I8 (A 20) (A 30) (A 37) (A 36)) : Met l yX10_reset [Cond.code yX10_reset cX10_reset 2 (some .boolean)] ({ frames := 1, cells := 0, slots := 0, locals := 21 } : Room) (va_Pc [.ref h0, .int p0] (fun U => MH E h0 rf t0 t1 t2 A cd pk U.heap ∧ KS E z0 U)) (va_Qi (fun (r : Int32) (u : (Nat → Int32) × (Nat → Int32) × (Nat → Int32) × (Nat → Int32) × (Nat → Int32) × (Nat → Int32) × (Nat → Int32) × (Nat → Int32) × (Nat → Int32) × (Nat → Int32) × (Nat → Int32) × (Nat → Int32) × Int32) => (I4 (u.1) (u.2.2.2.2.2.2.1) (A 29) (A 24) (A 11) (A 12) (A 13)) ∧ (I8 (u.2.2.2.2.2.2.1) (u.2.2.2.2.2.2.2.2.1) (u.2.2.2.2.2.2.2.2.2.2.2.1) (u.2.2.2.2.2.2.2.2.2.2.1)) ∧ (r = bI (0 ≤ p0.toInt ∧ p0.toInt < 4)) ∧ (D_X10_reset A cd pk p0 (uA (uA (uA (uA (uA (uA (uA (uA (uA (uA (uA (uA A 10 (u.1)) 15 (u.2.1)) 16 (u.2.2.1)) 17 (u.2.2.2.1)) 18 (u.2.2.2.2.1)) 19 (u.2.2.2.2.2.1)) 20 (u.2.2.2.2.2.2.1)) 21 (u.2.2.2.2.2.2.2.1)) 30 (u.2.2.2.2.2.2.2.2.1)) 31 (u.2.2.2.2.2.2.2.2.2.1)) 36 (u.2.2.2.2.2.2.2.2.2.2.1)) 37 (u.2.2.2.2.2.2.2.2.2.2.2.1)) (u.2.2.2.2.2.2.2.2.2.2.2.2) pk r)) (fun u t => MH E h0 rf t0 t1 t2 (uA (uA (uA (uA (uA (uA (uA (uA (uA (uA (uA (uA A 10 (u.1)) 15 (u.2.1)) 16 (u.2.2.1)) 17 (u.2.2.2.1)) 18 (u.2.2.2.2.1)) 19 (u.2.2.2.2.2.1)) 20 (u.2.2.2.2.2.2.1)) 21 (u.2.2.2.2.2.2.2.1)) 30 (u.2.2.2.2.2.2.2.2.1)) 31 (u.2.2.2.2.2.2.2.2.2.1)) 36 (u.2.2.2.2.2.2.2.2.2.2.1)) 37 (u.2.2.2.2.2.2.2.2.2.2.2.1)) (u.2.2.2.2.2.2.2.2.2.2.2.2) pk t.heap) (fun q : Nat => G q ≠ 0)) 0 0 (fun q : Nat => G q ≠ 0) := by
  refine Met.ofW (cc := cX10_reset) (maxL := 2) (ret := (some .boolean)) (by decide) rfl ?_
  intro p e s m args below meth c s₁ B hml hv
  obtain ⟨rfl, hM, hK⟩ := hv
  have hx := B.exec
  have hb := B.bytes
  have hr := B.returns
  have hts : ∀ w ∈ TS, w.before ([.ref h0, .int p0] : List Value).toArray s = true := fun w hw => hK.2.1 w hw _
  have hown : s.vm.findClass RX10 = some m.cls := findClass_of_methodNamed B.named
  have hlocks := B.notSynchronized
  have hS : va_S (fun q : Nat => G q ≠ 0) s.heap s.heap [] := va_S.rf
  have hAz : ∀ q, (fun q : Nat => G q ≠ 0) q → z0 ≤ q := hGz
  have hl := lv_entry ([.ref h0, .int p0]) (n := 2) (Nat.le_of_ble_eq_true rfl)
  rw [lg_entry_eq]
  generalize (lg_sl ([.ref h0, .int p0]) ++ List.replicate (2 - (lg_sl ([.ref h0, .int p0])).length) Slot.unset).toArray = ls at hl ⊢
  have hl : lv_has ls 2 [(0, .ref h0), (1, .int p0)] := hl
  refine lv_aload_n hx hb dX10_reset_0 rfl (lv_at hl 0 rfl) ?_
  refine lv_iconst (v := 0) hx hb dX10_reset_1 (by decide) ?_
  refine rr_put (D := DG E) (ci := 10) (v := .int 0) (ty := .int) (C := RX10) (T := TX10) (N := 49) hx hb hts iw_X10 tyX10 tyX10_ok nmX10 hown hK.1 hM.1 hS (by show G h0 ≠ 0; rw [hR.1]; decide) rfl 3 (by decide) (hts _ fl_X10_153) (fun _ h9 => h9) rfl (by decide +kernel) rfl rfl (Nat.le_of_ble_eq_true rfl) dX10_reset_2 (fun H locs hn ho hz hS => ?_)
  have hM : MH E h0 rf t0 t1 t2 A 0 pk H := hM.sc hR hn ho
  refine lv_iload_n hx hb dX10_reset_5 rfl (lv_at hl 1 rfl) ?_
  refine lv_iconst (v := 3) hx hb dX10_reset_6 (by decide) ?_
  refine W.callR (W.runS (As := [.int p0, .int 3]) (rest := []) ⟨hx, hb, hml, hown, hts⟩ (c_X10_within l p0 3) (cwS 2 hts (gdS ml_X10_156 st_X10_within in_X10 co_X10_within rfl) rfl rfl rfl (by decide +kernel) ⟨Nat.le_of_ble_eq_true rfl, Nat.le_of_ble_eq_true rfl⟩) preEq rfl rfl hl.1 rfl (lv_room (Nat.le_of_ble_eq_true rfl)) dX10_reset_7 ⟨Nat.le_of_ble_eq_true rfl, Nat.le_of_ble_eq_true rfl⟩) ?_
  refine W.eq (g2 := F0 m 10 ls [.int (bI (0 ≤ p0.toInt ∧ p0.toInt ≤ (3 : Int32).toInt))]) (by rfl) ?_
  refine lv_if_ne (tgt := 15) hx hb dX10_reset_10 (by decide) (fun c_1 => ?_) (fun c_1 => ?_)
  · have c_1 := bI_n c_1
    have c_1r := c_1
    try simp only [lt_I, le_I, eq_I, i_0, i_1, i_2, i_3, i_4, i_5, i_6, i_7, i_8, i_10, i_12, i_16, i_20, i_23, i_24, i_31, i_32, i_63, i_64, i_m1, i_9, i_11, i_13, i_25, i_60, i_75, i_79, i_80, i_96, i_100] at c_1
    refine lv_aload_n hx hb dX10_reset_15 rfl (lv_at hl 0 rfl) ?_
    refine va_get (D := DG E) (ci := 10) (v := .ref (rf 10)) (C := RX10) (T := TX10) (N := 49) hx hb hts iw_X10 hown hK.1 (va_one hM.1) 0 rfl rfl 10 (by decide) (hts _ fl_X10_28) (fun _ h9 => h9) rfl dX10_reset_16 ?_
    refine lv_iload_n hx hb dX10_reset_19 rfl (lv_at hl 1 rfl) ?_
    refine lv_iconst (v := 0) hx hb dX10_reset_20 (by decide) ?_
    have hi_2 : vp_in p0 4 := vp_in_iff.mpr (by omega)
    have ha_3 : va_at (DG E) vwCl (rf 10, .inl (E.2.2 0, 4, .inl (A 10))) _ := hM.2 10 (by decide) (by decide) (by decide)
    obtain ⟨n_4, hn_4, en_4⟩ := s_nat (x := p0) (by omega)
    refine rr_iast (D := DG E) hx hb hK.1 0 ha_3 hS (by show G (rf 10) ≠ 0; rw [hR.2 10 (by decide) (by decide) (by decide)]; decide) rfl hi_2 dX10_reset_21 (fun H locs hn ho hz hS => ?_)
    rw [en_4] at hn
    obtain ⟨g_3, eg_3⟩ : ∃ z : Nat → Int32, z = upd (A 10) n_4 0 := ⟨_, rfl⟩
    have sg_3 : g_3 n_4 = 0 := by rw [eg_3]; exact upd_s
    have ng_3 : ∀ k, k ≠ n_4 → g_3 k = (A 10) k := fun k hk => by rw [eg_3]; exact upd_n hk
    have hn : va_at (DG E) vwCl (rf 10, .inl (E.2.2 0, 4, .inl g_3)) H := by rw [eg_3]; exact hn
    have hM : MH E h0 rf t0 t1 t2 (uA A 10 g_3) 0 pk H := hM.w hR 10 (by decide) (by decide) (by decide) hn ho
    refine lv_aload_n hx hb dX10_reset_22 rfl (lv_at hl 0 rfl) ?_
    refine va_get (D := DG E) (ci := 10) (v := .ref (rf 20)) (C := RX10) (T := TX10) (N := 49) hx hb hts iw_X10 hown hK.1 (va_one hM.1) 0 rfl rfl 20 (by decide) (hts _ fl_X10_59) (fun _ h9 => h9) rfl dX10_reset_23 ?_
    refine lv_iload_n hx hb dX10_reset_26 rfl (lv_at hl 1 rfl) ?_
    refine lv_iconst (v := 0) hx hb dX10_reset_27 (by decide) ?_
    have ha_5 : va_at (DG E) vwCl (rf 20, .inl (E.2.2 0, 4, .inl (A 20))) _ := hM.2 20 (by decide) (by decide) (by decide)
    refine rr_iast (D := DG E) hx hb hK.1 0 ha_5 hS (by show G (rf 20) ≠ 0; rw [hR.2 20 (by decide) (by decide) (by decide)]; decide) rfl hi_2 dX10_reset_28 (fun H locs hn ho hz hS => ?_)
    rw [en_4] at hn
    obtain ⟨g_5, eg_5⟩ : ∃ z : Nat → Int32, z = upd (A 20) n_4 0 := ⟨_, rfl⟩
    have sg_5 : g_5 n_4 = 0 := by rw [eg_5]; exact upd_s
    have ng_5 : ∀ k, k ≠ n_4 → g_5 k = (A 20) k := fun k hk => by rw [eg_5]; exact upd_n hk
    have hn : va_at (DG E) vwCl (rf 20, .inl (E.2.2 0, 4, .inl g_5)) H := by rw [eg_5]; exact hn
    have hM : MH E h0 rf t0 t1 t2 (uA (uA A 10 g_3) 20 g_5) 0 pk H := hM.w hR 20 (by decide) (by decide) (by decide) hn ho
    refine lv_aload_n hx hb dX10_reset_29 rfl (lv_at hl 0 rfl) ?_
    refine va_get (D := DG E) (ci := 10) (v := .ref (rf 21)) (C := RX10) (T := TX10) (N := 49) hx hb hts iw_X10 hown hK.1 (va_one hM.1) 0 rfl rfl 21 (by decide) (hts _ fl_X10_62) (fun _ h9 => h9) rfl dX10_reset_30 ?_
    refine lv_iload_n hx hb dX10_reset_33 rfl (lv_at hl 1 rfl) ?_
    refine lv_iconst (v := 0) hx hb dX10_reset_34 (by decide) ?_
    have ha_6 : va_at (DG E) vwCl (rf 21, .inl (E.2.2 0, 4, .inl (A 21))) _ := hM.2 21 (by decide) (by decide) (by decide)
    refine rr_iast (D := DG E) hx hb hK.1 0 ha_6 hS (by show G (rf 21) ≠ 0; rw [hR.2 21 (by decide) (by decide) (by decide)]; decide) rfl hi_2 dX10_reset_35 (fun H locs hn ho hz hS => ?_)
    rw [en_4] at hn
    obtain ⟨g_6, eg_6⟩ : ∃ z : Nat → Int32, z = upd (A 21) n_4 0 := ⟨_, rfl⟩
    have sg_6 : g_6 n_4 = 0 := by rw [eg_6]; exact upd_s
    have ng_6 : ∀ k, k ≠ n_4 → g_6 k = (A 21) k := fun k hk => by rw [eg_6]; exact upd_n hk
    have hn : va_at (DG E) vwCl (rf 21, .inl (E.2.2 0, 4, .inl g_6)) H := by rw [eg_6]; exact hn
    have hM : MH E h0 rf t0 t1 t2 (uA (uA (uA A 10 g_3) 20 g_5) 21 g_6) 0 pk H := hM.w hR 21 (by decide) (by decide) (by decide) hn ho
    refine lv_aload_n hx hb dX10_reset_36 rfl (lv_at hl 0 rfl) ?_
    refine va_get (D := DG E) (ci := 10) (v := .ref (rf 30)) (C := RX10) (T := TX10) (N := 49) hx hb hts iw_X10 hown hK.1 (va_one hM.1) 0 rfl rfl 30 (by decide) (hts _ fl_X10_89) (fun _ h9 => h9) rfl dX10_reset_37 ?_
    refine lv_iload_n hx hb dX10_reset_40 rfl (lv_at hl 1 rfl) ?_
    refine lv_iconst (v := 0) hx hb dX10_reset_41 (by decide) ?_
    have ha_7 : va_at (DG E) vwCl (rf 30, .inl (E.2.2 0, 4, .inl (A 30))) _ := hM.2 30 (by decide) (by decide) (by decide)
    refine rr_iast (D := DG E) hx hb hK.1 0 ha_7 hS (by show G (rf 30) ≠ 0; rw [hR.2 30 (by decide) (by decide) (by decide)]; decide) rfl hi_2 dX10_reset_42 (fun H locs hn ho hz hS => ?_)
    rw [en_4] at hn
    obtain ⟨g_7, eg_7⟩ : ∃ z : Nat → Int32, z = upd (A 30) n_4 0 := ⟨_, rfl⟩
    have sg_7 : g_7 n_4 = 0 := by rw [eg_7]; exact upd_s
    have ng_7 : ∀ k, k ≠ n_4 → g_7 k = (A 30) k := fun k hk => by rw [eg_7]; exact upd_n hk
    have hn : va_at (DG E) vwCl (rf 30, .inl (E.2.2 0, 4, .inl g_7)) H := by rw [eg_7]; exact hn
    have hM : MH E h0 rf t0 t1 t2 (uA (uA (uA (uA A 10 g_3) 20 g_5) 21 g_6) 30 g_7) 0 pk H := hM.w hR 30 (by decide) (by decide) (by decide) hn ho
    refine lv_aload_n hx hb dX10_reset_43 rfl (lv_at hl 0 rfl) ?_
    refine va_get (D := DG E) (ci := 10) (v := .ref (rf 31)) (C := RX10) (T := TX10) (N := 49) hx hb hts iw_X10 hown hK.1 (va_one hM.1) 0 rfl rfl 31 (by decide) (hts _ fl_X10_92) (fun _ h9 => h9) rfl dX10_reset_44 ?_
    refine lv_iload_n hx hb dX10_reset_47 rfl (lv_at hl 1 rfl) ?_
    refine lv_iconst (v := 0) hx hb dX10_reset_48 (by decide) ?_
    have ha_8 : va_at (DG E) vwCl (rf 31, .inl (E.2.2 0, 4, .inl (A 31))) _ := hM.2 31 (by decide) (by decide) (by decide)
    refine rr_iast (D := DG E) hx hb hK.1 0 ha_8 hS (by show G (rf 31) ≠ 0; rw [hR.2 31 (by decide) (by decide) (by decide)]; decide) rfl hi_2 dX10_reset_49 (fun H locs hn ho hz hS => ?_)
    rw [en_4] at hn
    obtain ⟨g_8, eg_8⟩ : ∃ z : Nat → Int32, z = upd (A 31) n_4 0 := ⟨_, rfl⟩
    have sg_8 : g_8 n_4 = 0 := by rw [eg_8]; exact upd_s
    have ng_8 : ∀ k, k ≠ n_4 → g_8 k = (A 31) k := fun k hk => by rw [eg_8]; exact upd_n hk
    have hn : va_at (DG E) vwCl (rf 31, .inl (E.2.2 0, 4, .inl g_8)) H := by rw [eg_8]; exact hn
    have hM : MH E h0 rf t0 t1 t2 (uA (uA (uA (uA (uA A 10 g_3) 20 g_5) 21 g_6) 30 g_7) 31 g_8) 0 pk H := hM.w hR 31 (by decide) (by decide) (by decide) hn ho
    refine lv_aload_n hx hb dX10_reset_50 rfl (lv_at hl 0 rfl) ?_
    refine va_get (D := DG E) (ci := 10) (v := .ref (rf 36)) (C := RX10) (T := TX10) (N := 49) hx hb hts iw_X10 hown hK.1 (va_one hM.1) 0 rfl rfl 36 (by decide) (hts _ fl_X10_107) (fun _ h9 => h9) rfl dX10_reset_51 ?_
    refine lv_iload_n hx hb dX10_reset_54 rfl (lv_at hl 1 rfl) ?_
    refine lv_iconst (v := 0) hx hb dX10_reset_55 (by decide) ?_
    have ha_9 : va_at (DG E) vwCl (rf 36, .inl (E.2.2 1, 4, .inl (A 36))) _ := hM.2 36 (by decide) (by decide) (by decide)
    refine rr_zast (D := DG E) hx hb hK.1 1 ha_9 hS (by show G (rf 36) ≠ 0; rw [hR.2 36 (by decide) (by decide) (by decide)]; decide) rfl hi_2 dX10_reset_56 (fun H locs hn ho hz hS => ?_)
    rw [en_4] at hn
    obtain ⟨g_9, eg_9⟩ : ∃ z : Nat → Int32, z = upd (A 36) n_4 0 := ⟨_, rfl⟩
    have sg_9 : g_9 n_4 = 0 := by rw [eg_9]; exact upd_s
    have ng_9 : ∀ k, k ≠ n_4 → g_9 k = (A 36) k := fun k hk => by rw [eg_9]; exact upd_n hk
    have hn : va_at (DG E) vwCl (rf 36, .inl (E.2.2 1, 4, .inl g_9)) H := by rw [eg_9]; exact hn
    have hM : MH E h0 rf t0 t1 t2 (uA (uA (uA (uA (uA (uA A 10 g_3) 20 g_5) 21 g_6) 30 g_7) 31 g_8) 36 g_9) 0 pk H := hM.w hR 36 (by decide) (by decide) (by decide) hn ho
    refine lv_aload_n hx hb dX10_reset_57 rfl (lv_at hl 0 rfl) ?_
    refine va_get (D := DG E) (ci := 10) (v := .ref (rf 19)) (C := RX10) (T := TX10) (N := 49) hx hb hts iw_X10 hown hK.1 (va_one hM.1) 0 rfl rfl 19 (by decide) (hts _ fl_X10_56) (fun _ h9 => h9) rfl dX10_reset_58 ?_
    refine lv_iload_n hx hb dX10_reset_61 rfl (lv_at hl 1 rfl) ?_
    refine lv_iconst (v := 0) hx hb dX10_reset_62 (by decide) ?_
    have ha_10 : va_at (DG E) vwCl (rf 19, .inl (E.2.2 1, 4, .inl (A 19))) _ := hM.2 19 (by decide) (by decide) (by decide)
    refine rr_zast (D := DG E) hx hb hK.1 1 ha_10 hS (by show G (rf 19) ≠ 0; rw [hR.2 19 (by decide) (by decide) (by decide)]; decide) rfl hi_2 dX10_reset_63 (fun H locs hn ho hz hS => ?_)
    rw [en_4] at hn
    obtain ⟨g_10, eg_10⟩ : ∃ z : Nat → Int32, z = upd (A 19) n_4 0 := ⟨_, rfl⟩
    have sg_10 : g_10 n_4 = 0 := by rw [eg_10]; exact upd_s
    have ng_10 : ∀ k, k ≠ n_4 → g_10 k = (A 19) k := fun k hk => by rw [eg_10]; exact upd_n hk
    have hn : va_at (DG E) vwCl (rf 19, .inl (E.2.2 1, 4, .inl g_10)) H := by rw [eg_10]; exact hn
    have hM : MH E h0 rf t0 t1 t2 (uA (uA (uA (uA (uA (uA (uA A 10 g_3) 20 g_5) 21 g_6) 30 g_7) 31 g_8) 36 g_9) 19 g_10) 0 pk H := hM.w hR 19 (by decide) (by decide) (by decide) hn ho
    refine lv_aload_n hx hb dX10_reset_64 rfl (lv_at hl 0 rfl) ?_
    refine va_get (D := DG E) (ci := 10) (v := .ref (rf 18)) (C := RX10) (T := TX10) (N := 49) hx hb hts iw_X10 hown hK.1 (va_one hM.1) 0 rfl rfl 18 (by decide) (hts _ fl_X10_52) (fun _ h9 => h9) rfl dX10_reset_65 ?_
    refine lv_iload_n hx hb dX10_reset_68 rfl (lv_at hl 1 rfl) ?_
    refine lv_iconst (v := 0) hx hb dX10_reset_69 (by decide) ?_
    have ha_11 : va_at (DG E) vwCl (rf 18, .inl (E.2.2 1, 4, .inl (A 18))) _ := hM.2 18 (by decide) (by decide) (by decide)
    refine rr_zast (D := DG E) hx hb hK.1 1 ha_11 hS (by show G (rf 18) ≠ 0; rw [hR.2 18 (by decide) (by decide) (by decide)]; decide) rfl hi_2 dX10_reset_70 (fun H locs hn ho hz hS => ?_)
    rw [en_4] at hn
    obtain ⟨g_11, eg_11⟩ : ∃ z : Nat → Int32, z = upd (A 18) n_4 0 := ⟨_, rfl⟩
    have sg_11 : g_11 n_4 = 0 := by rw [eg_11]; exact upd_s
    have ng_11 : ∀ k, k ≠ n_4 → g_11 k = (A 18) k := fun k hk => by rw [eg_11]; exact upd_n hk
    have hn : va_at (DG E) vwCl (rf 18, .inl (E.2.2 1, 4, .inl g_11)) H := by rw [eg_11]; exact hn
    have hM : MH E h0 rf t0 t1 t2 (uA (uA (uA (uA (uA (uA (uA (uA A 10 g_3) 20 g_5) 21 g_6) 30 g_7) 31 g_8) 36 g_9) 19 g_10) 18 g_11) 0 pk H := hM.w hR 18 (by decide) (by decide) (by decide) hn ho
    refine lv_aload_n hx hb dX10_reset_71 rfl (lv_at hl 0 rfl) ?_
    refine va_get (D := DG E) (ci := 10) (v := .ref (rf 15)) (C := RX10) (T := TX10) (N := 49) hx hb hts iw_X10 hown hK.1 (va_one hM.1) 0 rfl rfl 15 (by decide) (hts _ fl_X10_43) (fun _ h9 => h9) rfl dX10_reset_72 ?_
    refine lv_iload_n hx hb dX10_reset_75 rfl (lv_at hl 1 rfl) ?_
    refine lv_iconst (v := 0) hx hb dX10_reset_76 (by decide) ?_
    have ha_12 : va_at (DG E) vwCl (rf 15, .inl (E.2.2 0, 4, .inl (A 15))) _ := hM.2 15 (by decide) (by decide) (by decide)
    refine rr_iast (D := DG E) hx hb hK.1 0 ha_12 hS (by show G (rf 15) ≠ 0; rw [hR.2 15 (by decide) (by decide) (by decide)]; decide) rfl hi_2 dX10_reset_77 (fun H locs hn ho hz hS => ?_)
    rw [en_4] at hn
    obtain ⟨g_12, eg_12⟩ : ∃ z : Nat → Int32, z = upd (A 15) n_4 0 := ⟨_, rfl⟩
    have sg_12 : g_12 n_4 = 0 := by rw [eg_12]; exact upd_s
    have ng_12 : ∀ k, k ≠ n_4 → g_12 k = (A 15) k := fun k hk => by rw [eg_12]; exact upd_n hk
    have hn : va_at (DG E) vwCl (rf 15, .inl (E.2.2 0, 4, .inl g_12)) H := by rw [eg_12]; exact hn
    have hM : MH E h0 rf t0 t1 t2 (uA (uA (uA (uA (uA (uA (uA (uA (uA A 10 g_3) 20 g_5) 21 g_6) 30 g_7) 31 g_8) 36 g_9) 19 g_10) 18 g_11) 15 g_12) 0 pk H := hM.w hR 15 (by decide) (by decide) (by decide) hn ho
    refine lv_aload_n hx hb dX10_reset_78 rfl (lv_at hl 0 rfl) ?_
    refine va_get (D := DG E) (ci := 10) (v := .ref (rf 16)) (C := RX10) (T := TX10) (N := 49) hx hb hts iw_X10 hown hK.1 (va_one hM.1) 0 rfl rfl 16 (by decide) (hts _ fl_X10_46) (fun _ h9 => h9) rfl dX10_reset_79 ?_
    refine lv_iload_n hx hb dX10_reset_82 rfl (lv_at hl 1 rfl) ?_
    refine lv_iconst (v := 0) hx hb dX10_reset_83 (by decide) ?_
    have ha_13 : va_at (DG E) vwCl (rf 16, .inl (E.2.2 0, 4, .inl (A 16))) _ := hM.2 16 (by decide) (by decide) (by decide)
    refine rr_iast (D := DG E) hx hb hK.1 0 ha_13 hS (by show G (rf 16) ≠ 0; rw [hR.2 16 (by decide) (by decide) (by decide)]; decide) rfl hi_2 dX10_reset_84 (fun H locs hn ho hz hS => ?_)
    rw [en_4] at hn
    obtain ⟨g_13, eg_13⟩ : ∃ z : Nat → Int32, z = upd (A 16) n_4 0 := ⟨_, rfl⟩
    have sg_13 : g_13 n_4 = 0 := by rw [eg_13]; exact upd_s
    have ng_13 : ∀ k, k ≠ n_4 → g_13 k = (A 16) k := fun k hk => by rw [eg_13]; exact upd_n hk
    have hn : va_at (DG E) vwCl (rf 16, .inl (E.2.2 0, 4, .inl g_13)) H := by rw [eg_13]; exact hn
    have hM : MH E h0 rf t0 t1 t2 (uA (uA (uA (uA (uA (uA (uA (uA (uA (uA A 10 g_3) 20 g_5) 21 g_6) 30 g_7) 31 g_8) 36 g_9) 19 g_10) 18 g_11) 15 g_12) 16 g_13) 0 pk H := hM.w hR 16 (by decide) (by decide) (by decide) hn ho
    refine lv_aload_n hx hb dX10_reset_85 rfl (lv_at hl 0 rfl) ?_
    refine va_get (D := DG E) (ci := 10) (v := .ref (rf 17)) (C := RX10) (T := TX10) (N := 49) hx hb hts iw_X10 hown hK.1 (va_one hM.1) 0 rfl rfl 17 (by decide) (hts _ fl_X10_49) (fun _ h9 => h9) rfl dX10_reset_86 ?_
    refine lv_iload_n hx hb dX10_reset_89 rfl (lv_at hl 1 rfl) ?_
    refine lv_iconst (v := 0) hx hb dX10_reset_90 (by decide) ?_
    have ha_14 : va_at (DG E) vwCl (rf 17, .inl (E.2.2 0, 4, .inl (A 17))) _ := hM.2 17 (by decide) (by decide) (by decide)
    refine rr_iast (D := DG E) hx hb hK.1 0 ha_14 hS (by show G (rf 17) ≠ 0; rw [hR.2 17 (by decide) (by decide) (by decide)]; decide) rfl hi_2 dX10_reset_91 (fun H locs hn ho hz hS => ?_)
    rw [en_4] at hn
    obtain ⟨g_14, eg_14⟩ : ∃ z : Nat → Int32, z = upd (A 17) n_4 0 := ⟨_, rfl⟩
    have sg_14 : g_14 n_4 = 0 := by rw [eg_14]; exact upd_s
    have ng_14 : ∀ k, k ≠ n_4 → g_14 k = (A 17) k := fun k hk => by rw [eg_14]; exact upd_n hk
    have hn : va_at (DG E) vwCl (rf 17, .inl (E.2.2 0, 4, .inl g_14)) H := by rw [eg_14]; exact hn
    have hM : MH E h0 rf t0 t1 t2 (uA (uA (uA (uA (uA (uA (uA (uA (uA (uA (uA A 10 g_3) 20 g_5) 21 g_6) 30 g_7) 31 g_8) 36 g_9) 19 g_10) 18 g_11) 15 g_12) 16 g_13) 17 g_14) 0 pk H := hM.w hR 17 (by decide) (by decide) (by decide) hn ho
    refine lv_aload_n hx hb dX10_reset_92 rfl (lv_at hl 0 rfl) ?_
    refine va_get (D := DG E) (ci := 10) (v := .ref (rf 37)) (C := RX10) (T := TX10) (N := 49) hx hb hts iw_X10 hown hK.1 (va_one hM.1) 0 rfl rfl 37 (by decide) (hts _ fl_X10_110) (fun _ h9 => h9) rfl dX10_reset_93 ?_
    refine lv_iload_n hx hb dX10_reset_96 rfl (lv_at hl 1 rfl) ?_
    refine lv_iconst (v := 0) hx hb dX10_reset_97 (by decide) ?_
    have ha_15 : va_at (DG E) vwCl (rf 37, .inl (E.2.2 0, 4, .inl (A 37))) _ := hM.2 37 (by decide) (by decide) (by decide)
    refine rr_iast (D := DG E) hx hb hK.1 0 ha_15 hS (by show G (rf 37) ≠ 0; rw [hR.2 37 (by decide) (by decide) (by decide)]; decide) rfl hi_2 dX10_reset_98 (fun H locs hn ho hz hS => ?_)
    rw [en_4] at hn
    obtain ⟨g_15, eg_15⟩ : ∃ z : Nat → Int32, z = upd (A 37) n_4 0 := ⟨_, rfl⟩
    have sg_15 : g_15 n_4 = 0 := by rw [eg_15]; exact upd_s
    have ng_15 : ∀ k, k ≠ n_4 → g_15 k = (A 37) k := fun k hk => by rw [eg_15]; exact upd_n hk
    have hn : va_at (DG E) vwCl (rf 37, .inl (E.2.2 0, 4, .inl g_15)) H := by rw [eg_15]; exact hn
    have hM : MH E h0 rf t0 t1 t2 (uA (uA (uA (uA (uA (uA (uA (uA (uA (uA (uA (uA A 10 g_3) 20 g_5) 21 g_6) 30 g_7) 31 g_8) 36 g_9) 19 g_10) 18 g_11) 15 g_12) 16 g_13) 17 g_14) 37 g_15) 0 pk H := hM.w hR 37 (by decide) (by decide) (by decide) hn ho
    refine lv_iconst (v := 1) hx hb dX10_reset_99 (by decide) ?_
    have hI4_16 : I4 g_3 g_5 (A 29) (A 24) (A 11) (A 12) (A 13) := by
      intro k hk
      by_cases e : k = n_4
      · rw [e]
        refine ⟨fun hs => absurd hs (by rw [sg_3]; decide), Or.inr (by rw [sg_5]; decide)⟩
      · exact (hI4 k hk).cg (ng_3 k e) (ng_5 k e) (fun _ _ => rfl) (fun _ _ => rfl) rfl rfl rfl
    have hI8_17 : I8 g_5 g_7 g_15 g_9 := by
      intro n9 hn9
      have h9 : 0 ≤ ((A 20) n9).toInt ∧ ((A 20) n9).toInt ≤ 4 ∧ 0 ≤ ((A 30) n9).toInt ∧ ((A 30) n9).toInt ≤ 4 ∧ 0 ≤ ((A 37) n9).toInt ∧ ((A 37) n9).toInt ≤ 2 ∧ (((A 36) n9).toInt = 0 ∨ 1 ≤ ((A 30) n9).toInt) := hI8 n9 hn9
      show 0 ≤ (g_5 n9).toInt ∧ (g_5 n9).toInt ≤ 4 ∧ 0 ≤ (g_7 n9).toInt ∧ (g_7 n9).toInt ≤ 4 ∧ 0 ≤ (g_15 n9).toInt ∧ (g_15 n9).toInt ≤ 2 ∧ ((g_9 n9).toInt = 0 ∨ 1 ≤ (g_7 n9).toInt)
      by_cases ezn_4 : n9 = n_4
      · rw [ezn_4] at h9 ⊢
        rw [sg_5]
        rw [sg_7]
        rw [sg_15]
        rw [sg_9]
        have := i_0
        clear h9
        exact ⟨by omega, by omega, by omega, by omega, by omega, by omega, by omega⟩
      · rw [ng_5 n9 ezn_4]
        rw [ng_7 n9 ezn_4]
        rw [ng_15 n9 ezn_4]
        rw [ng_9 n9 ezn_4]
        exact h9
    exact W.zret (v := 1) (ty := .boolean) hx hb hr rfl (fun t ht hW => ⟨⟨1, (g_3, g_12, g_13, g_14, g_11, g_10, g_5, g_6, g_7, g_8, g_9, g_15, 0), rfl, ⟨hI4_16, hI8_17, (show (1 : Int32) = bI (0 ≤ p0.toInt ∧ p0.toInt < 4) from (by rw [bI_t (by omega)])), (Or.inl ⟨c_1r, n_4, hn_4, g_3, eg_3, g_5, eg_5, g_6, eg_6, g_7, eg_7, g_8, eg_8, g_9, eg_9, g_10, eg_10, g_11, eg_11, g_12, eg_12, g_13, eg_13, g_14, eg_14, g_15, eg_15, rfl, rfl, rfl, rfl⟩)⟩, (by show MH E h0 rf t0 t1 t2 (uA (uA (uA (uA (uA (uA (uA (uA (uA (uA (uA (uA A 10 g_3) 15 g_12) 16 g_13) 17 g_14) 18 g_11) 19 g_10) 20 g_5) 21 g_6) 30 g_7) 31 g_8) 36 g_9) 37 g_15) 0 pk t.heap; rw [ht]; exact hM.cg9 rfl rfl rfl rfl rfl rfl rfl rfl rfl rfl rfl rfl rfl rfl rfl rfl rfl rfl rfl rfl rfl rfl rfl rfl rfl rfl rfl rfl rfl rfl rfl rfl rfl rfl rfl rfl rfl rfl rfl rfl rfl rfl rfl rfl)⟩, hS.F ht⟩) hS.2.2 dX10_reset_100
  · have c_1 := bI_0 c_1
    have c_1r := c_1
    try simp only [lt_I, le_I, eq_I, i_0, i_1, i_2, i_3, i_4, i_5, i_6, i_7, i_8, i_10, i_12, i_16, i_20, i_23, i_24, i_31, i_32, i_63, i_64, i_m1, i_9, i_11, i_13, i_25, i_60, i_75, i_79, i_80, i_96, i_100] at c_1
    refine lv_iconst (v := 0) hx hb dX10_reset_13 (by decide) ?_
    exact W.zret (v := 0) (ty := .boolean) hx hb hr rfl (fun t ht hW => ⟨⟨0, ((A 10), (A 15), (A 16), (A 17), (A 18), (A 19), (A 20), (A 21), (A 30), (A 31), (A 36), (A 37), 0), rfl, ⟨hI4, hI8, (show (0 : Int32) = bI (0 ≤ p0.toInt ∧ p0.toInt < 4) from (by rw [bI_f (by omega)])), (Or.inr ⟨c_1r, rfl, rfl, rfl, rfl⟩)⟩, (by show MH E h0 rf t0 t1 t2 (uA (uA (uA (uA (uA (uA (uA (uA (uA (uA (uA (uA A 10 (A 10)) 15 (A 15)) 16 (A 16)) 17 (A 17)) 18 (A 18)) 19 (A 19)) 20 (A 20)) 21 (A 21)) 30 (A 30)) 31 (A 31)) 36 (A 36)) 37 (A 37)) 0 pk t.heap; rw [ht]; exact hM.cg9 rfl rfl rfl rfl rfl rfl rfl rfl rfl rfl rfl rfl rfl rfl rfl rfl rfl rfl rfl rfl rfl rfl rfl rfl rfl rfl rfl rfl rfl rfl rfl rfl rfl rfl rfl rfl rfl rfl rfl rfl rfl rfl rfl rfl)⟩, hS.F ht⟩) hS.2.2 dX10_reset_14
theorem dX10_packets_0 : decode cX10_packets 0 = .ok (.aload_n 0, 1) := by decide +kernel
theorem dX10_packets_1 : decode cX10_packets 1 = .ok (.iconst 0, 1) := by decide +kernel
theorem dX10_packets_2 : decode cX10_packets 2 = .ok (.putfield 153, 3) := by decide +kernel
theorem dX10_packets_5 : decode cX10_packets 5 = .ok (.aload_n 0, 1) := by decide +kernel
theorem dX10_packets_6 : decode cX10_packets 6 = .ok (.getfield 164, 3) := by decide +kernel
theorem dX10_packets_9 : decode cX10_packets 9 = .ok (.ireturn, 1) := by decide +kernel
set_option maxHeartbeats 8000000 in
set_option maxRecDepth 100000 in
theorem u_X10_packets (l : Launch) (E : EE) (z0 : Nat) (G : Nat → Nat) (hGz : ∀ q, G q ≠ 0 → z0 ≤ q) (h0 : Nat) (rf : Nat → Nat) (hR : MG G h0 rf) (t0 t1 t2 : Int32) (A : AA) (cd pk : Int32)  : Met l yX10_packets [Cond.code yX10_packets cX10_packets 1 (some .int)] ({ frames := 0, cells := 0, slots := 0, locals := 0 } : Room) (va_Pc [.ref h0] (fun U => MH E h0 rf t0 t1 t2 A cd pk U.heap ∧ KS E z0 U)) (va_Qi (fun (r : Int32) (u : Int32) => D_X10_packets A cd pk A (u) pk r) (fun u t => MH E h0 rf t0 t1 t2 A (u) pk t.heap) (fun q : Nat => G q ≠ 0)) 0 0 (fun q : Nat => G q ≠ 0) := by
  refine Met.ofW (cc := cX10_packets) (maxL := 1) (ret := (some .int)) (by decide) rfl ?_
  intro p e s m args below meth c s₁ B hml hv
  obtain ⟨rfl, hM, hK⟩ := hv
  have hx := B.exec
  have hb := B.bytes
  have hr := B.returns
  have hts : ∀ w ∈ TS, w.before ([.ref h0] : List Value).toArray s = true := fun w hw => hK.2.1 w hw _
  have hown : s.vm.findClass RX10 = some m.cls := findClass_of_methodNamed B.named
  have hlocks := B.notSynchronized
  have hS : va_S (fun q : Nat => G q ≠ 0) s.heap s.heap [] := va_S.rf
  have hAz : ∀ q, (fun q : Nat => G q ≠ 0) q → z0 ≤ q := hGz
  have hl := lv_entry ([.ref h0]) (n := 1) (Nat.le_of_ble_eq_true rfl)
  rw [lg_entry_eq]
  generalize (lg_sl ([.ref h0]) ++ List.replicate (1 - (lg_sl ([.ref h0])).length) Slot.unset).toArray = ls at hl ⊢
  have hl : lv_has ls 1 [(0, .ref h0)] := hl
  refine lv_aload_n hx hb dX10_packets_0 rfl (lv_at hl 0 rfl) ?_
  refine lv_iconst (v := 0) hx hb dX10_packets_1 (by decide) ?_
  refine rr_put (D := DG E) (ci := 10) (v := .int 0) (ty := .int) (C := RX10) (T := TX10) (N := 49) hx hb hts iw_X10 tyX10 tyX10_ok nmX10 hown hK.1 hM.1 hS (by show G h0 ≠ 0; rw [hR.1]; decide) rfl 3 (by decide) (hts _ fl_X10_153) (fun _ h9 => h9) rfl (by decide +kernel) rfl rfl (Nat.le_of_ble_eq_true rfl) dX10_packets_2 (fun H locs hn ho hz hS => ?_)
  have hM : MH E h0 rf t0 t1 t2 A 0 pk H := hM.sc hR hn ho
  refine lv_aload_n hx hb dX10_packets_5 rfl (lv_at hl 0 rfl) ?_
  refine va_get (D := DG E) (ci := 10) (v := .int pk) (C := RX10) (T := TX10) (N := 49) hx hb hts iw_X10 hown hK.1 (va_one hM.1) 0 rfl rfl 40 (by decide) (hts _ fl_X10_164) (fun _ h9 => h9) rfl dX10_packets_6 ?_
  exact W.iret (v := pk) hx hb hr (fun t ht hW => ⟨⟨pk, 0, rfl, ⟨rfl, rfl, rfl, rfl⟩, (by show MH E h0 rf t0 t1 t2 A 0 pk t.heap; rw [ht]; exact hM)⟩, hS.F ht⟩) hS.2.2 dX10_packets_9
theorem dX10_packet_0 : decode cX10_packet 0 = .ok (.aload_n 0, 1) := by decide +kernel
theorem dX10_packet_1 : decode cX10_packet 1 = .ok (.iconst 0, 1) := by decide +kernel
theorem dX10_packet_2 : decode cX10_packet 2 = .ok (.putfield 153, 3) := by decide +kernel
theorem dX10_packet_5 : decode cX10_packet 5 = .ok (.iload_n 1, 1) := by decide +kernel
theorem dX10_packet_6 : decode cX10_packet 6 = .ok (.ifCond .lt 11, 3) := by decide +kernel
theorem dX10_packet_9 : decode cX10_packet 9 = .ok (.iload_n 1, 1) := by decide +kernel
theorem dX10_packet_10 : decode cX10_packet 10 = .ok (.aload_n 0, 1) := by decide +kernel
theorem dX10_packet_11 : decode cX10_packet 11 = .ok (.getfield 164, 3) := by decide +kernel
theorem dX10_packet_14 : decode cX10_packet 14 = .ok (.if_icmp .lt 5, 3) := by decide +kernel
theorem dX10_packet_17 : decode cX10_packet 17 = .ok (.iconst (-1), 1) := by decide +kernel
theorem dX10_packet_18 : decode cX10_packet 18 = .ok (.ireturn, 1) := by decide +kernel
theorem dX10_packet_19 : decode cX10_packet 19 = .ok (.iload_n 2, 1) := by decide +kernel
theorem dX10_packet_20 : decode cX10_packet 20 = .ok (.tableswitch 82 0 5 #[40, 47, 54, 61, 68, 75], 40) := by decide +kernel
theorem dX10_packet_60 : decode cX10_packet 60 = .ok (.aload_n 0, 1) := by decide +kernel
theorem dX10_packet_61 : decode cX10_packet 61 = .ok (.getfield 119, 3) := by decide +kernel
theorem dX10_packet_64 : decode cX10_packet 64 = .ok (.iload_n 1, 1) := by decide +kernel
theorem dX10_packet_65 : decode cX10_packet 65 = .ok (.iaload, 1) := by decide +kernel
theorem dX10_packet_66 : decode cX10_packet 66 = .ok (.ireturn, 1) := by decide +kernel
theorem dX10_packet_67 : decode cX10_packet 67 = .ok (.aload_n 0, 1) := by decide +kernel
theorem dX10_packet_68 : decode cX10_packet 68 = .ok (.getfield 122, 3) := by decide +kernel
theorem dX10_packet_71 : decode cX10_packet 71 = .ok (.iload_n 1, 1) := by decide +kernel
theorem dX10_packet_72 : decode cX10_packet 72 = .ok (.iaload, 1) := by decide +kernel
theorem dX10_packet_73 : decode cX10_packet 73 = .ok (.ireturn, 1) := by decide +kernel
theorem dX10_packet_74 : decode cX10_packet 74 = .ok (.aload_n 0, 1) := by decide +kernel
theorem dX10_packet_75 : decode cX10_packet 75 = .ok (.getfield 125, 3) := by decide +kernel
theorem dX10_packet_78 : decode cX10_packet 78 = .ok (.iload_n 1, 1) := by decide +kernel
theorem dX10_packet_79 : decode cX10_packet 79 = .ok (.iaload, 1) := by decide +kernel
theorem dX10_packet_80 : decode cX10_packet 80 = .ok (.ireturn, 1) := by decide +kernel
theorem dX10_packet_81 : decode cX10_packet 81 = .ok (.aload_n 0, 1) := by decide +kernel
theorem dX10_packet_82 : decode cX10_packet 82 = .ok (.getfield 128, 3) := by decide +kernel
theorem dX10_packet_85 : decode cX10_packet 85 = .ok (.iload_n 1, 1) := by decide +kernel
theorem dX10_packet_86 : decode cX10_packet 86 = .ok (.iaload, 1) := by decide +kernel
theorem dX10_packet_87 : decode cX10_packet 87 = .ok (.ireturn, 1) := by decide +kernel
theorem dX10_packet_88 : decode cX10_packet 88 = .ok (.aload_n 0, 1) := by decide +kernel
theorem dX10_packet_89 : decode cX10_packet 89 = .ok (.getfield 131, 3) := by decide +kernel
theorem dX10_packet_92 : decode cX10_packet 92 = .ok (.iload_n 1, 1) := by decide +kernel
theorem dX10_packet_93 : decode cX10_packet 93 = .ok (.iaload, 1) := by decide +kernel
theorem dX10_packet_94 : decode cX10_packet 94 = .ok (.ireturn, 1) := by decide +kernel
theorem dX10_packet_95 : decode cX10_packet 95 = .ok (.aload_n 0, 1) := by decide +kernel
theorem dX10_packet_96 : decode cX10_packet 96 = .ok (.getfield 134, 3) := by decide +kernel
theorem dX10_packet_99 : decode cX10_packet 99 = .ok (.iload_n 1, 1) := by decide +kernel
theorem dX10_packet_100 : decode cX10_packet 100 = .ok (.iaload, 1) := by decide +kernel
theorem dX10_packet_101 : decode cX10_packet 101 = .ok (.ireturn, 1) := by decide +kernel
theorem dX10_packet_102 : decode cX10_packet 102 = .ok (.iconst (-1), 1) := by decide +kernel
theorem dX10_packet_103 : decode cX10_packet 103 = .ok (.ireturn, 1) := by decide +kernel
set_option maxHeartbeats 8000000 in
set_option maxRecDepth 100000 in
theorem u_X10_packet (l : Launch) (E : EE) (z0 : Nat) (G : Nat → Nat) (hGz : ∀ q, G q ≠ 0 → z0 ≤ q) (h0 : Nat) (rf : Nat → Nat) (hR : MG G h0 rf) (t0 t1 t2 : Int32) (A : AA) (cd pk : Int32) (p0 : Int32) (p1 : Int32) (hy0 : 0 ≤ pk.toInt ∧ pk.toInt ≤ 24) : Met l yX10_packet [Cond.code yX10_packet cX10_packet 3 (some .int)] ({ frames := 0, cells := 0, slots := 0, locals := 0 } : Room) (va_Pc [.ref h0, .int p0, .int p1] (fun U => MH E h0 rf t0 t1 t2 A cd pk U.heap ∧ KS E z0 U)) (va_Qi (fun (r : Int32) (u : Int32) => D_X10_packet A cd pk p0 p1 A (u) pk r) (fun u t => MH E h0 rf t0 t1 t2 A (u) pk t.heap) (fun q : Nat => G q ≠ 0)) 0 0 (fun q : Nat => G q ≠ 0) := by
  refine Met.ofW (cc := cX10_packet) (maxL := 3) (ret := (some .int)) (by decide) rfl ?_
  intro p e s m args below meth c s₁ B hml hv
  obtain ⟨rfl, hM, hK⟩ := hv
  have hx := B.exec
  have hb := B.bytes
  have hr := B.returns
  have hts : ∀ w ∈ TS, w.before ([.ref h0, .int p0, .int p1] : List Value).toArray s = true := fun w hw => hK.2.1 w hw _
  have hown : s.vm.findClass RX10 = some m.cls := findClass_of_methodNamed B.named
  have hlocks := B.notSynchronized
  have hS : va_S (fun q : Nat => G q ≠ 0) s.heap s.heap [] := va_S.rf
  have hAz : ∀ q, (fun q : Nat => G q ≠ 0) q → z0 ≤ q := hGz
  have hl := lv_entry ([.ref h0, .int p0, .int p1]) (n := 3) (Nat.le_of_ble_eq_true rfl)
  rw [lg_entry_eq]
  generalize (lg_sl ([.ref h0, .int p0, .int p1]) ++ List.replicate (3 - (lg_sl ([.ref h0, .int p0, .int p1])).length) Slot.unset).toArray = ls at hl ⊢
  have hl : lv_has ls 3 [(0, .ref h0), (1, .int p0), (2, .int p1)] := hl
  refine lv_aload_n hx hb dX10_packet_0 rfl (lv_at hl 0 rfl) ?_
  refine lv_iconst (v := 0) hx hb dX10_packet_1 (by decide) ?_
  refine rr_put (D := DG E) (ci := 10) (v := .int 0) (ty := .int) (C := RX10) (T := TX10) (N := 49) hx hb hts iw_X10 tyX10 tyX10_ok nmX10 hown hK.1 hM.1 hS (by show G h0 ≠ 0; rw [hR.1]; decide) rfl 3 (by decide) (hts _ fl_X10_153) (fun _ h9 => h9) rfl (by decide +kernel) rfl rfl (Nat.le_of_ble_eq_true rfl) dX10_packet_2 (fun H locs hn ho hz hS => ?_)
  have hM : MH E h0 rf t0 t1 t2 A 0 pk H := hM.sc hR hn ho
  refine lv_iload_n hx hb dX10_packet_5 rfl (lv_at hl 1 rfl) ?_
  refine lv_if_lt (tgt := 17) hx hb dX10_packet_6 (by decide) (fun c_1 => ?_) (fun c_1 => ?_)
  · simp only [lt_I, le_I, eq_I, i_0, i_1, i_2, i_3, i_4, i_5, i_6, i_7, i_8, i_10, i_12, i_16, i_20, i_23, i_24, i_31, i_32, i_63, i_64, i_m1, i_9, i_11, i_13, i_25, i_60, i_75, i_79, i_80, i_96, i_100] at c_1
    refine lv_iconst (v := (-1)) hx hb dX10_packet_17 (by decide) ?_
    exact W.iret (v := (-1)) hx hb hr (fun t ht hW => ⟨⟨(-1), 0, rfl, (Or.inl ⟨c_1, rfl, rfl, rfl, rfl⟩), (by show MH E h0 rf t0 t1 t2 A 0 pk t.heap; rw [ht]; exact hM)⟩, hS.F ht⟩) hS.2.2 dX10_packet_18
  · simp only [lt_I, le_I, eq_I, i_0, i_1, i_2, i_3, i_4, i_5, i_6, i_7, i_8, i_10, i_12, i_16, i_20, i_23, i_24, i_31, i_32, i_63, i_64, i_m1, i_9, i_11, i_13, i_25, i_60, i_75, i_79, i_80, i_96, i_100] at c_1
    refine lv_iload_n hx hb dX10_packet_9 rfl (lv_at hl 1 rfl) ?_
    refine lv_aload_n hx hb dX10_packet_10 rfl (lv_at hl 0 rfl) ?_
    refine va_get (D := DG E) (ci := 10) (v := .int pk) (C := RX10) (T := TX10) (N := 49) hx hb hts iw_X10 hown hK.1 (va_one hM.1) 0 rfl rfl 40 (by decide) (hts _ fl_X10_164) (fun _ h9 => h9) rfl dX10_packet_11 ?_
    refine lv_icmp_lt (tgt := 19) hx hb dX10_packet_14 (by decide) (fun c_2 => ?_) (fun c_2 => ?_)
    · simp only [lt_I, le_I, eq_I, i_0, i_1, i_2, i_3, i_4, i_5, i_6, i_7, i_8, i_10, i_12, i_16, i_20, i_23, i_24, i_31, i_32, i_63, i_64, i_m1, i_9, i_11, i_13, i_25, i_60, i_75, i_79, i_80, i_96, i_100] at c_2
      refine lv_iload_n hx hb dX10_packet_19 rfl (lv_at hl 2 rfl) ?_
      rcases (show p1.toInt = 0 ∨ p1.toInt = 1 ∨ p1.toInt = 2 ∨ p1.toInt = 3 ∨ p1.toInt = 4 ∨ p1.toInt = 5 ∨ (p1.toInt < 0 ∨ 5 < p1.toInt) by omega) with c_3 | c_3 | c_3 | c_3 | c_3 | c_3 | c_3
      · refine lv_tableIn (tgt := 60) (off := 40) hx hb dX10_packet_20 (by omega) (by omega) (by rw [c_3]; rfl) (by decide) ?_
        refine lv_aload_n hx hb dX10_packet_60 rfl (lv_at hl 0 rfl) ?_
        refine va_get (D := DG E) (ci := 10) (v := .ref (rf 41)) (C := RX10) (T := TX10) (N := 49) hx hb hts iw_X10 hown hK.1 (va_one hM.1) 0 rfl rfl 41 (by decide) (hts _ fl_X10_119) (fun _ h9 => h9) rfl dX10_packet_61 ?_
        refine lv_iload_n hx hb dX10_packet_64 rfl (lv_at hl 1 rfl) ?_
        have hi_4 : vp_in p0 25 := vp_in_iff.mpr (by omega)
        have ha_5 : va_at (DG E) vwCl (rf 41, .inl (E.2.2 0, 25, .inl (A 41))) _ := hM.2 41 (by decide) (by decide) (by decide)
        obtain ⟨n_6, hn_6, en_6⟩ := s_nat (x := p0) (by omega)
        refine va_iald (D := DG E) hx hb hK.1 (va_one ha_5) 0 0 rfl rfl hi_4 dX10_packet_65 ?_
        refine W.eq (g2 := F0 m 66 ls [.int ((A 41) n_6)]) (by rw [en_6]) ?_
        exact W.iret (v := ((A 41) n_6)) hx hb hr (fun t ht hW => ⟨⟨((A 41) n_6), 0, rfl, (Or.inr (Or.inl ⟨c_1, c_2, c_3, n_6, hn_6, rfl, rfl, rfl, rfl⟩)), (by show MH E h0 rf t0 t1 t2 A 0 pk t.heap; rw [ht]; exact hM)⟩, hS.F ht⟩) hS.2.2 dX10_packet_66
      · refine lv_tableIn (tgt := 67) (off := 47) hx hb dX10_packet_20 (by omega) (by omega) (by rw [c_3]; rfl) (by decide) ?_
        refine lv_aload_n hx hb dX10_packet_67 rfl (lv_at hl 0 rfl) ?_
        refine va_get (D := DG E) (ci := 10) (v := .ref (rf 42)) (C := RX10) (T := TX10) (N := 49) hx hb hts iw_X10 hown hK.1 (va_one hM.1) 0 rfl rfl 42 (by decide) (hts _ fl_X10_122) (fun _ h9 => h9) rfl dX10_packet_68 ?_
        refine lv_iload_n hx hb dX10_packet_71 rfl (lv_at hl 1 rfl) ?_
        have hi_7 : vp_in p0 25 := vp_in_iff.mpr (by omega)
        have ha_8 : va_at (DG E) vwCl (rf 42, .inl (E.2.2 0, 25, .inl (A 42))) _ := hM.2 42 (by decide) (by decide) (by decide)
        obtain ⟨n_9, hn_9, en_9⟩ := s_nat (x := p0) (by omega)
        refine va_iald (D := DG E) hx hb hK.1 (va_one ha_8) 0 0 rfl rfl hi_7 dX10_packet_72 ?_
        refine W.eq (g2 := F0 m 73 ls [.int ((A 42) n_9)]) (by rw [en_9]) ?_
        exact W.iret (v := ((A 42) n_9)) hx hb hr (fun t ht hW => ⟨⟨((A 42) n_9), 0, rfl, (Or.inr (Or.inr (Or.inl ⟨c_1, c_2, c_3, n_9, hn_9, rfl, rfl, rfl, rfl⟩))), (by show MH E h0 rf t0 t1 t2 A 0 pk t.heap; rw [ht]; exact hM)⟩, hS.F ht⟩) hS.2.2 dX10_packet_73
      · refine lv_tableIn (tgt := 74) (off := 54) hx hb dX10_packet_20 (by omega) (by omega) (by rw [c_3]; rfl) (by decide) ?_
        refine lv_aload_n hx hb dX10_packet_74 rfl (lv_at hl 0 rfl) ?_
        refine va_get (D := DG E) (ci := 10) (v := .ref (rf 43)) (C := RX10) (T := TX10) (N := 49) hx hb hts iw_X10 hown hK.1 (va_one hM.1) 0 rfl rfl 43 (by decide) (hts _ fl_X10_125) (fun _ h9 => h9) rfl dX10_packet_75 ?_
        refine lv_iload_n hx hb dX10_packet_78 rfl (lv_at hl 1 rfl) ?_
        have hi_10 : vp_in p0 25 := vp_in_iff.mpr (by omega)
        have ha_11 : va_at (DG E) vwCl (rf 43, .inl (E.2.2 0, 25, .inl (A 43))) _ := hM.2 43 (by decide) (by decide) (by decide)
        obtain ⟨n_12, hn_12, en_12⟩ := s_nat (x := p0) (by omega)
        refine va_iald (D := DG E) hx hb hK.1 (va_one ha_11) 0 0 rfl rfl hi_10 dX10_packet_79 ?_
        refine W.eq (g2 := F0 m 80 ls [.int ((A 43) n_12)]) (by rw [en_12]) ?_
        exact W.iret (v := ((A 43) n_12)) hx hb hr (fun t ht hW => ⟨⟨((A 43) n_12), 0, rfl, (Or.inr (Or.inr (Or.inr (Or.inl ⟨c_1, c_2, c_3, n_12, hn_12, rfl, rfl, rfl, rfl⟩)))), (by show MH E h0 rf t0 t1 t2 A 0 pk t.heap; rw [ht]; exact hM)⟩, hS.F ht⟩) hS.2.2 dX10_packet_80
      · refine lv_tableIn (tgt := 81) (off := 61) hx hb dX10_packet_20 (by omega) (by omega) (by rw [c_3]; rfl) (by decide) ?_
        refine lv_aload_n hx hb dX10_packet_81 rfl (lv_at hl 0 rfl) ?_
        refine va_get (D := DG E) (ci := 10) (v := .ref (rf 44)) (C := RX10) (T := TX10) (N := 49) hx hb hts iw_X10 hown hK.1 (va_one hM.1) 0 rfl rfl 44 (by decide) (hts _ fl_X10_128) (fun _ h9 => h9) rfl dX10_packet_82 ?_
        refine lv_iload_n hx hb dX10_packet_85 rfl (lv_at hl 1 rfl) ?_
        have hi_13 : vp_in p0 25 := vp_in_iff.mpr (by omega)
        have ha_14 : va_at (DG E) vwCl (rf 44, .inl (E.2.2 0, 25, .inl (A 44))) _ := hM.2 44 (by decide) (by decide) (by decide)
        obtain ⟨n_15, hn_15, en_15⟩ := s_nat (x := p0) (by omega)
        refine va_iald (D := DG E) hx hb hK.1 (va_one ha_14) 0 0 rfl rfl hi_13 dX10_packet_86 ?_
        refine W.eq (g2 := F0 m 87 ls [.int ((A 44) n_15)]) (by rw [en_15]) ?_
        exact W.iret (v := ((A 44) n_15)) hx hb hr (fun t ht hW => ⟨⟨((A 44) n_15), 0, rfl, (Or.inr (Or.inr (Or.inr (Or.inr (Or.inl ⟨c_1, c_2, c_3, n_15, hn_15, rfl, rfl, rfl, rfl⟩))))), (by show MH E h0 rf t0 t1 t2 A 0 pk t.heap; rw [ht]; exact hM)⟩, hS.F ht⟩) hS.2.2 dX10_packet_87
      · refine lv_tableIn (tgt := 88) (off := 68) hx hb dX10_packet_20 (by omega) (by omega) (by rw [c_3]; rfl) (by decide) ?_
        refine lv_aload_n hx hb dX10_packet_88 rfl (lv_at hl 0 rfl) ?_
        refine va_get (D := DG E) (ci := 10) (v := .ref (rf 45)) (C := RX10) (T := TX10) (N := 49) hx hb hts iw_X10 hown hK.1 (va_one hM.1) 0 rfl rfl 45 (by decide) (hts _ fl_X10_131) (fun _ h9 => h9) rfl dX10_packet_89 ?_
        refine lv_iload_n hx hb dX10_packet_92 rfl (lv_at hl 1 rfl) ?_
        have hi_16 : vp_in p0 25 := vp_in_iff.mpr (by omega)
        have ha_17 : va_at (DG E) vwCl (rf 45, .inl (E.2.2 0, 25, .inl (A 45))) _ := hM.2 45 (by decide) (by decide) (by decide)
        obtain ⟨n_18, hn_18, en_18⟩ := s_nat (x := p0) (by omega)
        refine va_iald (D := DG E) hx hb hK.1 (va_one ha_17) 0 0 rfl rfl hi_16 dX10_packet_93 ?_
        refine W.eq (g2 := F0 m 94 ls [.int ((A 45) n_18)]) (by rw [en_18]) ?_
        exact W.iret (v := ((A 45) n_18)) hx hb hr (fun t ht hW => ⟨⟨((A 45) n_18), 0, rfl, (Or.inr (Or.inr (Or.inr (Or.inr (Or.inr (Or.inl ⟨c_1, c_2, c_3, n_18, hn_18, rfl, rfl, rfl, rfl⟩)))))), (by show MH E h0 rf t0 t1 t2 A 0 pk t.heap; rw [ht]; exact hM)⟩, hS.F ht⟩) hS.2.2 dX10_packet_94
      · refine lv_tableIn (tgt := 95) (off := 75) hx hb dX10_packet_20 (by omega) (by omega) (by rw [c_3]; rfl) (by decide) ?_
        refine lv_aload_n hx hb dX10_packet_95 rfl (lv_at hl 0 rfl) ?_
        refine va_get (D := DG E) (ci := 10) (v := .ref (rf 46)) (C := RX10) (T := TX10) (N := 49) hx hb hts iw_X10 hown hK.1 (va_one hM.1) 0 rfl rfl 46 (by decide) (hts _ fl_X10_134) (fun _ h9 => h9) rfl dX10_packet_96 ?_
        refine lv_iload_n hx hb dX10_packet_99 rfl (lv_at hl 1 rfl) ?_
        have hi_19 : vp_in p0 25 := vp_in_iff.mpr (by omega)
        have ha_20 : va_at (DG E) vwCl (rf 46, .inl (E.2.2 0, 25, .inl (A 46))) _ := hM.2 46 (by decide) (by decide) (by decide)
        obtain ⟨n_21, hn_21, en_21⟩ := s_nat (x := p0) (by omega)
        refine va_iald (D := DG E) hx hb hK.1 (va_one ha_20) 0 0 rfl rfl hi_19 dX10_packet_100 ?_
        refine W.eq (g2 := F0 m 101 ls [.int ((A 46) n_21)]) (by rw [en_21]) ?_
        exact W.iret (v := ((A 46) n_21)) hx hb hr (fun t ht hW => ⟨⟨((A 46) n_21), 0, rfl, (Or.inr (Or.inr (Or.inr (Or.inr (Or.inr (Or.inr (Or.inl ⟨c_1, c_2, c_3, n_21, hn_21, rfl, rfl, rfl, rfl⟩))))))), (by show MH E h0 rf t0 t1 t2 A 0 pk t.heap; rw [ht]; exact hM)⟩, hS.F ht⟩) hS.2.2 dX10_packet_101
      · refine lv_tableOut (tgt := 102) hx hb dX10_packet_20 c_3 (by decide) ?_
        refine lv_iconst (v := (-1)) hx hb dX10_packet_102 (by decide) ?_
        exact W.iret (v := (-1)) hx hb hr (fun t ht hW => ⟨⟨(-1), 0, rfl, (Or.inr (Or.inr (Or.inr (Or.inr (Or.inr (Or.inr (Or.inr (Or.inl ⟨c_1, c_2, c_3, rfl, rfl, rfl, rfl⟩)))))))), (by show MH E h0 rf t0 t1 t2 A 0 pk t.heap; rw [ht]; exact hM)⟩, hS.F ht⟩) hS.2.2 dX10_packet_103
    · simp only [lt_I, le_I, eq_I, i_0, i_1, i_2, i_3, i_4, i_5, i_6, i_7, i_8, i_10, i_12, i_16, i_20, i_23, i_24, i_31, i_32, i_63, i_64, i_m1, i_9, i_11, i_13, i_25, i_60, i_75, i_79, i_80, i_96, i_100] at c_2
      refine lv_iconst (v := (-1)) hx hb dX10_packet_17 (by decide) ?_
      exact W.iret (v := (-1)) hx hb hr (fun t ht hW => ⟨⟨(-1), 0, rfl, (Or.inr (Or.inr (Or.inr (Or.inr (Or.inr (Or.inr (Or.inr (Or.inr ⟨c_1, c_2, rfl, rfl, rfl, rfl⟩)))))))), (by show MH E h0 rf t0 t1 t2 A 0 pk t.heap; rw [ht]; exact hM)⟩, hS.F ht⟩) hS.2.2 dX10_packet_18
theorem dX10_pair_0 : decode cX10_pair 0 = .ok (.aload_n 0, 1) := by decide +kernel
theorem dX10_pair_1 : decode cX10_pair 1 = .ok (.iconst 0, 1) := by decide +kernel
theorem dX10_pair_2 : decode cX10_pair 2 = .ok (.putfield 153, 3) := by decide +kernel
theorem dX10_pair_5 : decode cX10_pair 5 = .ok (.iload_n 1, 1) := by decide +kernel
theorem dX10_pair_6 : decode cX10_pair 6 = .ok (.iconst 3, 1) := by decide +kernel
theorem dX10_pair_7 : decode cX10_pair 7 = .ok (.invokestatic 156, 3) := by decide +kernel
theorem dX10_pair_10 : decode cX10_pair 10 = .ok (.ifCond .ne 5, 3) := by decide +kernel
theorem dX10_pair_13 : decode cX10_pair 13 = .ok (.iconst (-1), 1) := by decide +kernel
theorem dX10_pair_14 : decode cX10_pair 14 = .ok (.ireturn, 1) := by decide +kernel
theorem dX10_pair_15 : decode cX10_pair 15 = .ok (.aload_n 0, 1) := by decide +kernel
theorem dX10_pair_16 : decode cX10_pair 16 = .ok (.getfield 28, 3) := by decide +kernel
theorem dX10_pair_19 : decode cX10_pair 19 = .ok (.iload_n 1, 1) := by decide +kernel
theorem dX10_pair_20 : decode cX10_pair 20 = .ok (.iaload, 1) := by decide +kernel
theorem dX10_pair_21 : decode cX10_pair 21 = .ok (.iconst 1, 1) := by decide +kernel
theorem dX10_pair_22 : decode cX10_pair 22 = .ok (.if_icmp .ne 7, 3) := by decide +kernel
theorem dX10_pair_25 : decode cX10_pair 25 = .ok (.iconst 1, 1) := by decide +kernel
theorem dX10_pair_26 : decode cX10_pair 26 = .ok (.goto 4, 3) := by decide +kernel
theorem dX10_pair_29 : decode cX10_pair 29 = .ok (.iconst 0, 1) := by decide +kernel
theorem dX10_pair_30 : decode cX10_pair 30 = .ok (.istore_n 3, 1) := by decide +kernel
theorem dX10_pair_31 : decode cX10_pair 31 = .ok (.iload_n 2, 1) := by decide +kernel
theorem dX10_pair_32 : decode cX10_pair 32 = .ok (.tableswitch 144 0 7 #[48, 55, 70, 85, 100, 115, 122, 129], 48) := by decide +kernel
theorem dX10_pair_80 : decode cX10_pair 80 = .ok (.aload_n 0, 1) := by decide +kernel
theorem dX10_pair_81 : decode cX10_pair 81 = .ok (.getfield 28, 3) := by decide +kernel
theorem dX10_pair_84 : decode cX10_pair 84 = .ok (.iload_n 1, 1) := by decide +kernel
theorem dX10_pair_85 : decode cX10_pair 85 = .ok (.iaload, 1) := by decide +kernel
theorem dX10_pair_86 : decode cX10_pair 86 = .ok (.ireturn, 1) := by decide +kernel
theorem dX10_pair_87 : decode cX10_pair 87 = .ok (.iload_n 3, 1) := by decide +kernel
theorem dX10_pair_88 : decode cX10_pair 88 = .ok (.ifCond .eq 12, 3) := by decide +kernel
theorem dX10_pair_91 : decode cX10_pair 91 = .ok (.aload_n 0, 1) := by decide +kernel
theorem dX10_pair_92 : decode cX10_pair 92 = .ok (.getfield 31, 3) := by decide +kernel
theorem dX10_pair_95 : decode cX10_pair 95 = .ok (.iload_n 1, 1) := by decide +kernel
theorem dX10_pair_96 : decode cX10_pair 96 = .ok (.iaload, 1) := by decide +kernel
theorem dX10_pair_97 : decode cX10_pair 97 = .ok (.goto 4, 3) := by decide +kernel
theorem dX10_pair_100 : decode cX10_pair 100 = .ok (.iconst (-1), 1) := by decide +kernel
theorem dX10_pair_101 : decode cX10_pair 101 = .ok (.ireturn, 1) := by decide +kernel
theorem dX10_pair_102 : decode cX10_pair 102 = .ok (.iload_n 3, 1) := by decide +kernel
theorem dX10_pair_103 : decode cX10_pair 103 = .ok (.ifCond .eq 12, 3) := by decide +kernel
theorem dX10_pair_106 : decode cX10_pair 106 = .ok (.aload_n 0, 1) := by decide +kernel
theorem dX10_pair_107 : decode cX10_pair 107 = .ok (.getfield 34, 3) := by decide +kernel
theorem dX10_pair_110 : decode cX10_pair 110 = .ok (.iload_n 1, 1) := by decide +kernel
theorem dX10_pair_111 : decode cX10_pair 111 = .ok (.iaload, 1) := by decide +kernel
theorem dX10_pair_112 : decode cX10_pair 112 = .ok (.goto 4, 3) := by decide +kernel
theorem dX10_pair_115 : decode cX10_pair 115 = .ok (.iconst (-1), 1) := by decide +kernel
theorem dX10_pair_116 : decode cX10_pair 116 = .ok (.ireturn, 1) := by decide +kernel
theorem dX10_pair_117 : decode cX10_pair 117 = .ok (.iload_n 3, 1) := by decide +kernel
theorem dX10_pair_118 : decode cX10_pair 118 = .ok (.ifCond .eq 12, 3) := by decide +kernel
theorem dX10_pair_121 : decode cX10_pair 121 = .ok (.aload_n 0, 1) := by decide +kernel
theorem dX10_pair_122 : decode cX10_pair 122 = .ok (.getfield 37, 3) := by decide +kernel
theorem dX10_pair_125 : decode cX10_pair 125 = .ok (.iload_n 1, 1) := by decide +kernel
theorem dX10_pair_126 : decode cX10_pair 126 = .ok (.iaload, 1) := by decide +kernel
theorem dX10_pair_127 : decode cX10_pair 127 = .ok (.goto 4, 3) := by decide +kernel
theorem dX10_pair_130 : decode cX10_pair 130 = .ok (.iconst (-1), 1) := by decide +kernel
theorem dX10_pair_131 : decode cX10_pair 131 = .ok (.ireturn, 1) := by decide +kernel
theorem dX10_pair_132 : decode cX10_pair 132 = .ok (.iload_n 3, 1) := by decide +kernel
theorem dX10_pair_133 : decode cX10_pair 133 = .ok (.ifCond .eq 12, 3) := by decide +kernel
theorem dX10_pair_136 : decode cX10_pair 136 = .ok (.aload_n 0, 1) := by decide +kernel
theorem dX10_pair_137 : decode cX10_pair 137 = .ok (.getfield 40, 3) := by decide +kernel
theorem dX10_pair_140 : decode cX10_pair 140 = .ok (.iload_n 1, 1) := by decide +kernel
theorem dX10_pair_141 : decode cX10_pair 141 = .ok (.iaload, 1) := by decide +kernel
theorem dX10_pair_142 : decode cX10_pair 142 = .ok (.goto 4, 3) := by decide +kernel
theorem dX10_pair_145 : decode cX10_pair 145 = .ok (.iconst (-1), 1) := by decide +kernel
theorem dX10_pair_146 : decode cX10_pair 146 = .ok (.ireturn, 1) := by decide +kernel
theorem dX10_pair_147 : decode cX10_pair 147 = .ok (.aload_n 0, 1) := by decide +kernel
theorem dX10_pair_148 : decode cX10_pair 148 = .ok (.getfield 59, 3) := by decide +kernel
theorem dX10_pair_151 : decode cX10_pair 151 = .ok (.iload_n 1, 1) := by decide +kernel
theorem dX10_pair_152 : decode cX10_pair 152 = .ok (.iaload, 1) := by decide +kernel
theorem dX10_pair_153 : decode cX10_pair 153 = .ok (.ireturn, 1) := by decide +kernel
theorem dX10_pair_154 : decode cX10_pair 154 = .ok (.aload_n 0, 1) := by decide +kernel
theorem dX10_pair_155 : decode cX10_pair 155 = .ok (.getfield 89, 3) := by decide +kernel
theorem dX10_pair_158 : decode cX10_pair 158 = .ok (.iload_n 1, 1) := by decide +kernel
theorem dX10_pair_159 : decode cX10_pair 159 = .ok (.iaload, 1) := by decide +kernel
theorem dX10_pair_160 : decode cX10_pair 160 = .ok (.ireturn, 1) := by decide +kernel
theorem dX10_pair_161 : decode cX10_pair 161 = .ok (.aload_n 0, 1) := by decide +kernel
theorem dX10_pair_162 : decode cX10_pair 162 = .ok (.getfield 52, 3) := by decide +kernel
theorem dX10_pair_165 : decode cX10_pair 165 = .ok (.iload_n 1, 1) := by decide +kernel
theorem dX10_pair_166 : decode cX10_pair 166 = .ok (.baload, 1) := by decide +kernel
theorem dX10_pair_167 : decode cX10_pair 167 = .ok (.ifCond .eq 7, 3) := by decide +kernel
theorem dX10_pair_170 : decode cX10_pair 170 = .ok (.iconst 1, 1) := by decide +kernel
theorem dX10_pair_171 : decode cX10_pair 171 = .ok (.goto 4, 3) := by decide +kernel
theorem dX10_pair_174 : decode cX10_pair 174 = .ok (.iconst 0, 1) := by decide +kernel
theorem dX10_pair_175 : decode cX10_pair 175 = .ok (.ireturn, 1) := by decide +kernel
theorem dX10_pair_176 : decode cX10_pair 176 = .ok (.iconst (-1), 1) := by decide +kernel
theorem dX10_pair_177 : decode cX10_pair 177 = .ok (.ireturn, 1) := by decide +kernel
set_option maxHeartbeats 8000000 in
set_option maxRecDepth 100000 in
theorem u_X10_pair (l : Launch) (E : EE) (z0 : Nat) (G : Nat → Nat) (hGz : ∀ q, G q ≠ 0 → z0 ≤ q) (h0 : Nat) (rf : Nat → Nat) (hR : MG G h0 rf) (t0 t1 t2 : Int32) (A : AA) (cd pk : Int32) (p0 : Int32) (p1 : Int32) : Met l yX10_pair [Cond.code yX10_pair cX10_pair 4 (some .int)] ({ frames := 1, cells := 0, slots := 0, locals := 21 } : Room) (va_Pc [.ref h0, .int p0, .int p1] (fun U => MH E h0 rf t0 t1 t2 A cd pk U.heap ∧ KS E z0 U)) (va_Qi (fun (r : Int32) (u : Int32) => D_X10_pair A cd pk p0 p1 A (u) pk r) (fun u t => MH E h0 rf t0 t1 t2 A (u) pk t.heap) (fun q : Nat => G q ≠ 0)) 0 0 (fun q : Nat => G q ≠ 0) := by
  refine Met.ofW (cc := cX10_pair) (maxL := 4) (ret := (some .int)) (by decide) rfl ?_
  intro p e s m args below meth c s₁ B hml hv
  obtain ⟨rfl, hM, hK⟩ := hv
  have hx := B.exec
  have hb := B.bytes
  have hr := B.returns
  have hts : ∀ w ∈ TS, w.before ([.ref h0, .int p0, .int p1] : List Value).toArray s = true := fun w hw => hK.2.1 w hw _
  have hown : s.vm.findClass RX10 = some m.cls := findClass_of_methodNamed B.named
  have hlocks := B.notSynchronized
  have hS : va_S (fun q : Nat => G q ≠ 0) s.heap s.heap [] := va_S.rf
  have hAz : ∀ q, (fun q : Nat => G q ≠ 0) q → z0 ≤ q := hGz
  have hl := lv_entry ([.ref h0, .int p0, .int p1]) (n := 4) (Nat.le_of_ble_eq_true rfl)
  rw [lg_entry_eq]
  generalize (lg_sl ([.ref h0, .int p0, .int p1]) ++ List.replicate (4 - (lg_sl ([.ref h0, .int p0, .int p1])).length) Slot.unset).toArray = ls at hl ⊢
  have hl : lv_has ls 4 [(0, .ref h0), (1, .int p0), (2, .int p1)] := hl
  refine lv_aload_n hx hb dX10_pair_0 rfl (lv_at hl 0 rfl) ?_
  refine lv_iconst (v := 0) hx hb dX10_pair_1 (by decide) ?_
  refine rr_put (D := DG E) (ci := 10) (v := .int 0) (ty := .int) (C := RX10) (T := TX10) (N := 49) hx hb hts iw_X10 tyX10 tyX10_ok nmX10 hown hK.1 hM.1 hS (by show G h0 ≠ 0; rw [hR.1]; decide) rfl 3 (by decide) (hts _ fl_X10_153) (fun _ h9 => h9) rfl (by decide +kernel) rfl rfl (Nat.le_of_ble_eq_true rfl) dX10_pair_2 (fun H locs hn ho hz hS => ?_)
  have hM : MH E h0 rf t0 t1 t2 A 0 pk H := hM.sc hR hn ho
  refine lv_iload_n hx hb dX10_pair_5 rfl (lv_at hl 1 rfl) ?_
  refine lv_iconst (v := 3) hx hb dX10_pair_6 (by decide) ?_
  refine W.callR (W.runS (As := [.int p0, .int 3]) (rest := []) ⟨hx, hb, hml, hown, hts⟩ (c_X10_within l p0 3) (cwS 2 hts (gdS ml_X10_156 st_X10_within in_X10 co_X10_within rfl) rfl rfl rfl (by decide +kernel) ⟨Nat.le_of_ble_eq_true rfl, Nat.le_of_ble_eq_true rfl⟩) preEq rfl rfl hl.1 rfl (lv_room (Nat.le_of_ble_eq_true rfl)) dX10_pair_7 ⟨Nat.le_of_ble_eq_true rfl, Nat.le_of_ble_eq_true rfl⟩) ?_
  refine W.eq (g2 := F0 m 10 ls [.int (bI (0 ≤ p0.toInt ∧ p0.toInt ≤ (3 : Int32).toInt))]) (by rfl) ?_
  refine lv_if_ne (tgt := 15) hx hb dX10_pair_10 (by decide) (fun c_1 => ?_) (fun c_1 => ?_)
  · have c_1 := bI_n c_1
    have c_1r := c_1
    try simp only [lt_I, le_I, eq_I, i_0, i_1, i_2, i_3, i_4, i_5, i_6, i_7, i_8, i_10, i_12, i_16, i_20, i_23, i_24, i_31, i_32, i_63, i_64, i_m1, i_9, i_11, i_13, i_25, i_60, i_75, i_79, i_80, i_96, i_100] at c_1
    refine lv_aload_n hx hb dX10_pair_15 rfl (lv_at hl 0 rfl) ?_
    refine va_get (D := DG E) (ci := 10) (v := .ref (rf 10)) (C := RX10) (T := TX10) (N := 49) hx hb hts iw_X10 hown hK.1 (va_one hM.1) 0 rfl rfl 10 (by decide) (hts _ fl_X10_28) (fun _ h9 => h9) rfl dX10_pair_16 ?_
    refine lv_iload_n hx hb dX10_pair_19 rfl (lv_at hl 1 rfl) ?_
    have hi_2 : vp_in p0 4 := vp_in_iff.mpr (by omega)
    have ha_3 : va_at (DG E) vwCl (rf 10, .inl (E.2.2 0, 4, .inl (A 10))) _ := hM.2 10 (by decide) (by decide) (by decide)
    obtain ⟨n_4, hn_4, en_4⟩ := s_nat (x := p0) (by omega)
    refine va_iald (D := DG E) hx hb hK.1 (va_one ha_3) 0 0 rfl rfl hi_2 dX10_pair_20 ?_
    refine W.eq (g2 := F0 m 21 ls [.int ((A 10) n_4)]) (by rw [en_4]) ?_
    refine lv_iconst (v := 1) hx hb dX10_pair_21 (by decide) ?_
    refine lv_icmp_ne (tgt := 29) hx hb dX10_pair_22 (by decide) (fun c_5 => ?_) (fun c_5 => ?_)
    · simp only [lt_I, le_I, eq_I, i_0, i_1, i_2, i_3, i_4, i_5, i_6, i_7, i_8, i_10, i_12, i_16, i_20, i_23, i_24, i_31, i_32, i_63, i_64, i_m1, i_9, i_11, i_13, i_25, i_60, i_75, i_79, i_80, i_96, i_100] at c_5
      refine lv_iconst (v := 0) hx hb dX10_pair_29 (by decide) ?_
      refine lv_istore_n (lv' := [(3, .int 0), (0, .ref h0), (1, .int p0), (2, .int p1)]) hx hb dX10_pair_30 rfl hl (by decide) rfl (fun ls hl => ?_)
      refine lv_iload_n hx hb dX10_pair_31 rfl (lv_at hl 3 rfl) ?_
      rcases (show p1.toInt = 0 ∨ p1.toInt = 1 ∨ p1.toInt = 2 ∨ p1.toInt = 3 ∨ p1.toInt = 4 ∨ p1.toInt = 5 ∨ p1.toInt = 6 ∨ p1.toInt = 7 ∨ (p1.toInt < 0 ∨ 7 < p1.toInt) by omega) with c_6 | c_6 | c_6 | c_6 | c_6 | c_6 | c_6 | c_6 | c_6
      · refine lv_tableIn (tgt := 80) (off := 48) hx hb dX10_pair_32 (by omega) (by omega) (by rw [c_6]; rfl) (by decide) ?_
        refine lv_aload_n hx hb dX10_pair_80 rfl (lv_at hl 1 rfl) ?_
        refine va_get (D := DG E) (ci := 10) (v := .ref (rf 10)) (C := RX10) (T := TX10) (N := 49) hx hb hts iw_X10 hown hK.1 (va_one hM.1) 0 rfl rfl 10 (by decide) (hts _ fl_X10_28) (fun _ h9 => h9) rfl dX10_pair_81 ?_
        refine lv_iload_n hx hb dX10_pair_84 rfl (lv_at hl 2 rfl) ?_
        have ha_7 : va_at (DG E) vwCl (rf 10, .inl (E.2.2 0, 4, .inl (A 10))) _ := hM.2 10 (by decide) (by decide) (by decide)
        refine va_iald (D := DG E) hx hb hK.1 (va_one ha_7) 0 0 rfl rfl hi_2 dX10_pair_85 ?_
        refine W.eq (g2 := F0 m 86 ls [.int ((A 10) n_4)]) (by rw [en_4]) ?_
        exact W.iret (v := ((A 10) n_4)) hx hb hr (fun t ht hW => ⟨⟨((A 10) n_4), 0, rfl, (Or.inl ⟨c_1r, n_4, hn_4, c_5, c_6, rfl, rfl, rfl, rfl⟩), (by show MH E h0 rf t0 t1 t2 A 0 pk t.heap; rw [ht]; exact hM)⟩, hS.F ht⟩) hS.2.2 dX10_pair_86
      · refine lv_tableIn (tgt := 87) (off := 55) hx hb dX10_pair_32 (by omega) (by omega) (by rw [c_6]; rfl) (by decide) ?_
        refine lv_iload_n hx hb dX10_pair_87 rfl (lv_at hl 0 rfl) ?_
        refine lv_if_eq (tgt := 100) hx hb dX10_pair_88 (by decide) (fun c_8 => ?_) (fun c_8 => absurd c_8 (by decide))
        refine lv_iconst (v := (-1)) hx hb dX10_pair_100 (by decide) ?_
        exact W.iret (v := (-1)) hx hb hr (fun t ht hW => ⟨⟨(-1), 0, rfl, (Or.inr (Or.inl ⟨c_1r, n_4, hn_4, c_5, c_6, rfl, rfl, rfl, rfl⟩)), (by show MH E h0 rf t0 t1 t2 A 0 pk t.heap; rw [ht]; exact hM)⟩, hS.F ht⟩) hS.2.2 dX10_pair_101
      · refine lv_tableIn (tgt := 102) (off := 70) hx hb dX10_pair_32 (by omega) (by omega) (by rw [c_6]; rfl) (by decide) ?_
        refine lv_iload_n hx hb dX10_pair_102 rfl (lv_at hl 0 rfl) ?_
        refine lv_if_eq (tgt := 115) hx hb dX10_pair_103 (by decide) (fun c_9 => ?_) (fun c_9 => absurd c_9 (by decide))
        refine lv_iconst (v := (-1)) hx hb dX10_pair_115 (by decide) ?_
        exact W.iret (v := (-1)) hx hb hr (fun t ht hW => ⟨⟨(-1), 0, rfl, (Or.inr (Or.inr (Or.inl ⟨c_1r, n_4, hn_4, c_5, c_6, rfl, rfl, rfl, rfl⟩))), (by show MH E h0 rf t0 t1 t2 A 0 pk t.heap; rw [ht]; exact hM)⟩, hS.F ht⟩) hS.2.2 dX10_pair_116
      · refine lv_tableIn (tgt := 117) (off := 85) hx hb dX10_pair_32 (by omega) (by omega) (by rw [c_6]; rfl) (by decide) ?_
        refine lv_iload_n hx hb dX10_pair_117 rfl (lv_at hl 0 rfl) ?_
        refine lv_if_eq (tgt := 130) hx hb dX10_pair_118 (by decide) (fun c_10 => ?_) (fun c_10 => absurd c_10 (by decide))
        refine lv_iconst (v := (-1)) hx hb dX10_pair_130 (by decide) ?_
        exact W.iret (v := (-1)) hx hb hr (fun t ht hW => ⟨⟨(-1), 0, rfl, (Or.inr (Or.inr (Or.inr (Or.inl ⟨c_1r, n_4, hn_4, c_5, c_6, rfl, rfl, rfl, rfl⟩)))), (by show MH E h0 rf t0 t1 t2 A 0 pk t.heap; rw [ht]; exact hM)⟩, hS.F ht⟩) hS.2.2 dX10_pair_131
      · refine lv_tableIn (tgt := 132) (off := 100) hx hb dX10_pair_32 (by omega) (by omega) (by rw [c_6]; rfl) (by decide) ?_
        refine lv_iload_n hx hb dX10_pair_132 rfl (lv_at hl 0 rfl) ?_
        refine lv_if_eq (tgt := 145) hx hb dX10_pair_133 (by decide) (fun c_11 => ?_) (fun c_11 => absurd c_11 (by decide))
        refine lv_iconst (v := (-1)) hx hb dX10_pair_145 (by decide) ?_
        exact W.iret (v := (-1)) hx hb hr (fun t ht hW => ⟨⟨(-1), 0, rfl, (Or.inr (Or.inr (Or.inr (Or.inr (Or.inl ⟨c_1r, n_4, hn_4, c_5, c_6, rfl, rfl, rfl, rfl⟩))))), (by show MH E h0 rf t0 t1 t2 A 0 pk t.heap; rw [ht]; exact hM)⟩, hS.F ht⟩) hS.2.2 dX10_pair_146
      · refine lv_tableIn (tgt := 147) (off := 115) hx hb dX10_pair_32 (by omega) (by omega) (by rw [c_6]; rfl) (by decide) ?_
        refine lv_aload_n hx hb dX10_pair_147 rfl (lv_at hl 1 rfl) ?_
        refine va_get (D := DG E) (ci := 10) (v := .ref (rf 20)) (C := RX10) (T := TX10) (N := 49) hx hb hts iw_X10 hown hK.1 (va_one hM.1) 0 rfl rfl 20 (by decide) (hts _ fl_X10_59) (fun _ h9 => h9) rfl dX10_pair_148 ?_
        refine lv_iload_n hx hb dX10_pair_151 rfl (lv_at hl 2 rfl) ?_
        have ha_12 : va_at (DG E) vwCl (rf 20, .inl (E.2.2 0, 4, .inl (A 20))) _ := hM.2 20 (by decide) (by decide) (by decide)
        refine va_iald (D := DG E) hx hb hK.1 (va_one ha_12) 0 0 rfl rfl hi_2 dX10_pair_152 ?_
        refine W.eq (g2 := F0 m 153 ls [.int ((A 20) n_4)]) (by rw [en_4]) ?_
        exact W.iret (v := ((A 20) n_4)) hx hb hr (fun t ht hW => ⟨⟨((A 20) n_4), 0, rfl, (Or.inr (Or.inr (Or.inr (Or.inr (Or.inr (Or.inl ⟨c_1r, n_4, hn_4, c_5, c_6, rfl, rfl, rfl, rfl⟩)))))), (by show MH E h0 rf t0 t1 t2 A 0 pk t.heap; rw [ht]; exact hM)⟩, hS.F ht⟩) hS.2.2 dX10_pair_153
      · refine lv_tableIn (tgt := 154) (off := 122) hx hb dX10_pair_32 (by omega) (by omega) (by rw [c_6]; rfl) (by decide) ?_
        refine lv_aload_n hx hb dX10_pair_154 rfl (lv_at hl 1 rfl) ?_
        refine va_get (D := DG E) (ci := 10) (v := .ref (rf 30)) (C := RX10) (T := TX10) (N := 49) hx hb hts iw_X10 hown hK.1 (va_one hM.1) 0 rfl rfl 30 (by decide) (hts _ fl_X10_89) (fun _ h9 => h9) rfl dX10_pair_155 ?_
        refine lv_iload_n hx hb dX10_pair_158 rfl (lv_at hl 2 rfl) ?_
        have ha_13 : va_at (DG E) vwCl (rf 30, .inl (E.2.2 0, 4, .inl (A 30))) _ := hM.2 30 (by decide) (by decide) (by decide)
        refine va_iald (D := DG E) hx hb hK.1 (va_one ha_13) 0 0 rfl rfl hi_2 dX10_pair_159 ?_
        refine W.eq (g2 := F0 m 160 ls [.int ((A 30) n_4)]) (by rw [en_4]) ?_
        exact W.iret (v := ((A 30) n_4)) hx hb hr (fun t ht hW => ⟨⟨((A 30) n_4), 0, rfl, (Or.inr (Or.inr (Or.inr (Or.inr (Or.inr (Or.inr (Or.inl ⟨c_1r, n_4, hn_4, c_5, c_6, rfl, rfl, rfl, rfl⟩))))))), (by show MH E h0 rf t0 t1 t2 A 0 pk t.heap; rw [ht]; exact hM)⟩, hS.F ht⟩) hS.2.2 dX10_pair_160
      · refine lv_tableIn (tgt := 161) (off := 129) hx hb dX10_pair_32 (by omega) (by omega) (by rw [c_6]; rfl) (by decide) ?_
        refine lv_aload_n hx hb dX10_pair_161 rfl (lv_at hl 1 rfl) ?_
        refine va_get (D := DG E) (ci := 10) (v := .ref (rf 18)) (C := RX10) (T := TX10) (N := 49) hx hb hts iw_X10 hown hK.1 (va_one hM.1) 0 rfl rfl 18 (by decide) (hts _ fl_X10_52) (fun _ h9 => h9) rfl dX10_pair_162 ?_
        refine lv_iload_n hx hb dX10_pair_165 rfl (lv_at hl 2 rfl) ?_
        have ha_14 : va_at (DG E) vwCl (rf 18, .inl (E.2.2 1, 4, .inl (A 18))) _ := hM.2 18 (by decide) (by decide) (by decide)
        refine va_zald (D := DG E) hx hb hK.1 (va_one ha_14) 0 1 rfl rfl hi_2 dX10_pair_166 ?_
        refine W.eq (g2 := F0 m 167 ls [.int ((A 18) n_4)]) (by rw [en_4]) ?_
        refine lv_if_eq (tgt := 174) hx hb dX10_pair_167 (by decide) (fun c_15 => ?_) (fun c_15 => ?_)
        · simp only [lt_I, le_I, eq_I, i_0, i_1, i_2, i_3, i_4, i_5, i_6, i_7, i_8, i_10, i_12, i_16, i_20, i_23, i_24, i_31, i_32, i_63, i_64, i_m1, i_9, i_11, i_13, i_25, i_60, i_75, i_79, i_80, i_96, i_100] at c_15
          refine lv_iconst (v := 0) hx hb dX10_pair_174 (by decide) ?_
          exact W.iret (v := 0) hx hb hr (fun t ht hW => ⟨⟨0, 0, rfl, (Or.inr (Or.inr (Or.inr (Or.inr (Or.inr (Or.inr (Or.inr (Or.inl ⟨c_1r, n_4, hn_4, c_5, c_6, c_15, rfl, rfl, rfl, rfl⟩)))))))), (by show MH E h0 rf t0 t1 t2 A 0 pk t.heap; rw [ht]; exact hM)⟩, hS.F ht⟩) hS.2.2 dX10_pair_175
        · simp only [lt_I, le_I, eq_I, i_0, i_1, i_2, i_3, i_4, i_5, i_6, i_7, i_8, i_10, i_12, i_16, i_20, i_23, i_24, i_31, i_32, i_63, i_64, i_m1, i_9, i_11, i_13, i_25, i_60, i_75, i_79, i_80, i_96, i_100] at c_15
          refine lv_iconst (v := 1) hx hb dX10_pair_170 (by decide) ?_
          refine lv_goto (tgt := 175) hx hb dX10_pair_171 (by decide) ?_
          exact W.iret (v := 1) hx hb hr (fun t ht hW => ⟨⟨1, 0, rfl, (Or.inr (Or.inr (Or.inr (Or.inr (Or.inr (Or.inr (Or.inr (Or.inr (Or.inl ⟨c_1r, n_4, hn_4, c_5, c_6, c_15, rfl, rfl, rfl, rfl⟩))))))))), (by show MH E h0 rf t0 t1 t2 A 0 pk t.heap; rw [ht]; exact hM)⟩, hS.F ht⟩) hS.2.2 dX10_pair_175
      · refine lv_tableOut (tgt := 176) hx hb dX10_pair_32 c_6 (by decide) ?_
        refine lv_iconst (v := (-1)) hx hb dX10_pair_176 (by decide) ?_
        exact W.iret (v := (-1)) hx hb hr (fun t ht hW => ⟨⟨(-1), 0, rfl, (Or.inr (Or.inr (Or.inr (Or.inr (Or.inr (Or.inr (Or.inr (Or.inr (Or.inr (Or.inl ⟨c_1r, n_4, hn_4, c_5, c_6, rfl, rfl, rfl, rfl⟩)))))))))), (by show MH E h0 rf t0 t1 t2 A 0 pk t.heap; rw [ht]; exact hM)⟩, hS.F ht⟩) hS.2.2 dX10_pair_177
    · simp only [lt_I, le_I, eq_I, i_0, i_1, i_2, i_3, i_4, i_5, i_6, i_7, i_8, i_10, i_12, i_16, i_20, i_23, i_24, i_31, i_32, i_63, i_64, i_m1, i_9, i_11, i_13, i_25, i_60, i_75, i_79, i_80, i_96, i_100] at c_5
      refine lv_iconst (v := 1) hx hb dX10_pair_25 (by decide) ?_
      refine lv_goto (tgt := 30) hx hb dX10_pair_26 (by decide) ?_
      refine lv_istore_n (lv' := [(3, .int 1), (0, .ref h0), (1, .int p0), (2, .int p1)]) hx hb dX10_pair_30 rfl hl (by decide) rfl (fun ls hl => ?_)
      refine lv_iload_n hx hb dX10_pair_31 rfl (lv_at hl 3 rfl) ?_
      rcases (show p1.toInt = 0 ∨ p1.toInt = 1 ∨ p1.toInt = 2 ∨ p1.toInt = 3 ∨ p1.toInt = 4 ∨ p1.toInt = 5 ∨ p1.toInt = 6 ∨ p1.toInt = 7 ∨ (p1.toInt < 0 ∨ 7 < p1.toInt) by omega) with c_16 | c_16 | c_16 | c_16 | c_16 | c_16 | c_16 | c_16 | c_16
      · refine lv_tableIn (tgt := 80) (off := 48) hx hb dX10_pair_32 (by omega) (by omega) (by rw [c_16]; rfl) (by decide) ?_
        refine lv_aload_n hx hb dX10_pair_80 rfl (lv_at hl 1 rfl) ?_
        refine va_get (D := DG E) (ci := 10) (v := .ref (rf 10)) (C := RX10) (T := TX10) (N := 49) hx hb hts iw_X10 hown hK.1 (va_one hM.1) 0 rfl rfl 10 (by decide) (hts _ fl_X10_28) (fun _ h9 => h9) rfl dX10_pair_81 ?_
        refine lv_iload_n hx hb dX10_pair_84 rfl (lv_at hl 2 rfl) ?_
        have ha_17 : va_at (DG E) vwCl (rf 10, .inl (E.2.2 0, 4, .inl (A 10))) _ := hM.2 10 (by decide) (by decide) (by decide)
        refine va_iald (D := DG E) hx hb hK.1 (va_one ha_17) 0 0 rfl rfl hi_2 dX10_pair_85 ?_
        refine W.eq (g2 := F0 m 86 ls [.int ((A 10) n_4)]) (by rw [en_4]) ?_
        exact W.iret (v := ((A 10) n_4)) hx hb hr (fun t ht hW => ⟨⟨((A 10) n_4), 0, rfl, (Or.inr (Or.inr (Or.inr (Or.inr (Or.inr (Or.inr (Or.inr (Or.inr (Or.inr (Or.inr (Or.inl ⟨c_1r, n_4, hn_4, c_5, c_16, rfl, rfl, rfl, rfl⟩))))))))))), (by show MH E h0 rf t0 t1 t2 A 0 pk t.heap; rw [ht]; exact hM)⟩, hS.F ht⟩) hS.2.2 dX10_pair_86
      · refine lv_tableIn (tgt := 87) (off := 55) hx hb dX10_pair_32 (by omega) (by omega) (by rw [c_16]; rfl) (by decide) ?_
        refine lv_iload_n hx hb dX10_pair_87 rfl (lv_at hl 0 rfl) ?_
        refine lv_if_eq (tgt := 100) hx hb dX10_pair_88 (by decide) (fun c_18 => absurd c_18 (by decide)) (fun c_18 => ?_)
        refine lv_aload_n hx hb dX10_pair_91 rfl (lv_at hl 1 rfl) ?_
        refine va_get (D := DG E) (ci := 10) (v := .ref (rf 11)) (C := RX10) (T := TX10) (N := 49) hx hb hts iw_X10 hown hK.1 (va_one hM.1) 0 rfl rfl 11 (by decide) (hts _ fl_X10_31) (fun _ h9 => h9) rfl dX10_pair_92 ?_
        refine lv_iload_n hx hb dX10_pair_95 rfl (lv_at hl 2 rfl) ?_
        have ha_19 : va_at (DG E) vwCl (rf 11, .inl (E.2.2 0, 4, .inl (A 11))) _ := hM.2 11 (by decide) (by decide) (by decide)
        refine va_iald (D := DG E) hx hb hK.1 (va_one ha_19) 0 0 rfl rfl hi_2 dX10_pair_96 ?_
        refine W.eq (g2 := F0 m 97 ls [.int ((A 11) n_4)]) (by rw [en_4]) ?_
        refine lv_goto (tgt := 101) hx hb dX10_pair_97 (by decide) ?_
        exact W.iret (v := ((A 11) n_4)) hx hb hr (fun t ht hW => ⟨⟨((A 11) n_4), 0, rfl, (Or.inr (Or.inr (Or.inr (Or.inr (Or.inr (Or.inr (Or.inr (Or.inr (Or.inr (Or.inr (Or.inr (Or.inl ⟨c_1r, n_4, hn_4, c_5, c_16, rfl, rfl, rfl, rfl⟩)))))))))))), (by show MH E h0 rf t0 t1 t2 A 0 pk t.heap; rw [ht]; exact hM)⟩, hS.F ht⟩) hS.2.2 dX10_pair_101
      · refine lv_tableIn (tgt := 102) (off := 70) hx hb dX10_pair_32 (by omega) (by omega) (by rw [c_16]; rfl) (by decide) ?_
        refine lv_iload_n hx hb dX10_pair_102 rfl (lv_at hl 0 rfl) ?_
        refine lv_if_eq (tgt := 115) hx hb dX10_pair_103 (by decide) (fun c_20 => absurd c_20 (by decide)) (fun c_20 => ?_)
        refine lv_aload_n hx hb dX10_pair_106 rfl (lv_at hl 1 rfl) ?_
        refine va_get (D := DG E) (ci := 10) (v := .ref (rf 12)) (C := RX10) (T := TX10) (N := 49) hx hb hts iw_X10 hown hK.1 (va_one hM.1) 0 rfl rfl 12 (by decide) (hts _ fl_X10_34) (fun _ h9 => h9) rfl dX10_pair_107 ?_
        refine lv_iload_n hx hb dX10_pair_110 rfl (lv_at hl 2 rfl) ?_
        have ha_21 : va_at (DG E) vwCl (rf 12, .inl (E.2.2 0, 4, .inl (A 12))) _ := hM.2 12 (by decide) (by decide) (by decide)
        refine va_iald (D := DG E) hx hb hK.1 (va_one ha_21) 0 0 rfl rfl hi_2 dX10_pair_111 ?_
        refine W.eq (g2 := F0 m 112 ls [.int ((A 12) n_4)]) (by rw [en_4]) ?_
        refine lv_goto (tgt := 116) hx hb dX10_pair_112 (by decide) ?_
        exact W.iret (v := ((A 12) n_4)) hx hb hr (fun t ht hW => ⟨⟨((A 12) n_4), 0, rfl, (Or.inr (Or.inr (Or.inr (Or.inr (Or.inr (Or.inr (Or.inr (Or.inr (Or.inr (Or.inr (Or.inr (Or.inr (Or.inl ⟨c_1r, n_4, hn_4, c_5, c_16, rfl, rfl, rfl, rfl⟩))))))))))))), (by show MH E h0 rf t0 t1 t2 A 0 pk t.heap; rw [ht]; exact hM)⟩, hS.F ht⟩) hS.2.2 dX10_pair_116
      · refine lv_tableIn (tgt := 117) (off := 85) hx hb dX10_pair_32 (by omega) (by omega) (by rw [c_16]; rfl) (by decide) ?_
        refine lv_iload_n hx hb dX10_pair_117 rfl (lv_at hl 0 rfl) ?_
        refine lv_if_eq (tgt := 130) hx hb dX10_pair_118 (by decide) (fun c_22 => absurd c_22 (by decide)) (fun c_22 => ?_)
        refine lv_aload_n hx hb dX10_pair_121 rfl (lv_at hl 1 rfl) ?_
        refine va_get (D := DG E) (ci := 10) (v := .ref (rf 13)) (C := RX10) (T := TX10) (N := 49) hx hb hts iw_X10 hown hK.1 (va_one hM.1) 0 rfl rfl 13 (by decide) (hts _ fl_X10_37) (fun _ h9 => h9) rfl dX10_pair_122 ?_
        refine lv_iload_n hx hb dX10_pair_125 rfl (lv_at hl 2 rfl) ?_
        have ha_23 : va_at (DG E) vwCl (rf 13, .inl (E.2.2 0, 4, .inl (A 13))) _ := hM.2 13 (by decide) (by decide) (by decide)
        refine va_iald (D := DG E) hx hb hK.1 (va_one ha_23) 0 0 rfl rfl hi_2 dX10_pair_126 ?_
        refine W.eq (g2 := F0 m 127 ls [.int ((A 13) n_4)]) (by rw [en_4]) ?_
        refine lv_goto (tgt := 131) hx hb dX10_pair_127 (by decide) ?_
        exact W.iret (v := ((A 13) n_4)) hx hb hr (fun t ht hW => ⟨⟨((A 13) n_4), 0, rfl, (Or.inr (Or.inr (Or.inr (Or.inr (Or.inr (Or.inr (Or.inr (Or.inr (Or.inr (Or.inr (Or.inr (Or.inr (Or.inr (Or.inl ⟨c_1r, n_4, hn_4, c_5, c_16, rfl, rfl, rfl, rfl⟩)))))))))))))), (by show MH E h0 rf t0 t1 t2 A 0 pk t.heap; rw [ht]; exact hM)⟩, hS.F ht⟩) hS.2.2 dX10_pair_131
      · refine lv_tableIn (tgt := 132) (off := 100) hx hb dX10_pair_32 (by omega) (by omega) (by rw [c_16]; rfl) (by decide) ?_
        refine lv_iload_n hx hb dX10_pair_132 rfl (lv_at hl 0 rfl) ?_
        refine lv_if_eq (tgt := 145) hx hb dX10_pair_133 (by decide) (fun c_24 => absurd c_24 (by decide)) (fun c_24 => ?_)
        refine lv_aload_n hx hb dX10_pair_136 rfl (lv_at hl 1 rfl) ?_
        refine va_get (D := DG E) (ci := 10) (v := .ref (rf 14)) (C := RX10) (T := TX10) (N := 49) hx hb hts iw_X10 hown hK.1 (va_one hM.1) 0 rfl rfl 14 (by decide) (hts _ fl_X10_40) (fun _ h9 => h9) rfl dX10_pair_137 ?_
        refine lv_iload_n hx hb dX10_pair_140 rfl (lv_at hl 2 rfl) ?_
        have ha_25 : va_at (DG E) vwCl (rf 14, .inl (E.2.2 0, 4, .inl (A 14))) _ := hM.2 14 (by decide) (by decide) (by decide)
        refine va_iald (D := DG E) hx hb hK.1 (va_one ha_25) 0 0 rfl rfl hi_2 dX10_pair_141 ?_
        refine W.eq (g2 := F0 m 142 ls [.int ((A 14) n_4)]) (by rw [en_4]) ?_
        refine lv_goto (tgt := 146) hx hb dX10_pair_142 (by decide) ?_
        exact W.iret (v := ((A 14) n_4)) hx hb hr (fun t ht hW => ⟨⟨((A 14) n_4), 0, rfl, (Or.inr (Or.inr (Or.inr (Or.inr (Or.inr (Or.inr (Or.inr (Or.inr (Or.inr (Or.inr (Or.inr (Or.inr (Or.inr (Or.inr (Or.inl ⟨c_1r, n_4, hn_4, c_5, c_16, rfl, rfl, rfl, rfl⟩))))))))))))))), (by show MH E h0 rf t0 t1 t2 A 0 pk t.heap; rw [ht]; exact hM)⟩, hS.F ht⟩) hS.2.2 dX10_pair_146
      · refine lv_tableIn (tgt := 147) (off := 115) hx hb dX10_pair_32 (by omega) (by omega) (by rw [c_16]; rfl) (by decide) ?_
        refine lv_aload_n hx hb dX10_pair_147 rfl (lv_at hl 1 rfl) ?_
        refine va_get (D := DG E) (ci := 10) (v := .ref (rf 20)) (C := RX10) (T := TX10) (N := 49) hx hb hts iw_X10 hown hK.1 (va_one hM.1) 0 rfl rfl 20 (by decide) (hts _ fl_X10_59) (fun _ h9 => h9) rfl dX10_pair_148 ?_
        refine lv_iload_n hx hb dX10_pair_151 rfl (lv_at hl 2 rfl) ?_
        have ha_26 : va_at (DG E) vwCl (rf 20, .inl (E.2.2 0, 4, .inl (A 20))) _ := hM.2 20 (by decide) (by decide) (by decide)
        refine va_iald (D := DG E) hx hb hK.1 (va_one ha_26) 0 0 rfl rfl hi_2 dX10_pair_152 ?_
        refine W.eq (g2 := F0 m 153 ls [.int ((A 20) n_4)]) (by rw [en_4]) ?_
        exact W.iret (v := ((A 20) n_4)) hx hb hr (fun t ht hW => ⟨⟨((A 20) n_4), 0, rfl, (Or.inr (Or.inr (Or.inr (Or.inr (Or.inr (Or.inr (Or.inr (Or.inr (Or.inr (Or.inr (Or.inr (Or.inr (Or.inr (Or.inr (Or.inr (Or.inl ⟨c_1r, n_4, hn_4, c_5, c_16, rfl, rfl, rfl, rfl⟩)))))))))))))))), (by show MH E h0 rf t0 t1 t2 A 0 pk t.heap; rw [ht]; exact hM)⟩, hS.F ht⟩) hS.2.2 dX10_pair_153
      · refine lv_tableIn (tgt := 154) (off := 122) hx hb dX10_pair_32 (by omega) (by omega) (by rw [c_16]; rfl) (by decide) ?_
        refine lv_aload_n hx hb dX10_pair_154 rfl (lv_at hl 1 rfl) ?_
        refine va_get (D := DG E) (ci := 10) (v := .ref (rf 30)) (C := RX10) (T := TX10) (N := 49) hx hb hts iw_X10 hown hK.1 (va_one hM.1) 0 rfl rfl 30 (by decide) (hts _ fl_X10_89) (fun _ h9 => h9) rfl dX10_pair_155 ?_
        refine lv_iload_n hx hb dX10_pair_158 rfl (lv_at hl 2 rfl) ?_
        have ha_27 : va_at (DG E) vwCl (rf 30, .inl (E.2.2 0, 4, .inl (A 30))) _ := hM.2 30 (by decide) (by decide) (by decide)
        refine va_iald (D := DG E) hx hb hK.1 (va_one ha_27) 0 0 rfl rfl hi_2 dX10_pair_159 ?_
        refine W.eq (g2 := F0 m 160 ls [.int ((A 30) n_4)]) (by rw [en_4]) ?_
        exact W.iret (v := ((A 30) n_4)) hx hb hr (fun t ht hW => ⟨⟨((A 30) n_4), 0, rfl, (Or.inr (Or.inr (Or.inr (Or.inr (Or.inr (Or.inr (Or.inr (Or.inr (Or.inr (Or.inr (Or.inr (Or.inr (Or.inr (Or.inr (Or.inr (Or.inr (Or.inl ⟨c_1r, n_4, hn_4, c_5, c_16, rfl, rfl, rfl, rfl⟩))))))))))))))))), (by show MH E h0 rf t0 t1 t2 A 0 pk t.heap; rw [ht]; exact hM)⟩, hS.F ht⟩) hS.2.2 dX10_pair_160
      · refine lv_tableIn (tgt := 161) (off := 129) hx hb dX10_pair_32 (by omega) (by omega) (by rw [c_16]; rfl) (by decide) ?_
        refine lv_aload_n hx hb dX10_pair_161 rfl (lv_at hl 1 rfl) ?_
        refine va_get (D := DG E) (ci := 10) (v := .ref (rf 18)) (C := RX10) (T := TX10) (N := 49) hx hb hts iw_X10 hown hK.1 (va_one hM.1) 0 rfl rfl 18 (by decide) (hts _ fl_X10_52) (fun _ h9 => h9) rfl dX10_pair_162 ?_
        refine lv_iload_n hx hb dX10_pair_165 rfl (lv_at hl 2 rfl) ?_
        have ha_28 : va_at (DG E) vwCl (rf 18, .inl (E.2.2 1, 4, .inl (A 18))) _ := hM.2 18 (by decide) (by decide) (by decide)
        refine va_zald (D := DG E) hx hb hK.1 (va_one ha_28) 0 1 rfl rfl hi_2 dX10_pair_166 ?_
        refine W.eq (g2 := F0 m 167 ls [.int ((A 18) n_4)]) (by rw [en_4]) ?_
        refine lv_if_eq (tgt := 174) hx hb dX10_pair_167 (by decide) (fun c_29 => ?_) (fun c_29 => ?_)
        · simp only [lt_I, le_I, eq_I, i_0, i_1, i_2, i_3, i_4, i_5, i_6, i_7, i_8, i_10, i_12, i_16, i_20, i_23, i_24, i_31, i_32, i_63, i_64, i_m1, i_9, i_11, i_13, i_25, i_60, i_75, i_79, i_80, i_96, i_100] at c_29
          refine lv_iconst (v := 0) hx hb dX10_pair_174 (by decide) ?_
          exact W.iret (v := 0) hx hb hr (fun t ht hW => ⟨⟨0, 0, rfl, (Or.inr (Or.inr (Or.inr (Or.inr (Or.inr (Or.inr (Or.inr (Or.inr (Or.inr (Or.inr (Or.inr (Or.inr (Or.inr (Or.inr (Or.inr (Or.inr (Or.inr (Or.inl ⟨c_1r, n_4, hn_4, c_5, c_16, c_29, rfl, rfl, rfl, rfl⟩)))))))))))))))))), (by show MH E h0 rf t0 t1 t2 A 0 pk t.heap; rw [ht]; exact hM)⟩, hS.F ht⟩) hS.2.2 dX10_pair_175
        · simp only [lt_I, le_I, eq_I, i_0, i_1, i_2, i_3, i_4, i_5, i_6, i_7, i_8, i_10, i_12, i_16, i_20, i_23, i_24, i_31, i_32, i_63, i_64, i_m1, i_9, i_11, i_13, i_25, i_60, i_75, i_79, i_80, i_96, i_100] at c_29
          refine lv_iconst (v := 1) hx hb dX10_pair_170 (by decide) ?_
          refine lv_goto (tgt := 175) hx hb dX10_pair_171 (by decide) ?_
          exact W.iret (v := 1) hx hb hr (fun t ht hW => ⟨⟨1, 0, rfl, (Or.inr (Or.inr (Or.inr (Or.inr (Or.inr (Or.inr (Or.inr (Or.inr (Or.inr (Or.inr (Or.inr (Or.inr (Or.inr (Or.inr (Or.inr (Or.inr (Or.inr (Or.inr (Or.inl ⟨c_1r, n_4, hn_4, c_5, c_16, c_29, rfl, rfl, rfl, rfl⟩))))))))))))))))))), (by show MH E h0 rf t0 t1 t2 A 0 pk t.heap; rw [ht]; exact hM)⟩, hS.F ht⟩) hS.2.2 dX10_pair_175
      · refine lv_tableOut (tgt := 176) hx hb dX10_pair_32 c_16 (by decide) ?_
        refine lv_iconst (v := (-1)) hx hb dX10_pair_176 (by decide) ?_
        exact W.iret (v := (-1)) hx hb hr (fun t ht hW => ⟨⟨(-1), 0, rfl, (Or.inr (Or.inr (Or.inr (Or.inr (Or.inr (Or.inr (Or.inr (Or.inr (Or.inr (Or.inr (Or.inr (Or.inr (Or.inr (Or.inr (Or.inr (Or.inr (Or.inr (Or.inr (Or.inr (Or.inl ⟨c_1r, n_4, hn_4, c_5, c_16, rfl, rfl, rfl, rfl⟩)))))))))))))))))))), (by show MH E h0 rf t0 t1 t2 A 0 pk t.heap; rw [ht]; exact hM)⟩, hS.F ht⟩) hS.2.2 dX10_pair_177
  · have c_1 := bI_0 c_1
    have c_1r := c_1
    try simp only [lt_I, le_I, eq_I, i_0, i_1, i_2, i_3, i_4, i_5, i_6, i_7, i_8, i_10, i_12, i_16, i_20, i_23, i_24, i_31, i_32, i_63, i_64, i_m1, i_9, i_11, i_13, i_25, i_60, i_75, i_79, i_80, i_96, i_100] at c_1
    refine lv_iconst (v := (-1)) hx hb dX10_pair_13 (by decide) ?_
    exact W.iret (v := (-1)) hx hb hr (fun t ht hW => ⟨⟨(-1), 0, rfl, (Or.inr (Or.inr (Or.inr (Or.inr (Or.inr (Or.inr (Or.inr (Or.inr (Or.inr (Or.inr (Or.inr (Or.inr (Or.inr (Or.inr (Or.inr (Or.inr (Or.inr (Or.inr (Or.inr (Or.inr ⟨c_1r, rfl, rfl, rfl, rfl⟩)))))))))))))))))))), (by show MH E h0 rf t0 t1 t2 A 0 pk t.heap; rw [ht]; exact hM)⟩, hS.F ht⟩) hS.2.2 dX10_pair_14
theorem dX10_completions_0 : decode cX10_completions 0 = .ok (.aload_n 0, 1) := by decide +kernel
theorem dX10_completions_1 : decode cX10_completions 1 = .ok (.iconst 0, 1) := by decide +kernel
theorem dX10_completions_2 : decode cX10_completions 2 = .ok (.putfield 153, 3) := by decide +kernel
theorem dX10_completions_5 : decode cX10_completions 5 = .ok (.iload_n 1, 1) := by decide +kernel
theorem dX10_completions_6 : decode cX10_completions 6 = .ok (.iconst 1, 1) := by decide +kernel
theorem dX10_completions_7 : decode cX10_completions 7 = .ok (.invokestatic 156, 3) := by decide +kernel
theorem dX10_completions_10 : decode cX10_completions 10 = .ok (.ifCond .eq 12, 3) := by decide +kernel
theorem dX10_completions_13 : decode cX10_completions 13 = .ok (.aload_n 0, 1) := by decide +kernel
theorem dX10_completions_14 : decode cX10_completions 14 = .ok (.getfield 22, 3) := by decide +kernel
theorem dX10_completions_17 : decode cX10_completions 17 = .ok (.iload_n 1, 1) := by decide +kernel
theorem dX10_completions_18 : decode cX10_completions 18 = .ok (.iaload, 1) := by decide +kernel
theorem dX10_completions_19 : decode cX10_completions 19 = .ok (.goto 4, 3) := by decide +kernel
theorem dX10_completions_22 : decode cX10_completions 22 = .ok (.iconst (-1), 1) := by decide +kernel
theorem dX10_completions_23 : decode cX10_completions 23 = .ok (.ireturn, 1) := by decide +kernel
set_option maxHeartbeats 8000000 in
set_option maxRecDepth 100000 in
theorem u_X10_completions (l : Launch) (E : EE) (z0 : Nat) (G : Nat → Nat) (hGz : ∀ q, G q ≠ 0 → z0 ≤ q) (h0 : Nat) (rf : Nat → Nat) (hR : MG G h0 rf) (t0 t1 t2 : Int32) (A : AA) (cd pk : Int32) (p0 : Int32) : Met l yX10_completions [Cond.code yX10_completions cX10_completions 2 (some .int)] ({ frames := 1, cells := 0, slots := 0, locals := 21 } : Room) (va_Pc [.ref h0, .int p0] (fun U => MH E h0 rf t0 t1 t2 A cd pk U.heap ∧ KS E z0 U)) (va_Qi (fun (r : Int32) (u : Int32) => D_X10_completions A cd pk p0 A (u) pk r) (fun u t => MH E h0 rf t0 t1 t2 A (u) pk t.heap) (fun q : Nat => G q ≠ 0)) 0 0 (fun q : Nat => G q ≠ 0) := by
  refine Met.ofW (cc := cX10_completions) (maxL := 2) (ret := (some .int)) (by decide) rfl ?_
  intro p e s m args below meth c s₁ B hml hv
  obtain ⟨rfl, hM, hK⟩ := hv
  have hx := B.exec
  have hb := B.bytes
  have hr := B.returns
  have hts : ∀ w ∈ TS, w.before ([.ref h0, .int p0] : List Value).toArray s = true := fun w hw => hK.2.1 w hw _
  have hown : s.vm.findClass RX10 = some m.cls := findClass_of_methodNamed B.named
  have hlocks := B.notSynchronized
  have hS : va_S (fun q : Nat => G q ≠ 0) s.heap s.heap [] := va_S.rf
  have hAz : ∀ q, (fun q : Nat => G q ≠ 0) q → z0 ≤ q := hGz
  have hl := lv_entry ([.ref h0, .int p0]) (n := 2) (Nat.le_of_ble_eq_true rfl)
  rw [lg_entry_eq]
  generalize (lg_sl ([.ref h0, .int p0]) ++ List.replicate (2 - (lg_sl ([.ref h0, .int p0])).length) Slot.unset).toArray = ls at hl ⊢
  have hl : lv_has ls 2 [(0, .ref h0), (1, .int p0)] := hl
  refine lv_aload_n hx hb dX10_completions_0 rfl (lv_at hl 0 rfl) ?_
  refine lv_iconst (v := 0) hx hb dX10_completions_1 (by decide) ?_
  refine rr_put (D := DG E) (ci := 10) (v := .int 0) (ty := .int) (C := RX10) (T := TX10) (N := 49) hx hb hts iw_X10 tyX10 tyX10_ok nmX10 hown hK.1 hM.1 hS (by show G h0 ≠ 0; rw [hR.1]; decide) rfl 3 (by decide) (hts _ fl_X10_153) (fun _ h9 => h9) rfl (by decide +kernel) rfl rfl (Nat.le_of_ble_eq_true rfl) dX10_completions_2 (fun H locs hn ho hz hS => ?_)
  have hM : MH E h0 rf t0 t1 t2 A 0 pk H := hM.sc hR hn ho
  refine lv_iload_n hx hb dX10_completions_5 rfl (lv_at hl 1 rfl) ?_
  refine lv_iconst (v := 1) hx hb dX10_completions_6 (by decide) ?_
  refine W.callR (W.runS (As := [.int p0, .int 1]) (rest := []) ⟨hx, hb, hml, hown, hts⟩ (c_X10_within l p0 1) (cwS 2 hts (gdS ml_X10_156 st_X10_within in_X10 co_X10_within rfl) rfl rfl rfl (by decide +kernel) ⟨Nat.le_of_ble_eq_true rfl, Nat.le_of_ble_eq_true rfl⟩) preEq rfl rfl hl.1 rfl (lv_room (Nat.le_of_ble_eq_true rfl)) dX10_completions_7 ⟨Nat.le_of_ble_eq_true rfl, Nat.le_of_ble_eq_true rfl⟩) ?_
  refine W.eq (g2 := F0 m 10 ls [.int (bI (0 ≤ p0.toInt ∧ p0.toInt ≤ (1 : Int32).toInt))]) (by rfl) ?_
  refine lv_if_eq (tgt := 22) hx hb dX10_completions_10 (by decide) (fun c_1 => ?_) (fun c_1 => ?_)
  · have c_1 := bI_0 c_1
    have c_1r := c_1
    try simp only [lt_I, le_I, eq_I, i_0, i_1, i_2, i_3, i_4, i_5, i_6, i_7, i_8, i_10, i_12, i_16, i_20, i_23, i_24, i_31, i_32, i_63, i_64, i_m1, i_9, i_11, i_13, i_25, i_60, i_75, i_79, i_80, i_96, i_100] at c_1
    refine lv_iconst (v := (-1)) hx hb dX10_completions_22 (by decide) ?_
    exact W.iret (v := (-1)) hx hb hr (fun t ht hW => ⟨⟨(-1), 0, rfl, (Or.inl ⟨c_1r, rfl, rfl, rfl, rfl⟩), (by show MH E h0 rf t0 t1 t2 A 0 pk t.heap; rw [ht]; exact hM)⟩, hS.F ht⟩) hS.2.2 dX10_completions_23
  · have c_1 := bI_n c_1
    have c_1r := c_1
    try simp only [lt_I, le_I, eq_I, i_0, i_1, i_2, i_3, i_4, i_5, i_6, i_7, i_8, i_10, i_12, i_16, i_20, i_23, i_24, i_31, i_32, i_63, i_64, i_m1, i_9, i_11, i_13, i_25, i_60, i_75, i_79, i_80, i_96, i_100] at c_1
    refine lv_aload_n hx hb dX10_completions_13 rfl (lv_at hl 0 rfl) ?_
    refine va_get (D := DG E) (ci := 10) (v := .ref (rf 8)) (C := RX10) (T := TX10) (N := 49) hx hb hts iw_X10 hown hK.1 (va_one hM.1) 0 rfl rfl 8 (by decide) (hts _ fl_X10_22) (fun _ h9 => h9) rfl dX10_completions_14 ?_
    refine lv_iload_n hx hb dX10_completions_17 rfl (lv_at hl 1 rfl) ?_
    have hi_2 : vp_in p0 2 := vp_in_iff.mpr (by omega)
    have ha_3 : va_at (DG E) vwCl (rf 8, .inl (E.2.2 0, 2, .inl (A 8))) _ := hM.2 8 (by decide) (by decide) (by decide)
    obtain ⟨n_4, hn_4, en_4⟩ := s_nat (x := p0) (by omega)
    refine va_iald (D := DG E) hx hb hK.1 (va_one ha_3) 0 0 rfl rfl hi_2 dX10_completions_18 ?_
    refine W.eq (g2 := F0 m 19 ls [.int ((A 8) n_4)]) (by rw [en_4]) ?_
    refine lv_goto (tgt := 23) hx hb dX10_completions_19 (by decide) ?_
    exact W.iret (v := ((A 8) n_4)) hx hb hr (fun t ht hW => ⟨⟨((A 8) n_4), 0, rfl, (Or.inr ⟨c_1r, n_4, hn_4, rfl, rfl, rfl, rfl⟩), (by show MH E h0 rf t0 t1 t2 A 0 pk t.heap; rw [ht]; exact hM)⟩, hS.F ht⟩) hS.2.2 dX10_completions_23
theorem dX10_dropEnd_0 : decode cX10_dropEnd 0 = .ok (.aload_n 0, 1) := by decide +kernel
theorem dX10_dropEnd_1 : decode cX10_dropEnd 1 = .ok (.getfield 22, 3) := by decide +kernel
theorem dX10_dropEnd_4 : decode cX10_dropEnd 4 = .ok (.iload_n 1, 1) := by decide +kernel
theorem dX10_dropEnd_5 : decode cX10_dropEnd 5 = .ok (.dup2, 1) := by decide +kernel
theorem dX10_dropEnd_6 : decode cX10_dropEnd 6 = .ok (.iaload, 1) := by decide +kernel
theorem dX10_dropEnd_7 : decode cX10_dropEnd 7 = .ok (.iconst 1, 1) := by decide +kernel
theorem dX10_dropEnd_8 : decode cX10_dropEnd 8 = .ok (.isub, 1) := by decide +kernel
theorem dX10_dropEnd_9 : decode cX10_dropEnd 9 = .ok (.iastore, 1) := by decide +kernel
theorem dX10_dropEnd_10 : decode cX10_dropEnd 10 = .ok (.bipush 80, 2) := by decide +kernel
theorem dX10_dropEnd_12 : decode cX10_dropEnd 12 = .ok (.iload_n 1, 1) := by decide +kernel
theorem dX10_dropEnd_13 : decode cX10_dropEnd 13 = .ok (.imul, 1) := by decide +kernel
theorem dX10_dropEnd_14 : decode cX10_dropEnd 14 = .ok (.istore_n 2, 1) := by decide +kernel
theorem dX10_dropEnd_15 : decode cX10_dropEnd 15 = .ok (.iload_n 2, 1) := by decide +kernel
theorem dX10_dropEnd_16 : decode cX10_dropEnd 16 = .ok (.bipush 80, 2) := by decide +kernel
theorem dX10_dropEnd_18 : decode cX10_dropEnd 18 = .ok (.iload_n 1, 1) := by decide +kernel
theorem dX10_dropEnd_19 : decode cX10_dropEnd 19 = .ok (.imul, 1) := by decide +kernel
theorem dX10_dropEnd_20 : decode cX10_dropEnd 20 = .ok (.iconst 5, 1) := by decide +kernel
theorem dX10_dropEnd_21 : decode cX10_dropEnd 21 = .ok (.aload_n 0, 1) := by decide +kernel
theorem dX10_dropEnd_22 : decode cX10_dropEnd 22 = .ok (.getfield 22, 3) := by decide +kernel
theorem dX10_dropEnd_25 : decode cX10_dropEnd 25 = .ok (.iload_n 1, 1) := by decide +kernel
theorem dX10_dropEnd_26 : decode cX10_dropEnd 26 = .ok (.iaload, 1) := by decide +kernel
theorem dX10_dropEnd_27 : decode cX10_dropEnd 27 = .ok (.imul, 1) := by decide +kernel
theorem dX10_dropEnd_28 : decode cX10_dropEnd 28 = .ok (.iadd, 1) := by decide +kernel
theorem dX10_dropEnd_29 : decode cX10_dropEnd 29 = .ok (.if_icmp .ge 23, 3) := by decide +kernel
theorem dX10_dropEnd_32 : decode cX10_dropEnd 32 = .ok (.aload_n 0, 1) := by decide +kernel
theorem dX10_dropEnd_33 : decode cX10_dropEnd 33 = .ok (.getfield 25, 3) := by decide +kernel
theorem dX10_dropEnd_36 : decode cX10_dropEnd 36 = .ok (.iload_n 2, 1) := by decide +kernel
theorem dX10_dropEnd_37 : decode cX10_dropEnd 37 = .ok (.aload_n 0, 1) := by decide +kernel
theorem dX10_dropEnd_38 : decode cX10_dropEnd 38 = .ok (.getfield 25, 3) := by decide +kernel
theorem dX10_dropEnd_41 : decode cX10_dropEnd 41 = .ok (.iload_n 2, 1) := by decide +kernel
theorem dX10_dropEnd_42 : decode cX10_dropEnd 42 = .ok (.iconst 5, 1) := by decide +kernel
theorem dX10_dropEnd_43 : decode cX10_dropEnd 43 = .ok (.iadd, 1) := by decide +kernel
theorem dX10_dropEnd_44 : decode cX10_dropEnd 44 = .ok (.iaload, 1) := by decide +kernel
theorem dX10_dropEnd_45 : decode cX10_dropEnd 45 = .ok (.iastore, 1) := by decide +kernel
theorem dX10_dropEnd_46 : decode cX10_dropEnd 46 = .ok (.iinc 2 1, 3) := by decide +kernel
theorem dX10_dropEnd_49 : decode cX10_dropEnd 49 = .ok (.goto (-34), 3) := by decide +kernel
theorem dX10_dropEnd_52 : decode cX10_dropEnd 52 = .ok (.iconst 0, 1) := by decide +kernel
theorem dX10_dropEnd_53 : decode cX10_dropEnd 53 = .ok (.ireturn, 1) := by decide +kernel
set_option maxHeartbeats 8000000 in
set_option maxRecDepth 100000 in
theorem u_X10_dropEnd (l : Launch) (E : EE) (z0 : Nat) (G : Nat → Nat) (hGz : ∀ q, G q ≠ 0 → z0 ≤ q) (h0 : Nat) (rf : Nat → Nat) (hR : MG G h0 rf) (t0 t1 t2 : Int32) (A : AA) (cd pk : Int32) (p0 : Int32) (hI3 : I3 (A 8)) (hy0 : 0 ≤ p0.toInt ∧ p0.toInt ≤ 1) (hy1 : ∀ n : Nat, (n : Int) = p0.toInt → 1 ≤ ((A 8) n).toInt) : Met l yX10_dropEnd [Cond.code yX10_dropEnd cX10_dropEnd 3 (some .int)] ({ frames := 0, cells := 0, slots := 0, locals := 0 } : Room) (va_Pc [.ref h0, .int p0] (fun U => MH E h0 rf t0 t1 t2 A cd pk U.heap ∧ KS E z0 U)) (va_Qi (fun (r : Int32) (u : (Nat → Int32) × (Nat → Int32)) => (I3 (u.1)) ∧ (D_X10_dropEnd A cd pk p0 (uA (uA A 8 (u.1)) 9 (u.2)) cd pk r)) (fun u t => MH E h0 rf t0 t1 t2 (uA (uA A 8 (u.1)) 9 (u.2)) cd pk t.heap) (fun q : Nat => G q ≠ 0)) 0 0 (fun q : Nat => G q ≠ 0) := by
  refine Met.ofW (cc := cX10_dropEnd) (maxL := 3) (ret := (some .int)) (by decide) rfl ?_
  intro p e s m args below meth c s₁ B hml hv
  obtain ⟨rfl, hM, hK⟩ := hv
  have hx := B.exec
  have hb := B.bytes
  have hr := B.returns
  have hts : ∀ w ∈ TS, w.before ([.ref h0, .int p0] : List Value).toArray s = true := fun w hw => hK.2.1 w hw _
  have hown : s.vm.findClass RX10 = some m.cls := findClass_of_methodNamed B.named
  have hlocks := B.notSynchronized
  have hS : va_S (fun q : Nat => G q ≠ 0) s.heap s.heap [] := va_S.rf
  have hAz : ∀ q, (fun q : Nat => G q ≠ 0) q → z0 ≤ q := hGz
  have hl := lv_entry ([.ref h0, .int p0]) (n := 3) (Nat.le_of_ble_eq_true rfl)
  rw [lg_entry_eq]
  generalize (lg_sl ([.ref h0, .int p0]) ++ List.replicate (3 - (lg_sl ([.ref h0, .int p0])).length) Slot.unset).toArray = ls at hl ⊢
  have hl : lv_has ls 3 [(0, .ref h0), (1, .int p0)] := hl
  obtain ⟨n_1, hn_1, en_1⟩ := s_nat (x := p0) (by omega)
  have hd0 := hy1 n_1 (by omega)
  refine lv_aload_n hx hb dX10_dropEnd_0 rfl (lv_at hl 0 rfl) ?_
  refine va_get (D := DG E) (ci := 10) (v := .ref (rf 8)) (C := RX10) (T := TX10) (N := 49) hx hb hts iw_X10 hown hK.1 (va_one hM.1) 0 rfl rfl 8 (by decide) (hts _ fl_X10_22) (fun _ h9 => h9) rfl dX10_dropEnd_1 ?_
  refine lv_iload_n hx hb dX10_dropEnd_4 rfl (lv_at hl 1 rfl) ?_
  refine lv_dup2_11 hx hb dX10_dropEnd_5 rfl rfl ?_
  have hi_2 : vp_in p0 2 := vp_in_iff.mpr (by omega)
  have ha_3 : va_at (DG E) vwCl (rf 8, .inl (E.2.2 0, 2, .inl (A 8))) _ := hM.2 8 (by decide) (by decide) (by decide)
  refine va_iald (D := DG E) hx hb hK.1 (va_one ha_3) 0 0 rfl rfl hi_2 dX10_dropEnd_6 ?_
  refine W.eq (g2 := F0 m 7 ls [.int ((A 8) n_1), .int p0, .ref (rf 8)]) (by rw [en_1]) ?_
  have hk_4 : n_1 < 2 := by omega
  have q_5 : 0 ≤ ((A 8) n_1).toInt := (hI3 n_1 hk_4).1
  have q_6 : ((A 8) n_1).toInt ≤ 16 := (hI3 n_1 hk_4).2
  refine lv_iconst (v := 1) hx hb dX10_dropEnd_7 (by decide) ?_
  refine lv_isub hx hb dX10_dropEnd_8 ?_
  refine lv_topi (fun x_7 ex_7 => ?_)
  have fx_7 : x_7.toInt = ((A 8) n_1).toInt - 1 := by have h9 := s_sub (x := ((A 8) n_1)) (y := 1) (by rw [i_1]; omega) (by rw [i_1]; omega); rw [i_1] at h9; rw [ex_7]; exact h9
  have ha_8 : va_at (DG E) vwCl (rf 8, .inl (E.2.2 0, 2, .inl (A 8))) _ := hM.2 8 (by decide) (by decide) (by decide)
  refine rr_iast (D := DG E) hx hb hK.1 0 ha_8 hS (by show G (rf 8) ≠ 0; rw [hR.2 8 (by decide) (by decide) (by decide)]; decide) rfl hi_2 dX10_dropEnd_9 (fun H locs hn ho hz hS => ?_)
  rw [en_1] at hn
  obtain ⟨g_8, eg_8⟩ : ∃ z : Nat → Int32, z = upd (A 8) n_1 x_7 := ⟨_, rfl⟩
  have sg_8 : g_8 n_1 = x_7 := by rw [eg_8]; exact upd_s
  have ng_8 : ∀ k, k ≠ n_1 → g_8 k = (A 8) k := fun k hk => by rw [eg_8]; exact upd_n hk
  have hn : va_at (DG E) vwCl (rf 8, .inl (E.2.2 0, 2, .inl g_8)) H := by rw [eg_8]; exact hn
  have hM : MH E h0 rf t0 t1 t2 (uA A 8 g_8) cd pk H := hM.w hR 8 (by decide) (by decide) (by decide) hn ho
  refine lv_bipush (v := 80) hx hb dX10_dropEnd_10 (by decide) ?_
  refine lv_iload_n hx hb dX10_dropEnd_12 rfl (lv_at hl 1 rfl) ?_
  refine lv_imul hx hb dX10_dropEnd_13 ?_
  refine lv_topi (fun x_9 ex_9 => ?_)
  have fx_9 : x_9.toInt = 80 * p0.toInt := by rw [ex_9]; exact s_mulK i_80 (by omega) (by omega)
  refine lv_istore_n (lv' := [(2, .int x_9), (0, .ref h0), (1, .int p0)]) hx hb dX10_dropEnd_14 rfl hl (by decide) rfl (fun ls hl => ?_)
  have hX_11 : ∃ b : Nat, (b : Int) = x_9.toInt ∧ Sh5 (A 9) (A 9) (80 * n_1) b := ⟨80 * n_1, by omega, Sh5.z⟩
  refine lp_nat (fun n H locs ls => ∃ (ix_10 : Int32) (u_10 : (Nat → Int32)), (80 * p0.toInt ≤ ix_10.toInt ∧ ix_10.toInt ≤ 80 * p0.toInt + 5 * x_7.toInt) ∧ (80 * p0.toInt + 5 * x_7.toInt - ix_10.toInt).toNat = n ∧ MH E h0 rf t0 t1 t2 (uA (uA A 8 g_8) 9 u_10) cd pk H ∧ (∃ b : Nat, (b : Int) = ix_10.toInt ∧ Sh5 (A 9) u_10 (80 * n_1) b) ∧ va_S (fun q : Nat => G q ≠ 0) s.heap H locs ∧ lv_has ls 3 [(2, .int ix_10), (0, .ref h0), (1, .int p0)]) (fun n_10 H locs ls ih_10 hI => ?_) ⟨x_9, (A 9), (by first | omega | decide), rfl, (by show MH E h0 rf t0 t1 t2 (uA (uA A 8 g_8) 9 (A 9)) cd pk _; exact hM.cg9 rfl rfl rfl rfl rfl rfl rfl rfl rfl rfl rfl rfl rfl rfl rfl rfl rfl rfl rfl rfl rfl rfl rfl rfl rfl rfl rfl rfl rfl rfl rfl rfl rfl rfl rfl rfl rfl rfl rfl rfl rfl rfl rfl rfl), hX_11, hS, hl⟩
  obtain ⟨ix_10, u_10, hb_10, hn_10, hM, hx_10, hS, hl⟩ := hI
  refine lv_iload_n hx hb dX10_dropEnd_15 rfl (lv_at hl 0 rfl) ?_
  refine lv_bipush (v := 80) hx hb dX10_dropEnd_16 (by decide) ?_
  refine lv_iload_n hx hb dX10_dropEnd_18 rfl (lv_at hl 2 rfl) ?_
  refine lv_imul hx hb dX10_dropEnd_19 ?_
  refine W.eq (g2 := F0 m 20 ls [.int x_9, .int ix_10]) (by rw [ex_9]) ?_
  refine lv_iconst (v := 5) hx hb dX10_dropEnd_20 (by decide) ?_
  refine lv_aload_n hx hb dX10_dropEnd_21 rfl (lv_at hl 1 rfl) ?_
  refine va_get (D := DG E) (ci := 10) (v := .ref (rf 8)) (C := RX10) (T := TX10) (N := 49) hx hb hts iw_X10 hown hK.1 (va_one hM.1) 0 rfl rfl 8 (by decide) (hts _ fl_X10_22) (fun _ h9 => h9) rfl dX10_dropEnd_22 ?_
  refine lv_iload_n hx hb dX10_dropEnd_25 rfl (lv_at hl 2 rfl) ?_
  have ha_12 : va_at (DG E) vwCl (rf 8, .inl (E.2.2 0, 2, .inl g_8)) _ := hM.2 8 (by decide) (by decide) (by decide)
  refine va_iald (D := DG E) hx hb hK.1 (va_one ha_12) 0 0 rfl rfl hi_2 dX10_dropEnd_26 ?_
  refine W.eq (g2 := F0 m 27 ls [.int x_7, .int 5, .int x_9, .int ix_10]) (by rw [en_1, sg_8]) ?_
  refine lv_imul hx hb dX10_dropEnd_27 ?_
  refine lv_topi (fun x_13 ex_13 => ?_)
  have fx_13 : x_13.toInt = 5 * x_7.toInt := by rw [ex_13]; exact s_mulK i_5 (by omega) (by omega)
  refine lv_iadd hx hb dX10_dropEnd_28 ?_
  refine lv_topi (fun x_14 ex_14 => ?_)
  have fx_14 : x_14.toInt = x_9.toInt + x_13.toInt := by have h9 := s_add (x := x_9) (y := x_13) (by omega) (by omega); rw [ex_14]; exact h9
  refine lv_icmp_ge (tgt := 52) hx hb dX10_dropEnd_29 (by decide) (fun c_15 => ?_) (fun c_15 => ?_)
  · simp only [lt_I, le_I, eq_I, i_0, i_1, i_2, i_3, i_4, i_5, i_6, i_7, i_8, i_10, i_12, i_16, i_20, i_23, i_24, i_31, i_32, i_63, i_64, i_m1, i_9, i_11, i_13, i_25, i_60, i_75, i_79, i_80, i_96, i_100] at c_15
    refine lv_iconst (v := 0) hx hb dX10_dropEnd_52 (by decide) ?_
    have hI3_16 : I3 g_8 := by
      intro n9 hn9
      have h9 : 0 ≤ ((A 8) n9).toInt ∧ ((A 8) n9).toInt ≤ 16 := hI3 n9 hn9
      show 0 ≤ (g_8 n9).toInt ∧ (g_8 n9).toInt ≤ 16
      by_cases ezn_1 : n9 = n_1
      · rw [ezn_1] at h9 ⊢
        rw [sg_8]
        clear h9
        exact ⟨by omega, by omega⟩
      · rw [ng_8 n9 ezn_1]
        exact h9
    exact W.iret (v := 0) hx hb hr (fun t ht hW => ⟨⟨0, (g_8, u_10), rfl, ⟨hI3_16, ⟨n_1, hn_1, x_7, ex_7, fx_7, g_8, eg_8, x_9, ex_9, fx_9, ix_10, u_10, hb_10, hx_10, x_13, ex_13, fx_13, x_14, ex_14, fx_14, c_15, rfl, rfl, rfl, rfl⟩⟩, (by show MH E h0 rf t0 t1 t2 (uA (uA A 8 g_8) 9 u_10) cd pk t.heap; rw [ht]; exact hM)⟩, hS.F ht⟩) hS.2.2 dX10_dropEnd_53
  · simp only [lt_I, le_I, eq_I, i_0, i_1, i_2, i_3, i_4, i_5, i_6, i_7, i_8, i_10, i_12, i_16, i_20, i_23, i_24, i_31, i_32, i_63, i_64, i_m1, i_9, i_11, i_13, i_25, i_60, i_75, i_79, i_80, i_96, i_100] at c_15
    refine lv_aload_n hx hb dX10_dropEnd_32 rfl (lv_at hl 1 rfl) ?_
    refine va_get (D := DG E) (ci := 10) (v := .ref (rf 9)) (C := RX10) (T := TX10) (N := 49) hx hb hts iw_X10 hown hK.1 (va_one hM.1) 0 rfl rfl 9 (by decide) (hts _ fl_X10_25) (fun _ h9 => h9) rfl dX10_dropEnd_33 ?_
    refine lv_iload_n hx hb dX10_dropEnd_36 rfl (lv_at hl 0 rfl) ?_
    refine lv_aload_n hx hb dX10_dropEnd_37 rfl (lv_at hl 1 rfl) ?_
    refine va_get (D := DG E) (ci := 10) (v := .ref (rf 9)) (C := RX10) (T := TX10) (N := 49) hx hb hts iw_X10 hown hK.1 (va_one hM.1) 0 rfl rfl 9 (by decide) (hts _ fl_X10_25) (fun _ h9 => h9) rfl dX10_dropEnd_38 ?_
    refine lv_iload_n hx hb dX10_dropEnd_41 rfl (lv_at hl 0 rfl) ?_
    refine lv_iconst (v := 5) hx hb dX10_dropEnd_42 (by decide) ?_
    refine lv_iadd hx hb dX10_dropEnd_43 ?_
    refine lv_topi (fun x_17 ex_17 => ?_)
    have fx_17 : x_17.toInt = ix_10.toInt + 5 := by have h9 := s_add (x := ix_10) (y := 5) (by rw [i_5]; omega) (by rw [i_5]; omega); rw [i_5] at h9; rw [ex_17]; exact h9
    have hi_18 : vp_in x_17 160 := vp_in_iff.mpr (by omega)
    have ha_19 : va_at (DG E) vwCl (rf 9, .inl (E.2.2 0, 160, .inl u_10)) _ := hM.2 9 (by decide) (by decide) (by decide)
    obtain ⟨n_20, hn_20, en_20⟩ := s_nat (x := x_17) (by omega)
    refine va_iald (D := DG E) hx hb hK.1 (va_one ha_19) 0 0 rfl rfl hi_18 dX10_dropEnd_44 ?_
    refine W.eq (g2 := F0 m 45 ls [.int (u_10 n_20), .int ix_10, .ref (rf 9)]) (by rw [en_20]) ?_
    have hi_21 : vp_in ix_10 160 := vp_in_iff.mpr (by omega)
    have ha_22 : va_at (DG E) vwCl (rf 9, .inl (E.2.2 0, 160, .inl u_10)) _ := hM.2 9 (by decide) (by decide) (by decide)
    obtain ⟨n_23, hn_23, en_23⟩ := s_nat (x := ix_10) (by omega)
    refine rr_iast (D := DG E) hx hb hK.1 0 ha_22 hS (by show G (rf 9) ≠ 0; rw [hR.2 9 (by decide) (by decide) (by decide)]; decide) rfl hi_21 dX10_dropEnd_45 (fun H locs hn ho hz hS => ?_)
    rw [en_23] at hn
    obtain ⟨g_22, eg_22⟩ : ∃ z : Nat → Int32, z = upd u_10 n_23 (u_10 n_20) := ⟨_, rfl⟩
    have sg_22 : g_22 n_23 = (u_10 n_20) := by rw [eg_22]; exact upd_s
    have ng_22 : ∀ k, k ≠ n_23 → g_22 k = u_10 k := fun k hk => by rw [eg_22]; exact upd_n hk
    have hn : va_at (DG E) vwCl (rf 9, .inl (E.2.2 0, 160, .inl g_22)) H := by rw [eg_22]; exact hn
    have hM : MH E h0 rf t0 t1 t2 (uA (uA (uA A 8 g_8) 9 u_10) 9 g_22) cd pk H := hM.w hR 9 (by decide) (by decide) (by decide) hn ho
    obtain ⟨x_24, ex_24⟩ : ∃ z : Int32, ix_10 + Int32.ofInt 1 = z := ⟨_, rfl⟩
    have fx_24 : x_24.toInt = ix_10.toInt + 1 := by have h9 := s_add (x := ix_10) (y := 1) (by rw [i_1]; omega) (by rw [i_1]; omega); rw [i_1] at h9; rw [← ex_24]; exact h9
    refine lv_iinc (v := x_24) (lv' := [(2, .int x_24), (0, .ref h0), (1, .int p0)]) hx hb dX10_dropEnd_46 hl (k := 0) rfl ex_24 (by decide) rfl (fun ls hl => ?_)
    refine lv_goto (tgt := 15) hx hb dX10_dropEnd_49 (by decide) ?_
    obtain ⟨b9, hb9, s9⟩ := hx_10
    obtain rfl : b9 = n_23 := by omega
    have e9 : n_20 = b9 + 5 := by omega
    have hX_25 : ∃ b : Nat, (b : Int) = x_24.toInt ∧ Sh5 (A 9) g_22 (80 * n_1) b := ⟨b9 + 1, by omega, s9.s (by omega) (by rw [sg_22, e9]) (ng_22)⟩
    exact ih_10 _ (by omega) _ _ _ ⟨x_24, g_22, (by first | omega | decide), rfl, (by show MH E h0 rf t0 t1 t2 (uA (uA A 8 g_8) 9 g_22) cd pk _; exact hM.cg9 rfl rfl rfl rfl rfl rfl rfl rfl rfl rfl rfl rfl rfl rfl rfl rfl rfl rfl rfl rfl rfl rfl rfl rfl rfl rfl rfl rfl rfl rfl rfl rfl rfl rfl rfl rfl rfl rfl rfl rfl rfl rfl rfl rfl), hX_25, hS, hl⟩
theorem dX10_poll_0 : decode cX10_poll 0 = .ok (.aload_n 0, 1) := by decide +kernel
theorem dX10_poll_1 : decode cX10_poll 1 = .ok (.iconst 0, 1) := by decide +kernel
theorem dX10_poll_2 : decode cX10_poll 2 = .ok (.putfield 153, 3) := by decide +kernel
theorem dX10_poll_5 : decode cX10_poll 5 = .ok (.iload_n 1, 1) := by decide +kernel
theorem dX10_poll_6 : decode cX10_poll 6 = .ok (.iconst 1, 1) := by decide +kernel
theorem dX10_poll_7 : decode cX10_poll 7 = .ok (.invokestatic 156, 3) := by decide +kernel
theorem dX10_poll_10 : decode cX10_poll 10 = .ok (.ifCond .eq 13, 3) := by decide +kernel
theorem dX10_poll_13 : decode cX10_poll 13 = .ok (.iload_n 2, 1) := by decide +kernel
theorem dX10_poll_14 : decode cX10_poll 14 = .ok (.iconst (-1), 1) := by decide +kernel
theorem dX10_poll_15 : decode cX10_poll 15 = .ok (.if_icmp .lt 8, 3) := by decide +kernel
theorem dX10_poll_18 : decode cX10_poll 18 = .ok (.iload_n 2, 1) := by decide +kernel
theorem dX10_poll_19 : decode cX10_poll 19 = .ok (.iconst 4, 1) := by decide +kernel
theorem dX10_poll_20 : decode cX10_poll 20 = .ok (.if_icmp .le 9, 3) := by decide +kernel
theorem dX10_poll_23 : decode cX10_poll 23 = .ok (.aload_n 0, 1) := by decide +kernel
theorem dX10_poll_24 : decode cX10_poll 24 = .ok (.iconst 1, 1) := by decide +kernel
theorem dX10_poll_25 : decode cX10_poll 25 = .ok (.invokevirtual 185, 3) := by decide +kernel
theorem dX10_poll_28 : decode cX10_poll 28 = .ok (.ireturn, 1) := by decide +kernel
theorem dX10_poll_29 : decode cX10_poll 29 = .ok (.aload_n 0, 1) := by decide +kernel
theorem dX10_poll_30 : decode cX10_poll 30 = .ok (.getfield 22, 3) := by decide +kernel
theorem dX10_poll_33 : decode cX10_poll 33 = .ok (.iload_n 1, 1) := by decide +kernel
theorem dX10_poll_34 : decode cX10_poll 34 = .ok (.iaload, 1) := by decide +kernel
theorem dX10_poll_35 : decode cX10_poll 35 = .ok (.ifCond .ne 9, 3) := by decide +kernel
theorem dX10_poll_38 : decode cX10_poll 38 = .ok (.aload_n 0, 1) := by decide +kernel
theorem dX10_poll_39 : decode cX10_poll 39 = .ok (.iconst 2, 1) := by decide +kernel
theorem dX10_poll_40 : decode cX10_poll 40 = .ok (.invokevirtual 185, 3) := by decide +kernel
theorem dX10_poll_43 : decode cX10_poll 43 = .ok (.ireturn, 1) := by decide +kernel
theorem dX10_poll_44 : decode cX10_poll 44 = .ok (.iload_n 2, 1) := by decide +kernel
theorem dX10_poll_45 : decode cX10_poll 45 = .ok (.ifCond .ge 11, 3) := by decide +kernel
theorem dX10_poll_48 : decode cX10_poll 48 = .ok (.aload_n 0, 1) := by decide +kernel
theorem dX10_poll_49 : decode cX10_poll 49 = .ok (.iload_n 1, 1) := by decide +kernel
theorem dX10_poll_50 : decode cX10_poll 50 = .ok (.invokevirtual 280, 3) := by decide +kernel
theorem dX10_poll_53 : decode cX10_poll 53 = .ok (.goto 14, 3) := by decide +kernel
theorem dX10_poll_56 : decode cX10_poll 56 = .ok (.aload_n 0, 1) := by decide +kernel
theorem dX10_poll_57 : decode cX10_poll 57 = .ok (.getfield 25, 3) := by decide +kernel
theorem dX10_poll_60 : decode cX10_poll 60 = .ok (.bipush 80, 2) := by decide +kernel
theorem dX10_poll_62 : decode cX10_poll 62 = .ok (.iload_n 1, 1) := by decide +kernel
theorem dX10_poll_63 : decode cX10_poll 63 = .ok (.imul, 1) := by decide +kernel
theorem dX10_poll_64 : decode cX10_poll 64 = .ok (.iload_n 2, 1) := by decide +kernel
theorem dX10_poll_65 : decode cX10_poll 65 = .ok (.iadd, 1) := by decide +kernel
theorem dX10_poll_66 : decode cX10_poll 66 = .ok (.iaload, 1) := by decide +kernel
theorem dX10_poll_67 : decode cX10_poll 67 = .ok (.ireturn, 1) := by decide +kernel
set_option maxHeartbeats 8000000 in
set_option maxRecDepth 100000 in
theorem u_X10_poll (l : Launch) (E : EE) (z0 : Nat) (G : Nat → Nat) (hGz : ∀ q, G q ≠ 0 → z0 ≤ q) (h0 : Nat) (rf : Nat → Nat) (hR : MG G h0 rf) (t0 t1 t2 : Int32) (A : AA) (cd pk : Int32) (p0 : Int32) (p1 : Int32) (hI3 : I3 (A 8)) : Met l yX10_poll [Cond.code yX10_poll cX10_poll 3 (some .int)] ({ frames := 1, cells := 0, slots := 0, locals := 22 } : Room) (va_Pc [.ref h0, .int p0, .int p1] (fun U => MH E h0 rf t0 t1 t2 A cd pk U.heap ∧ KS E z0 U)) (va_Qi (fun (r : Int32) (u : (Nat → Int32) × (Nat → Int32) × Int32) => (I3 (u.1)) ∧ (D_X10_poll A cd pk p0 p1 (uA (uA A 8 (u.1)) 9 (u.2.1)) (u.2.2) pk r)) (fun u t => MH E h0 rf t0 t1 t2 (uA (uA A 8 (u.1)) 9 (u.2.1)) (u.2.2) pk t.heap) (fun q : Nat => G q ≠ 0)) 0 0 (fun q : Nat => G q ≠ 0) := by
  refine Met.ofW (cc := cX10_poll) (maxL := 3) (ret := (some .int)) (by decide) rfl ?_
  intro p e s m args below meth c s₁ B hml hv
  obtain ⟨rfl, hM, hK⟩ := hv
  have hx := B.exec
  have hb := B.bytes
  have hr := B.returns
  have hts : ∀ w ∈ TS, w.before ([.ref h0, .int p0, .int p1] : List Value).toArray s = true := fun w hw => hK.2.1 w hw _
  have hown : s.vm.findClass RX10 = some m.cls := findClass_of_methodNamed B.named
  have hlocks := B.notSynchronized
  have hS : va_S (fun q : Nat => G q ≠ 0) s.heap s.heap [] := va_S.rf
  have hAz : ∀ q, (fun q : Nat => G q ≠ 0) q → z0 ≤ q := hGz
  have hl := lv_entry ([.ref h0, .int p0, .int p1]) (n := 3) (Nat.le_of_ble_eq_true rfl)
  rw [lg_entry_eq]
  generalize (lg_sl ([.ref h0, .int p0, .int p1]) ++ List.replicate (3 - (lg_sl ([.ref h0, .int p0, .int p1])).length) Slot.unset).toArray = ls at hl ⊢
  have hl : lv_has ls 3 [(0, .ref h0), (1, .int p0), (2, .int p1)] := hl
  refine lv_aload_n hx hb dX10_poll_0 rfl (lv_at hl 0 rfl) ?_
  refine lv_iconst (v := 0) hx hb dX10_poll_1 (by decide) ?_
  refine rr_put (D := DG E) (ci := 10) (v := .int 0) (ty := .int) (C := RX10) (T := TX10) (N := 49) hx hb hts iw_X10 tyX10 tyX10_ok nmX10 hown hK.1 hM.1 hS (by show G h0 ≠ 0; rw [hR.1]; decide) rfl 3 (by decide) (hts _ fl_X10_153) (fun _ h9 => h9) rfl (by decide +kernel) rfl rfl (Nat.le_of_ble_eq_true rfl) dX10_poll_2 (fun H locs hn ho hz hS => ?_)
  have hM : MH E h0 rf t0 t1 t2 A 0 pk H := hM.sc hR hn ho
  refine lv_iload_n hx hb dX10_poll_5 rfl (lv_at hl 1 rfl) ?_
  refine lv_iconst (v := 1) hx hb dX10_poll_6 (by decide) ?_
  refine W.callR (W.runS (As := [.int p0, .int 1]) (rest := []) ⟨hx, hb, hml, hown, hts⟩ (c_X10_within l p0 1) (cwS 2 hts (gdS ml_X10_156 st_X10_within in_X10 co_X10_within rfl) rfl rfl rfl (by decide +kernel) ⟨Nat.le_of_ble_eq_true rfl, Nat.le_of_ble_eq_true rfl⟩) preEq rfl rfl hl.1 rfl (lv_room (Nat.le_of_ble_eq_true rfl)) dX10_poll_7 ⟨Nat.le_of_ble_eq_true rfl, Nat.le_of_ble_eq_true rfl⟩) ?_
  refine W.eq (g2 := F0 m 10 ls [.int (bI (0 ≤ p0.toInt ∧ p0.toInt ≤ (1 : Int32).toInt))]) (by rfl) ?_
  refine lv_if_eq (tgt := 23) hx hb dX10_poll_10 (by decide) (fun c_1 => ?_) (fun c_1 => ?_)
  · have c_1 := bI_0 c_1
    have c_1r := c_1
    try simp only [lt_I, le_I, eq_I, i_0, i_1, i_2, i_3, i_4, i_5, i_6, i_7, i_8, i_10, i_12, i_16, i_20, i_23, i_24, i_31, i_32, i_63, i_64, i_m1, i_9, i_11, i_13, i_25, i_60, i_75, i_79, i_80, i_96, i_100] at c_1
    refine lv_aload_n hx hb dX10_poll_23 rfl (lv_at hl 0 rfl) ?_
    refine lv_iconst (v := 1) hx hb dX10_poll_24 (by decide) ?_
    refine va_calli (rnV (fun H => MH E h0 rf t0 t1 t2 A 0 pk H) (As := [.int 1]) (rest := []) ⟨hx, hb, hml, hown, hts⟩ (u_X10_fail l E z0 G hGz h0 rf hR t0 t1 t2 A 0 pk 1) (cwV 1 hts (gdV ml_X10_185 im_X10_fail se_X10_X10_fail in_X10 co_X10_fail rfl) rfl rfl rfl (by decide +kernel) ⟨Nat.le_of_ble_eq_true rfl, Nat.le_of_ble_eq_true rfl⟩) hM (fun U hU hW => hK.go hW hS hAz hU) (va_recv hK.1 (va_one hM.1) (ci := 10) (q0 := 0) rfl rfl) rfl rfl hl.1 rfl (lv_room (Nat.le_of_ble_eq_true rfl)) dX10_poll_25 ⟨Nat.le_of_ble_eq_true rfl, Nat.le_of_ble_eq_true rfl⟩) hS (fun q _ h => h) (fun q h => h) (fun r_2 ur_2 t H locs ht hvm hwr_2 hB hz hk hS => ?_)
    have hM : MH E h0 rf t0 t1 t2 A ur_2 pk H := by rw [ht] at hB; exact hB
    have hDr_2 : D_X10_fail A (0 : Int32) pk (1 : Int32) A ur_2 pk r_2 := hwr_2.2
    have hpr_2_0 : ur_2 = (1 : Int32) := hwr_2.1
    have := i_1
    exact W.iret (v := r_2) hx hb hr (fun t ht hW => ⟨⟨r_2, ((A 8), (A 9), ur_2), rfl, ⟨hI3, (Or.inl ⟨c_1r, ur_2, r_2, hDr_2, hpr_2_0, rfl, rfl, rfl, rfl⟩)⟩, (by show MH E h0 rf t0 t1 t2 (uA (uA A 8 (A 8)) 9 (A 9)) ur_2 pk t.heap; rw [ht]; exact hM.cg9 rfl rfl rfl rfl rfl rfl rfl rfl rfl rfl rfl rfl rfl rfl rfl rfl rfl rfl rfl rfl rfl rfl rfl rfl rfl rfl rfl rfl rfl rfl rfl rfl rfl rfl rfl rfl rfl rfl rfl rfl rfl rfl rfl rfl)⟩, hS.F ht⟩) hS.2.2 dX10_poll_28
  · have c_1 := bI_n c_1
    have c_1r := c_1
    try simp only [lt_I, le_I, eq_I, i_0, i_1, i_2, i_3, i_4, i_5, i_6, i_7, i_8, i_10, i_12, i_16, i_20, i_23, i_24, i_31, i_32, i_63, i_64, i_m1, i_9, i_11, i_13, i_25, i_60, i_75, i_79, i_80, i_96, i_100] at c_1
    refine lv_iload_n hx hb dX10_poll_13 rfl (lv_at hl 2 rfl) ?_
    refine lv_iconst (v := (-1)) hx hb dX10_poll_14 (by decide) ?_
    refine lv_icmp_lt (tgt := 23) hx hb dX10_poll_15 (by decide) (fun c_3 => ?_) (fun c_3 => ?_)
    · simp only [lt_I, le_I, eq_I, i_0, i_1, i_2, i_3, i_4, i_5, i_6, i_7, i_8, i_10, i_12, i_16, i_20, i_23, i_24, i_31, i_32, i_63, i_64, i_m1, i_9, i_11, i_13, i_25, i_60, i_75, i_79, i_80, i_96, i_100] at c_3
      refine lv_aload_n hx hb dX10_poll_23 rfl (lv_at hl 0 rfl) ?_
      refine lv_iconst (v := 1) hx hb dX10_poll_24 (by decide) ?_
      refine va_calli (rnV (fun H => MH E h0 rf t0 t1 t2 A 0 pk H) (As := [.int 1]) (rest := []) ⟨hx, hb, hml, hown, hts⟩ (u_X10_fail l E z0 G hGz h0 rf hR t0 t1 t2 A 0 pk 1) (cwV 1 hts (gdV ml_X10_185 im_X10_fail se_X10_X10_fail in_X10 co_X10_fail rfl) rfl rfl rfl (by decide +kernel) ⟨Nat.le_of_ble_eq_true rfl, Nat.le_of_ble_eq_true rfl⟩) hM (fun U hU hW => hK.go hW hS hAz hU) (va_recv hK.1 (va_one hM.1) (ci := 10) (q0 := 0) rfl rfl) rfl rfl hl.1 rfl (lv_room (Nat.le_of_ble_eq_true rfl)) dX10_poll_25 ⟨Nat.le_of_ble_eq_true rfl, Nat.le_of_ble_eq_true rfl⟩) hS (fun q _ h => h) (fun q h => h) (fun r_4 ur_4 t H locs ht hvm hwr_4 hB hz hk hS => ?_)
      have hM : MH E h0 rf t0 t1 t2 A ur_4 pk H := by rw [ht] at hB; exact hB
      have hDr_4 : D_X10_fail A (0 : Int32) pk (1 : Int32) A ur_4 pk r_4 := hwr_4.2
      have hpr_4_0 : ur_4 = (1 : Int32) := hwr_4.1
      have := i_1
      exact W.iret (v := r_4) hx hb hr (fun t ht hW => ⟨⟨r_4, ((A 8), (A 9), ur_4), rfl, ⟨hI3, (Or.inr (Or.inl ⟨c_1r, c_3, ur_4, r_4, hDr_4, hpr_4_0, rfl, rfl, rfl, rfl⟩))⟩, (by show MH E h0 rf t0 t1 t2 (uA (uA A 8 (A 8)) 9 (A 9)) ur_4 pk t.heap; rw [ht]; exact hM.cg9 rfl rfl rfl rfl rfl rfl rfl rfl rfl rfl rfl rfl rfl rfl rfl rfl rfl rfl rfl rfl rfl rfl rfl rfl rfl rfl rfl rfl rfl rfl rfl rfl rfl rfl rfl rfl rfl rfl rfl rfl rfl rfl rfl rfl)⟩, hS.F ht⟩) hS.2.2 dX10_poll_28
    · simp only [lt_I, le_I, eq_I, i_0, i_1, i_2, i_3, i_4, i_5, i_6, i_7, i_8, i_10, i_12, i_16, i_20, i_23, i_24, i_31, i_32, i_63, i_64, i_m1, i_9, i_11, i_13, i_25, i_60, i_75, i_79, i_80, i_96, i_100] at c_3
      refine lv_iload_n hx hb dX10_poll_18 rfl (lv_at hl 2 rfl) ?_
      refine lv_iconst (v := 4) hx hb dX10_poll_19 (by decide) ?_
      refine lv_icmp_le (tgt := 29) hx hb dX10_poll_20 (by decide) (fun c_5 => ?_) (fun c_5 => ?_)
      · simp only [lt_I, le_I, eq_I, i_0, i_1, i_2, i_3, i_4, i_5, i_6, i_7, i_8, i_10, i_12, i_16, i_20, i_23, i_24, i_31, i_32, i_63, i_64, i_m1, i_9, i_11, i_13, i_25, i_60, i_75, i_79, i_80, i_96, i_100] at c_5
        refine lv_aload_n hx hb dX10_poll_29 rfl (lv_at hl 0 rfl) ?_
        refine va_get (D := DG E) (ci := 10) (v := .ref (rf 8)) (C := RX10) (T := TX10) (N := 49) hx hb hts iw_X10 hown hK.1 (va_one hM.1) 0 rfl rfl 8 (by decide) (hts _ fl_X10_22) (fun _ h9 => h9) rfl dX10_poll_30 ?_
        refine lv_iload_n hx hb dX10_poll_33 rfl (lv_at hl 1 rfl) ?_
        have hi_6 : vp_in p0 2 := vp_in_iff.mpr (by omega)
        have ha_7 : va_at (DG E) vwCl (rf 8, .inl (E.2.2 0, 2, .inl (A 8))) _ := hM.2 8 (by decide) (by decide) (by decide)
        obtain ⟨n_8, hn_8, en_8⟩ := s_nat (x := p0) (by omega)
        refine va_iald (D := DG E) hx hb hK.1 (va_one ha_7) 0 0 rfl rfl hi_6 dX10_poll_34 ?_
        refine W.eq (g2 := F0 m 35 ls [.int ((A 8) n_8)]) (by rw [en_8]) ?_
        have hk_9 : n_8 < 2 := by omega
        have q_10 : 0 ≤ ((A 8) n_8).toInt := (hI3 n_8 hk_9).1
        have q_11 : ((A 8) n_8).toInt ≤ 16 := (hI3 n_8 hk_9).2
        refine lv_if_ne (tgt := 44) hx hb dX10_poll_35 (by decide) (fun c_12 => ?_) (fun c_12 => ?_)
        · simp only [lt_I, le_I, eq_I, i_0, i_1, i_2, i_3, i_4, i_5, i_6, i_7, i_8, i_10, i_12, i_16, i_20, i_23, i_24, i_31, i_32, i_63, i_64, i_m1, i_9, i_11, i_13, i_25, i_60, i_75, i_79, i_80, i_96, i_100] at c_12
          refine lv_iload_n hx hb dX10_poll_44 rfl (lv_at hl 2 rfl) ?_
          refine lv_if_ge (tgt := 56) hx hb dX10_poll_45 (by decide) (fun c_13 => ?_) (fun c_13 => ?_)
          · simp only [lt_I, le_I, eq_I, i_0, i_1, i_2, i_3, i_4, i_5, i_6, i_7, i_8, i_10, i_12, i_16, i_20, i_23, i_24, i_31, i_32, i_63, i_64, i_m1, i_9, i_11, i_13, i_25, i_60, i_75, i_79, i_80, i_96, i_100] at c_13
            refine lv_aload_n hx hb dX10_poll_56 rfl (lv_at hl 0 rfl) ?_
            refine va_get (D := DG E) (ci := 10) (v := .ref (rf 9)) (C := RX10) (T := TX10) (N := 49) hx hb hts iw_X10 hown hK.1 (va_one hM.1) 0 rfl rfl 9 (by decide) (hts _ fl_X10_25) (fun _ h9 => h9) rfl dX10_poll_57 ?_
            refine lv_bipush (v := 80) hx hb dX10_poll_60 (by decide) ?_
            refine lv_iload_n hx hb dX10_poll_62 rfl (lv_at hl 1 rfl) ?_
            refine lv_imul hx hb dX10_poll_63 ?_
            refine lv_topi (fun x_14 ex_14 => ?_)
            have fx_14 : x_14.toInt = 80 * p0.toInt := by rw [ex_14]; exact s_mulK i_80 (by omega) (by omega)
            refine lv_iload_n hx hb dX10_poll_64 rfl (lv_at hl 2 rfl) ?_
            refine lv_iadd hx hb dX10_poll_65 ?_
            refine lv_topi (fun x_15 ex_15 => ?_)
            have fx_15 : x_15.toInt = x_14.toInt + p1.toInt := by have h9 := s_add (x := x_14) (y := p1) (by omega) (by omega); rw [ex_15]; exact h9
            have hi_16 : vp_in x_15 160 := vp_in_iff.mpr (by omega)
            have ha_17 : va_at (DG E) vwCl (rf 9, .inl (E.2.2 0, 160, .inl (A 9))) _ := hM.2 9 (by decide) (by decide) (by decide)
            obtain ⟨n_18, hn_18, en_18⟩ := s_nat (x := x_15) (by omega)
            refine va_iald (D := DG E) hx hb hK.1 (va_one ha_17) 0 0 rfl rfl hi_16 dX10_poll_66 ?_
            refine W.eq (g2 := F0 m 67 ls [.int ((A 9) n_18)]) (by rw [en_18]) ?_
            exact W.iret (v := ((A 9) n_18)) hx hb hr (fun t ht hW => ⟨⟨((A 9) n_18), ((A 8), (A 9), 0), rfl, ⟨hI3, (Or.inr (Or.inr (Or.inl ⟨c_1r, c_3, c_5, n_8, hn_8, c_12, c_13, x_14, ex_14, fx_14, x_15, ex_15, fx_15, n_18, hn_18, rfl, rfl, rfl, rfl⟩)))⟩, (by show MH E h0 rf t0 t1 t2 (uA (uA A 8 (A 8)) 9 (A 9)) 0 pk t.heap; rw [ht]; exact hM.cg9 rfl rfl rfl rfl rfl rfl rfl rfl rfl rfl rfl rfl rfl rfl rfl rfl rfl rfl rfl rfl rfl rfl rfl rfl rfl rfl rfl rfl rfl rfl rfl rfl rfl rfl rfl rfl rfl rfl rfl rfl rfl rfl rfl rfl)⟩, hS.F ht⟩) hS.2.2 dX10_poll_67
          · simp only [lt_I, le_I, eq_I, i_0, i_1, i_2, i_3, i_4, i_5, i_6, i_7, i_8, i_10, i_12, i_16, i_20, i_23, i_24, i_31, i_32, i_63, i_64, i_m1, i_9, i_11, i_13, i_25, i_60, i_75, i_79, i_80, i_96, i_100] at c_13
            refine lv_aload_n hx hb dX10_poll_48 rfl (lv_at hl 0 rfl) ?_
            refine lv_iload_n hx hb dX10_poll_49 rfl (lv_at hl 1 rfl) ?_
            refine va_calli (rnV (fun H => MH E h0 rf t0 t1 t2 A 0 pk H) (As := [.int p0]) (rest := []) ⟨hx, hb, hml, hown, hts⟩ (u_X10_dropEnd l E z0 G hGz h0 rf hR t0 t1 t2 A 0 pk p0 hI3 (show 0 ≤ p0.toInt ∧ p0.toInt ≤ 1 from by first | decide | omega) (show ∀ n : Nat, (n : Int) = p0.toInt → 1 ≤ ((A 8) n).toInt from (fun n hn => by
        obtain rfl : n_8 = n := by omega
        omega))) (cwV 1 hts (gdV ml_X10_280 im_X10_dropEnd se_X10_X10_dropEnd in_X10 co_X10_dropEnd rfl) rfl rfl rfl (by decide +kernel) ⟨Nat.le_of_ble_eq_true rfl, Nat.le_of_ble_eq_true rfl⟩) hM (fun U hU hW => hK.go hW hS hAz hU) (va_recv hK.1 (va_one hM.1) (ci := 10) (q0 := 0) rfl rfl) rfl rfl hl.1 rfl (lv_room (Nat.le_of_ble_eq_true rfl)) dX10_poll_50 ⟨Nat.le_of_ble_eq_true rfl, Nat.le_of_ble_eq_true rfl⟩) hS (fun q _ h => h) (fun q h => h) (fun r_19 ur_19 t H locs ht hvm hwr_19 hB hz hk hS => ?_)
            have hM : MH E h0 rf t0 t1 t2 (uA (uA A 8 (ur_19.1)) 9 (ur_19.2)) 0 pk H := by rw [ht] at hB; exact hB
            have hDr_19 : D_X10_dropEnd A (0 : Int32) pk p0 (uA (uA A 8 (ur_19.1)) 9 (ur_19.2)) (0 : Int32) pk r_19 := hwr_19.2
            have hpr_19_0 : I3 (ur_19.1) := hwr_19.1
            refine lv_goto (tgt := 67) hx hb dX10_poll_53 (by decide) ?_
            exact W.iret (v := r_19) hx hb hr (fun t ht hW => ⟨⟨r_19, ((ur_19.1), (ur_19.2), 0), rfl, ⟨hpr_19_0, (Or.inr (Or.inr (Or.inr (Or.inl ⟨c_1r, c_3, c_5, n_8, hn_8, c_12, c_13, ur_19, r_19, hDr_19, hpr_19_0, rfl, rfl, rfl, rfl⟩))))⟩, (by show MH E h0 rf t0 t1 t2 (uA (uA A 8 (ur_19.1)) 9 (ur_19.2)) 0 pk t.heap; rw [ht]; exact hM)⟩, hS.F ht⟩) hS.2.2 dX10_poll_67
        · simp only [lt_I, le_I, eq_I, i_0, i_1, i_2, i_3, i_4, i_5, i_6, i_7, i_8, i_10, i_12, i_16, i_20, i_23, i_24, i_31, i_32, i_63, i_64, i_m1, i_9, i_11, i_13, i_25, i_60, i_75, i_79, i_80, i_96, i_100] at c_12
          refine lv_aload_n hx hb dX10_poll_38 rfl (lv_at hl 0 rfl) ?_
          refine lv_iconst (v := 2) hx hb dX10_poll_39 (by decide) ?_
          refine va_calli (rnV (fun H => MH E h0 rf t0 t1 t2 A 0 pk H) (As := [.int 2]) (rest := []) ⟨hx, hb, hml, hown, hts⟩ (u_X10_fail l E z0 G hGz h0 rf hR t0 t1 t2 A 0 pk 2) (cwV 1 hts (gdV ml_X10_185 im_X10_fail se_X10_X10_fail in_X10 co_X10_fail rfl) rfl rfl rfl (by decide +kernel) ⟨Nat.le_of_ble_eq_true rfl, Nat.le_of_ble_eq_true rfl⟩) hM (fun U hU hW => hK.go hW hS hAz hU) (va_recv hK.1 (va_one hM.1) (ci := 10) (q0 := 0) rfl rfl) rfl rfl hl.1 rfl (lv_room (Nat.le_of_ble_eq_true rfl)) dX10_poll_40 ⟨Nat.le_of_ble_eq_true rfl, Nat.le_of_ble_eq_true rfl⟩) hS (fun q _ h => h) (fun q h => h) (fun r_20 ur_20 t H locs ht hvm hwr_20 hB hz hk hS => ?_)
          have hM : MH E h0 rf t0 t1 t2 A ur_20 pk H := by rw [ht] at hB; exact hB
          have hDr_20 : D_X10_fail A (0 : Int32) pk (2 : Int32) A ur_20 pk r_20 := hwr_20.2
          have hpr_20_0 : ur_20 = (2 : Int32) := hwr_20.1
          have := i_2
          exact W.iret (v := r_20) hx hb hr (fun t ht hW => ⟨⟨r_20, ((A 8), (A 9), ur_20), rfl, ⟨hI3, (Or.inr (Or.inr (Or.inr (Or.inr (Or.inl ⟨c_1r, c_3, c_5, n_8, hn_8, c_12, ur_20, r_20, hDr_20, hpr_20_0, rfl, rfl, rfl, rfl⟩)))))⟩, (by show MH E h0 rf t0 t1 t2 (uA (uA A 8 (A 8)) 9 (A 9)) ur_20 pk t.heap; rw [ht]; exact hM.cg9 rfl rfl rfl rfl rfl rfl rfl rfl rfl rfl rfl rfl rfl rfl rfl rfl rfl rfl rfl rfl rfl rfl rfl rfl rfl rfl rfl rfl rfl rfl rfl rfl rfl rfl rfl rfl rfl rfl rfl rfl rfl rfl rfl rfl)⟩, hS.F ht⟩) hS.2.2 dX10_poll_43
      · simp only [lt_I, le_I, eq_I, i_0, i_1, i_2, i_3, i_4, i_5, i_6, i_7, i_8, i_10, i_12, i_16, i_20, i_23, i_24, i_31, i_32, i_63, i_64, i_m1, i_9, i_11, i_13, i_25, i_60, i_75, i_79, i_80, i_96, i_100] at c_5
        refine lv_aload_n hx hb dX10_poll_23 rfl (lv_at hl 0 rfl) ?_
        refine lv_iconst (v := 1) hx hb dX10_poll_24 (by decide) ?_
        refine va_calli (rnV (fun H => MH E h0 rf t0 t1 t2 A 0 pk H) (As := [.int 1]) (rest := []) ⟨hx, hb, hml, hown, hts⟩ (u_X10_fail l E z0 G hGz h0 rf hR t0 t1 t2 A 0 pk 1) (cwV 1 hts (gdV ml_X10_185 im_X10_fail se_X10_X10_fail in_X10 co_X10_fail rfl) rfl rfl rfl (by decide +kernel) ⟨Nat.le_of_ble_eq_true rfl, Nat.le_of_ble_eq_true rfl⟩) hM (fun U hU hW => hK.go hW hS hAz hU) (va_recv hK.1 (va_one hM.1) (ci := 10) (q0 := 0) rfl rfl) rfl rfl hl.1 rfl (lv_room (Nat.le_of_ble_eq_true rfl)) dX10_poll_25 ⟨Nat.le_of_ble_eq_true rfl, Nat.le_of_ble_eq_true rfl⟩) hS (fun q _ h => h) (fun q h => h) (fun r_21 ur_21 t H locs ht hvm hwr_21 hB hz hk hS => ?_)
        have hM : MH E h0 rf t0 t1 t2 A ur_21 pk H := by rw [ht] at hB; exact hB
        have hDr_21 : D_X10_fail A (0 : Int32) pk (1 : Int32) A ur_21 pk r_21 := hwr_21.2
        have hpr_21_0 : ur_21 = (1 : Int32) := hwr_21.1
        have := i_1
        exact W.iret (v := r_21) hx hb hr (fun t ht hW => ⟨⟨r_21, ((A 8), (A 9), ur_21), rfl, ⟨hI3, (Or.inr (Or.inr (Or.inr (Or.inr (Or.inr ⟨c_1r, c_3, c_5, ur_21, r_21, hDr_21, hpr_21_0, rfl, rfl, rfl, rfl⟩)))))⟩, (by show MH E h0 rf t0 t1 t2 (uA (uA A 8 (A 8)) 9 (A 9)) ur_21 pk t.heap; rw [ht]; exact hM.cg9 rfl rfl rfl rfl rfl rfl rfl rfl rfl rfl rfl rfl rfl rfl rfl rfl rfl rfl rfl rfl rfl rfl rfl rfl rfl rfl rfl rfl rfl rfl rfl rfl rfl rfl rfl rfl rfl rfl rfl rfl rfl rfl rfl rfl)⟩, hS.F ht⟩) hS.2.2 dX10_poll_28

