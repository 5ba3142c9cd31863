theorem dX10_within_0 : decode cX10_within 0 = .ok (.iload_n 0, 1) := by decide +kernel
theorem dX10_within_1 : decode cX10_within 1 = .ok (.ifCond .lt 12, 3) := by decide +kernel
theorem dX10_within_4 : decode cX10_within 4 = .ok (.iload_n 0, 1) := by decide +kernel
theorem dX10_within_5 : decode cX10_within 5 = .ok (.iload_n 1, 1) := by decide +kernel
theorem dX10_within_6 : decode cX10_within 6 = .ok (.if_icmp .gt 7, 3) := by decide +kernel
theorem dX10_within_9 : decode cX10_within 9 = .ok (.iconst 1, 1) := by decide +kernel
theorem dX10_within_10 : decode cX10_within 10 = .ok (.goto 4, 3) := by decide +kernel
theorem dX10_within_13 : decode cX10_within 13 = .ok (.iconst 0, 1) := by decide +kernel
theorem dX10_within_14 : decode cX10_within 14 = .ok (.ireturn, 1) := by decide +kernel
set_option maxHeartbeats 4000000 in
set_option maxRecDepth 100000 in
theorem c_X10_within (l : Launch) (p0 p1 : Int32) : Met l yX10_within [Cond.code yX10_within cX10_within 2 (some .boolean)] ({ frames := 0, cells := 0, slots := 0, locals := 0 } : Room) (fun v _ => v = ([.int p0, .int p1] : List Value).toArray) (QcRead (bI (0 ≤ p0.toInt ∧ p0.toInt ≤ (p1 : Int32).toInt))) 0 0 (fun _ => False) := by
  refine Met.ofW (cc := cX10_within) (maxL := 2) (ret := (some .boolean)) (by decide) rfl ?_
  intro p e s m args below meth c s₁ B hml hv
  subst hv
  have hx := B.exec
  have hb := B.bytes
  have hr := B.returns
  have hlocks := B.notSynchronized
  have hl := lv_entry ([.int p0, .int p1]) (n := 2) (Nat.le_of_ble_eq_true rfl)
  rw [lg_entry_eq]
  generalize (lg_sl ([.int p0, .int p1]) ++ List.replicate (2 - (lg_sl ([.int p0, .int p1])).length) Slot.unset).toArray = ls at hl ⊢
  have hl : lv_has ls 2 [(0, .int p0), (1, .int p1)] := hl
  refine lv_iload_n hx hb dX10_within_0 rfl (lv_at hl 0 rfl) ?_
  refine lv_if_lt (tgt := 13) hx hb dX10_within_1 (by decide) (fun c_1 => ?_) (fun c_1 => ?_)
  · simp only [lt_I, le_I, eq_I, i_0, i_1, i_2, i_3, i_4, i_5, i_6, i_7, i_8, i_10, i_12, i_16, i_20, i_23, i_24, i_31, i_32, i_63, i_64, i_m1] at c_1
    refine lv_iconst (v := 0) hx hb dX10_within_13 (by decide) ?_
    exact W.zret (v := 0) (ty := .boolean) hx hb hr rfl (fun t ht hW => ⟨(by rw [bI_f (by first | omega | (have h32 := s_sub (x := 32) (y := p1) (by rw [i_32]; omega) (by rw [i_32]; omega); rw [i_32] at h32; omega))]), ht⟩) (fun q hq => nomatch hq) dX10_within_14
  · simp only [lt_I, le_I, eq_I, i_0, i_1, i_2, i_3, i_4, i_5, i_6, i_7, i_8, i_10, i_12, i_16, i_20, i_23, i_24, i_31, i_32, i_63, i_64, i_m1] at c_1
    refine lv_iload_n hx hb dX10_within_4 rfl (lv_at hl 0 rfl) ?_
    refine lv_iload_n hx hb dX10_within_5 rfl (lv_at hl 1 rfl) ?_
    refine lv_icmp_gt (tgt := 13) hx hb dX10_within_6 (by decide) (fun c_2 => ?_) (fun c_2 => ?_)
    · simp only [lt_I, le_I, eq_I, i_0, i_1, i_2, i_3, i_4, i_5, i_6, i_7, i_8, i_10, i_12, i_16, i_20, i_23, i_24, i_31, i_32, i_63, i_64, i_m1] at c_2
      refine lv_iconst (v := 0) hx hb dX10_within_13 (by decide) ?_
      exact W.zret (v := 0) (ty := .boolean) hx hb hr rfl (fun t ht hW => ⟨(by rw [bI_f (by first | omega | (have h32 := s_sub (x := 32) (y := p1) (by rw [i_32]; omega) (by rw [i_32]; omega); rw [i_32] at h32; omega))]), ht⟩) (fun q hq => nomatch hq) dX10_within_14
    · simp only [lt_I, le_I, eq_I, i_0, i_1, i_2, i_3, i_4, i_5, i_6, i_7, i_8, i_10, i_12, i_16, i_20, i_23, i_24, i_31, i_32, i_63, i_64, i_m1] at c_2
      refine lv_iconst (v := 1) hx hb dX10_within_9 (by decide) ?_
      refine lv_goto (tgt := 14) hx hb dX10_within_10 (by decide) ?_
      exact W.zret (v := 1) (ty := .boolean) hx hb hr rfl (fun t ht hW => ⟨(by rw [bI_t (by first | omega | (have h32 := s_sub (x := 32) (y := p1) (by rw [i_32]; omega) (by rw [i_32]; omega); rw [i_32] at h32; omega))]), ht⟩) (fun q hq => nomatch hq) dX10_within_14
theorem dX10_cellsGood_0 : decode cX10_cellsGood 0 = .ok (.iload_n 1, 1) := by decide +kernel
theorem dX10_cellsGood_1 : decode cX10_cellsGood 1 = .ok (.iconst 3, 1) := by decide +kernel
theorem dX10_cellsGood_2 : decode cX10_cellsGood 2 = .ok (.invokestatic 156, 3) := by decide +kernel
theorem dX10_cellsGood_5 : decode cX10_cellsGood 5 = .ok (.ifCond .eq 30, 3) := by decide +kernel
theorem dX10_cellsGood_8 : decode cX10_cellsGood 8 = .ok (.iload_n 3, 1) := by decide +kernel
theorem dX10_cellsGood_9 : decode cX10_cellsGood 9 = .ok (.iconst 1, 1) := by decide +kernel
theorem dX10_cellsGood_10 : decode cX10_cellsGood 10 = .ok (.if_icmp .lt 25, 3) := by decide +kernel
theorem dX10_cellsGood_13 : decode cX10_cellsGood 13 = .ok (.iload_n 3, 1) := by decide +kernel
theorem dX10_cellsGood_14 : decode cX10_cellsGood 14 = .ok (.bipush 12, 2) := by decide +kernel
theorem dX10_cellsGood_16 : decode cX10_cellsGood 16 = .ok (.if_icmp .gt 19, 3) := by decide +kernel
theorem dX10_cellsGood_19 : decode cX10_cellsGood 19 = .ok (.iload_n 2, 1) := by decide +kernel
theorem dX10_cellsGood_20 : decode cX10_cellsGood 20 = .ok (.ifCond .lt 15, 3) := by decide +kernel
theorem dX10_cellsGood_23 : decode cX10_cellsGood 23 = .ok (.iload_n 2, 1) := by decide +kernel
theorem dX10_cellsGood_24 : decode cX10_cellsGood 24 = .ok (.bipush 32, 2) := by decide +kernel
theorem dX10_cellsGood_26 : decode cX10_cellsGood 26 = .ok (.iload_n 3, 1) := by decide +kernel
theorem dX10_cellsGood_27 : decode cX10_cellsGood 27 = .ok (.isub, 1) := by decide +kernel
theorem dX10_cellsGood_28 : decode cX10_cellsGood 28 = .ok (.if_icmp .gt 7, 3) := by decide +kernel
theorem dX10_cellsGood_31 : decode cX10_cellsGood 31 = .ok (.iconst 1, 1) := by decide +kernel
theorem dX10_cellsGood_32 : decode cX10_cellsGood 32 = .ok (.goto 4, 3) := by decide +kernel
theorem dX10_cellsGood_35 : decode cX10_cellsGood 35 = .ok (.iconst 0, 1) := by decide +kernel
theorem dX10_cellsGood_36 : decode cX10_cellsGood 36 = .ok (.ireturn, 1) := by decide +kernel
set_option maxHeartbeats 4000000 in
set_option maxRecDepth 100000 in
theorem c_X10_cellsGood (l : Launch) (E : EE) (z0 : Nat) (G : Nat → Nat) (hGz : ∀ q, G q ≠ 0 → z0 ≤ q) (h0 : Nat) (p0 p1 p2 : Int32) (hG : G h0 = 20) : Met l yX10_cellsGood [Cond.code yX10_cellsGood cX10_cellsGood 4 (some .boolean)] ({ frames := 1, cells := 0, slots := 0, locals := 21 } : Room) (va_Pc [.ref h0, .int p0, .int p1, .int p2] (fun U => TH E (T0 E) G [] U.heap ∧ KS E z0 U)) (va_Qi (fun (r : Int32) (_ : Unit) => r = bI (0 ≤ p0.toInt ∧ p0.toInt < 4 ∧ 1 ≤ p2.toInt ∧ p2.toInt ≤ 12 ∧ 0 ≤ p1.toInt ∧ p1.toInt ≤ 32 - p2.toInt)) (fun _ _ => True) (fun _ : Nat => False)) 0 0 (fun _ : Nat => False) := by
  refine Met.ofW (cc := cX10_cellsGood) (maxL := 4) (ret := (some .boolean)) (by decide) rfl ?_
  intro p e s m args below meth c s₁ B hml hv
  obtain ⟨rfl, hT, hK⟩ := hv
  have hx := B.exec
  have hb := B.bytes
  have hr := B.returns
  have hts : ∀ w ∈ TS, w.before ([.ref h0, .int p0, .int p1, .int p2] : List Value).toArray s = true := fun w hw => hK.2.1 w hw _
  have hown : s.vm.findClass RX10 = some m.cls := findClass_of_methodNamed B.named
  have hlocks := B.notSynchronized
  have hS : va_S (fun _ : Nat => False) s.heap s.heap [] := va_S.rf
  have hAz : ∀ q, (fun _ : Nat => False) q → z0 ≤ q := fun _ h => h.elim
  have hl := lv_entry ([.ref h0, .int p0, .int p1, .int p2]) (n := 4) (Nat.le_of_ble_eq_true rfl)
  rw [lg_entry_eq]
  generalize (lg_sl ([.ref h0, .int p0, .int p1, .int p2]) ++ List.replicate (4 - (lg_sl ([.ref h0, .int p0, .int p1, .int p2])).length) Slot.unset).toArray = ls at hl ⊢
  have hl : lv_has ls 4 [(0, .ref h0), (1, .int p0), (2, .int p1), (3, .int p2)] := hl
  refine lv_iload_n hx hb dX10_cellsGood_0 rfl (lv_at hl 1 rfl) ?_
  refine lv_iconst (v := 3) hx hb dX10_cellsGood_1 (by decide) ?_
  refine W.callR (W.runS (As := [.int p0, .int 3]) (rest := []) ⟨hx, hb, hml, hown, hts⟩ (c_X10_within l p0 3) (cwS 2 hts (gdS ml_X10_156 st_X10_within in_X10 co_X10_within rfl) rfl rfl rfl (by decide +kernel) ⟨Nat.le_of_ble_eq_true rfl, Nat.le_of_ble_eq_true rfl⟩) preEq rfl rfl hl.1 rfl (lv_room (Nat.le_of_ble_eq_true rfl)) dX10_cellsGood_2 ⟨Nat.le_of_ble_eq_true rfl, Nat.le_of_ble_eq_true rfl⟩) ?_
  refine W.eq (g2 := F0 m 5 ls [.int (bI (0 ≤ p0.toInt ∧ p0.toInt ≤ (3 : Int32).toInt))]) (by rfl) ?_
  refine lv_if_eq (tgt := 35) hx hb dX10_cellsGood_5 (by decide) (fun c_1 => ?_) (fun c_1 => ?_)
  · have c_1 := bI_0 c_1
    try simp only [lt_I, le_I, eq_I, i_0, i_1, i_2, i_3, i_4, i_5, i_6, i_7, i_8, i_10, i_12, i_16, i_20, i_23, i_24, i_31, i_32, i_63, i_64, i_m1] at c_1
    refine lv_iconst (v := 0) hx hb dX10_cellsGood_35 (by decide) ?_
    exact W.zret (v := 0) (ty := .boolean) hx hb hr rfl (fun t ht hW => ⟨⟨0, (), rfl, (by rw [bI_f (by omega)]), trivial⟩, hS.F ht⟩) hS.2.2 dX10_cellsGood_36
  · have c_1 := bI_n c_1
    try simp only [lt_I, le_I, eq_I, i_0, i_1, i_2, i_3, i_4, i_5, i_6, i_7, i_8, i_10, i_12, i_16, i_20, i_23, i_24, i_31, i_32, i_63, i_64, i_m1] at c_1
    refine lv_iload_n hx hb dX10_cellsGood_8 rfl (lv_at hl 3 rfl) ?_
    refine lv_iconst (v := 1) hx hb dX10_cellsGood_9 (by decide) ?_
    refine lv_icmp_lt (tgt := 35) hx hb dX10_cellsGood_10 (by decide) (fun c_2 => ?_) (fun c_2 => ?_)
    · simp only [lt_I, le_I, eq_I, i_0, i_1, i_2, i_3, i_4, i_5, i_6, i_7, i_8, i_10, i_12, i_16, i_20, i_23, i_24, i_31, i_32, i_63, i_64, i_m1] at c_2
      refine lv_iconst (v := 0) hx hb dX10_cellsGood_35 (by decide) ?_
      exact W.zret (v := 0) (ty := .boolean) hx hb hr rfl (fun t ht hW => ⟨⟨0, (), rfl, (by rw [bI_f (by omega)]), trivial⟩, hS.F ht⟩) hS.2.2 dX10_cellsGood_36
    · simp only [lt_I, le_I, eq_I, i_0, i_1, i_2, i_3, i_4, i_5, i_6, i_7, i_8, i_10, i_12, i_16, i_20, i_23, i_24, i_31, i_32, i_63, i_64, i_m1] at c_2
      refine lv_iload_n hx hb dX10_cellsGood_13 rfl (lv_at hl 3 rfl) ?_
      refine lv_bipush (v := 12) hx hb dX10_cellsGood_14 (by decide) ?_
      refine lv_icmp_gt (tgt := 35) hx hb dX10_cellsGood_16 (by decide) (fun c_3 => ?_) (fun c_3 => ?_)
      · simp only [lt_I, le_I, eq_I, i_0, i_1, i_2, i_3, i_4, i_5, i_6, i_7, i_8, i_10, i_12, i_16, i_20, i_23, i_24, i_31, i_32, i_63, i_64, i_m1] at c_3
        refine lv_iconst (v := 0) hx hb dX10_cellsGood_35 (by decide) ?_
        exact W.zret (v := 0) (ty := .boolean) hx hb hr rfl (fun t ht hW => ⟨⟨0, (), rfl, (by rw [bI_f (by omega)]), trivial⟩, hS.F ht⟩) hS.2.2 dX10_cellsGood_36
      · simp only [lt_I, le_I, eq_I, i_0, i_1, i_2, i_3, i_4, i_5, i_6, i_7, i_8, i_10, i_12, i_16, i_20, i_23, i_24, i_31, i_32, i_63, i_64, i_m1] at c_3
        refine lv_iload_n hx hb dX10_cellsGood_19 rfl (lv_at hl 2 rfl) ?_
        refine lv_if_lt (tgt := 35) hx hb dX10_cellsGood_20 (by decide) (fun c_4 => ?_) (fun c_4 => ?_)
        · simp only [lt_I, le_I, eq_I, i_0, i_1, i_2, i_3, i_4, i_5, i_6, i_7, i_8, i_10, i_12, i_16, i_20, i_23, i_24, i_31, i_32, i_63, i_64, i_m1] at c_4
          refine lv_iconst (v := 0) hx hb dX10_cellsGood_35 (by decide) ?_
          exact W.zret (v := 0) (ty := .boolean) hx hb hr rfl (fun t ht hW => ⟨⟨0, (), rfl, (by rw [bI_f (by omega)]), trivial⟩, hS.F ht⟩) hS.2.2 dX10_cellsGood_36
        · simp only [lt_I, le_I, eq_I, i_0, i_1, i_2, i_3, i_4, i_5, i_6, i_7, i_8, i_10, i_12, i_16, i_20, i_23, i_24, i_31, i_32, i_63, i_64, i_m1] at c_4
          refine lv_iload_n hx hb dX10_cellsGood_23 rfl (lv_at hl 2 rfl) ?_
          refine lv_bipush (v := 32) hx hb dX10_cellsGood_24 (by decide) ?_
          refine lv_iload_n hx hb dX10_cellsGood_26 rfl (lv_at hl 3 rfl) ?_
          refine lv_isub hx hb dX10_cellsGood_27 ?_
          have bd_5 := s_bd p2
          have fs_5 : (32 - p2 : Int32).toInt = 32 - p2.toInt := by have h9 := s_sub (x := 32) (y := p2) (by rw [i_32]; omega) (by rw [i_32]; omega); rw [i_32] at h9; exact h9
          refine lv_icmp_gt (tgt := 35) hx hb dX10_cellsGood_28 (by decide) (fun c_6 => ?_) (fun c_6 => ?_)
          · simp only [lt_I, le_I, eq_I, i_0, i_1, i_2, i_3, i_4, i_5, i_6, i_7, i_8, i_10, i_12, i_16, i_20, i_23, i_24, i_31, i_32, i_63, i_64, i_m1] at c_6
            refine lv_iconst (v := 0) hx hb dX10_cellsGood_35 (by decide) ?_
            exact W.zret (v := 0) (ty := .boolean) hx hb hr rfl (fun t ht hW => ⟨⟨0, (), rfl, (by rw [bI_f (by omega)]), trivial⟩, hS.F ht⟩) hS.2.2 dX10_cellsGood_36
          · simp only [lt_I, le_I, eq_I, i_0, i_1, i_2, i_3, i_4, i_5, i_6, i_7, i_8, i_10, i_12, i_16, i_20, i_23, i_24, i_31, i_32, i_63, i_64, i_m1] at c_6
            refine lv_iconst (v := 1) hx hb dX10_cellsGood_31 (by decide) ?_
            refine lv_goto (tgt := 36) hx hb dX10_cellsGood_32 (by decide) ?_
            exact W.zret (v := 1) (ty := .boolean) hx hb hr rfl (fun t ht hW => ⟨⟨1, (), rfl, (by rw [bI_t (by omega)]), trivial⟩, hS.F ht⟩) hS.2.2 dX10_cellsGood_36
theorem dX10_full_0 : decode cX10_full 0 = .ok (.aload_n 0, 1) := by decide +kernel
theorem dX10_full_1 : decode cX10_full 1 = .ok (.getfield 28, 3) := by decide +kernel
theorem dX10_full_4 : decode cX10_full 4 = .ok (.iload_n 1, 1) := by decide +kernel
theorem dX10_full_5 : decode cX10_full 5 = .ok (.iaload, 1) := by decide +kernel
theorem dX10_full_6 : decode cX10_full 6 = .ok (.iconst 1, 1) := by decide +kernel
theorem dX10_full_7 : decode cX10_full 7 = .ok (.if_icmp .ne 13, 3) := by decide +kernel
theorem dX10_full_10 : decode cX10_full 10 = .ok (.aload_n 0, 1) := by decide +kernel
theorem dX10_full_11 : decode cX10_full 11 = .ok (.getfield 59, 3) := by decide +kernel
theorem dX10_full_14 : decode cX10_full 14 = .ok (.iload_n 1, 1) := by decide +kernel
theorem dX10_full_15 : decode cX10_full 15 = .ok (.iaload, 1) := by decide +kernel
theorem dX10_full_16 : decode cX10_full 16 = .ok (.iconst 4, 1) := by decide +kernel
theorem dX10_full_17 : decode cX10_full 17 = .ok (.if_icmp .ne 7, 3) := by decide +kernel
theorem dX10_full_20 : decode cX10_full 20 = .ok (.iconst 1, 1) := by decide +kernel
theorem dX10_full_21 : decode cX10_full 21 = .ok (.goto 4, 3) := by decide +kernel
theorem dX10_full_24 : decode cX10_full 24 = .ok (.iconst 0, 1) := by decide +kernel
theorem dX10_full_25 : decode cX10_full 25 = .ok (.ireturn, 1) := by decide +kernel
set_option maxHeartbeats 4000000 in
set_option maxRecDepth 100000 in
theorem c_X10_full (l : Launch) (E : EE) (z0 : Nat) (G : Nat → Nat) (hGz : ∀ q, G q ≠ 0 → z0 ≤ q) (h0 : Nat) (p0 : Int32) (hG : G h0 = 20) (hq : 0 ≤ p0.toInt ∧ p0.toInt < 4) : Met l yX10_full [Cond.code yX10_full cX10_full 2 (some .boolean)] ({ frames := 0, cells := 0, slots := 0, locals := 0 } : Room) (va_Pc [.ref h0, .int p0] (fun U => TH E (T0 E) G [] U.heap ∧ KS E z0 U)) (va_Qi (fun (r : Int32) (_ : Unit) => r = 1) (fun _ _ => True) (fun _ : Nat => False)) 0 0 (fun _ : Nat => False) := by
  refine Met.ofW (cc := cX10_full) (maxL := 2) (ret := (some .boolean)) (by decide) rfl ?_
  intro p e s m args below meth c s₁ B hml hv
  obtain ⟨rfl, hT, hK⟩ := hv
  have hx := B.exec
  have hb := B.bytes
  have hr := B.returns
  have hts : ∀ w ∈ TS, w.before ([.ref h0, .int p0] : List Value).toArray s = true := fun w hw => hK.2.1 w hw _
  have hown : s.vm.findClass RX10 = some m.cls := findClass_of_methodNamed B.named
  have hlocks := B.notSynchronized
  have hS : va_S (fun _ : Nat => False) s.heap s.heap [] := va_S.rf
  have hAz : ∀ q, (fun _ : Nat => False) q → z0 ≤ q := fun _ h => h.elim
  have hl := lv_entry ([.ref h0, .int p0]) (n := 2) (Nat.le_of_ble_eq_true rfl)
  rw [lg_entry_eq]
  generalize (lg_sl ([.ref h0, .int p0]) ++ List.replicate (2 - (lg_sl ([.ref h0, .int p0])).length) Slot.unset).toArray = ls at hl ⊢
  have hl : lv_has ls 2 [(0, .ref h0), (1, .int p0)] := hl
  refine lv_aload_n hx hb dX10_full_0 rfl (lv_at hl 0 rfl) ?_
  obtain ⟨t0_1, t1_1, t2_1, r_1, ha_1, hg_1⟩ := tg_20 hT hG nx_0
  refine va_get (D := DG E) (ci := 10) (v := .ref (r_1 10)) (C := RX10) (T := TX10) (N := 49) hx hb hts iw_X10 hown hK.1 (va_one ha_1) 0 rfl rfl 10 (by decide) (hts _ fl_X10_28) (fun _ h9 => h9) rfl dX10_full_1 ?_
  refine lv_iload_n hx hb dX10_full_4 rfl (lv_at hl 1 rfl) ?_
  have ha_2 : va_at (DG E) vwCl ((r_1 10), .inl (E.2.2 0, 4, .inl (fun _ => 0))) _ := tg_arr (j := 10) hT (hg_1 10 (by decide) (by decide) (by decide)) nx_0
  refine va_iald (D := DG E) hx hb hK.1 (va_one ha_2) 0 0 rfl rfl (show vp_in p0 4 from vp_in_iff.mpr (by omega)) dX10_full_5 ?_
  refine W.eq (g2 := F0 m 6 ls [.int 0]) (by rfl) ?_
  refine lv_iconst (v := 1) hx hb dX10_full_6 (by decide) ?_
  refine lv_icmp_ne (tgt := 20) hx hb dX10_full_7 (by decide) (fun c_3 => ?_) (fun c_3 => absurd c_3 (by decide))
  refine lv_iconst (v := 1) hx hb dX10_full_20 (by decide) ?_
  refine lv_goto (tgt := 25) hx hb dX10_full_21 (by decide) ?_
  exact W.zret (v := 1) (ty := .boolean) hx hb hr rfl (fun t ht hW => ⟨⟨1, (), rfl, rfl, trivial⟩, hS.F ht⟩) hS.2.2 dX10_full_25
theorem dX10_fail_0 : decode cX10_fail 0 = .ok (.aload_n 0, 1) := by decide +kernel
theorem dX10_fail_1 : decode cX10_fail 1 = .ok (.iload_n 1, 1) := by decide +kernel
theorem dX10_fail_2 : decode cX10_fail 2 = .ok (.putfield 153, 3) := by decide +kernel
theorem dX10_fail_5 : decode cX10_fail 5 = .ok (.iconst 0, 1) := by decide +kernel
theorem dX10_fail_6 : decode cX10_fail 6 = .ok (.ireturn, 1) := by decide +kernel
set_option maxHeartbeats 4000000 in
set_option maxRecDepth 100000 in
theorem c_X10_fail (l : Launch) (E : EE) (z0 : Nat) (G : Nat → Nat) (hGz : ∀ q, G q ≠ 0 → z0 ≤ q) (h0 : Nat) (p0 : Int32) (hG : G h0 = 20) : Met l yX10_fail [Cond.code yX10_fail cX10_fail 2 (some .int)] ({ frames := 0, cells := 0, slots := 0, locals := 0 } : Room) (va_Pc [.ref h0, .int p0] (fun U => TH E (T0 E) G [] U.heap ∧ KS E z0 U)) (va_Qi (fun (r : Int32) (_ : Unit) => r = 0) (fun _ t => ∃ fs : List Value, va_at (DG E) vwCl (h0, .inr (10, fs)) t.heap ∧ fs[3]? = some (.int p0)) (fun q : Nat => q = h0)) 0 0 (fun q : Nat => q = h0) := by
  refine Met.ofW (cc := cX10_fail) (maxL := 2) (ret := (some .int)) (by decide) rfl ?_
  intro p e s m args below meth c s₁ B hml hv
  obtain ⟨rfl, hT, hK⟩ := hv
  have hx := B.exec
  have hb := B.bytes
  have hr := B.returns
  have hts : ∀ w ∈ TS, w.before ([.ref h0, .int p0] : List Value).toArray s = true := fun w hw => hK.2.1 w hw _
  have hown : s.vm.findClass RX10 = some m.cls := findClass_of_methodNamed B.named
  have hlocks := B.notSynchronized
  have hS : va_S (fun q : Nat => q = h0) s.heap s.heap [] := va_S.rf
  have hAz : ∀ q, (fun q : Nat => q = h0) q → z0 ≤ q := fun q h => by rw [h]; exact hGz _ (by rw [hG]; decide)
  have hl := lv_entry ([.ref h0, .int p0]) (n := 2) (Nat.le_of_ble_eq_true rfl)
  rw [lg_entry_eq]
  generalize (lg_sl ([.ref h0, .int p0]) ++ List.replicate (2 - (lg_sl ([.ref h0, .int p0])).length) Slot.unset).toArray = ls at hl ⊢
  have hl : lv_has ls 2 [(0, .ref h0), (1, .int p0)] := hl
  refine lv_aload_n hx hb dX10_fail_0 rfl (lv_at hl 0 rfl) ?_
  refine lv_iload_n hx hb dX10_fail_1 rfl (lv_at hl 1 rfl) ?_
  obtain ⟨t0_1, t1_1, t2_1, r_1, ha_1, hg_1⟩ := tg_20 hT hG nx_0
  refine rr_put (D := DG E) (ci := 10) (v := .int p0) (ty := .int) (C := RX10) (T := TX10) (N := 49) hx hb hts iw_X10 tyX10 tyX10_ok nmX10 hown hK.1 ha_1 hS rfl rfl 3 (by decide) (hts _ fl_X10_153) (fun _ h9 => h9) rfl (by decide +kernel) rfl rfl (Nat.le_of_ble_eq_true rfl) dX10_fail_2 (fun H locs hn ho hz hS => ?_)
  have hr_2 : va_at (DG E) vwCl (h0, .inr (10, mfs t0_1 t1_1 t2_1 p0 r_1 0)) H := hn
  have hT : TH E (T0 E) G [h0] H := hT.keptx (fun q hq => List.mem_append_left [h0] hq) (fun q _ hq => ho q (fun e => hq (by rw [e]; simp)))
  refine lv_iconst (v := 0) hx hb dX10_fail_5 (by decide) ?_
  exact W.iret (v := 0) hx hb hr (fun t ht hW => ⟨⟨0, (), rfl, rfl, ⟨_, (by show va_at _ _ _ t.heap; rw [ht]; exact hr_2), rfl⟩⟩, hS.F ht⟩) hS.2.2 dX10_fail_6
