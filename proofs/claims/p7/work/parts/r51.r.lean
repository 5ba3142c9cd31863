theorem dX10_within_0 : decode cX10_within 0 = .ok (.iload_n 0, 1) := by decide +kernel
theorem dX10_within_1 : decode cX10_within 1 = .ok (.ifCond .lt 12, 3) := by decide +kernel
theorem dX10_within_4 : decode cX10_within 4 = .ok (.iload_n 0, 1) := by decide +kernel
theorem dX10_within_5 : decode cX10_within 5 = .ok (.iload_n 1, 1) := by decide +kernel
theorem dX10_within_6 : decode cX10_within 6 = .ok (.if_icmp .gt 7, 3) := by decide +kernel
theorem dX10_within_9 : decode cX10_within 9 = .ok (.iconst 1, 1) := by decide +kernel
theorem dX10_within_10 : decode cX10_within 10 = .ok (.goto 4, 3) := by decide +kernel
theorem dX10_within_13 : decode cX10_within 13 = .ok (.iconst 0, 1) := by decide +kernel
theorem dX10_within_14 : decode cX10_within 14 = .ok (.ireturn, 1) := by decide +kernel
set_option maxHeartbeats 4000000 in
set_option maxRecDepth 100000 in
theorem c_X10_within (l : Launch) (p0 p1 : Int32) : Met l yX10_within [Cond.code yX10_within cX10_within 2 (some .boolean)] ({ frames := 0, cells := 0, slots := 0, locals := 0 } : Room) (fun v _ => v = ([.int p0, .int p1] : List Value).toArray) (QcRead (bI (0 ≤ p0.toInt ∧ p0.toInt ≤ (p1 : Int32).toInt))) 0 0 (fun _ => False) := by
  refine Met.ofW (cc := cX10_within) (maxL := 2) (ret := (some .boolean)) (by decide) rfl ?_
  intro p e s m args below meth c s₁ B hml hv
  subst hv
  have hx := B.exec
  have hb := B.bytes
  have hr := B.returns
  have hlocks := B.notSynchronized
  have hl := lv_entry ([.int p0, .int p1]) (n := 2) (Nat.le_of_ble_eq_true rfl)
  rw [lg_entry_eq]
  generalize (lg_sl ([.int p0, .int p1]) ++ List.replicate (2 - (lg_sl ([.int p0, .int p1])).length) Slot.unset).toArray = ls at hl ⊢
  have hl : lv_has ls 2 [(0, .int p0), (1, .int p1)] := hl
  refine lv_iload_n hx hb dX10_within_0 rfl (lv_at hl 0 rfl) ?_
  refine lv_if_lt (tgt := 13) hx hb dX10_within_1 (by decide) (fun c_1 => ?_) (fun c_1 => ?_)
  · simp only [lt_I, le_I, eq_I, i_0, i_1, i_2, i_3, i_4, i_5, i_6, i_7, i_8, i_10, i_12, i_16, i_20, i_23, i_24, i_31, i_32, i_63, i_64, i_m1] at c_1
    refine lv_iconst (v := 0) hx hb dX10_within_13 (by decide) ?_
    exact W.zret (v := 0) (ty := .boolean) hx hb hr rfl (fun t ht hW => ⟨(by rw [bI_f (by first | omega | (have h32 := s_sub (x := 32) (y := p1) (by rw [i_32]; omega) (by rw [i_32]; omega); rw [i_32] at h32; omega))]), ht⟩) (fun q hq => nomatch hq) dX10_within_14
  · simp only [lt_I, le_I, eq_I, i_0, i_1, i_2, i_3, i_4, i_5, i_6, i_7, i_8, i_10, i_12, i_16, i_20, i_23, i_24, i_31, i_32, i_63, i_64, i_m1] at c_1
    refine lv_iload_n hx hb dX10_within_4 rfl (lv_at hl 0 rfl) ?_
    refine lv_iload_n hx hb dX10_within_5 rfl (lv_at hl 1 rfl) ?_
    refine lv_icmp_gt (tgt := 13) hx hb dX10_within_6 (by decide) (fun c_2 => ?_) (fun c_2 => ?_)
    · simp only [lt_I, le_I, eq_I, i_0, i_1, i_2, i_3, i_4, i_5, i_6, i_7, i_8, i_10, i_12, i_16, i_20, i_23, i_24, i_31, i_32, i_63, i_64, i_m1] at c_2
      refine lv_iconst (v := 0) hx hb dX10_within_13 (by decide) ?_
      exact W.zret (v := 0) (ty := .boolean) hx hb hr rfl (fun t ht hW => ⟨(by rw [bI_f (by first | omega | (have h32 := s_sub (x := 32) (y := p1) (by rw [i_32]; omega) (by rw [i_32]; omega); rw [i_32] at h32; omega))]), ht⟩) (fun q hq => nomatch hq) dX10_within_14
    · simp only [lt_I, le_I, eq_I, i_0, i_1, i_2, i_3, i_4, i_5, i_6, i_7, i_8, i_10, i_12, i_16, i_20, i_23, i_24, i_31, i_32, i_63, i_64, i_m1] at c_2
      refine lv_iconst (v := 1) hx hb dX10_within_9 (by decide) ?_
      refine lv_goto (tgt := 14) hx hb dX10_within_10 (by decide) ?_
      exact W.zret (v := 1) (ty := .boolean) hx hb hr rfl (fun t ht hW => ⟨(by rw [bI_t (by first | omega | (have h32 := s_sub (x := 32) (y := p1) (by rw [i_32]; omega) (by rw [i_32]; omega); rw [i_32] at h32; omega))]), ht⟩) (fun q hq => nomatch hq) dX10_within_14
theorem dX10_far_0 : decode cX10_far 0 = .ok (.iload_n 1, 1) := by decide +kernel
theorem dX10_far_1 : decode cX10_far 1 = .ok (.iload_n 0, 1) := by decide +kernel
theorem dX10_far_2 : decode cX10_far 2 = .ok (.isub, 1) := by decide +kernel
theorem dX10_far_3 : decode cX10_far 3 = .ok (.bipush 64, 2) := by decide +kernel
theorem dX10_far_5 : decode cX10_far 5 = .ok (.iadd, 1) := by decide +kernel
theorem dX10_far_6 : decode cX10_far 6 = .ok (.bipush 64, 2) := by decide +kernel
theorem dX10_far_8 : decode cX10_far 8 = .ok (.irem, 1) := by decide +kernel
theorem dX10_far_9 : decode cX10_far 9 = .ok (.ireturn, 1) := by decide +kernel
set_option maxHeartbeats 4000000 in
set_option maxRecDepth 100000 in
theorem c_X10_far (l : Launch) (p0 p1 : Int32) : Met l yX10_far [Cond.code yX10_far cX10_far 2 (some .int)] ({ frames := 0, cells := 0, slots := 0, locals := 0 } : Room) (fun v _ => v = ([.int p0, .int p1] : List Value).toArray) (QcRead (((p1 - p0) + 64) - ((p1 - p0) + 64) / 64 * 64)) 0 0 (fun _ => False) := by
  refine Met.ofW (cc := cX10_far) (maxL := 2) (ret := (some .int)) (by decide) rfl ?_
  intro p e s m args below meth c s₁ B hml hv
  subst hv
  have hx := B.exec
  have hb := B.bytes
  have hr := B.returns
  have hlocks := B.notSynchronized
  have hl := lv_entry ([.int p0, .int p1]) (n := 2) (Nat.le_of_ble_eq_true rfl)
  rw [lg_entry_eq]
  generalize (lg_sl ([.int p0, .int p1]) ++ List.replicate (2 - (lg_sl ([.int p0, .int p1])).length) Slot.unset).toArray = ls at hl ⊢
  have hl : lv_has ls 2 [(0, .int p0), (1, .int p1)] := hl
  refine lv_iload_n hx hb dX10_far_0 rfl (lv_at hl 1 rfl) ?_
  refine lv_iload_n hx hb dX10_far_1 rfl (lv_at hl 0 rfl) ?_
  refine lv_isub hx hb dX10_far_2 ?_
  refine lv_bipush (v := 64) hx hb dX10_far_3 (by decide) ?_
  refine lv_iadd hx hb dX10_far_5 ?_
  refine lv_bipush (v := 64) hx hb dX10_far_6 (by decide) ?_
  refine lv_irem hx hb dX10_far_8 (by decide) ?_
  exact W.iret (v := (((p1 - p0) + 64) - ((p1 - p0) + 64) / 64 * 64)) hx hb hr (fun t ht hW => ⟨rfl, ht⟩) (fun q hq => nomatch hq) dX10_far_9
theorem dX10_nodeOf_0 : decode cX10_nodeOf 0 = .ok (.iload_n 0, 1) := by decide +kernel
theorem dX10_nodeOf_1 : decode cX10_nodeOf 1 = .ok (.iconst 2, 1) := by decide +kernel
theorem dX10_nodeOf_2 : decode cX10_nodeOf 2 = .ok (.irem, 1) := by decide +kernel
theorem dX10_nodeOf_3 : decode cX10_nodeOf 3 = .ok (.ireturn, 1) := by decide +kernel
set_option maxHeartbeats 4000000 in
set_option maxRecDepth 100000 in
theorem c_X10_nodeOf (l : Launch) (p0 : Int32) : Met l yX10_nodeOf [Cond.code yX10_nodeOf cX10_nodeOf 1 (some .int)] ({ frames := 0, cells := 0, slots := 0, locals := 0 } : Room) (fun v _ => v = ([.int p0] : List Value).toArray) (QcRead (p0 - p0 / 2 * 2)) 0 0 (fun _ => False) := by
  refine Met.ofW (cc := cX10_nodeOf) (maxL := 1) (ret := (some .int)) (by decide) rfl ?_
  intro p e s m args below meth c s₁ B hml hv
  subst hv
  have hx := B.exec
  have hb := B.bytes
  have hr := B.returns
  have hlocks := B.notSynchronized
  have hl := lv_entry ([.int p0]) (n := 1) (Nat.le_of_ble_eq_true rfl)
  rw [lg_entry_eq]
  generalize (lg_sl ([.int p0]) ++ List.replicate (1 - (lg_sl ([.int p0])).length) Slot.unset).toArray = ls at hl ⊢
  have hl : lv_has ls 1 [(0, .int p0)] := hl
  refine lv_iload_n hx hb dX10_nodeOf_0 rfl (lv_at hl 0 rfl) ?_
  refine lv_iconst (v := 2) hx hb dX10_nodeOf_1 (by decide) ?_
  refine lv_irem hx hb dX10_nodeOf_2 (by decide) ?_
  exact W.iret (v := (p0 - p0 / 2 * 2)) hx hb hr (fun t ht hW => ⟨rfl, ht⟩) (fun q hq => nomatch hq) dX10_nodeOf_3
theorem dX10_peer_0 : decode cX10_peer 0 = .ok (.iload_n 0, 1) := by decide +kernel
theorem dX10_peer_1 : decode cX10_peer 1 = .ok (.iconst 2, 1) := by decide +kernel
theorem dX10_peer_2 : decode cX10_peer 2 = .ok (.irem, 1) := by decide +kernel
theorem dX10_peer_3 : decode cX10_peer 3 = .ok (.ifCond .ne 9, 3) := by decide +kernel
theorem dX10_peer_6 : decode cX10_peer 6 = .ok (.iload_n 0, 1) := by decide +kernel
theorem dX10_peer_7 : decode cX10_peer 7 = .ok (.iconst 1, 1) := by decide +kernel
theorem dX10_peer_8 : decode cX10_peer 8 = .ok (.iadd, 1) := by decide +kernel
theorem dX10_peer_9 : decode cX10_peer 9 = .ok (.goto 6, 3) := by decide +kernel
theorem dX10_peer_12 : decode cX10_peer 12 = .ok (.iload_n 0, 1) := by decide +kernel
theorem dX10_peer_13 : decode cX10_peer 13 = .ok (.iconst 1, 1) := by decide +kernel
theorem dX10_peer_14 : decode cX10_peer 14 = .ok (.isub, 1) := by decide +kernel
theorem dX10_peer_15 : decode cX10_peer 15 = .ok (.ireturn, 1) := by decide +kernel
set_option maxHeartbeats 4000000 in
set_option maxRecDepth 100000 in
theorem c_X10_peer (l : Launch) (p0 : Int32) : Met l yX10_peer [Cond.code yX10_peer cX10_peer 1 (some .int)] ({ frames := 0, cells := 0, slots := 0, locals := 0 } : Room) (fun v _ => v = ([.int p0] : List Value).toArray) (QcRead (peerT p0)) 0 0 (fun _ => False) := by
  refine Met.ofW (cc := cX10_peer) (maxL := 1) (ret := (some .int)) (by decide) rfl ?_
  intro p e s m args below meth c s₁ B hml hv
  subst hv
  have hx := B.exec
  have hb := B.bytes
  have hr := B.returns
  have hlocks := B.notSynchronized
  have hl := lv_entry ([.int p0]) (n := 1) (Nat.le_of_ble_eq_true rfl)
  rw [lg_entry_eq]
  generalize (lg_sl ([.int p0]) ++ List.replicate (1 - (lg_sl ([.int p0])).length) Slot.unset).toArray = ls at hl ⊢
  have hl : lv_has ls 1 [(0, .int p0)] := hl
  refine lv_iload_n hx hb dX10_peer_0 rfl (lv_at hl 0 rfl) ?_
  refine lv_iconst (v := 2) hx hb dX10_peer_1 (by decide) ?_
  refine lv_irem hx hb dX10_peer_2 (by decide) ?_
  refine lv_if_ne (tgt := 12) hx hb dX10_peer_3 (by decide) (fun c_1 => ?_) (fun c_1 => ?_)
  · simp only [lt_I, le_I, eq_I, i_0, i_1, i_2, i_3, i_4, i_5, i_6, i_7, i_8, i_10, i_12, i_16, i_20, i_23, i_24, i_31, i_32, i_63, i_64, i_m1] at c_1
    refine lv_iload_n hx hb dX10_peer_12 rfl (lv_at hl 0 rfl) ?_
    refine lv_iconst (v := 1) hx hb dX10_peer_13 (by decide) ?_
    refine lv_isub hx hb dX10_peer_14 ?_
    exact W.iret (v := (p0 - 1)) hx hb hr (fun t ht hW => ⟨(by simp only [peerT, eq_I, i_0]; split <;> first | rfl | (exfalso; omega)), ht⟩) (fun q hq => nomatch hq) dX10_peer_15
  · simp only [lt_I, le_I, eq_I, i_0, i_1, i_2, i_3, i_4, i_5, i_6, i_7, i_8, i_10, i_12, i_16, i_20, i_23, i_24, i_31, i_32, i_63, i_64, i_m1] at c_1
    refine lv_iload_n hx hb dX10_peer_6 rfl (lv_at hl 0 rfl) ?_
    refine lv_iconst (v := 1) hx hb dX10_peer_7 (by decide) ?_
    refine lv_iadd hx hb dX10_peer_8 ?_
    refine lv_goto (tgt := 15) hx hb dX10_peer_9 (by decide) ?_
    exact W.iret (v := (p0 + 1)) hx hb hr (fun t ht hW => ⟨(by simp only [peerT, eq_I, i_0]; split <;> first | rfl | (exfalso; omega)), ht⟩) (fun q hq => nomatch hq) dX10_peer_15
theorem dX10_thrown_0 : decode cX10_thrown 0 = .ok (.aload_n 0, 1) := by decide +kernel
theorem dX10_thrown_1 : decode cX10_thrown 1 = .ok (.getfield 153, 3) := by decide +kernel
theorem dX10_thrown_4 : decode cX10_thrown 4 = .ok (.ireturn, 1) := by decide +kernel
set_option maxHeartbeats 8000000 in
set_option maxRecDepth 100000 in
theorem u_X10_thrown (l : Launch) (E : EE) (z0 : Nat) (G : Nat → Nat) (hGz : ∀ q, G q ≠ 0 → z0 ≤ q) (h0 : Nat) (rf : Nat → Nat) (hR : MG G h0 rf) (t0 t1 t2 : Int32) (A : AA) (cd pk : Int32)  : Met l yX10_thrown [Cond.code yX10_thrown cX10_thrown 1 (some .int)] ({ frames := 0, cells := 0, slots := 0, locals := 0 } : Room) (va_Pc [.ref h0] (fun U => MH E h0 rf t0 t1 t2 A cd pk U.heap ∧ KS E z0 U)) (va_Qi (fun (r : Int32) (u : Unit) => (r = cd) ∧ (D_X10_thrown A cd pk r)) (fun u t => True) (fun _ : Nat => False)) 0 0 (fun _ : Nat => False) := by
  refine Met.ofW (cc := cX10_thrown) (maxL := 1) (ret := (some .int)) (by decide) rfl ?_
  intro p e s m args below meth c s₁ B hml hv
  obtain ⟨rfl, hM, hK⟩ := hv
  have hx := B.exec
  have hb := B.bytes
  have hr := B.returns
  have hts : ∀ w ∈ TS, w.before ([.ref h0] : List Value).toArray s = true := fun w hw => hK.2.1 w hw _
  have hown : s.vm.findClass RX10 = some m.cls := findClass_of_methodNamed B.named
  have hlocks := B.notSynchronized
  have hS : va_S (fun _ : Nat => False) s.heap s.heap [] := va_S.rf
  have hAz : ∀ q, (fun _ : Nat => False) q → z0 ≤ q := fun _ h => h.elim
  have hl := lv_entry ([.ref h0]) (n := 1) (Nat.le_of_ble_eq_true rfl)
  rw [lg_entry_eq]
  generalize (lg_sl ([.ref h0]) ++ List.replicate (1 - (lg_sl ([.ref h0])).length) Slot.unset).toArray = ls at hl ⊢
  have hl : lv_has ls 1 [(0, .ref h0)] := hl
  refine lv_aload_n hx hb dX10_thrown_0 rfl (lv_at hl 0 rfl) ?_
  refine va_get (D := DG E) (ci := 10) (v := .int cd) (C := RX10) (T := TX10) (N := 49) hx hb hts iw_X10 hown hK.1 (va_one hM.1) 0 rfl rfl 3 (by decide) (hts _ fl_X10_153) (fun _ h9 => h9) rfl dX10_thrown_1 ?_
  exact W.iret (v := cd) hx hb hr (fun t ht hW => ⟨⟨cd, (), rfl, ⟨(show cd = cd from rfl), rfl⟩, trivial⟩, hS.F ht⟩) hS.2.2 dX10_thrown_4
theorem dX10_fail_0 : decode cX10_fail 0 = .ok (.aload_n 0, 1) := by decide +kernel
theorem dX10_fail_1 : decode cX10_fail 1 = .ok (.iload_n 1, 1) := by decide +kernel
theorem dX10_fail_2 : decode cX10_fail 2 = .ok (.putfield 153, 3) := by decide +kernel
theorem dX10_fail_5 : decode cX10_fail 5 = .ok (.iconst 0, 1) := by decide +kernel
theorem dX10_fail_6 : decode cX10_fail 6 = .ok (.ireturn, 1) := by decide +kernel
set_option maxHeartbeats 8000000 in
set_option maxRecDepth 100000 in
theorem u_X10_fail (l : Launch) (E : EE) (z0 : Nat) (G : Nat → Nat) (hGz : ∀ q, G q ≠ 0 → z0 ≤ q) (h0 : Nat) (rf : Nat → Nat) (hR : MG G h0 rf) (t0 t1 t2 : Int32) (A : AA) (cd pk : Int32) (p0 : Int32) : Met l yX10_fail [Cond.code yX10_fail cX10_fail 2 (some .int)] ({ frames := 0, cells := 0, slots := 0, locals := 0 } : Room) (va_Pc [.ref h0, .int p0] (fun U => MH E h0 rf t0 t1 t2 A cd pk U.heap ∧ KS E z0 U)) (va_Qi (fun (r : Int32) (u : Int32) => ((u) = p0) ∧ (D_X10_fail A cd pk p0 A (u) pk r)) (fun u t => MH E h0 rf t0 t1 t2 A (u) pk t.heap) (fun q : Nat => G q ≠ 0)) 0 0 (fun q : Nat => G q ≠ 0) := by
  refine Met.ofW (cc := cX10_fail) (maxL := 2) (ret := (some .int)) (by decide) rfl ?_
  intro p e s m args below meth c s₁ B hml hv
  obtain ⟨rfl, hM, hK⟩ := hv
  have hx := B.exec
  have hb := B.bytes
  have hr := B.returns
  have hts : ∀ w ∈ TS, w.before ([.ref h0, .int p0] : List Value).toArray s = true := fun w hw => hK.2.1 w hw _
  have hown : s.vm.findClass RX10 = some m.cls := findClass_of_methodNamed B.named
  have hlocks := B.notSynchronized
  have hS : va_S (fun q : Nat => G q ≠ 0) s.heap s.heap [] := va_S.rf
  have hAz : ∀ q, (fun q : Nat => G q ≠ 0) q → z0 ≤ q := hGz
  have hl := lv_entry ([.ref h0, .int p0]) (n := 2) (Nat.le_of_ble_eq_true rfl)
  rw [lg_entry_eq]
  generalize (lg_sl ([.ref h0, .int p0]) ++ List.replicate (2 - (lg_sl ([.ref h0, .int p0])).length) Slot.unset).toArray = ls at hl ⊢
  have hl : lv_has ls 2 [(0, .ref h0), (1, .int p0)] := hl
  refine lv_aload_n hx hb dX10_fail_0 rfl (lv_at hl 0 rfl) ?_
  refine lv_iload_n hx hb dX10_fail_1 rfl (lv_at hl 1 rfl) ?_
  refine rr_put (D := DG E) (ci := 10) (v := .int p0) (ty := .int) (C := RX10) (T := TX10) (N := 49) hx hb hts iw_X10 tyX10 tyX10_ok nmX10 hown hK.1 hM.1 hS (by show G h0 ≠ 0; rw [hR.1]; decide) rfl 3 (by decide) (hts _ fl_X10_153) (fun _ h9 => h9) rfl (by decide +kernel) rfl rfl (Nat.le_of_ble_eq_true rfl) dX10_fail_2 (fun H locs hn ho hz hS => ?_)
  have hM : MH E h0 rf t0 t1 t2 A p0 pk H := hM.sc hR hn ho
  refine lv_iconst (v := 0) hx hb dX10_fail_5 (by decide) ?_
  exact W.iret (v := 0) hx hb hr (fun t ht hW => ⟨⟨0, p0, rfl, ⟨(show p0 = p0 from rfl), ⟨rfl, rfl, rfl, rfl⟩⟩, (by show MH E h0 rf t0 t1 t2 A p0 pk t.heap; rw [ht]; exact hM)⟩, hS.F ht⟩) hS.2.2 dX10_fail_6
theorem dX10_region_0 : decode cX10_region 0 = .ok (.aload_n 0, 1) := by decide +kernel
theorem dX10_region_1 : decode cX10_region 1 = .ok (.iconst 0, 1) := by decide +kernel
theorem dX10_region_2 : decode cX10_region 2 = .ok (.putfield 153, 3) := by decide +kernel
theorem dX10_region_5 : decode cX10_region 5 = .ok (.iload_n 1, 1) := by decide +kernel
theorem dX10_region_6 : decode cX10_region 6 = .ok (.iconst 1, 1) := by decide +kernel
theorem dX10_region_7 : decode cX10_region 7 = .ok (.invokestatic 156, 3) := by decide +kernel
theorem dX10_region_10 : decode cX10_region 10 = .ok (.ifCond .eq 40, 3) := by decide +kernel
theorem dX10_region_13 : decode cX10_region 13 = .ok (.iload_n 2, 1) := by decide +kernel
theorem dX10_region_14 : decode cX10_region 14 = .ok (.iconst 5, 1) := by decide +kernel
theorem dX10_region_15 : decode cX10_region 15 = .ok (.invokestatic 156, 3) := by decide +kernel
theorem dX10_region_18 : decode cX10_region 18 = .ok (.ifCond .eq 32, 3) := by decide +kernel
theorem dX10_region_21 : decode cX10_region 21 = .ok (.iload_n 3, 1) := by decide +kernel
theorem dX10_region_22 : decode cX10_region 22 = .ok (.bipush 32, 2) := by decide +kernel
theorem dX10_region_24 : decode cX10_region 24 = .ok (.invokestatic 156, 3) := by decide +kernel
theorem dX10_region_27 : decode cX10_region 27 = .ok (.ifCond .eq 23, 3) := by decide +kernel
theorem dX10_region_30 : decode cX10_region 30 = .ok (.iload 4, 2) := by decide +kernel
theorem dX10_region_32 : decode cX10_region 32 = .ok (.bipush 32, 2) := by decide +kernel
theorem dX10_region_34 : decode cX10_region 34 = .ok (.invokestatic 156, 3) := by decide +kernel
theorem dX10_region_37 : decode cX10_region 37 = .ok (.ifCond .eq 13, 3) := by decide +kernel
theorem dX10_region_40 : decode cX10_region 40 = .ok (.iload 5, 2) := by decide +kernel
theorem dX10_region_42 : decode cX10_region 42 = .ok (.bipush 7, 2) := by decide +kernel
theorem dX10_region_44 : decode cX10_region 44 = .ok (.invokestatic 156, 3) := by decide +kernel
theorem dX10_region_47 : decode cX10_region 47 = .ok (.ifCond .ne 11, 3) := by decide +kernel
theorem dX10_region_50 : decode cX10_region 50 = .ok (.aload_n 0, 1) := by decide +kernel
theorem dX10_region_51 : decode cX10_region 51 = .ok (.iconst 1, 1) := by decide +kernel
theorem dX10_region_52 : decode cX10_region 52 = .ok (.putfield 153, 3) := by decide +kernel
theorem dX10_region_55 : decode cX10_region 55 = .ok (.goto 17, 3) := by decide +kernel
theorem dX10_region_58 : decode cX10_region 58 = .ok (.iload_n 3, 1) := by decide +kernel
theorem dX10_region_59 : decode cX10_region 59 = .ok (.iload 4, 2) := by decide +kernel
theorem dX10_region_61 : decode cX10_region 61 = .ok (.iadd, 1) := by decide +kernel
theorem dX10_region_62 : decode cX10_region 62 = .ok (.bipush 32, 2) := by decide +kernel
theorem dX10_region_64 : decode cX10_region 64 = .ok (.if_icmp .le 8, 3) := by decide +kernel
theorem dX10_region_67 : decode cX10_region 67 = .ok (.aload_n 0, 1) := by decide +kernel
theorem dX10_region_68 : decode cX10_region 68 = .ok (.iconst 1, 1) := by decide +kernel
theorem dX10_region_69 : decode cX10_region 69 = .ok (.putfield 153, 3) := by decide +kernel
theorem dX10_region_72 : decode cX10_region 72 = .ok (.aload_n 0, 1) := by decide +kernel
theorem dX10_region_73 : decode cX10_region 73 = .ok (.getfield 153, 3) := by decide +kernel
theorem dX10_region_76 : decode cX10_region 76 = .ok (.ifCond .eq 4, 3) := by decide +kernel
theorem dX10_region_79 : decode cX10_region 79 = .ok (.return_, 1) := by decide +kernel
theorem dX10_region_80 : decode cX10_region 80 = .ok (.bipush 6, 2) := by decide +kernel
theorem dX10_region_82 : decode cX10_region 82 = .ok (.iload_n 1, 1) := by decide +kernel
theorem dX10_region_83 : decode cX10_region 83 = .ok (.imul, 1) := by decide +kernel
theorem dX10_region_84 : decode cX10_region 84 = .ok (.iload_n 2, 1) := by decide +kernel
theorem dX10_region_85 : decode cX10_region 85 = .ok (.iadd, 1) := by decide +kernel
theorem dX10_region_86 : decode cX10_region 86 = .ok (.istore 6, 2) := by decide +kernel
theorem dX10_region_88 : decode cX10_region 88 = .ok (.aload_n 0, 1) := by decide +kernel
theorem dX10_region_89 : decode cX10_region 89 = .ok (.getfield 13, 3) := by decide +kernel
theorem dX10_region_92 : decode cX10_region 92 = .ok (.iload 6, 2) := by decide +kernel
theorem dX10_region_94 : decode cX10_region 94 = .ok (.iload_n 3, 1) := by decide +kernel
theorem dX10_region_95 : decode cX10_region 95 = .ok (.iastore, 1) := by decide +kernel
theorem dX10_region_96 : decode cX10_region 96 = .ok (.aload_n 0, 1) := by decide +kernel
theorem dX10_region_97 : decode cX10_region 97 = .ok (.getfield 16, 3) := by decide +kernel
theorem dX10_region_100 : decode cX10_region 100 = .ok (.iload 6, 2) := by decide +kernel
theorem dX10_region_102 : decode cX10_region 102 = .ok (.iload 4, 2) := by decide +kernel
theorem dX10_region_104 : decode cX10_region 104 = .ok (.iastore, 1) := by decide +kernel
theorem dX10_region_105 : decode cX10_region 105 = .ok (.aload_n 0, 1) := by decide +kernel
theorem dX10_region_106 : decode cX10_region 106 = .ok (.getfield 19, 3) := by decide +kernel
theorem dX10_region_109 : decode cX10_region 109 = .ok (.iload 6, 2) := by decide +kernel
theorem dX10_region_111 : decode cX10_region 111 = .ok (.iload 5, 2) := by decide +kernel
theorem dX10_region_113 : decode cX10_region 113 = .ok (.iastore, 1) := by decide +kernel
theorem dX10_region_114 : decode cX10_region 114 = .ok (.return_, 1) := by decide +kernel
set_option maxHeartbeats 8000000 in
set_option maxRecDepth 100000 in
theorem u_X10_region (l : Launch) (E : EE) (z0 : Nat) (G : Nat → Nat) (hGz : ∀ q, G q ≠ 0 → z0 ≤ q) (h0 : Nat) (rf : Nat → Nat) (hR : MG G h0 rf) (t0 t1 t2 : Int32) (A : AA) (cd pk : Int32) (p0 : Int32) (p1 : Int32) (p2 : Int32) (p3 : Int32) (p4 : Int32) (hI2 : I2 (A 5) (A 6)) : Met l yX10_region [Cond.code yX10_region cX10_region 7 none] ({ frames := 1, cells := 0, slots := 0, locals := 21 } : Room) (va_Pc [.ref h0, .int p0, .int p1, .int p2, .int p3, .int p4] (fun U => MH E h0 rf t0 t1 t2 A cd pk U.heap ∧ KS E z0 U)) (va_Qv (fun (u : (Nat → Int32) × (Nat → Int32) × (Nat → Int32) × Int32) => (I2 (u.1) (u.2.1)) ∧ ((u.2.2.2) = if (0 ≤ p0.toInt ∧ p0.toInt < 2 ∧ 0 ≤ p1.toInt ∧ p1.toInt < 6 ∧ 0 ≤ p4.toInt ∧ p4.toInt ≤ 7 ∧ 0 ≤ p2.toInt ∧ 0 ≤ p3.toInt ∧ p3.toInt ≤ 32 - p2.toInt) then 0 else 1) ∧ (D_X10_region A cd pk p0 p1 p2 p3 p4 (uA (uA (uA A 5 (u.1)) 6 (u.2.1)) 7 (u.2.2.1)) (u.2.2.2) pk)) (fun u t => MH E h0 rf t0 t1 t2 (uA (uA (uA A 5 (u.1)) 6 (u.2.1)) 7 (u.2.2.1)) (u.2.2.2) pk t.heap) (fun q : Nat => G q ≠ 0)) 0 0 (fun q : Nat => G q ≠ 0) := by
  refine Met.ofW (cc := cX10_region) (maxL := 7) (ret := none) (by decide) rfl ?_
  intro p e s m args below meth c s₁ B hml hv
  obtain ⟨rfl, hM, hK⟩ := hv
  have hx := B.exec
  have hb := B.bytes
  have hr := B.returns
  have hts : ∀ w ∈ TS, w.before ([.ref h0, .int p0, .int p1, .int p2, .int p3, .int p4] : List Value).toArray s = true := fun w hw => hK.2.1 w hw _
  have hown : s.vm.findClass RX10 = some m.cls := findClass_of_methodNamed B.named
  have hlocks := B.notSynchronized
  have hS : va_S (fun q : Nat => G q ≠ 0) s.heap s.heap [] := va_S.rf
  have hAz : ∀ q, (fun q : Nat => G q ≠ 0) q → z0 ≤ q := hGz
  have hl := lv_entry ([.ref h0, .int p0, .int p1, .int p2, .int p3, .int p4]) (n := 7) (Nat.le_of_ble_eq_true rfl)
  rw [lg_entry_eq]
  generalize (lg_sl ([.ref h0, .int p0, .int p1, .int p2, .int p3, .int p4]) ++ List.replicate (7 - (lg_sl ([.ref h0, .int p0, .int p1, .int p2, .int p3, .int p4])).length) Slot.unset).toArray = ls at hl ⊢
  have hl : lv_has ls 7 [(0, .ref h0), (1, .int p0), (2, .int p1), (3, .int p2), (4, .int p3), (5, .int p4)] := hl
  refine lv_aload_n hx hb dX10_region_0 rfl (lv_at hl 0 rfl) ?_
  refine lv_iconst (v := 0) hx hb dX10_region_1 (by decide) ?_
  refine rr_put (D := DG E) (ci := 10) (v := .int 0) (ty := .int) (C := RX10) (T := TX10) (N := 49) hx hb hts iw_X10 tyX10 tyX10_ok nmX10 hown hK.1 hM.1 hS (by show G h0 ≠ 0; rw [hR.1]; decide) rfl 3 (by decide) (hts _ fl_X10_153) (fun _ h9 => h9) rfl (by decide +kernel) rfl rfl (Nat.le_of_ble_eq_true rfl) dX10_region_2 (fun H locs hn ho hz hS => ?_)
  have hM : MH E h0 rf t0 t1 t2 A 0 pk H := hM.sc hR hn ho
  refine lv_iload_n hx hb dX10_region_5 rfl (lv_at hl 1 rfl) ?_
  refine lv_iconst (v := 1) hx hb dX10_region_6 (by decide) ?_
  refine W.callR (W.runS (As := [.int p0, .int 1]) (rest := []) ⟨hx, hb, hml, hown, hts⟩ (c_X10_within l p0 1) (cwS 2 hts (gdS ml_X10_156 st_X10_within in_X10 co_X10_within rfl) rfl rfl rfl (by decide +kernel) ⟨Nat.le_of_ble_eq_true rfl, Nat.le_of_ble_eq_true rfl⟩) preEq rfl rfl hl.1 rfl (lv_room (Nat.le_of_ble_eq_true rfl)) dX10_region_7 ⟨Nat.le_of_ble_eq_true rfl, Nat.le_of_ble_eq_true rfl⟩) ?_
  refine W.eq (g2 := F0 m 10 ls [.int (bI (0 ≤ p0.toInt ∧ p0.toInt ≤ (1 : Int32).toInt))]) (by rfl) ?_
  refine lv_if_eq (tgt := 50) hx hb dX10_region_10 (by decide) (fun c_1 => ?_) (fun c_1 => ?_)
  · have c_1 := bI_0 c_1
    have c_1r := c_1
    try simp only [lt_I, le_I, eq_I, i_0, i_1, i_2, i_3, i_4, i_5, i_6, i_7, i_8, i_10, i_12, i_16, i_20, i_23, i_24, i_31, i_32, i_63, i_64, i_m1, i_9, i_11, i_13, i_25, i_60, i_75, i_79, i_80, i_96, i_100] at c_1
    refine lv_aload_n hx hb dX10_region_50 rfl (lv_at hl 0 rfl) ?_
    refine lv_iconst (v := 1) hx hb dX10_region_51 (by decide) ?_
    refine rr_put (D := DG E) (ci := 10) (v := .int 1) (ty := .int) (C := RX10) (T := TX10) (N := 49) hx hb hts iw_X10 tyX10 tyX10_ok nmX10 hown hK.1 hM.1 hS (by show G h0 ≠ 0; rw [hR.1]; decide) rfl 3 (by decide) (hts _ fl_X10_153) (fun _ h9 => h9) rfl (by decide +kernel) rfl rfl (Nat.le_of_ble_eq_true rfl) dX10_region_52 (fun H locs hn ho hz hS => ?_)
    have hM : MH E h0 rf t0 t1 t2 A 1 pk H := hM.sc hR hn ho
    refine lv_goto (tgt := 72) hx hb dX10_region_55 (by decide) ?_
    refine lv_aload_n hx hb dX10_region_72 rfl (lv_at hl 0 rfl) ?_
    refine va_get (D := DG E) (ci := 10) (v := .int 1) (C := RX10) (T := TX10) (N := 49) hx hb hts iw_X10 hown hK.1 (va_one hM.1) 0 rfl rfl 3 (by decide) (hts _ fl_X10_153) (fun _ h9 => h9) rfl dX10_region_73 ?_
    refine lv_if_eq (tgt := 80) hx hb dX10_region_76 (by decide) (fun c_2 => absurd c_2 (by decide)) (fun c_2 => ?_)
    exact W.vret hx hb hr (fun t ht hW => ⟨⟨((A 5), (A 6), (A 7), 1), rfl, ⟨hI2, (show (1 : Int32) = if (0 ≤ p0.toInt ∧ p0.toInt < 2 ∧ 0 ≤ p1.toInt ∧ p1.toInt < 6 ∧ 0 ≤ p4.toInt ∧ p4.toInt ≤ 7 ∧ 0 ≤ p2.toInt ∧ 0 ≤ p3.toInt ∧ p3.toInt ≤ 32 - p2.toInt) then 0 else 1 from (by first | rw [if_pos (by omega)] | rw [if_neg (by omega)])), (Or.inl ⟨c_1r, rfl, rfl, rfl⟩)⟩, (by show MH E h0 rf t0 t1 t2 (uA (uA (uA A 5 (A 5)) 6 (A 6)) 7 (A 7)) 1 pk t.heap; rw [ht]; exact hM.cg9 rfl rfl rfl rfl rfl rfl rfl rfl rfl rfl rfl rfl rfl rfl rfl rfl rfl rfl rfl rfl rfl rfl rfl rfl rfl rfl rfl rfl rfl rfl rfl rfl rfl rfl rfl rfl rfl rfl rfl rfl rfl rfl rfl rfl)⟩, hS.F ht⟩) hS.2.2 dX10_region_79
  · have c_1 := bI_n c_1
    have c_1r := c_1
    try simp only [lt_I, le_I, eq_I, i_0, i_1, i_2, i_3, i_4, i_5, i_6, i_7, i_8, i_10, i_12, i_16, i_20, i_23, i_24, i_31, i_32, i_63, i_64, i_m1, i_9, i_11, i_13, i_25, i_60, i_75, i_79, i_80, i_96, i_100] at c_1
    refine lv_iload_n hx hb dX10_region_13 rfl (lv_at hl 2 rfl) ?_
    refine lv_iconst (v := 5) hx hb dX10_region_14 (by decide) ?_
    refine W.callR (W.runS (As := [.int p1, .int 5]) (rest := []) ⟨hx, hb, hml, hown, hts⟩ (c_X10_within l p1 5) (cwS 2 hts (gdS ml_X10_156 st_X10_within in_X10 co_X10_within rfl) rfl rfl rfl (by decide +kernel) ⟨Nat.le_of_ble_eq_true rfl, Nat.le_of_ble_eq_true rfl⟩) preEq rfl rfl hl.1 rfl (lv_room (Nat.le_of_ble_eq_true rfl)) dX10_region_15 ⟨Nat.le_of_ble_eq_true rfl, Nat.le_of_ble_eq_true rfl⟩) ?_
    refine W.eq (g2 := F0 m 18 ls [.int (bI (0 ≤ p1.toInt ∧ p1.toInt ≤ (5 : Int32).toInt))]) (by rfl) ?_
    refine lv_if_eq (tgt := 50) hx hb dX10_region_18 (by decide) (fun c_3 => ?_) (fun c_3 => ?_)
    · have c_3 := bI_0 c_3
      have c_3r := c_3
      try simp only [lt_I, le_I, eq_I, i_0, i_1, i_2, i_3, i_4, i_5, i_6, i_7, i_8, i_10, i_12, i_16, i_20, i_23, i_24, i_31, i_32, i_63, i_64, i_m1, i_9, i_11, i_13, i_25, i_60, i_75, i_79, i_80, i_96, i_100] at c_3
      refine lv_aload_n hx hb dX10_region_50 rfl (lv_at hl 0 rfl) ?_
      refine lv_iconst (v := 1) hx hb dX10_region_51 (by decide) ?_
      refine rr_put (D := DG E) (ci := 10) (v := .int 1) (ty := .int) (C := RX10) (T := TX10) (N := 49) hx hb hts iw_X10 tyX10 tyX10_ok nmX10 hown hK.1 hM.1 hS (by show G h0 ≠ 0; rw [hR.1]; decide) rfl 3 (by decide) (hts _ fl_X10_153) (fun _ h9 => h9) rfl (by decide +kernel) rfl rfl (Nat.le_of_ble_eq_true rfl) dX10_region_52 (fun H locs hn ho hz hS => ?_)
      have hM : MH E h0 rf t0 t1 t2 A 1 pk H := hM.sc hR hn ho
      refine lv_goto (tgt := 72) hx hb dX10_region_55 (by decide) ?_
      refine lv_aload_n hx hb dX10_region_72 rfl (lv_at hl 0 rfl) ?_
      refine va_get (D := DG E) (ci := 10) (v := .int 1) (C := RX10) (T := TX10) (N := 49) hx hb hts iw_X10 hown hK.1 (va_one hM.1) 0 rfl rfl 3 (by decide) (hts _ fl_X10_153) (fun _ h9 => h9) rfl dX10_region_73 ?_
      refine lv_if_eq (tgt := 80) hx hb dX10_region_76 (by decide) (fun c_4 => absurd c_4 (by decide)) (fun c_4 => ?_)
      exact W.vret hx hb hr (fun t ht hW => ⟨⟨((A 5), (A 6), (A 7), 1), rfl, ⟨hI2, (show (1 : Int32) = if (0 ≤ p0.toInt ∧ p0.toInt < 2 ∧ 0 ≤ p1.toInt ∧ p1.toInt < 6 ∧ 0 ≤ p4.toInt ∧ p4.toInt ≤ 7 ∧ 0 ≤ p2.toInt ∧ 0 ≤ p3.toInt ∧ p3.toInt ≤ 32 - p2.toInt) then 0 else 1 from (by first | rw [if_pos (by omega)] | rw [if_neg (by omega)])), (Or.inr (Or.inl ⟨c_1r, c_3r, rfl, rfl, rfl⟩))⟩, (by show MH E h0 rf t0 t1 t2 (uA (uA (uA A 5 (A 5)) 6 (A 6)) 7 (A 7)) 1 pk t.heap; rw [ht]; exact hM.cg9 rfl rfl rfl rfl rfl rfl rfl rfl rfl rfl rfl rfl rfl rfl rfl rfl rfl rfl rfl rfl rfl rfl rfl rfl rfl rfl rfl rfl rfl rfl rfl rfl rfl rfl rfl rfl rfl rfl rfl rfl rfl rfl rfl rfl)⟩, hS.F ht⟩) hS.2.2 dX10_region_79
    · have c_3 := bI_n c_3
      have c_3r := c_3
      try simp only [lt_I, le_I, eq_I, i_0, i_1, i_2, i_3, i_4, i_5, i_6, i_7, i_8, i_10, i_12, i_16, i_20, i_23, i_24, i_31, i_32, i_63, i_64, i_m1, i_9, i_11, i_13, i_25, i_60, i_75, i_79, i_80, i_96, i_100] at c_3
      refine lv_iload_n hx hb dX10_region_21 rfl (lv_at hl 3 rfl) ?_
      refine lv_bipush (v := 32) hx hb dX10_region_22 (by decide) ?_
      refine W.callR (W.runS (As := [.int p2, .int 32]) (rest := []) ⟨hx, hb, hml, hown, hts⟩ (c_X10_within l p2 32) (cwS 2 hts (gdS ml_X10_156 st_X10_within in_X10 co_X10_within rfl) rfl rfl rfl (by decide +kernel) ⟨Nat.le_of_ble_eq_true rfl, Nat.le_of_ble_eq_true rfl⟩) preEq rfl rfl hl.1 rfl (lv_room (Nat.le_of_ble_eq_true rfl)) dX10_region_24 ⟨Nat.le_of_ble_eq_true rfl, Nat.le_of_ble_eq_true rfl⟩) ?_
      refine W.eq (g2 := F0 m 27 ls [.int (bI (0 ≤ p2.toInt ∧ p2.toInt ≤ (32 : Int32).toInt))]) (by rfl) ?_
      refine lv_if_eq (tgt := 50) hx hb dX10_region_27 (by decide) (fun c_5 => ?_) (fun c_5 => ?_)
      · have c_5 := bI_0 c_5
        have c_5r := c_5
        try simp only [lt_I, le_I, eq_I, i_0, i_1, i_2, i_3, i_4, i_5, i_6, i_7, i_8, i_10, i_12, i_16, i_20, i_23, i_24, i_31, i_32, i_63, i_64, i_m1, i_9, i_11, i_13, i_25, i_60, i_75, i_79, i_80, i_96, i_100] at c_5
        refine lv_aload_n hx hb dX10_region_50 rfl (lv_at hl 0 rfl) ?_
        refine lv_iconst (v := 1) hx hb dX10_region_51 (by decide) ?_
        refine rr_put (D := DG E) (ci := 10) (v := .int 1) (ty := .int) (C := RX10) (T := TX10) (N := 49) hx hb hts iw_X10 tyX10 tyX10_ok nmX10 hown hK.1 hM.1 hS (by show G h0 ≠ 0; rw [hR.1]; decide) rfl 3 (by decide) (hts _ fl_X10_153) (fun _ h9 => h9) rfl (by decide +kernel) rfl rfl (Nat.le_of_ble_eq_true rfl) dX10_region_52 (fun H locs hn ho hz hS => ?_)
        have hM : MH E h0 rf t0 t1 t2 A 1 pk H := hM.sc hR hn ho
        refine lv_goto (tgt := 72) hx hb dX10_region_55 (by decide) ?_
        refine lv_aload_n hx hb dX10_region_72 rfl (lv_at hl 0 rfl) ?_
        refine va_get (D := DG E) (ci := 10) (v := .int 1) (C := RX10) (T := TX10) (N := 49) hx hb hts iw_X10 hown hK.1 (va_one hM.1) 0 rfl rfl 3 (by decide) (hts _ fl_X10_153) (fun _ h9 => h9) rfl dX10_region_73 ?_
        refine lv_if_eq (tgt := 80) hx hb dX10_region_76 (by decide) (fun c_6 => absurd c_6 (by decide)) (fun c_6 => ?_)
        exact W.vret hx hb hr (fun t ht hW => ⟨⟨((A 5), (A 6), (A 7), 1), rfl, ⟨hI2, (show (1 : Int32) = if (0 ≤ p0.toInt ∧ p0.toInt < 2 ∧ 0 ≤ p1.toInt ∧ p1.toInt < 6 ∧ 0 ≤ p4.toInt ∧ p4.toInt ≤ 7 ∧ 0 ≤ p2.toInt ∧ 0 ≤ p3.toInt ∧ p3.toInt ≤ 32 - p2.toInt) then 0 else 1 from (by first | rw [if_pos (by omega)] | rw [if_neg (by omega)])), (Or.inr (Or.inr (Or.inl ⟨c_1r, c_3r, c_5r, rfl, rfl, rfl⟩)))⟩, (by show MH E h0 rf t0 t1 t2 (uA (uA (uA A 5 (A 5)) 6 (A 6)) 7 (A 7)) 1 pk t.heap; rw [ht]; exact hM.cg9 rfl rfl rfl rfl rfl rfl rfl rfl rfl rfl rfl rfl rfl rfl rfl rfl rfl rfl rfl rfl rfl rfl rfl rfl rfl rfl rfl rfl rfl rfl rfl rfl rfl rfl rfl rfl rfl rfl rfl rfl rfl rfl rfl rfl)⟩, hS.F ht⟩) hS.2.2 dX10_region_79
      · have c_5 := bI_n c_5
        have c_5r := c_5
        try simp only [lt_I, le_I, eq_I, i_0, i_1, i_2, i_3, i_4, i_5, i_6, i_7, i_8, i_10, i_12, i_16, i_20, i_23, i_24, i_31, i_32, i_63, i_64, i_m1, i_9, i_11, i_13, i_25, i_60, i_75, i_79, i_80, i_96, i_100] at c_5
        refine lv_iload hx hb dX10_region_30 (lv_at hl 4 rfl) ?_
        refine lv_bipush (v := 32) hx hb dX10_region_32 (by decide) ?_
        refine W.callR (W.runS (As := [.int p3, .int 32]) (rest := []) ⟨hx, hb, hml, hown, hts⟩ (c_X10_within l p3 32) (cwS 2 hts (gdS ml_X10_156 st_X10_within in_X10 co_X10_within rfl) rfl rfl rfl (by decide +kernel) ⟨Nat.le_of_ble_eq_true rfl, Nat.le_of_ble_eq_true rfl⟩) preEq rfl rfl hl.1 rfl (lv_room (Nat.le_of_ble_eq_true rfl)) dX10_region_34 ⟨Nat.le_of_ble_eq_true rfl, Nat.le_of_ble_eq_true rfl⟩) ?_
        refine W.eq (g2 := F0 m 37 ls [.int (bI (0 ≤ p3.toInt ∧ p3.toInt ≤ (32 : Int32).toInt))]) (by rfl) ?_
        refine lv_if_eq (tgt := 50) hx hb dX10_region_37 (by decide) (fun c_7 => ?_) (fun c_7 => ?_)
        · have c_7 := bI_0 c_7
          have c_7r := c_7
          try simp only [lt_I, le_I, eq_I, i_0, i_1, i_2, i_3, i_4, i_5, i_6, i_7, i_8, i_10, i_12, i_16, i_20, i_23, i_24, i_31, i_32, i_63, i_64, i_m1, i_9, i_11, i_13, i_25, i_60, i_75, i_79, i_80, i_96, i_100] at c_7
          refine lv_aload_n hx hb dX10_region_50 rfl (lv_at hl 0 rfl) ?_
          refine lv_iconst (v := 1) hx hb dX10_region_51 (by decide) ?_
          refine rr_put (D := DG E) (ci := 10) (v := .int 1) (ty := .int) (C := RX10) (T := TX10) (N := 49) hx hb hts iw_X10 tyX10 tyX10_ok nmX10 hown hK.1 hM.1 hS (by show G h0 ≠ 0; rw [hR.1]; decide) rfl 3 (by decide) (hts _ fl_X10_153) (fun _ h9 => h9) rfl (by decide +kernel) rfl rfl (Nat.le_of_ble_eq_true rfl) dX10_region_52 (fun H locs hn ho hz hS => ?_)
          have hM : MH E h0 rf t0 t1 t2 A 1 pk H := hM.sc hR hn ho
          refine lv_goto (tgt := 72) hx hb dX10_region_55 (by decide) ?_
          refine lv_aload_n hx hb dX10_region_72 rfl (lv_at hl 0 rfl) ?_
          refine va_get (D := DG E) (ci := 10) (v := .int 1) (C := RX10) (T := TX10) (N := 49) hx hb hts iw_X10 hown hK.1 (va_one hM.1) 0 rfl rfl 3 (by decide) (hts _ fl_X10_153) (fun _ h9 => h9) rfl dX10_region_73 ?_
          refine lv_if_eq (tgt := 80) hx hb dX10_region_76 (by decide) (fun c_8 => absurd c_8 (by decide)) (fun c_8 => ?_)
          exact W.vret hx hb hr (fun t ht hW => ⟨⟨((A 5), (A 6), (A 7), 1), rfl, ⟨hI2, (show (1 : Int32) = if (0 ≤ p0.toInt ∧ p0.toInt < 2 ∧ 0 ≤ p1.toInt ∧ p1.toInt < 6 ∧ 0 ≤ p4.toInt ∧ p4.toInt ≤ 7 ∧ 0 ≤ p2.toInt ∧ 0 ≤ p3.toInt ∧ p3.toInt ≤ 32 - p2.toInt) then 0 else 1 from (by first | rw [if_pos (by omega)] | rw [if_neg (by omega)])), (Or.inr (Or.inr (Or.inr (Or.inl ⟨c_1r, c_3r, c_5r, c_7r, rfl, rfl, rfl⟩))))⟩, (by show MH E h0 rf t0 t1 t2 (uA (uA (uA A 5 (A 5)) 6 (A 6)) 7 (A 7)) 1 pk t.heap; rw [ht]; exact hM.cg9 rfl rfl rfl rfl rfl rfl rfl rfl rfl rfl rfl rfl rfl rfl rfl rfl rfl rfl rfl rfl rfl rfl rfl rfl rfl rfl rfl rfl rfl rfl rfl rfl rfl rfl rfl rfl rfl rfl rfl rfl rfl rfl rfl rfl)⟩, hS.F ht⟩) hS.2.2 dX10_region_79
        · have c_7 := bI_n c_7
          have c_7r := c_7
          try simp only [lt_I, le_I, eq_I, i_0, i_1, i_2, i_3, i_4, i_5, i_6, i_7, i_8, i_10, i_12, i_16, i_20, i_23, i_24, i_31, i_32, i_63, i_64, i_m1, i_9, i_11, i_13, i_25, i_60, i_75, i_79, i_80, i_96, i_100] at c_7
          refine lv_iload hx hb dX10_region_40 (lv_at hl 5 rfl) ?_
          refine lv_bipush (v := 7) hx hb dX10_region_42 (by decide) ?_
          refine W.callR (W.runS (As := [.int p4, .int 7]) (rest := []) ⟨hx, hb, hml, hown, hts⟩ (c_X10_within l p4 7) (cwS 2 hts (gdS ml_X10_156 st_X10_within in_X10 co_X10_within rfl) rfl rfl rfl (by decide +kernel) ⟨Nat.le_of_ble_eq_true rfl, Nat.le_of_ble_eq_true rfl⟩) preEq rfl rfl hl.1 rfl (lv_room (Nat.le_of_ble_eq_true rfl)) dX10_region_44 ⟨Nat.le_of_ble_eq_true rfl, Nat.le_of_ble_eq_true rfl⟩) ?_
          refine W.eq (g2 := F0 m 47 ls [.int (bI (0 ≤ p4.toInt ∧ p4.toInt ≤ (7 : Int32).toInt))]) (by rfl) ?_
          refine lv_if_ne (tgt := 58) hx hb dX10_region_47 (by decide) (fun c_9 => ?_) (fun c_9 => ?_)
          · have c_9 := bI_n c_9
            have c_9r := c_9
            try simp only [lt_I, le_I, eq_I, i_0, i_1, i_2, i_3, i_4, i_5, i_6, i_7, i_8, i_10, i_12, i_16, i_20, i_23, i_24, i_31, i_32, i_63, i_64, i_m1, i_9, i_11, i_13, i_25, i_60, i_75, i_79, i_80, i_96, i_100] at c_9
            refine lv_iload_n hx hb dX10_region_58 rfl (lv_at hl 3 rfl) ?_
            refine lv_iload hx hb dX10_region_59 (lv_at hl 4 rfl) ?_
            refine lv_iadd hx hb dX10_region_61 ?_
            refine lv_topi (fun x_10 ex_10 => ?_)
            have fx_10 : x_10.toInt = p2.toInt + p3.toInt := by have h9 := s_add (x := p2) (y := p3) (by omega) (by omega); rw [ex_10]; exact h9
            refine lv_bipush (v := 32) hx hb dX10_region_62 (by decide) ?_
            refine lv_icmp_le (tgt := 72) hx hb dX10_region_64 (by decide) (fun c_11 => ?_) (fun c_11 => ?_)
            · simp only [lt_I, le_I, eq_I, i_0, i_1, i_2, i_3, i_4, i_5, i_6, i_7, i_8, i_10, i_12, i_16, i_20, i_23, i_24, i_31, i_32, i_63, i_64, i_m1, i_9, i_11, i_13, i_25, i_60, i_75, i_79, i_80, i_96, i_100] at c_11
              refine lv_aload_n hx hb dX10_region_72 rfl (lv_at hl 0 rfl) ?_
              refine va_get (D := DG E) (ci := 10) (v := .int 0) (C := RX10) (T := TX10) (N := 49) hx hb hts iw_X10 hown hK.1 (va_one hM.1) 0 rfl rfl 3 (by decide) (hts _ fl_X10_153) (fun _ h9 => h9) rfl dX10_region_73 ?_
              refine lv_if_eq (tgt := 80) hx hb dX10_region_76 (by decide) (fun c_12 => ?_) (fun c_12 => absurd c_12 (by decide))
              refine lv_bipush (v := 6) hx hb dX10_region_80 (by decide) ?_
              refine lv_iload_n hx hb dX10_region_82 rfl (lv_at hl 1 rfl) ?_
              refine lv_imul hx hb dX10_region_83 ?_
              refine lv_topi (fun x_13 ex_13 => ?_)
              have fx_13 : x_13.toInt = 6 * p0.toInt := by rw [ex_13]; exact s_mulK i_6 (by omega) (by omega)
              refine lv_iload_n hx hb dX10_region_84 rfl (lv_at hl 2 rfl) ?_
              refine lv_iadd hx hb dX10_region_85 ?_
              refine lv_topi (fun x_14 ex_14 => ?_)
              have fx_14 : x_14.toInt = x_13.toInt + p1.toInt := by have h9 := s_add (x := x_13) (y := p1) (by omega) (by omega); rw [ex_14]; exact h9
              refine lv_istore (lv' := [(6, .int x_14), (0, .ref h0), (1, .int p0), (2, .int p1), (3, .int p2), (4, .int p3), (5, .int p4)]) hx hb dX10_region_86 hl (by decide) rfl (fun ls hl => ?_)
              refine lv_aload_n hx hb dX10_region_88 rfl (lv_at hl 1 rfl) ?_
              refine va_get (D := DG E) (ci := 10) (v := .ref (rf 5)) (C := RX10) (T := TX10) (N := 49) hx hb hts iw_X10 hown hK.1 (va_one hM.1) 0 rfl rfl 5 (by decide) (hts _ fl_X10_13) (fun _ h9 => h9) rfl dX10_region_89 ?_
              refine lv_iload hx hb dX10_region_92 (lv_at hl 0 rfl) ?_
              refine lv_iload_n hx hb dX10_region_94 rfl (lv_at hl 4 rfl) ?_
              have hi_15 : vp_in x_14 12 := vp_in_iff.mpr (by omega)
              have ha_16 : va_at (DG E) vwCl (rf 5, .inl (E.2.2 0, 12, .inl (A 5))) _ := hM.2 5 (by decide) (by decide) (by decide)
              obtain ⟨n_17, hn_17, en_17⟩ := s_nat (x := x_14) (by omega)
              refine rr_iast (D := DG E) hx hb hK.1 0 ha_16 hS (by show G (rf 5) ≠ 0; rw [hR.2 5 (by decide) (by decide) (by decide)]; decide) rfl hi_15 dX10_region_95 (fun H locs hn ho hz hS => ?_)
              rw [en_17] at hn
              obtain ⟨g_16, eg_16⟩ : ∃ z : Nat → Int32, z = upd (A 5) n_17 p2 := ⟨_, rfl⟩
              have sg_16 : g_16 n_17 = p2 := by rw [eg_16]; exact upd_s
              have ng_16 : ∀ k, k ≠ n_17 → g_16 k = (A 5) k := fun k hk => by rw [eg_16]; exact upd_n hk
              have hn : va_at (DG E) vwCl (rf 5, .inl (E.2.2 0, 12, .inl g_16)) H := by rw [eg_16]; exact hn
              have hM : MH E h0 rf t0 t1 t2 (uA A 5 g_16) 0 pk H := hM.w hR 5 (by decide) (by decide) (by decide) hn ho
              refine lv_aload_n hx hb dX10_region_96 rfl (lv_at hl 1 rfl) ?_
              refine va_get (D := DG E) (ci := 10) (v := .ref (rf 6)) (C := RX10) (T := TX10) (N := 49) hx hb hts iw_X10 hown hK.1 (va_one hM.1) 0 rfl rfl 6 (by decide) (hts _ fl_X10_16) (fun _ h9 => h9) rfl dX10_region_97 ?_
              refine lv_iload hx hb dX10_region_100 (lv_at hl 0 rfl) ?_
              refine lv_iload hx hb dX10_region_102 (lv_at hl 5 rfl) ?_
              have ha_18 : va_at (DG E) vwCl (rf 6, .inl (E.2.2 0, 12, .inl (A 6))) _ := hM.2 6 (by decide) (by decide) (by decide)
              refine rr_iast (D := DG E) hx hb hK.1 0 ha_18 hS (by show G (rf 6) ≠ 0; rw [hR.2 6 (by decide) (by decide) (by decide)]; decide) rfl hi_15 dX10_region_104 (fun H locs hn ho hz hS => ?_)
              rw [en_17] at hn
              obtain ⟨g_18, eg_18⟩ : ∃ z : Nat → Int32, z = upd (A 6) n_17 p3 := ⟨_, rfl⟩
              have sg_18 : g_18 n_17 = p3 := by rw [eg_18]; exact upd_s
              have ng_18 : ∀ k, k ≠ n_17 → g_18 k = (A 6) k := fun k hk => by rw [eg_18]; exact upd_n hk
              have hn : va_at (DG E) vwCl (rf 6, .inl (E.2.2 0, 12, .inl g_18)) H := by rw [eg_18]; exact hn
              have hM : MH E h0 rf t0 t1 t2 (uA (uA A 5 g_16) 6 g_18) 0 pk H := hM.w hR 6 (by decide) (by decide) (by decide) hn ho
              refine lv_aload_n hx hb dX10_region_105 rfl (lv_at hl 1 rfl) ?_
              refine va_get (D := DG E) (ci := 10) (v := .ref (rf 7)) (C := RX10) (T := TX10) (N := 49) hx hb hts iw_X10 hown hK.1 (va_one hM.1) 0 rfl rfl 7 (by decide) (hts _ fl_X10_19) (fun _ h9 => h9) rfl dX10_region_106 ?_
              refine lv_iload hx hb dX10_region_109 (lv_at hl 0 rfl) ?_
              refine lv_iload hx hb dX10_region_111 (lv_at hl 6 rfl) ?_
              have ha_19 : va_at (DG E) vwCl (rf 7, .inl (E.2.2 0, 12, .inl (A 7))) _ := hM.2 7 (by decide) (by decide) (by decide)
              refine rr_iast (D := DG E) hx hb hK.1 0 ha_19 hS (by show G (rf 7) ≠ 0; rw [hR.2 7 (by decide) (by decide) (by decide)]; decide) rfl hi_15 dX10_region_113 (fun H locs hn ho hz hS => ?_)
              rw [en_17] at hn
              obtain ⟨g_19, eg_19⟩ : ∃ z : Nat → Int32, z = upd (A 7) n_17 p4 := ⟨_, rfl⟩
              have sg_19 : g_19 n_17 = p4 := by rw [eg_19]; exact upd_s
              have ng_19 : ∀ k, k ≠ n_17 → g_19 k = (A 7) k := fun k hk => by rw [eg_19]; exact upd_n hk
              have hn : va_at (DG E) vwCl (rf 7, .inl (E.2.2 0, 12, .inl g_19)) H := by rw [eg_19]; exact hn
              have hM : MH E h0 rf t0 t1 t2 (uA (uA (uA A 5 g_16) 6 g_18) 7 g_19) 0 pk H := hM.w hR 7 (by decide) (by decide) (by decide) hn ho
              have hI2_20 : I2 g_16 g_18 := by
                intro n9 hn9
                have h9 : 0 ≤ ((A 5) n9).toInt ∧ 0 ≤ ((A 6) n9).toInt ∧ ((A 5) n9).toInt + ((A 6) n9).toInt ≤ 32 := hI2 n9 hn9
                show 0 ≤ (g_16 n9).toInt ∧ 0 ≤ (g_18 n9).toInt ∧ (g_16 n9).toInt + (g_18 n9).toInt ≤ 32
                by_cases ezn_17 : n9 = n_17
                · rw [ezn_17] at h9 ⊢
                  rw [sg_16]
                  rw [sg_18]
                  clear h9
                  exact ⟨by omega, by omega, by omega⟩
                · rw [ng_16 n9 ezn_17]
                  rw [ng_18 n9 ezn_17]
                  exact h9
              exact W.vret hx hb hr (fun t ht hW => ⟨⟨(g_16, g_18, g_19, 0), rfl, ⟨hI2_20, (show (0 : Int32) = if (0 ≤ p0.toInt ∧ p0.toInt < 2 ∧ 0 ≤ p1.toInt ∧ p1.toInt < 6 ∧ 0 ≤ p4.toInt ∧ p4.toInt ≤ 7 ∧ 0 ≤ p2.toInt ∧ 0 ≤ p3.toInt ∧ p3.toInt ≤ 32 - p2.toInt) then 0 else 1 from (by first | rw [if_pos (by omega)] | rw [if_neg (by omega)])), (Or.inr (Or.inr (Or.inr (Or.inr (Or.inl ⟨c_1r, c_3r, c_5r, c_7r, c_9r, x_10, ex_10, fx_10, c_11, x_13, ex_13, fx_13, x_14, ex_14, fx_14, n_17, hn_17, g_16, eg_16, g_18, eg_18, g_19, eg_19, rfl, rfl, rfl⟩)))))⟩, (by show MH E h0 rf t0 t1 t2 (uA (uA (uA A 5 g_16) 6 g_18) 7 g_19) 0 pk t.heap; rw [ht]; exact hM)⟩, hS.F ht⟩) hS.2.2 dX10_region_114
            · simp only [lt_I, le_I, eq_I, i_0, i_1, i_2, i_3, i_4, i_5, i_6, i_7, i_8, i_10, i_12, i_16, i_20, i_23, i_24, i_31, i_32, i_63, i_64, i_m1, i_9, i_11, i_13, i_25, i_60, i_75, i_79, i_80, i_96, i_100] at c_11
              refine lv_aload_n hx hb dX10_region_67 rfl (lv_at hl 0 rfl) ?_
              refine lv_iconst (v := 1) hx hb dX10_region_68 (by decide) ?_
              refine rr_put (D := DG E) (ci := 10) (v := .int 1) (ty := .int) (C := RX10) (T := TX10) (N := 49) hx hb hts iw_X10 tyX10 tyX10_ok nmX10 hown hK.1 hM.1 hS (by show G h0 ≠ 0; rw [hR.1]; decide) rfl 3 (by decide) (hts _ fl_X10_153) (fun _ h9 => h9) rfl (by decide +kernel) rfl rfl (Nat.le_of_ble_eq_true rfl) dX10_region_69 (fun H locs hn ho hz hS => ?_)
              have hM : MH E h0 rf t0 t1 t2 A 1 pk H := hM.sc hR hn ho
              refine lv_aload_n hx hb dX10_region_72 rfl (lv_at hl 0 rfl) ?_
              refine va_get (D := DG E) (ci := 10) (v := .int 1) (C := RX10) (T := TX10) (N := 49) hx hb hts iw_X10 hown hK.1 (va_one hM.1) 0 rfl rfl 3 (by decide) (hts _ fl_X10_153) (fun _ h9 => h9) rfl dX10_region_73 ?_
              refine lv_if_eq (tgt := 80) hx hb dX10_region_76 (by decide) (fun c_21 => absurd c_21 (by decide)) (fun c_21 => ?_)
              exact W.vret hx hb hr (fun t ht hW => ⟨⟨((A 5), (A 6), (A 7), 1), rfl, ⟨hI2, (show (1 : Int32) = if (0 ≤ p0.toInt ∧ p0.toInt < 2 ∧ 0 ≤ p1.toInt ∧ p1.toInt < 6 ∧ 0 ≤ p4.toInt ∧ p4.toInt ≤ 7 ∧ 0 ≤ p2.toInt ∧ 0 ≤ p3.toInt ∧ p3.toInt ≤ 32 - p2.toInt) then 0 else 1 from (by first | rw [if_pos (by omega)] | rw [if_neg (by omega)])), (Or.inr (Or.inr (Or.inr (Or.inr (Or.inr (Or.inl ⟨c_1r, c_3r, c_5r, c_7r, c_9r, x_10, ex_10, fx_10, c_11, rfl, rfl, rfl⟩))))))⟩, (by show MH E h0 rf t0 t1 t2 (uA (uA (uA A 5 (A 5)) 6 (A 6)) 7 (A 7)) 1 pk t.heap; rw [ht]; exact hM.cg9 rfl rfl rfl rfl rfl rfl rfl rfl rfl rfl rfl rfl rfl rfl rfl rfl rfl rfl rfl rfl rfl rfl rfl rfl rfl rfl rfl rfl rfl rfl rfl rfl rfl rfl rfl rfl rfl rfl rfl rfl rfl rfl rfl rfl)⟩, hS.F ht⟩) hS.2.2 dX10_region_79
          · have c_9 := bI_0 c_9
            have c_9r := c_9
            try simp only [lt_I, le_I, eq_I, i_0, i_1, i_2, i_3, i_4, i_5, i_6, i_7, i_8, i_10, i_12, i_16, i_20, i_23, i_24, i_31, i_32, i_63, i_64, i_m1, i_9, i_11, i_13, i_25, i_60, i_75, i_79, i_80, i_96, i_100] at c_9
            refine lv_aload_n hx hb dX10_region_50 rfl (lv_at hl 0 rfl) ?_
            refine lv_iconst (v := 1) hx hb dX10_region_51 (by decide) ?_
            refine rr_put (D := DG E) (ci := 10) (v := .int 1) (ty := .int) (C := RX10) (T := TX10) (N := 49) hx hb hts iw_X10 tyX10 tyX10_ok nmX10 hown hK.1 hM.1 hS (by show G h0 ≠ 0; rw [hR.1]; decide) rfl 3 (by decide) (hts _ fl_X10_153) (fun _ h9 => h9) rfl (by decide +kernel) rfl rfl (Nat.le_of_ble_eq_true rfl) dX10_region_52 (fun H locs hn ho hz hS => ?_)
            have hM : MH E h0 rf t0 t1 t2 A 1 pk H := hM.sc hR hn ho
            refine lv_goto (tgt := 72) hx hb dX10_region_55 (by decide) ?_
            refine lv_aload_n hx hb dX10_region_72 rfl (lv_at hl 0 rfl) ?_
            refine va_get (D := DG E) (ci := 10) (v := .int 1) (C := RX10) (T := TX10) (N := 49) hx hb hts iw_X10 hown hK.1 (va_one hM.1) 0 rfl rfl 3 (by decide) (hts _ fl_X10_153) (fun _ h9 => h9) rfl dX10_region_73 ?_
            refine lv_if_eq (tgt := 80) hx hb dX10_region_76 (by decide) (fun c_22 => absurd c_22 (by decide)) (fun c_22 => ?_)
            exact W.vret hx hb hr (fun t ht hW => ⟨⟨((A 5), (A 6), (A 7), 1), rfl, ⟨hI2, (show (1 : Int32) = if (0 ≤ p0.toInt ∧ p0.toInt < 2 ∧ 0 ≤ p1.toInt ∧ p1.toInt < 6 ∧ 0 ≤ p4.toInt ∧ p4.toInt ≤ 7 ∧ 0 ≤ p2.toInt ∧ 0 ≤ p3.toInt ∧ p3.toInt ≤ 32 - p2.toInt) then 0 else 1 from (by first | rw [if_pos (by omega)] | rw [if_neg (by omega)])), (Or.inr (Or.inr (Or.inr (Or.inr (Or.inr (Or.inr ⟨c_1r, c_3r, c_5r, c_7r, c_9r, rfl, rfl, rfl⟩))))))⟩, (by show MH E h0 rf t0 t1 t2 (uA (uA (uA A 5 (A 5)) 6 (A 6)) 7 (A 7)) 1 pk t.heap; rw [ht]; exact hM.cg9 rfl rfl rfl rfl rfl rfl rfl rfl rfl rfl rfl rfl rfl rfl rfl rfl rfl rfl rfl rfl rfl rfl rfl rfl rfl rfl rfl rfl rfl rfl rfl rfl rfl rfl rfl rfl rfl rfl rfl rfl rfl rfl rfl rfl)⟩, hS.F ht⟩) hS.2.2 dX10_region_79
theorem dX10_store_0 : decode cX10_store 0 = .ok (.aload_n 0, 1) := by decide +kernel
theorem dX10_store_1 : decode cX10_store 1 = .ok (.iconst 0, 1) := by decide +kernel
theorem dX10_store_2 : decode cX10_store 2 = .ok (.putfield 153, 3) := by decide +kernel
theorem dX10_store_5 : decode cX10_store 5 = .ok (.iload_n 1, 1) := by decide +kernel
theorem dX10_store_6 : decode cX10_store 6 = .ok (.iconst 1, 1) := by decide +kernel
theorem dX10_store_7 : decode cX10_store 7 = .ok (.invokestatic 156, 3) := by decide +kernel
theorem dX10_store_10 : decode cX10_store 10 = .ok (.ifCond .eq 12, 3) := by decide +kernel
theorem dX10_store_13 : decode cX10_store 13 = .ok (.iload_n 2, 1) := by decide +kernel
theorem dX10_store_14 : decode cX10_store 14 = .ok (.bipush 31, 2) := by decide +kernel
theorem dX10_store_16 : decode cX10_store 16 = .ok (.invokestatic 156, 3) := by decide +kernel
theorem dX10_store_19 : decode cX10_store 19 = .ok (.ifCond .ne 11, 3) := by decide +kernel
theorem dX10_store_22 : decode cX10_store 22 = .ok (.aload_n 0, 1) := by decide +kernel
theorem dX10_store_23 : decode cX10_store 23 = .ok (.iconst 1, 1) := by decide +kernel
theorem dX10_store_24 : decode cX10_store 24 = .ok (.putfield 153, 3) := by decide +kernel
theorem dX10_store_27 : decode cX10_store 27 = .ok (.goto 15, 3) := by decide +kernel
theorem dX10_store_30 : decode cX10_store 30 = .ok (.aload_n 0, 1) := by decide +kernel
theorem dX10_store_31 : decode cX10_store 31 = .ok (.getfield 7, 3) := by decide +kernel
theorem dX10_store_34 : decode cX10_store 34 = .ok (.bipush 32, 2) := by decide +kernel
theorem dX10_store_36 : decode cX10_store 36 = .ok (.iload_n 1, 1) := by decide +kernel
theorem dX10_store_37 : decode cX10_store 37 = .ok (.imul, 1) := by decide +kernel
theorem dX10_store_38 : decode cX10_store 38 = .ok (.iload_n 2, 1) := by decide +kernel
theorem dX10_store_39 : decode cX10_store 39 = .ok (.iadd, 1) := by decide +kernel
theorem dX10_store_40 : decode cX10_store 40 = .ok (.iload_n 3, 1) := by decide +kernel
theorem dX10_store_41 : decode cX10_store 41 = .ok (.iastore, 1) := by decide +kernel
theorem dX10_store_42 : decode cX10_store 42 = .ok (.return_, 1) := by decide +kernel
set_option maxHeartbeats 8000000 in
set_option maxRecDepth 100000 in
theorem u_X10_store (l : Launch) (E : EE) (z0 : Nat) (G : Nat → Nat) (hGz : ∀ q, G q ≠ 0 → z0 ≤ q) (h0 : Nat) (rf : Nat → Nat) (hR : MG G h0 rf) (t0 t1 t2 : Int32) (A : AA) (cd pk : Int32) (p0 : Int32) (p1 : Int32) (p2 : Int32) : Met l yX10_store [Cond.code yX10_store cX10_store 4 none] ({ frames := 1, cells := 0, slots := 0, locals := 21 } : Room) (va_Pc [.ref h0, .int p0, .int p1, .int p2] (fun U => MH E h0 rf t0 t1 t2 A cd pk U.heap ∧ KS E z0 U)) (va_Qv (fun (u : (Nat → Int32) × Int32) => (True) ∧ ((u.2) = if (0 ≤ p0.toInt ∧ p0.toInt < 2 ∧ 0 ≤ p1.toInt ∧ p1.toInt < 32) then 0 else 1) ∧ (D_X10_store A cd pk p0 p1 p2 (uA A 4 (u.1)) (u.2) pk)) (fun u t => MH E h0 rf t0 t1 t2 (uA A 4 (u.1)) (u.2) pk t.heap) (fun q : Nat => G q ≠ 0)) 0 0 (fun q : Nat => G q ≠ 0) := by
  refine Met.ofW (cc := cX10_store) (maxL := 4) (ret := none) (by decide) rfl ?_
  intro p e s m args below meth c s₁ B hml hv
  obtain ⟨rfl, hM, hK⟩ := hv
  have hx := B.exec
  have hb := B.bytes
  have hr := B.returns
  have hts : ∀ w ∈ TS, w.before ([.ref h0, .int p0, .int p1, .int p2] : List Value).toArray s = true := fun w hw => hK.2.1 w hw _
  have hown : s.vm.findClass RX10 = some m.cls := findClass_of_methodNamed B.named
  have hlocks := B.notSynchronized
  have hS : va_S (fun q : Nat => G q ≠ 0) s.heap s.heap [] := va_S.rf
  have hAz : ∀ q, (fun q : Nat => G q ≠ 0) q → z0 ≤ q := hGz
  have hl := lv_entry ([.ref h0, .int p0, .int p1, .int p2]) (n := 4) (Nat.le_of_ble_eq_true rfl)
  rw [lg_entry_eq]
  generalize (lg_sl ([.ref h0, .int p0, .int p1, .int p2]) ++ List.replicate (4 - (lg_sl ([.ref h0, .int p0, .int p1, .int p2])).length) Slot.unset).toArray = ls at hl ⊢
  have hl : lv_has ls 4 [(0, .ref h0), (1, .int p0), (2, .int p1), (3, .int p2)] := hl
  refine lv_aload_n hx hb dX10_store_0 rfl (lv_at hl 0 rfl) ?_
  refine lv_iconst (v := 0) hx hb dX10_store_1 (by decide) ?_
  refine rr_put (D := DG E) (ci := 10) (v := .int 0) (ty := .int) (C := RX10) (T := TX10) (N := 49) hx hb hts iw_X10 tyX10 tyX10_ok nmX10 hown hK.1 hM.1 hS (by show G h0 ≠ 0; rw [hR.1]; decide) rfl 3 (by decide) (hts _ fl_X10_153) (fun _ h9 => h9) rfl (by decide +kernel) rfl rfl (Nat.le_of_ble_eq_true rfl) dX10_store_2 (fun H locs hn ho hz hS => ?_)
  have hM : MH E h0 rf t0 t1 t2 A 0 pk H := hM.sc hR hn ho
  refine lv_iload_n hx hb dX10_store_5 rfl (lv_at hl 1 rfl) ?_
  refine lv_iconst (v := 1) hx hb dX10_store_6 (by decide) ?_
  refine W.callR (W.runS (As := [.int p0, .int 1]) (rest := []) ⟨hx, hb, hml, hown, hts⟩ (c_X10_within l p0 1) (cwS 2 hts (gdS ml_X10_156 st_X10_within in_X10 co_X10_within rfl) rfl rfl rfl (by decide +kernel) ⟨Nat.le_of_ble_eq_true rfl, Nat.le_of_ble_eq_true rfl⟩) preEq rfl rfl hl.1 rfl (lv_room (Nat.le_of_ble_eq_true rfl)) dX10_store_7 ⟨Nat.le_of_ble_eq_true rfl, Nat.le_of_ble_eq_true rfl⟩) ?_
  refine W.eq (g2 := F0 m 10 ls [.int (bI (0 ≤ p0.toInt ∧ p0.toInt ≤ (1 : Int32).toInt))]) (by rfl) ?_
  refine lv_if_eq (tgt := 22) hx hb dX10_store_10 (by decide) (fun c_1 => ?_) (fun c_1 => ?_)
  · have c_1 := bI_0 c_1
    have c_1r := c_1
    try simp only [lt_I, le_I, eq_I, i_0, i_1, i_2, i_3, i_4, i_5, i_6, i_7, i_8, i_10, i_12, i_16, i_20, i_23, i_24, i_31, i_32, i_63, i_64, i_m1, i_9, i_11, i_13, i_25, i_60, i_75, i_79, i_80, i_96, i_100] at c_1
    refine lv_aload_n hx hb dX10_store_22 rfl (lv_at hl 0 rfl) ?_
    refine lv_iconst (v := 1) hx hb dX10_store_23 (by decide) ?_
    refine rr_put (D := DG E) (ci := 10) (v := .int 1) (ty := .int) (C := RX10) (T := TX10) (N := 49) hx hb hts iw_X10 tyX10 tyX10_ok nmX10 hown hK.1 hM.1 hS (by show G h0 ≠ 0; rw [hR.1]; decide) rfl 3 (by decide) (hts _ fl_X10_153) (fun _ h9 => h9) rfl (by decide +kernel) rfl rfl (Nat.le_of_ble_eq_true rfl) dX10_store_24 (fun H locs hn ho hz hS => ?_)
    have hM : MH E h0 rf t0 t1 t2 A 1 pk H := hM.sc hR hn ho
    refine lv_goto (tgt := 42) hx hb dX10_store_27 (by decide) ?_
    exact W.vret hx hb hr (fun t ht hW => ⟨⟨((A 4), 1), rfl, ⟨trivial, (show (1 : Int32) = if (0 ≤ p0.toInt ∧ p0.toInt < 2 ∧ 0 ≤ p1.toInt ∧ p1.toInt < 32) then 0 else 1 from (by first | rw [if_pos (by omega)] | rw [if_neg (by omega)])), (Or.inl ⟨c_1r, rfl, rfl, rfl⟩)⟩, (by show MH E h0 rf t0 t1 t2 (uA A 4 (A 4)) 1 pk t.heap; rw [ht]; exact hM.cg9 rfl rfl rfl rfl rfl rfl rfl rfl rfl rfl rfl rfl rfl rfl rfl rfl rfl rfl rfl rfl rfl rfl rfl rfl rfl rfl rfl rfl rfl rfl rfl rfl rfl rfl rfl rfl rfl rfl rfl rfl rfl rfl rfl rfl)⟩, hS.F ht⟩) hS.2.2 dX10_store_42
  · have c_1 := bI_n c_1
    have c_1r := c_1
    try simp only [lt_I, le_I, eq_I, i_0, i_1, i_2, i_3, i_4, i_5, i_6, i_7, i_8, i_10, i_12, i_16, i_20, i_23, i_24, i_31, i_32, i_63, i_64, i_m1, i_9, i_11, i_13, i_25, i_60, i_75, i_79, i_80, i_96, i_100] at c_1
    refine lv_iload_n hx hb dX10_store_13 rfl (lv_at hl 2 rfl) ?_
    refine lv_bipush (v := 31) hx hb dX10_store_14 (by decide) ?_
    refine W.callR (W.runS (As := [.int p1, .int 31]) (rest := []) ⟨hx, hb, hml, hown, hts⟩ (c_X10_within l p1 31) (cwS 2 hts (gdS ml_X10_156 st_X10_within in_X10 co_X10_within rfl) rfl rfl rfl (by decide +kernel) ⟨Nat.le_of_ble_eq_true rfl, Nat.le_of_ble_eq_true rfl⟩) preEq rfl rfl hl.1 rfl (lv_room (Nat.le_of_ble_eq_true rfl)) dX10_store_16 ⟨Nat.le_of_ble_eq_true rfl, Nat.le_of_ble_eq_true rfl⟩) ?_
    refine W.eq (g2 := F0 m 19 ls [.int (bI (0 ≤ p1.toInt ∧ p1.toInt ≤ (31 : Int32).toInt))]) (by rfl) ?_
    refine lv_if_ne (tgt := 30) hx hb dX10_store_19 (by decide) (fun c_2 => ?_) (fun c_2 => ?_)
    · have c_2 := bI_n c_2
      have c_2r := c_2
      try simp only [lt_I, le_I, eq_I, i_0, i_1, i_2, i_3, i_4, i_5, i_6, i_7, i_8, i_10, i_12, i_16, i_20, i_23, i_24, i_31, i_32, i_63, i_64, i_m1, i_9, i_11, i_13, i_25, i_60, i_75, i_79, i_80, i_96, i_100] at c_2
      refine lv_aload_n hx hb dX10_store_30 rfl (lv_at hl 0 rfl) ?_
      refine va_get (D := DG E) (ci := 10) (v := .ref (rf 4)) (C := RX10) (T := TX10) (N := 49) hx hb hts iw_X10 hown hK.1 (va_one hM.1) 0 rfl rfl 4 (by decide) (hts _ fl_X10_7) (fun _ h9 => h9) rfl dX10_store_31 ?_
      refine lv_bipush (v := 32) hx hb dX10_store_34 (by decide) ?_
      refine lv_iload_n hx hb dX10_store_36 rfl (lv_at hl 1 rfl) ?_
      refine lv_imul hx hb dX10_store_37 ?_
      refine lv_topi (fun x_3 ex_3 => ?_)
      have fx_3 : x_3.toInt = 32 * p0.toInt := by rw [ex_3]; exact s_mulK i_32 (by omega) (by omega)
      refine lv_iload_n hx hb dX10_store_38 rfl (lv_at hl 2 rfl) ?_
      refine lv_iadd hx hb dX10_store_39 ?_
      refine lv_topi (fun x_4 ex_4 => ?_)
      have fx_4 : x_4.toInt = x_3.toInt + p1.toInt := by have h9 := s_add (x := x_3) (y := p1) (by omega) (by omega); rw [ex_4]; exact h9
      refine lv_iload_n hx hb dX10_store_40 rfl (lv_at hl 3 rfl) ?_
      have hi_5 : vp_in x_4 64 := vp_in_iff.mpr (by omega)
      have ha_6 : va_at (DG E) vwCl (rf 4, .inl (E.2.2 0, 64, .inl (A 4))) _ := hM.2 4 (by decide) (by decide) (by decide)
      obtain ⟨n_7, hn_7, en_7⟩ := s_nat (x := x_4) (by omega)
      refine rr_iast (D := DG E) hx hb hK.1 0 ha_6 hS (by show G (rf 4) ≠ 0; rw [hR.2 4 (by decide) (by decide) (by decide)]; decide) rfl hi_5 dX10_store_41 (fun H locs hn ho hz hS => ?_)
      rw [en_7] at hn
      obtain ⟨g_6, eg_6⟩ : ∃ z : Nat → Int32, z = upd (A 4) n_7 p2 := ⟨_, rfl⟩
      have sg_6 : g_6 n_7 = p2 := by rw [eg_6]; exact upd_s
      have ng_6 : ∀ k, k ≠ n_7 → g_6 k = (A 4) k := fun k hk => by rw [eg_6]; exact upd_n hk
      have hn : va_at (DG E) vwCl (rf 4, .inl (E.2.2 0, 64, .inl g_6)) H := by rw [eg_6]; exact hn
      have hM : MH E h0 rf t0 t1 t2 (uA A 4 g_6) 0 pk H := hM.w hR 4 (by decide) (by decide) (by decide) hn ho
      exact W.vret hx hb hr (fun t ht hW => ⟨⟨(g_6, 0), rfl, ⟨trivial, (show (0 : Int32) = if (0 ≤ p0.toInt ∧ p0.toInt < 2 ∧ 0 ≤ p1.toInt ∧ p1.toInt < 32) then 0 else 1 from (by first | rw [if_pos (by omega)] | rw [if_neg (by omega)])), (Or.inr (Or.inl ⟨c_1r, c_2r, x_3, ex_3, fx_3, x_4, ex_4, fx_4, n_7, hn_7, g_6, eg_6, rfl, rfl, rfl⟩))⟩, (by show MH E h0 rf t0 t1 t2 (uA A 4 g_6) 0 pk t.heap; rw [ht]; exact hM)⟩, hS.F ht⟩) hS.2.2 dX10_store_42
    · have c_2 := bI_0 c_2
      have c_2r := c_2
      try simp only [lt_I, le_I, eq_I, i_0, i_1, i_2, i_3, i_4, i_5, i_6, i_7, i_8, i_10, i_12, i_16, i_20, i_23, i_24, i_31, i_32, i_63, i_64, i_m1, i_9, i_11, i_13, i_25, i_60, i_75, i_79, i_80, i_96, i_100] at c_2
      refine lv_aload_n hx hb dX10_store_22 rfl (lv_at hl 0 rfl) ?_
      refine lv_iconst (v := 1) hx hb dX10_store_23 (by decide) ?_
      refine rr_put (D := DG E) (ci := 10) (v := .int 1) (ty := .int) (C := RX10) (T := TX10) (N := 49) hx hb hts iw_X10 tyX10 tyX10_ok nmX10 hown hK.1 hM.1 hS (by show G h0 ≠ 0; rw [hR.1]; decide) rfl 3 (by decide) (hts _ fl_X10_153) (fun _ h9 => h9) rfl (by decide +kernel) rfl rfl (Nat.le_of_ble_eq_true rfl) dX10_store_24 (fun H locs hn ho hz hS => ?_)
      have hM : MH E h0 rf t0 t1 t2 A 1 pk H := hM.sc hR hn ho
      refine lv_goto (tgt := 42) hx hb dX10_store_27 (by decide) ?_
      exact W.vret hx hb hr (fun t ht hW => ⟨⟨((A 4), 1), rfl, ⟨trivial, (show (1 : Int32) = if (0 ≤ p0.toInt ∧ p0.toInt < 2 ∧ 0 ≤ p1.toInt ∧ p1.toInt < 32) then 0 else 1 from (by first | rw [if_pos (by omega)] | rw [if_neg (by omega)])), (Or.inr (Or.inr ⟨c_1r, c_2r, rfl, rfl, rfl⟩))⟩, (by show MH E h0 rf t0 t1 t2 (uA A 4 (A 4)) 1 pk t.heap; rw [ht]; exact hM.cg9 rfl rfl rfl rfl rfl rfl rfl rfl rfl rfl rfl rfl rfl rfl rfl rfl rfl rfl rfl rfl rfl rfl rfl rfl rfl rfl rfl rfl rfl rfl rfl rfl rfl rfl rfl rfl rfl rfl rfl rfl rfl rfl rfl rfl)⟩, hS.F ht⟩) hS.2.2 dX10_store_42
theorem dX10_cell_0 : decode cX10_cell 0 = .ok (.aload_n 0, 1) := by decide +kernel
theorem dX10_cell_1 : decode cX10_cell 1 = .ok (.iconst 0, 1) := by decide +kernel
theorem dX10_cell_2 : decode cX10_cell 2 = .ok (.putfield 153, 3) := by decide +kernel
theorem dX10_cell_5 : decode cX10_cell 5 = .ok (.iload_n 1, 1) := by decide +kernel
theorem dX10_cell_6 : decode cX10_cell 6 = .ok (.iconst 1, 1) := by decide +kernel
theorem dX10_cell_7 : decode cX10_cell 7 = .ok (.invokestatic 156, 3) := by decide +kernel
theorem dX10_cell_10 : decode cX10_cell 10 = .ok (.ifCond .eq 26, 3) := by decide +kernel
theorem dX10_cell_13 : decode cX10_cell 13 = .ok (.iload_n 2, 1) := by decide +kernel
theorem dX10_cell_14 : decode cX10_cell 14 = .ok (.bipush 31, 2) := by decide +kernel
theorem dX10_cell_16 : decode cX10_cell 16 = .ok (.invokestatic 156, 3) := by decide +kernel
theorem dX10_cell_19 : decode cX10_cell 19 = .ok (.ifCond .eq 17, 3) := by decide +kernel
theorem dX10_cell_22 : decode cX10_cell 22 = .ok (.aload_n 0, 1) := by decide +kernel
theorem dX10_cell_23 : decode cX10_cell 23 = .ok (.getfield 7, 3) := by decide +kernel
theorem dX10_cell_26 : decode cX10_cell 26 = .ok (.bipush 32, 2) := by decide +kernel
theorem dX10_cell_28 : decode cX10_cell 28 = .ok (.iload_n 1, 1) := by decide +kernel
theorem dX10_cell_29 : decode cX10_cell 29 = .ok (.imul, 1) := by decide +kernel
theorem dX10_cell_30 : decode cX10_cell 30 = .ok (.iload_n 2, 1) := by decide +kernel
theorem dX10_cell_31 : decode cX10_cell 31 = .ok (.iadd, 1) := by decide +kernel
theorem dX10_cell_32 : decode cX10_cell 32 = .ok (.iaload, 1) := by decide +kernel
theorem dX10_cell_33 : decode cX10_cell 33 = .ok (.goto 4, 3) := by decide +kernel
theorem dX10_cell_36 : decode cX10_cell 36 = .ok (.iconst 0, 1) := by decide +kernel
theorem dX10_cell_37 : decode cX10_cell 37 = .ok (.ireturn, 1) := by decide +kernel
set_option maxHeartbeats 8000000 in
set_option maxRecDepth 100000 in
theorem u_X10_cell (l : Launch) (E : EE) (z0 : Nat) (G : Nat → Nat) (hGz : ∀ q, G q ≠ 0 → z0 ≤ q) (h0 : Nat) (rf : Nat → Nat) (hR : MG G h0 rf) (t0 t1 t2 : Int32) (A : AA) (cd pk : Int32) (p0 : Int32) (p1 : Int32) : Met l yX10_cell [Cond.code yX10_cell cX10_cell 3 (some .int)] ({ frames := 1, cells := 0, slots := 0, locals := 21 } : Room) (va_Pc [.ref h0, .int p0, .int p1] (fun U => MH E h0 rf t0 t1 t2 A cd pk U.heap ∧ KS E z0 U)) (va_Qi (fun (r : Int32) (u : Int32) => D_X10_cell A cd pk p0 p1 A (u) pk r) (fun u t => MH E h0 rf t0 t1 t2 A (u) pk t.heap) (fun q : Nat => G q ≠ 0)) 0 0 (fun q : Nat => G q ≠ 0) := by
  refine Met.ofW (cc := cX10_cell) (maxL := 3) (ret := (some .int)) (by decide) rfl ?_
  intro p e s m args below meth c s₁ B hml hv
  obtain ⟨rfl, hM, hK⟩ := hv
  have hx := B.exec
  have hb := B.bytes
  have hr := B.returns
  have hts : ∀ w ∈ TS, w.before ([.ref h0, .int p0, .int p1] : List Value).toArray s = true := fun w hw => hK.2.1 w hw _
  have hown : s.vm.findClass RX10 = some m.cls := findClass_of_methodNamed B.named
  have hlocks := B.notSynchronized
  have hS : va_S (fun q : Nat => G q ≠ 0) s.heap s.heap [] := va_S.rf
  have hAz : ∀ q, (fun q : Nat => G q ≠ 0) q → z0 ≤ q := hGz
  have hl := lv_entry ([.ref h0, .int p0, .int p1]) (n := 3) (Nat.le_of_ble_eq_true rfl)
  rw [lg_entry_eq]
  generalize (lg_sl ([.ref h0, .int p0, .int p1]) ++ List.replicate (3 - (lg_sl ([.ref h0, .int p0, .int p1])).length) Slot.unset).toArray = ls at hl ⊢
  have hl : lv_has ls 3 [(0, .ref h0), (1, .int p0), (2, .int p1)] := hl
  refine lv_aload_n hx hb dX10_cell_0 rfl (lv_at hl 0 rfl) ?_
  refine lv_iconst (v := 0) hx hb dX10_cell_1 (by decide) ?_
  refine rr_put (D := DG E) (ci := 10) (v := .int 0) (ty := .int) (C := RX10) (T := TX10) (N := 49) hx hb hts iw_X10 tyX10 tyX10_ok nmX10 hown hK.1 hM.1 hS (by show G h0 ≠ 0; rw [hR.1]; decide) rfl 3 (by decide) (hts _ fl_X10_153) (fun _ h9 => h9) rfl (by decide +kernel) rfl rfl (Nat.le_of_ble_eq_true rfl) dX10_cell_2 (fun H locs hn ho hz hS => ?_)
  have hM : MH E h0 rf t0 t1 t2 A 0 pk H := hM.sc hR hn ho
  refine lv_iload_n hx hb dX10_cell_5 rfl (lv_at hl 1 rfl) ?_
  refine lv_iconst (v := 1) hx hb dX10_cell_6 (by decide) ?_
  refine W.callR (W.runS (As := [.int p0, .int 1]) (rest := []) ⟨hx, hb, hml, hown, hts⟩ (c_X10_within l p0 1) (cwS 2 hts (gdS ml_X10_156 st_X10_within in_X10 co_X10_within rfl) rfl rfl rfl (by decide +kernel) ⟨Nat.le_of_ble_eq_true rfl, Nat.le_of_ble_eq_true rfl⟩) preEq rfl rfl hl.1 rfl (lv_room (Nat.le_of_ble_eq_true rfl)) dX10_cell_7 ⟨Nat.le_of_ble_eq_true rfl, Nat.le_of_ble_eq_true rfl⟩) ?_
  refine W.eq (g2 := F0 m 10 ls [.int (bI (0 ≤ p0.toInt ∧ p0.toInt ≤ (1 : Int32).toInt))]) (by rfl) ?_
  refine lv_if_eq (tgt := 36) hx hb dX10_cell_10 (by decide) (fun c_1 => ?_) (fun c_1 => ?_)
  · have c_1 := bI_0 c_1
    have c_1r := c_1
    try simp only [lt_I, le_I, eq_I, i_0, i_1, i_2, i_3, i_4, i_5, i_6, i_7, i_8, i_10, i_12, i_16, i_20, i_23, i_24, i_31, i_32, i_63, i_64, i_m1, i_9, i_11, i_13, i_25, i_60, i_75, i_79, i_80, i_96, i_100] at c_1
    refine lv_iconst (v := 0) hx hb dX10_cell_36 (by decide) ?_
    exact W.iret (v := 0) hx hb hr (fun t ht hW => ⟨⟨0, 0, rfl, (Or.inl ⟨c_1r, rfl, rfl, rfl, rfl⟩), (by show MH E h0 rf t0 t1 t2 A 0 pk t.heap; rw [ht]; exact hM)⟩, hS.F ht⟩) hS.2.2 dX10_cell_37
  · have c_1 := bI_n c_1
    have c_1r := c_1
    try simp only [lt_I, le_I, eq_I, i_0, i_1, i_2, i_3, i_4, i_5, i_6, i_7, i_8, i_10, i_12, i_16, i_20, i_23, i_24, i_31, i_32, i_63, i_64, i_m1, i_9, i_11, i_13, i_25, i_60, i_75, i_79, i_80, i_96, i_100] at c_1
    refine lv_iload_n hx hb dX10_cell_13 rfl (lv_at hl 2 rfl) ?_
    refine lv_bipush (v := 31) hx hb dX10_cell_14 (by decide) ?_
    refine W.callR (W.runS (As := [.int p1, .int 31]) (rest := []) ⟨hx, hb, hml, hown, hts⟩ (c_X10_within l p1 31) (cwS 2 hts (gdS ml_X10_156 st_X10_within in_X10 co_X10_within rfl) rfl rfl rfl (by decide +kernel) ⟨Nat.le_of_ble_eq_true rfl, Nat.le_of_ble_eq_true rfl⟩) preEq rfl rfl hl.1 rfl (lv_room (Nat.le_of_ble_eq_true rfl)) dX10_cell_16 ⟨Nat.le_of_ble_eq_true rfl, Nat.le_of_ble_eq_true rfl⟩) ?_
    refine W.eq (g2 := F0 m 19 ls [.int (bI (0 ≤ p1.toInt ∧ p1.toInt ≤ (31 : Int32).toInt))]) (by rfl) ?_
    refine lv_if_eq (tgt := 36) hx hb dX10_cell_19 (by decide) (fun c_2 => ?_) (fun c_2 => ?_)
    · have c_2 := bI_0 c_2
      have c_2r := c_2
      try simp only [lt_I, le_I, eq_I, i_0, i_1, i_2, i_3, i_4, i_5, i_6, i_7, i_8, i_10, i_12, i_16, i_20, i_23, i_24, i_31, i_32, i_63, i_64, i_m1, i_9, i_11, i_13, i_25, i_60, i_75, i_79, i_80, i_96, i_100] at c_2
      refine lv_iconst (v := 0) hx hb dX10_cell_36 (by decide) ?_
      exact W.iret (v := 0) hx hb hr (fun t ht hW => ⟨⟨0, 0, rfl, (Or.inr (Or.inl ⟨c_1r, c_2r, rfl, rfl, rfl, rfl⟩)), (by show MH E h0 rf t0 t1 t2 A 0 pk t.heap; rw [ht]; exact hM)⟩, hS.F ht⟩) hS.2.2 dX10_cell_37
    · have c_2 := bI_n c_2
      have c_2r := c_2
      try simp only [lt_I, le_I, eq_I, i_0, i_1, i_2, i_3, i_4, i_5, i_6, i_7, i_8, i_10, i_12, i_16, i_20, i_23, i_24, i_31, i_32, i_63, i_64, i_m1, i_9, i_11, i_13, i_25, i_60, i_75, i_79, i_80, i_96, i_100] at c_2
      refine lv_aload_n hx hb dX10_cell_22 rfl (lv_at hl 0 rfl) ?_
      refine va_get (D := DG E) (ci := 10) (v := .ref (rf 4)) (C := RX10) (T := TX10) (N := 49) hx hb hts iw_X10 hown hK.1 (va_one hM.1) 0 rfl rfl 4 (by decide) (hts _ fl_X10_7) (fun _ h9 => h9) rfl dX10_cell_23 ?_
      refine lv_bipush (v := 32) hx hb dX10_cell_26 (by decide) ?_
      refine lv_iload_n hx hb dX10_cell_28 rfl (lv_at hl 1 rfl) ?_
      refine lv_imul hx hb dX10_cell_29 ?_
      refine lv_topi (fun x_3 ex_3 => ?_)
      have fx_3 : x_3.toInt = 32 * p0.toInt := by rw [ex_3]; exact s_mulK i_32 (by omega) (by omega)
      refine lv_iload_n hx hb dX10_cell_30 rfl (lv_at hl 2 rfl) ?_
      refine lv_iadd hx hb dX10_cell_31 ?_
      refine lv_topi (fun x_4 ex_4 => ?_)
      have fx_4 : x_4.toInt = x_3.toInt + p1.toInt := by have h9 := s_add (x := x_3) (y := p1) (by omega) (by omega); rw [ex_4]; exact h9
      have hi_5 : vp_in x_4 64 := vp_in_iff.mpr (by omega)
      have ha_6 : va_at (DG E) vwCl (rf 4, .inl (E.2.2 0, 64, .inl (A 4))) _ := hM.2 4 (by decide) (by decide) (by decide)
      obtain ⟨n_7, hn_7, en_7⟩ := s_nat (x := x_4) (by omega)
      refine va_iald (D := DG E) hx hb hK.1 (va_one ha_6) 0 0 rfl rfl hi_5 dX10_cell_32 ?_
      refine W.eq (g2 := F0 m 33 ls [.int ((A 4) n_7)]) (by rw [en_7]) ?_
      refine lv_goto (tgt := 37) hx hb dX10_cell_33 (by decide) ?_
      exact W.iret (v := ((A 4) n_7)) hx hb hr (fun t ht hW => ⟨⟨((A 4) n_7), 0, rfl, (Or.inr (Or.inr ⟨c_1r, c_2r, x_3, ex_3, fx_3, x_4, ex_4, fx_4, n_7, hn_7, rfl, rfl, rfl, rfl⟩)), (by show MH E h0 rf t0 t1 t2 A 0 pk t.heap; rw [ht]; exact hM)⟩, hS.F ht⟩) hS.2.2 dX10_cell_37
theorem dX10_complete_0 : decode cX10_complete 0 = .ok (.iload_n 1, 1) := by decide +kernel
theorem dX10_complete_1 : decode cX10_complete 1 = .ok (.invokestatic 160, 3) := by decide +kernel
theorem dX10_complete_4 : decode cX10_complete 4 = .ok (.istore 6, 2) := by decide +kernel
theorem dX10_complete_6 : decode cX10_complete 6 = .ok (.aload_n 0, 1) := by decide +kernel
theorem dX10_complete_7 : decode cX10_complete 7 = .ok (.getfield 22, 3) := by decide +kernel
theorem dX10_complete_10 : decode cX10_complete 10 = .ok (.iload 6, 2) := by decide +kernel
theorem dX10_complete_12 : decode cX10_complete 12 = .ok (.iaload, 1) := by decide +kernel
theorem dX10_complete_13 : decode cX10_complete 13 = .ok (.bipush 16, 2) := by decide +kernel
theorem dX10_complete_15 : decode cX10_complete 15 = .ok (.if_icmp .ne 4, 3) := by decide +kernel
theorem dX10_complete_18 : decode cX10_complete 18 = .ok (.return_, 1) := by decide +kernel
theorem dX10_complete_19 : decode cX10_complete 19 = .ok (.bipush 80, 2) := by decide +kernel
theorem dX10_complete_21 : decode cX10_complete 21 = .ok (.iload 6, 2) := by decide +kernel
theorem dX10_complete_23 : decode cX10_complete 23 = .ok (.imul, 1) := by decide +kernel
theorem dX10_complete_24 : decode cX10_complete 24 = .ok (.iconst 5, 1) := by decide +kernel
theorem dX10_complete_25 : decode cX10_complete 25 = .ok (.aload_n 0, 1) := by decide +kernel
theorem dX10_complete_26 : decode cX10_complete 26 = .ok (.getfield 22, 3) := by decide +kernel
theorem dX10_complete_29 : decode cX10_complete 29 = .ok (.iload 6, 2) := by decide +kernel
theorem dX10_complete_31 : decode cX10_complete 31 = .ok (.iaload, 1) := by decide +kernel
theorem dX10_complete_32 : decode cX10_complete 32 = .ok (.imul, 1) := by decide +kernel
theorem dX10_complete_33 : decode cX10_complete 33 = .ok (.iadd, 1) := by decide +kernel
theorem dX10_complete_34 : decode cX10_complete 34 = .ok (.istore 7, 2) := by decide +kernel
theorem dX10_complete_36 : decode cX10_complete 36 = .ok (.aload_n 0, 1) := by decide +kernel
theorem dX10_complete_37 : decode cX10_complete 37 = .ok (.getfield 25, 3) := by decide +kernel
theorem dX10_complete_40 : decode cX10_complete 40 = .ok (.iload 7, 2) := by decide +kernel
theorem dX10_complete_42 : decode cX10_complete 42 = .ok (.iload_n 1, 1) := by decide +kernel
theorem dX10_complete_43 : decode cX10_complete 43 = .ok (.iastore, 1) := by decide +kernel
theorem dX10_complete_44 : decode cX10_complete 44 = .ok (.aload_n 0, 1) := by decide +kernel
theorem dX10_complete_45 : decode cX10_complete 45 = .ok (.getfield 25, 3) := by decide +kernel
theorem dX10_complete_48 : decode cX10_complete 48 = .ok (.iload 7, 2) := by decide +kernel
theorem dX10_complete_50 : decode cX10_complete 50 = .ok (.iconst 1, 1) := by decide +kernel
theorem dX10_complete_51 : decode cX10_complete 51 = .ok (.iadd, 1) := by decide +kernel
theorem dX10_complete_52 : decode cX10_complete 52 = .ok (.iload_n 2, 1) := by decide +kernel
theorem dX10_complete_53 : decode cX10_complete 53 = .ok (.iastore, 1) := by decide +kernel
theorem dX10_complete_54 : decode cX10_complete 54 = .ok (.aload_n 0, 1) := by decide +kernel
theorem dX10_complete_55 : decode cX10_complete 55 = .ok (.getfield 25, 3) := by decide +kernel
theorem dX10_complete_58 : decode cX10_complete 58 = .ok (.iload 7, 2) := by decide +kernel
theorem dX10_complete_60 : decode cX10_complete 60 = .ok (.iconst 2, 1) := by decide +kernel
theorem dX10_complete_61 : decode cX10_complete 61 = .ok (.iadd, 1) := by decide +kernel
theorem dX10_complete_62 : decode cX10_complete 62 = .ok (.iload_n 3, 1) := by decide +kernel
theorem dX10_complete_63 : decode cX10_complete 63 = .ok (.iastore, 1) := by decide +kernel
theorem dX10_complete_64 : decode cX10_complete 64 = .ok (.aload_n 0, 1) := by decide +kernel
theorem dX10_complete_65 : decode cX10_complete 65 = .ok (.getfield 25, 3) := by decide +kernel
theorem dX10_complete_68 : decode cX10_complete 68 = .ok (.iload 7, 2) := by decide +kernel
theorem dX10_complete_70 : decode cX10_complete 70 = .ok (.iconst 3, 1) := by decide +kernel
theorem dX10_complete_71 : decode cX10_complete 71 = .ok (.iadd, 1) := by decide +kernel
theorem dX10_complete_72 : decode cX10_complete 72 = .ok (.iload 4, 2) := by decide +kernel
theorem dX10_complete_74 : decode cX10_complete 74 = .ok (.iastore, 1) := by decide +kernel
theorem dX10_complete_75 : decode cX10_complete 75 = .ok (.aload_n 0, 1) := by decide +kernel
theorem dX10_complete_76 : decode cX10_complete 76 = .ok (.getfield 25, 3) := by decide +kernel
theorem dX10_complete_79 : decode cX10_complete 79 = .ok (.iload 7, 2) := by decide +kernel
theorem dX10_complete_81 : decode cX10_complete 81 = .ok (.iconst 4, 1) := by decide +kernel
theorem dX10_complete_82 : decode cX10_complete 82 = .ok (.iadd, 1) := by decide +kernel
theorem dX10_complete_83 : decode cX10_complete 83 = .ok (.iload 5, 2) := by decide +kernel
theorem dX10_complete_85 : decode cX10_complete 85 = .ok (.iastore, 1) := by decide +kernel
theorem dX10_complete_86 : decode cX10_complete 86 = .ok (.aload_n 0, 1) := by decide +kernel
theorem dX10_complete_87 : decode cX10_complete 87 = .ok (.getfield 22, 3) := by decide +kernel
theorem dX10_complete_90 : decode cX10_complete 90 = .ok (.iload 6, 2) := by decide +kernel
theorem dX10_complete_92 : decode cX10_complete 92 = .ok (.dup2, 1) := by decide +kernel
theorem dX10_complete_93 : decode cX10_complete 93 = .ok (.iaload, 1) := by decide +kernel
theorem dX10_complete_94 : decode cX10_complete 94 = .ok (.iconst 1, 1) := by decide +kernel
theorem dX10_complete_95 : decode cX10_complete 95 = .ok (.iadd, 1) := by decide +kernel
theorem dX10_complete_96 : decode cX10_complete 96 = .ok (.iastore, 1) := by decide +kernel
theorem dX10_complete_97 : decode cX10_complete 97 = .ok (.return_, 1) := by decide +kernel
set_option maxHeartbeats 8000000 in
set_option maxRecDepth 100000 in
theorem u_X10_complete (l : Launch) (E : EE) (z0 : Nat) (G : Nat → Nat) (hGz : ∀ q, G q ≠ 0 → z0 ≤ q) (h0 : Nat) (rf : Nat → Nat) (hR : MG G h0 rf) (t0 t1 t2 : Int32) (A : AA) (cd pk : Int32) (p0 : Int32) (p1 : Int32) (p2 : Int32) (p3 : Int32) (p4 : Int32) (hI3 : I3 (A 8)) (hy0 : 0 ≤ p0.toInt ∧ p0.toInt ≤ 3) : Met l yX10_complete [Cond.code yX10_complete cX10_complete 8 none] ({ frames := 1, cells := 0, slots := 0, locals := 20 } : Room) (va_Pc [.ref h0, .int p0, .int p1, .int p2, .int p3, .int p4] (fun U => MH E h0 rf t0 t1 t2 A cd pk U.heap ∧ KS E z0 U)) (va_Qv (fun (u : (Nat → Int32) × (Nat → Int32)) => (I3 (u.1)) ∧ (D_X10_complete A cd pk p0 p1 p2 p3 p4 (uA (uA A 8 (u.1)) 9 (u.2)) cd pk)) (fun u t => MH E h0 rf t0 t1 t2 (uA (uA A 8 (u.1)) 9 (u.2)) cd pk t.heap) (fun q : Nat => G q ≠ 0)) 0 0 (fun q : Nat => G q ≠ 0) := by
  refine Met.ofW (cc := cX10_complete) (maxL := 8) (ret := none) (by decide) rfl ?_
  intro p e s m args below meth c s₁ B hml hv
  obtain ⟨rfl, hM, hK⟩ := hv
  have hx := B.exec
  have hb := B.bytes
  have hr := B.returns
  have hts : ∀ w ∈ TS, w.before ([.ref h0, .int p0, .int p1, .int p2, .int p3, .int p4] : List Value).toArray s = true := fun w hw => hK.2.1 w hw _
  have hown : s.vm.findClass RX10 = some m.cls := findClass_of_methodNamed B.named
  have hlocks := B.notSynchronized
  have hS : va_S (fun q : Nat => G q ≠ 0) s.heap s.heap [] := va_S.rf
  have hAz : ∀ q, (fun q : Nat => G q ≠ 0) q → z0 ≤ q := hGz
  have hl := lv_entry ([.ref h0, .int p0, .int p1, .int p2, .int p3, .int p4]) (n := 8) (Nat.le_of_ble_eq_true rfl)
  rw [lg_entry_eq]
  generalize (lg_sl ([.ref h0, .int p0, .int p1, .int p2, .int p3, .int p4]) ++ List.replicate (8 - (lg_sl ([.ref h0, .int p0, .int p1, .int p2, .int p3, .int p4])).length) Slot.unset).toArray = ls at hl ⊢
  have hl : lv_has ls 8 [(0, .ref h0), (1, .int p0), (2, .int p1), (3, .int p2), (4, .int p3), (5, .int p4)] := hl
  refine lv_iload_n hx hb dX10_complete_0 rfl (lv_at hl 1 rfl) ?_
  refine W.callR (W.runS (As := [.int p0]) (rest := []) ⟨hx, hb, hml, hown, hts⟩ (c_X10_nodeOf l p0) (cwS 1 hts (gdS ml_X10_160 st_X10_nodeOf in_X10 co_X10_nodeOf rfl) rfl rfl rfl (by decide +kernel) ⟨Nat.le_of_ble_eq_true rfl, Nat.le_of_ble_eq_true rfl⟩) preEq rfl rfl hl.1 rfl (lv_room (Nat.le_of_ble_eq_true rfl)) dX10_complete_1 ⟨Nat.le_of_ble_eq_true rfl, Nat.le_of_ble_eq_true rfl⟩) ?_
  refine W.eq (g2 := F0 m 4 ls [.int (p0 - p0 / 2 * 2)]) (by rfl) ?_
  refine lv_topi (fun x_1 ex_1 => ?_)
  have fx_1 : x_1.toInt = p0.toInt % 2 := by rw [ex_1]; exact s_rem (x := p0) 2 (by decide) (by decide) (by omega)
  refine lv_istore (lv' := [(6, .int x_1), (0, .ref h0), (1, .int p0), (2, .int p1), (3, .int p2), (4, .int p3), (5, .int p4)]) hx hb dX10_complete_4 hl (by decide) rfl (fun ls hl => ?_)
  refine lv_aload_n hx hb dX10_complete_6 rfl (lv_at hl 1 rfl) ?_
  refine va_get (D := DG E) (ci := 10) (v := .ref (rf 8)) (C := RX10) (T := TX10) (N := 49) hx hb hts iw_X10 hown hK.1 (va_one hM.1) 0 rfl rfl 8 (by decide) (hts _ fl_X10_22) (fun _ h9 => h9) rfl dX10_complete_7 ?_
  refine lv_iload hx hb dX10_complete_10 (lv_at hl 0 rfl) ?_
  have hi_2 : vp_in x_1 2 := vp_in_iff.mpr (by omega)
  have ha_3 : va_at (DG E) vwCl (rf 8, .inl (E.2.2 0, 2, .inl (A 8))) _ := hM.2 8 (by decide) (by decide) (by decide)
  obtain ⟨n_4, hn_4, en_4⟩ := s_nat (x := x_1) (by omega)
  refine va_iald (D := DG E) hx hb hK.1 (va_one ha_3) 0 0 rfl rfl hi_2 dX10_complete_12 ?_
  refine W.eq (g2 := F0 m 13 ls [.int ((A 8) n_4)]) (by rw [en_4]) ?_
  have hk_5 : n_4 < 2 := by omega
  have q_6 : 0 ≤ ((A 8) n_4).toInt := (hI3 n_4 hk_5).1
  have q_7 : ((A 8) n_4).toInt ≤ 16 := (hI3 n_4 hk_5).2
  refine lv_bipush (v := 16) hx hb dX10_complete_13 (by decide) ?_
  refine lv_icmp_ne (tgt := 19) hx hb dX10_complete_15 (by decide) (fun c_8 => ?_) (fun c_8 => ?_)
  · simp only [lt_I, le_I, eq_I, i_0, i_1, i_2, i_3, i_4, i_5, i_6, i_7, i_8, i_10, i_12, i_16, i_20, i_23, i_24, i_31, i_32, i_63, i_64, i_m1, i_9, i_11, i_13, i_25, i_60, i_75, i_79, i_80, i_96, i_100] at c_8
    refine lv_bipush (v := 80) hx hb dX10_complete_19 (by decide) ?_
    refine lv_iload hx hb dX10_complete_21 (lv_at hl 0 rfl) ?_
    refine lv_imul hx hb dX10_complete_23 ?_
    refine lv_topi (fun x_9 ex_9 => ?_)
    have fx_9 : x_9.toInt = 80 * x_1.toInt := by rw [ex_9]; exact s_mulK i_80 (by omega) (by omega)
    refine lv_iconst (v := 5) hx hb dX10_complete_24 (by decide) ?_
    refine lv_aload_n hx hb dX10_complete_25 rfl (lv_at hl 1 rfl) ?_
    refine va_get (D := DG E) (ci := 10) (v := .ref (rf 8)) (C := RX10) (T := TX10) (N := 49) hx hb hts iw_X10 hown hK.1 (va_one hM.1) 0 rfl rfl 8 (by decide) (hts _ fl_X10_22) (fun _ h9 => h9) rfl dX10_complete_26 ?_
    refine lv_iload hx hb dX10_complete_29 (lv_at hl 0 rfl) ?_
    have ha_10 : va_at (DG E) vwCl (rf 8, .inl (E.2.2 0, 2, .inl (A 8))) _ := hM.2 8 (by decide) (by decide) (by decide)
    refine va_iald (D := DG E) hx hb hK.1 (va_one ha_10) 0 0 rfl rfl hi_2 dX10_complete_31 ?_
    refine W.eq (g2 := F0 m 32 ls [.int ((A 8) n_4), .int 5, .int x_9]) (by rw [en_4]) ?_
    refine lv_imul hx hb dX10_complete_32 ?_
    refine lv_topi (fun x_11 ex_11 => ?_)
    have fx_11 : x_11.toInt = 5 * ((A 8) n_4).toInt := by rw [ex_11]; exact s_mulK i_5 (by omega) (by omega)
    refine lv_iadd hx hb dX10_complete_33 ?_
    refine lv_topi (fun x_12 ex_12 => ?_)
    have fx_12 : x_12.toInt = x_9.toInt + x_11.toInt := by have h9 := s_add (x := x_9) (y := x_11) (by omega) (by omega); rw [ex_12]; exact h9
    refine lv_istore (lv' := [(7, .int x_12), (6, .int x_1), (0, .ref h0), (1, .int p0), (2, .int p1), (3, .int p2), (4, .int p3), (5, .int p4)]) hx hb dX10_complete_34 hl (by decide) rfl (fun ls hl => ?_)
    refine lv_aload_n hx hb dX10_complete_36 rfl (lv_at hl 2 rfl) ?_
    refine va_get (D := DG E) (ci := 10) (v := .ref (rf 9)) (C := RX10) (T := TX10) (N := 49) hx hb hts iw_X10 hown hK.1 (va_one hM.1) 0 rfl rfl 9 (by decide) (hts _ fl_X10_25) (fun _ h9 => h9) rfl dX10_complete_37 ?_
    refine lv_iload hx hb dX10_complete_40 (lv_at hl 0 rfl) ?_
    refine lv_iload_n hx hb dX10_complete_42 rfl (lv_at hl 3 rfl) ?_
    have hi_13 : vp_in x_12 160 := vp_in_iff.mpr (by omega)
    have ha_14 : va_at (DG E) vwCl (rf 9, .inl (E.2.2 0, 160, .inl (A 9))) _ := hM.2 9 (by decide) (by decide) (by decide)
    obtain ⟨n_15, hn_15, en_15⟩ := s_nat (x := x_12) (by omega)
    refine rr_iast (D := DG E) hx hb hK.1 0 ha_14 hS (by show G (rf 9) ≠ 0; rw [hR.2 9 (by decide) (by decide) (by decide)]; decide) rfl hi_13 dX10_complete_43 (fun H locs hn ho hz hS => ?_)
    rw [en_15] at hn
    obtain ⟨g_14, eg_14⟩ : ∃ z : Nat → Int32, z = upd (A 9) n_15 p0 := ⟨_, rfl⟩
    have sg_14 : g_14 n_15 = p0 := by rw [eg_14]; exact upd_s
    have ng_14 : ∀ k, k ≠ n_15 → g_14 k = (A 9) k := fun k hk => by rw [eg_14]; exact upd_n hk
    have hn : va_at (DG E) vwCl (rf 9, .inl (E.2.2 0, 160, .inl g_14)) H := by rw [eg_14]; exact hn
    have hM : MH E h0 rf t0 t1 t2 (uA A 9 g_14) cd pk H := hM.w hR 9 (by decide) (by decide) (by decide) hn ho
    refine lv_aload_n hx hb dX10_complete_44 rfl (lv_at hl 2 rfl) ?_
    refine va_get (D := DG E) (ci := 10) (v := .ref (rf 9)) (C := RX10) (T := TX10) (N := 49) hx hb hts iw_X10 hown hK.1 (va_one hM.1) 0 rfl rfl 9 (by decide) (hts _ fl_X10_25) (fun _ h9 => h9) rfl dX10_complete_45 ?_
    refine lv_iload hx hb dX10_complete_48 (lv_at hl 0 rfl) ?_
    refine lv_iconst (v := 1) hx hb dX10_complete_50 (by decide) ?_
    refine lv_iadd hx hb dX10_complete_51 ?_
    refine lv_topi (fun x_16 ex_16 => ?_)
    have fx_16 : x_16.toInt = x_12.toInt + 1 := by have h9 := s_add (x := x_12) (y := 1) (by rw [i_1]; omega) (by rw [i_1]; omega); rw [i_1] at h9; rw [ex_16]; exact h9
    refine lv_iload_n hx hb dX10_complete_52 rfl (lv_at hl 4 rfl) ?_
    have hi_17 : vp_in x_16 160 := vp_in_iff.mpr (by omega)
    have ha_18 : va_at (DG E) vwCl (rf 9, .inl (E.2.2 0, 160, .inl g_14)) _ := hM.2 9 (by decide) (by decide) (by decide)
    obtain ⟨n_19, hn_19, en_19⟩ := s_nat (x := x_16) (by omega)
    refine rr_iast (D := DG E) hx hb hK.1 0 ha_18 hS (by show G (rf 9) ≠ 0; rw [hR.2 9 (by decide) (by decide) (by decide)]; decide) rfl hi_17 dX10_complete_53 (fun H locs hn ho hz hS => ?_)
    rw [en_19] at hn
    obtain ⟨g_18, eg_18⟩ : ∃ z : Nat → Int32, z = upd g_14 n_19 p1 := ⟨_, rfl⟩
    have sg_18 : g_18 n_19 = p1 := by rw [eg_18]; exact upd_s
    have ng_18 : ∀ k, k ≠ n_19 → g_18 k = g_14 k := fun k hk => by rw [eg_18]; exact upd_n hk
    have hn : va_at (DG E) vwCl (rf 9, .inl (E.2.2 0, 160, .inl g_18)) H := by rw [eg_18]; exact hn
    have hM : MH E h0 rf t0 t1 t2 (uA (uA A 9 g_14) 9 g_18) cd pk H := hM.w hR 9 (by decide) (by decide) (by decide) hn ho
    refine lv_aload_n hx hb dX10_complete_54 rfl (lv_at hl 2 rfl) ?_
    refine va_get (D := DG E) (ci := 10) (v := .ref (rf 9)) (C := RX10) (T := TX10) (N := 49) hx hb hts iw_X10 hown hK.1 (va_one hM.1) 0 rfl rfl 9 (by decide) (hts _ fl_X10_25) (fun _ h9 => h9) rfl dX10_complete_55 ?_
    refine lv_iload hx hb dX10_complete_58 (lv_at hl 0 rfl) ?_
    refine lv_iconst (v := 2) hx hb dX10_complete_60 (by decide) ?_
    refine lv_iadd hx hb dX10_complete_61 ?_
    refine lv_topi (fun x_20 ex_20 => ?_)
    have fx_20 : x_20.toInt = x_12.toInt + 2 := by have h9 := s_add (x := x_12) (y := 2) (by rw [i_2]; omega) (by rw [i_2]; omega); rw [i_2] at h9; rw [ex_20]; exact h9
    refine lv_iload_n hx hb dX10_complete_62 rfl (lv_at hl 5 rfl) ?_
    have hi_21 : vp_in x_20 160 := vp_in_iff.mpr (by omega)
    have ha_22 : va_at (DG E) vwCl (rf 9, .inl (E.2.2 0, 160, .inl g_18)) _ := hM.2 9 (by decide) (by decide) (by decide)
    obtain ⟨n_23, hn_23, en_23⟩ := s_nat (x := x_20) (by omega)
    refine rr_iast (D := DG E) hx hb hK.1 0 ha_22 hS (by show G (rf 9) ≠ 0; rw [hR.2 9 (by decide) (by decide) (by decide)]; decide) rfl hi_21 dX10_complete_63 (fun H locs hn ho hz hS => ?_)
    rw [en_23] at hn
    obtain ⟨g_22, eg_22⟩ : ∃ z : Nat → Int32, z = upd g_18 n_23 p2 := ⟨_, rfl⟩
    have sg_22 : g_22 n_23 = p2 := by rw [eg_22]; exact upd_s
    have ng_22 : ∀ k, k ≠ n_23 → g_22 k = g_18 k := fun k hk => by rw [eg_22]; exact upd_n hk
    have hn : va_at (DG E) vwCl (rf 9, .inl (E.2.2 0, 160, .inl g_22)) H := by rw [eg_22]; exact hn
    have hM : MH E h0 rf t0 t1 t2 (uA (uA (uA A 9 g_14) 9 g_18) 9 g_22) cd pk H := hM.w hR 9 (by decide) (by decide) (by decide) hn ho
    refine lv_aload_n hx hb dX10_complete_64 rfl (lv_at hl 2 rfl) ?_
    refine va_get (D := DG E) (ci := 10) (v := .ref (rf 9)) (C := RX10) (T := TX10) (N := 49) hx hb hts iw_X10 hown hK.1 (va_one hM.1) 0 rfl rfl 9 (by decide) (hts _ fl_X10_25) (fun _ h9 => h9) rfl dX10_complete_65 ?_
    refine lv_iload hx hb dX10_complete_68 (lv_at hl 0 rfl) ?_
    refine lv_iconst (v := 3) hx hb dX10_complete_70 (by decide) ?_
    refine lv_iadd hx hb dX10_complete_71 ?_
    refine lv_topi (fun x_24 ex_24 => ?_)
    have fx_24 : x_24.toInt = x_12.toInt + 3 := by have h9 := s_add (x := x_12) (y := 3) (by rw [i_3]; omega) (by rw [i_3]; omega); rw [i_3] at h9; rw [ex_24]; exact h9
    refine lv_iload hx hb dX10_complete_72 (lv_at hl 6 rfl) ?_
    have hi_25 : vp_in x_24 160 := vp_in_iff.mpr (by omega)
    have ha_26 : va_at (DG E) vwCl (rf 9, .inl (E.2.2 0, 160, .inl g_22)) _ := hM.2 9 (by decide) (by decide) (by decide)
    obtain ⟨n_27, hn_27, en_27⟩ := s_nat (x := x_24) (by omega)
    refine rr_iast (D := DG E) hx hb hK.1 0 ha_26 hS (by show G (rf 9) ≠ 0; rw [hR.2 9 (by decide) (by decide) (by decide)]; decide) rfl hi_25 dX10_complete_74 (fun H locs hn ho hz hS => ?_)
    rw [en_27] at hn
    obtain ⟨g_26, eg_26⟩ : ∃ z : Nat → Int32, z = upd g_22 n_27 p3 := ⟨_, rfl⟩
    have sg_26 : g_26 n_27 = p3 := by rw [eg_26]; exact upd_s
    have ng_26 : ∀ k, k ≠ n_27 → g_26 k = g_22 k := fun k hk => by rw [eg_26]; exact upd_n hk
    have hn : va_at (DG E) vwCl (rf 9, .inl (E.2.2 0, 160, .inl g_26)) H := by rw [eg_26]; exact hn
    have hM : MH E h0 rf t0 t1 t2 (uA (uA (uA (uA A 9 g_14) 9 g_18) 9 g_22) 9 g_26) cd pk H := hM.w hR 9 (by decide) (by decide) (by decide) hn ho
    refine lv_aload_n hx hb dX10_complete_75 rfl (lv_at hl 2 rfl) ?_
    refine va_get (D := DG E) (ci := 10) (v := .ref (rf 9)) (C := RX10) (T := TX10) (N := 49) hx hb hts iw_X10 hown hK.1 (va_one hM.1) 0 rfl rfl 9 (by decide) (hts _ fl_X10_25) (fun _ h9 => h9) rfl dX10_complete_76 ?_
    refine lv_iload hx hb dX10_complete_79 (lv_at hl 0 rfl) ?_
    refine lv_iconst (v := 4) hx hb dX10_complete_81 (by decide) ?_
    refine lv_iadd hx hb dX10_complete_82 ?_
    refine lv_topi (fun x_28 ex_28 => ?_)
    have fx_28 : x_28.toInt = x_12.toInt + 4 := by have h9 := s_add (x := x_12) (y := 4) (by rw [i_4]; omega) (by rw [i_4]; omega); rw [i_4] at h9; rw [ex_28]; exact h9
    refine lv_iload hx hb dX10_complete_83 (lv_at hl 7 rfl) ?_
    have hi_29 : vp_in x_28 160 := vp_in_iff.mpr (by omega)
    have ha_30 : va_at (DG E) vwCl (rf 9, .inl (E.2.2 0, 160, .inl g_26)) _ := hM.2 9 (by decide) (by decide) (by decide)
    obtain ⟨n_31, hn_31, en_31⟩ := s_nat (x := x_28) (by omega)
    refine rr_iast (D := DG E) hx hb hK.1 0 ha_30 hS (by show G (rf 9) ≠ 0; rw [hR.2 9 (by decide) (by decide) (by decide)]; decide) rfl hi_29 dX10_complete_85 (fun H locs hn ho hz hS => ?_)
    rw [en_31] at hn
    obtain ⟨g_30, eg_30⟩ : ∃ z : Nat → Int32, z = upd g_26 n_31 p4 := ⟨_, rfl⟩
    have sg_30 : g_30 n_31 = p4 := by rw [eg_30]; exact upd_s
    have ng_30 : ∀ k, k ≠ n_31 → g_30 k = g_26 k := fun k hk => by rw [eg_30]; exact upd_n hk
    have hn : va_at (DG E) vwCl (rf 9, .inl (E.2.2 0, 160, .inl g_30)) H := by rw [eg_30]; exact hn
    have hM : MH E h0 rf t0 t1 t2 (uA (uA (uA (uA (uA A 9 g_14) 9 g_18) 9 g_22) 9 g_26) 9 g_30) cd pk H := hM.w hR 9 (by decide) (by decide) (by decide) hn ho
    refine lv_aload_n hx hb dX10_complete_86 rfl (lv_at hl 2 rfl) ?_
    refine va_get (D := DG E) (ci := 10) (v := .ref (rf 8)) (C := RX10) (T := TX10) (N := 49) hx hb hts iw_X10 hown hK.1 (va_one hM.1) 0 rfl rfl 8 (by decide) (hts _ fl_X10_22) (fun _ h9 => h9) rfl dX10_complete_87 ?_
    refine lv_iload hx hb dX10_complete_90 (lv_at hl 1 rfl) ?_
    refine lv_dup2_11 hx hb dX10_complete_92 rfl rfl ?_
    have ha_32 : va_at (DG E) vwCl (rf 8, .inl (E.2.2 0, 2, .inl (A 8))) _ := hM.2 8 (by decide) (by decide) (by decide)
    refine va_iald (D := DG E) hx hb hK.1 (va_one ha_32) 0 0 rfl rfl hi_2 dX10_complete_93 ?_
    refine W.eq (g2 := F0 m 94 ls [.int ((A 8) n_4), .int x_1, .ref (rf 8)]) (by rw [en_4]) ?_
    refine lv_iconst (v := 1) hx hb dX10_complete_94 (by decide) ?_
    refine lv_iadd hx hb dX10_complete_95 ?_
    refine lv_topi (fun x_33 ex_33 => ?_)
    have fx_33 : x_33.toInt = ((A 8) n_4).toInt + 1 := by have h9 := s_add (x := ((A 8) n_4)) (y := 1) (by rw [i_1]; omega) (by rw [i_1]; omega); rw [i_1] at h9; rw [ex_33]; exact h9
    have ha_34 : va_at (DG E) vwCl (rf 8, .inl (E.2.2 0, 2, .inl (A 8))) _ := hM.2 8 (by decide) (by decide) (by decide)
    refine rr_iast (D := DG E) hx hb hK.1 0 ha_34 hS (by show G (rf 8) ≠ 0; rw [hR.2 8 (by decide) (by decide) (by decide)]; decide) rfl hi_2 dX10_complete_96 (fun H locs hn ho hz hS => ?_)
    rw [en_4] at hn
    obtain ⟨g_34, eg_34⟩ : ∃ z : Nat → Int32, z = upd (A 8) n_4 x_33 := ⟨_, rfl⟩
    have sg_34 : g_34 n_4 = x_33 := by rw [eg_34]; exact upd_s
    have ng_34 : ∀ k, k ≠ n_4 → g_34 k = (A 8) k := fun k hk => by rw [eg_34]; exact upd_n hk
    have hn : va_at (DG E) vwCl (rf 8, .inl (E.2.2 0, 2, .inl g_34)) H := by rw [eg_34]; exact hn
    have hM : MH E h0 rf t0 t1 t2 (uA (uA (uA (uA (uA (uA A 9 g_14) 9 g_18) 9 g_22) 9 g_26) 9 g_30) 8 g_34) cd pk H := hM.w hR 8 (by decide) (by decide) (by decide) hn ho
    have hI3_35 : I3 g_34 := by
      intro n9 hn9
      have h9 : 0 ≤ ((A 8) n9).toInt ∧ ((A 8) n9).toInt ≤ 16 := hI3 n9 hn9
      show 0 ≤ (g_34 n9).toInt ∧ (g_34 n9).toInt ≤ 16
      by_cases ezn_4 : n9 = n_4
      · rw [ezn_4] at h9 ⊢
        rw [sg_34]
        clear h9
        exact ⟨by omega, by omega⟩
      · rw [ng_34 n9 ezn_4]
        exact h9
    exact W.vret hx hb hr (fun t ht hW => ⟨⟨(g_34, g_30), rfl, ⟨hI3_35, (Or.inl ⟨x_1, ex_1, fx_1, n_4, hn_4, c_8, x_9, ex_9, fx_9, x_11, ex_11, fx_11, x_12, ex_12, fx_12, n_15, hn_15, g_14, eg_14, x_16, ex_16, fx_16, n_19, hn_19, g_18, eg_18, x_20, ex_20, fx_20, n_23, hn_23, g_22, eg_22, x_24, ex_24, fx_24, n_27, hn_27, g_26, eg_26, x_28, ex_28, fx_28, n_31, hn_31, g_30, eg_30, x_33, ex_33, fx_33, g_34, eg_34, rfl, rfl, rfl⟩)⟩, (by show MH E h0 rf t0 t1 t2 (uA (uA A 8 g_34) 9 g_30) cd pk t.heap; rw [ht]; exact hM.cg9 rfl rfl rfl rfl rfl rfl rfl rfl rfl rfl rfl rfl rfl rfl rfl rfl rfl rfl rfl rfl rfl rfl rfl rfl rfl rfl rfl rfl rfl rfl rfl rfl rfl rfl rfl rfl rfl rfl rfl rfl rfl rfl rfl rfl)⟩, hS.F ht⟩) hS.2.2 dX10_complete_97
  · simp only [lt_I, le_I, eq_I, i_0, i_1, i_2, i_3, i_4, i_5, i_6, i_7, i_8, i_10, i_12, i_16, i_20, i_23, i_24, i_31, i_32, i_63, i_64, i_m1, i_9, i_11, i_13, i_25, i_60, i_75, i_79, i_80, i_96, i_100] at c_8
    exact W.vret hx hb hr (fun t ht hW => ⟨⟨((A 8), (A 9)), rfl, ⟨hI3, (Or.inr ⟨x_1, ex_1, fx_1, n_4, hn_4, c_8, rfl, rfl, rfl⟩)⟩, (by show MH E h0 rf t0 t1 t2 (uA (uA A 8 (A 8)) 9 (A 9)) cd pk t.heap; rw [ht]; exact hM.cg9 rfl rfl rfl rfl rfl rfl rfl rfl rfl rfl rfl rfl rfl rfl rfl rfl rfl rfl rfl rfl rfl rfl rfl rfl rfl rfl rfl rfl rfl rfl rfl rfl rfl rfl rfl rfl rfl rfl rfl rfl rfl rfl rfl rfl)⟩, hS.F ht⟩) hS.2.2 dX10_complete_18
theorem dX10_allows_0 : decode cX10_allows 0 = .ok (.bipush 6, 2) := by decide +kernel
theorem dX10_allows_2 : decode cX10_allows 2 = .ok (.iload_n 1, 1) := by decide +kernel
theorem dX10_allows_3 : decode cX10_allows 3 = .ok (.invokestatic 160, 3) := by decide +kernel
theorem dX10_allows_6 : decode cX10_allows 6 = .ok (.imul, 1) := by decide +kernel
theorem dX10_allows_7 : decode cX10_allows 7 = .ok (.iload_n 2, 1) := by decide +kernel
theorem dX10_allows_8 : decode cX10_allows 8 = .ok (.iadd, 1) := by decide +kernel
theorem dX10_allows_9 : decode cX10_allows 9 = .ok (.istore 6, 2) := by decide +kernel
theorem dX10_allows_11 : decode cX10_allows 11 = .ok (.aload_n 0, 1) := by decide +kernel
theorem dX10_allows_12 : decode cX10_allows 12 = .ok (.getfield 19, 3) := by decide +kernel
theorem dX10_allows_15 : decode cX10_allows 15 = .ok (.iload 6, 2) := by decide +kernel
theorem dX10_allows_17 : decode cX10_allows 17 = .ok (.iaload, 1) := by decide +kernel
theorem dX10_allows_18 : decode cX10_allows 18 = .ok (.iload 5, 2) := by decide +kernel
theorem dX10_allows_20 : decode cX10_allows 20 = .ok (.idiv, 1) := by decide +kernel
theorem dX10_allows_21 : decode cX10_allows 21 = .ok (.iconst 2, 1) := by decide +kernel
theorem dX10_allows_22 : decode cX10_allows 22 = .ok (.irem, 1) := by decide +kernel
theorem dX10_allows_23 : decode cX10_allows 23 = .ok (.iconst 1, 1) := by decide +kernel
theorem dX10_allows_24 : decode cX10_allows 24 = .ok (.if_icmp .ne 7, 3) := by decide +kernel
theorem dX10_allows_27 : decode cX10_allows 27 = .ok (.iconst 1, 1) := by decide +kernel
theorem dX10_allows_28 : decode cX10_allows 28 = .ok (.goto 4, 3) := by decide +kernel
theorem dX10_allows_31 : decode cX10_allows 31 = .ok (.iconst 0, 1) := by decide +kernel
theorem dX10_allows_32 : decode cX10_allows 32 = .ok (.istore 7, 2) := by decide +kernel
theorem dX10_allows_34 : decode cX10_allows 34 = .ok (.iload 7, 2) := by decide +kernel
theorem dX10_allows_36 : decode cX10_allows 36 = .ok (.ifCond .eq 40, 3) := by decide +kernel
theorem dX10_allows_39 : decode cX10_allows 39 = .ok (.iload_n 3, 1) := by decide +kernel
theorem dX10_allows_40 : decode cX10_allows 40 = .ok (.aload_n 0, 1) := by decide +kernel
theorem dX10_allows_41 : decode cX10_allows 41 = .ok (.getfield 13, 3) := by decide +kernel
theorem dX10_allows_44 : decode cX10_allows 44 = .ok (.iload 6, 2) := by decide +kernel
theorem dX10_allows_46 : decode cX10_allows 46 = .ok (.iaload, 1) := by decide +kernel
theorem dX10_allows_47 : decode cX10_allows 47 = .ok (.if_icmp .lt 29, 3) := by decide +kernel
theorem dX10_allows_50 : decode cX10_allows 50 = .ok (.iload_n 3, 1) := by decide +kernel
theorem dX10_allows_51 : decode cX10_allows 51 = .ok (.iload 4, 2) := by decide +kernel
theorem dX10_allows_53 : decode cX10_allows 53 = .ok (.iadd, 1) := by decide +kernel
theorem dX10_allows_54 : decode cX10_allows 54 = .ok (.aload_n 0, 1) := by decide +kernel
theorem dX10_allows_55 : decode cX10_allows 55 = .ok (.getfield 13, 3) := by decide +kernel
theorem dX10_allows_58 : decode cX10_allows 58 = .ok (.iload 6, 2) := by decide +kernel
theorem dX10_allows_60 : decode cX10_allows 60 = .ok (.iaload, 1) := by decide +kernel
theorem dX10_allows_61 : decode cX10_allows 61 = .ok (.aload_n 0, 1) := by decide +kernel
theorem dX10_allows_62 : decode cX10_allows 62 = .ok (.getfield 16, 3) := by decide +kernel
theorem dX10_allows_65 : decode cX10_allows 65 = .ok (.iload 6, 2) := by decide +kernel
theorem dX10_allows_67 : decode cX10_allows 67 = .ok (.iaload, 1) := by decide +kernel
theorem dX10_allows_68 : decode cX10_allows 68 = .ok (.iadd, 1) := by decide +kernel
theorem dX10_allows_69 : decode cX10_allows 69 = .ok (.if_icmp .gt 7, 3) := by decide +kernel
theorem dX10_allows_72 : decode cX10_allows 72 = .ok (.iconst 1, 1) := by decide +kernel
theorem dX10_allows_73 : decode cX10_allows 73 = .ok (.goto 4, 3) := by decide +kernel
theorem dX10_allows_76 : decode cX10_allows 76 = .ok (.iconst 0, 1) := by decide +kernel
theorem dX10_allows_77 : decode cX10_allows 77 = .ok (.ireturn, 1) := by decide +kernel
set_option maxHeartbeats 8000000 in
set_option maxRecDepth 100000 in
theorem u_X10_allows (l : Launch) (E : EE) (z0 : Nat) (G : Nat → Nat) (hGz : ∀ q, G q ≠ 0 → z0 ≤ q) (h0 : Nat) (rf : Nat → Nat) (hR : MG G h0 rf) (t0 t1 t2 : Int32) (A : AA) (cd pk : Int32) (p0 : Int32) (p1 : Int32) (p2 : Int32) (p3 : Int32) (p4 : Int32) (hI2 : I2 (A 5) (A 6)) (hy0 : 0 ≤ p0.toInt ∧ p0.toInt ≤ 3) (hy1 : 0 ≤ p1.toInt ∧ p1.toInt ≤ 5) (hy2 : -1 ≤ p2.toInt ∧ p2.toInt ≤ 60) (hy3 : 0 ≤ p3.toInt ∧ p3.toInt ≤ 12) (hy4 : ¬ p4 = 0) : Met l yX10_allows [Cond.code yX10_allows cX10_allows 8 (some .boolean)] ({ frames := 1, cells := 0, slots := 0, locals := 20 } : Room) (va_Pc [.ref h0, .int p0, .int p1, .int p2, .int p3, .int p4] (fun U => MH E h0 rf t0 t1 t2 A cd pk U.heap ∧ KS E z0 U)) (va_Qi (fun (r : Int32) (u : Unit) => (r = 0 ∨ r = 1) ∧ (r.toInt = 0 ∨ (0 ≤ p2.toInt ∧ p2.toInt + p3.toInt ≤ 32)) ∧ (D_X10_allows A cd pk p0 p1 p2 p3 p4 r)) (fun u t => True) (fun _ : Nat => False)) 0 0 (fun _ : Nat => False) := by
  refine Met.ofW (cc := cX10_allows) (maxL := 8) (ret := (some .boolean)) (by decide) rfl ?_
  intro p e s m args below meth c s₁ B hml hv
  obtain ⟨rfl, hM, hK⟩ := hv
  have hx := B.exec
  have hb := B.bytes
  have hr := B.returns
  have hts : ∀ w ∈ TS, w.before ([.ref h0, .int p0, .int p1, .int p2, .int p3, .int p4] : List Value).toArray s = true := fun w hw => hK.2.1 w hw _
  have hown : s.vm.findClass RX10 = some m.cls := findClass_of_methodNamed B.named
  have hlocks := B.notSynchronized
  have hS : va_S (fun _ : Nat => False) s.heap s.heap [] := va_S.rf
  have hAz : ∀ q, (fun _ : Nat => False) q → z0 ≤ q := fun _ h => h.elim
  have hl := lv_entry ([.ref h0, .int p0, .int p1, .int p2, .int p3, .int p4]) (n := 8) (Nat.le_of_ble_eq_true rfl)
  rw [lg_entry_eq]
  generalize (lg_sl ([.ref h0, .int p0, .int p1, .int p2, .int p3, .int p4]) ++ List.replicate (8 - (lg_sl ([.ref h0, .int p0, .int p1, .int p2, .int p3, .int p4])).length) Slot.unset).toArray = ls at hl ⊢
  have hl : lv_has ls 8 [(0, .ref h0), (1, .int p0), (2, .int p1), (3, .int p2), (4, .int p3), (5, .int p4)] := hl
  refine lv_bipush (v := 6) hx hb dX10_allows_0 (by decide) ?_
  refine lv_iload_n hx hb dX10_allows_2 rfl (lv_at hl 1 rfl) ?_
  refine W.callR (W.runS (As := [.int p0]) (rest := [.int 6]) ⟨hx, hb, hml, hown, hts⟩ (c_X10_nodeOf l p0) (cwS 1 hts (gdS ml_X10_160 st_X10_nodeOf in_X10 co_X10_nodeOf rfl) rfl rfl rfl (by decide +kernel) ⟨Nat.le_of_ble_eq_true rfl, Nat.le_of_ble_eq_true rfl⟩) preEq rfl rfl hl.1 rfl (lv_room (Nat.le_of_ble_eq_true rfl)) dX10_allows_3 ⟨Nat.le_of_ble_eq_true rfl, Nat.le_of_ble_eq_true rfl⟩) ?_
  refine W.eq (g2 := F0 m 6 ls [.int (p0 - p0 / 2 * 2), .int 6]) (by rfl) ?_
  refine lv_topi (fun x_1 ex_1 => ?_)
  have fx_1 : x_1.toInt = p0.toInt % 2 := by rw [ex_1]; exact s_rem (x := p0) 2 (by decide) (by decide) (by omega)
  refine lv_imul hx hb dX10_allows_6 ?_
  refine lv_topi (fun x_2 ex_2 => ?_)
  have fx_2 : x_2.toInt = 6 * x_1.toInt := by rw [ex_2]; exact s_mulK i_6 (by omega) (by omega)
  refine lv_iload_n hx hb dX10_allows_7 rfl (lv_at hl 2 rfl) ?_
  refine lv_iadd hx hb dX10_allows_8 ?_
  refine lv_topi (fun x_3 ex_3 => ?_)
  have fx_3 : x_3.toInt = x_2.toInt + p1.toInt := by have h9 := s_add (x := x_2) (y := p1) (by omega) (by omega); rw [ex_3]; exact h9
  refine lv_istore (lv' := [(6, .int x_3), (0, .ref h0), (1, .int p0), (2, .int p1), (3, .int p2), (4, .int p3), (5, .int p4)]) hx hb dX10_allows_9 hl (by decide) rfl (fun ls hl => ?_)
  refine lv_aload_n hx hb dX10_allows_11 rfl (lv_at hl 1 rfl) ?_
  refine va_get (D := DG E) (ci := 10) (v := .ref (rf 7)) (C := RX10) (T := TX10) (N := 49) hx hb hts iw_X10 hown hK.1 (va_one hM.1) 0 rfl rfl 7 (by decide) (hts _ fl_X10_19) (fun _ h9 => h9) rfl dX10_allows_12 ?_
  refine lv_iload hx hb dX10_allows_15 (lv_at hl 0 rfl) ?_
  have hi_4 : vp_in x_3 12 := vp_in_iff.mpr (by omega)
  have ha_5 : va_at (DG E) vwCl (rf 7, .inl (E.2.2 0, 12, .inl (A 7))) _ := hM.2 7 (by decide) (by decide) (by decide)
  obtain ⟨n_6, hn_6, en_6⟩ := s_nat (x := x_3) (by omega)
  refine va_iald (D := DG E) hx hb hK.1 (va_one ha_5) 0 0 rfl rfl hi_4 dX10_allows_17 ?_
  refine W.eq (g2 := F0 m 18 ls [.int ((A 7) n_6)]) (by rw [en_6]) ?_
  refine lv_iload hx hb dX10_allows_18 (lv_at hl 6 rfl) ?_
  refine lv_idiv hx hb dX10_allows_20 hy4 ?_
  refine lv_topi (fun x_7 ex_7 => ?_)
  refine lv_iconst (v := 2) hx hb dX10_allows_21 (by decide) ?_
  refine lv_irem hx hb dX10_allows_22 (by decide) ?_
  refine lv_topi (fun x_8 ex_8 => ?_)
  refine lv_iconst (v := 1) hx hb dX10_allows_23 (by decide) ?_
  refine lv_icmp_ne (tgt := 31) hx hb dX10_allows_24 (by decide) (fun c_9 => ?_) (fun c_9 => ?_)
  · simp only [lt_I, le_I, eq_I, i_0, i_1, i_2, i_3, i_4, i_5, i_6, i_7, i_8, i_10, i_12, i_16, i_20, i_23, i_24, i_31, i_32, i_63, i_64, i_m1, i_9, i_11, i_13, i_25, i_60, i_75, i_79, i_80, i_96, i_100] at c_9
    refine lv_iconst (v := 0) hx hb dX10_allows_31 (by decide) ?_
    refine lv_istore (lv' := [(7, .int 0), (6, .int x_3), (0, .ref h0), (1, .int p0), (2, .int p1), (3, .int p2), (4, .int p3), (5, .int p4)]) hx hb dX10_allows_32 hl (by decide) rfl (fun ls hl => ?_)
    refine lv_iload hx hb dX10_allows_34 (lv_at hl 0 rfl) ?_
    refine lv_if_eq (tgt := 76) hx hb dX10_allows_36 (by decide) (fun c_10 => ?_) (fun c_10 => absurd c_10 (by decide))
    refine lv_iconst (v := 0) hx hb dX10_allows_76 (by decide) ?_
    exact W.zret (v := 0) (ty := .boolean) hx hb hr rfl (fun t ht hW => ⟨⟨0, (), rfl, ⟨(by decide), (by show (0 : Int32).toInt = 0 ∨ (0 ≤ p2.toInt ∧ p2.toInt + p3.toInt ≤ 32); have := i_0; omega), (Or.inl ⟨x_1, ex_1, fx_1, x_2, ex_2, fx_2, x_3, ex_3, fx_3, n_6, hn_6, x_7, ex_7, x_8, ex_8, c_9, rfl⟩)⟩, trivial⟩, hS.F ht⟩) hS.2.2 dX10_allows_77
  · simp only [lt_I, le_I, eq_I, i_0, i_1, i_2, i_3, i_4, i_5, i_6, i_7, i_8, i_10, i_12, i_16, i_20, i_23, i_24, i_31, i_32, i_63, i_64, i_m1, i_9, i_11, i_13, i_25, i_60, i_75, i_79, i_80, i_96, i_100] at c_9
    refine lv_iconst (v := 1) hx hb dX10_allows_27 (by decide) ?_
    refine lv_goto (tgt := 32) hx hb dX10_allows_28 (by decide) ?_
    refine lv_istore (lv' := [(7, .int 1), (6, .int x_3), (0, .ref h0), (1, .int p0), (2, .int p1), (3, .int p2), (4, .int p3), (5, .int p4)]) hx hb dX10_allows_32 hl (by decide) rfl (fun ls hl => ?_)
    refine lv_iload hx hb dX10_allows_34 (lv_at hl 0 rfl) ?_
    refine lv_if_eq (tgt := 76) hx hb dX10_allows_36 (by decide) (fun c_11 => absurd c_11 (by decide)) (fun c_11 => ?_)
    refine lv_iload_n hx hb dX10_allows_39 rfl (lv_at hl 5 rfl) ?_
    refine lv_aload_n hx hb dX10_allows_40 rfl (lv_at hl 2 rfl) ?_
    refine va_get (D := DG E) (ci := 10) (v := .ref (rf 5)) (C := RX10) (T := TX10) (N := 49) hx hb hts iw_X10 hown hK.1 (va_one hM.1) 0 rfl rfl 5 (by decide) (hts _ fl_X10_13) (fun _ h9 => h9) rfl dX10_allows_41 ?_
    refine lv_iload hx hb dX10_allows_44 (lv_at hl 1 rfl) ?_
    have ha_12 : va_at (DG E) vwCl (rf 5, .inl (E.2.2 0, 12, .inl (A 5))) _ := hM.2 5 (by decide) (by decide) (by decide)
    refine va_iald (D := DG E) hx hb hK.1 (va_one ha_12) 0 0 rfl rfl hi_4 dX10_allows_46 ?_
    refine W.eq (g2 := F0 m 47 ls [.int ((A 5) n_6), .int p2]) (by rw [en_6]) ?_
    have hk_13 : n_6 < 12 := by omega
    have q_14 : 0 ≤ ((A 5) n_6).toInt := (hI2 n_6 hk_13).1
    have q_15 : ((A 5) n_6).toInt + ((A 6) n_6).toInt ≤ 32 := (hI2 n_6 hk_13).2.2
    refine lv_icmp_lt (tgt := 76) hx hb dX10_allows_47 (by decide) (fun c_16 => ?_) (fun c_16 => ?_)
    · simp only [lt_I, le_I, eq_I, i_0, i_1, i_2, i_3, i_4, i_5, i_6, i_7, i_8, i_10, i_12, i_16, i_20, i_23, i_24, i_31, i_32, i_63, i_64, i_m1, i_9, i_11, i_13, i_25, i_60, i_75, i_79, i_80, i_96, i_100] at c_16
      refine lv_iconst (v := 0) hx hb dX10_allows_76 (by decide) ?_
      exact W.zret (v := 0) (ty := .boolean) hx hb hr rfl (fun t ht hW => ⟨⟨0, (), rfl, ⟨(by decide), (by show (0 : Int32).toInt = 0 ∨ (0 ≤ p2.toInt ∧ p2.toInt + p3.toInt ≤ 32); have := i_0; omega), (Or.inr (Or.inl ⟨x_1, ex_1, fx_1, x_2, ex_2, fx_2, x_3, ex_3, fx_3, n_6, hn_6, x_7, ex_7, x_8, ex_8, c_9, c_16, rfl⟩))⟩, trivial⟩, hS.F ht⟩) hS.2.2 dX10_allows_77
    · simp only [lt_I, le_I, eq_I, i_0, i_1, i_2, i_3, i_4, i_5, i_6, i_7, i_8, i_10, i_12, i_16, i_20, i_23, i_24, i_31, i_32, i_63, i_64, i_m1, i_9, i_11, i_13, i_25, i_60, i_75, i_79, i_80, i_96, i_100] at c_16
      refine lv_iload_n hx hb dX10_allows_50 rfl (lv_at hl 5 rfl) ?_
      refine lv_iload hx hb dX10_allows_51 (lv_at hl 6 rfl) ?_
      refine lv_iadd hx hb dX10_allows_53 ?_
      refine lv_topi (fun x_17 ex_17 => ?_)
      have fx_17 : x_17.toInt = p2.toInt + p3.toInt := by have h9 := s_add (x := p2) (y := p3) (by omega) (by omega); rw [ex_17]; exact h9
      refine lv_aload_n hx hb dX10_allows_54 rfl (lv_at hl 2 rfl) ?_
      refine va_get (D := DG E) (ci := 10) (v := .ref (rf 5)) (C := RX10) (T := TX10) (N := 49) hx hb hts iw_X10 hown hK.1 (va_one hM.1) 0 rfl rfl 5 (by decide) (hts _ fl_X10_13) (fun _ h9 => h9) rfl dX10_allows_55 ?_
      refine lv_iload hx hb dX10_allows_58 (lv_at hl 1 rfl) ?_
      have ha_18 : va_at (DG E) vwCl (rf 5, .inl (E.2.2 0, 12, .inl (A 5))) _ := hM.2 5 (by decide) (by decide) (by decide)
      refine va_iald (D := DG E) hx hb hK.1 (va_one ha_18) 0 0 rfl rfl hi_4 dX10_allows_60 ?_
      refine W.eq (g2 := F0 m 61 ls [.int ((A 5) n_6), .int x_17]) (by rw [en_6]) ?_
      refine lv_aload_n hx hb dX10_allows_61 rfl (lv_at hl 2 rfl) ?_
      refine va_get (D := DG E) (ci := 10) (v := .ref (rf 6)) (C := RX10) (T := TX10) (N := 49) hx hb hts iw_X10 hown hK.1 (va_one hM.1) 0 rfl rfl 6 (by decide) (hts _ fl_X10_16) (fun _ h9 => h9) rfl dX10_allows_62 ?_
      refine lv_iload hx hb dX10_allows_65 (lv_at hl 1 rfl) ?_
      have ha_19 : va_at (DG E) vwCl (rf 6, .inl (E.2.2 0, 12, .inl (A 6))) _ := hM.2 6 (by decide) (by decide) (by decide)
      refine va_iald (D := DG E) hx hb hK.1 (va_one ha_19) 0 0 rfl rfl hi_4 dX10_allows_67 ?_
      refine W.eq (g2 := F0 m 68 ls [.int ((A 6) n_6), .int ((A 5) n_6), .int x_17]) (by rw [en_6]) ?_
      have q_20 : 0 ≤ ((A 6) n_6).toInt := (hI2 n_6 hk_13).2.1
      refine lv_iadd hx hb dX10_allows_68 ?_
      refine lv_topi (fun x_21 ex_21 => ?_)
      have fx_21 : x_21.toInt = ((A 5) n_6).toInt + ((A 6) n_6).toInt := by have h9 := s_add (x := ((A 5) n_6)) (y := ((A 6) n_6)) (by omega) (by omega); rw [ex_21]; exact h9
      refine lv_icmp_gt (tgt := 76) hx hb dX10_allows_69 (by decide) (fun c_22 => ?_) (fun c_22 => ?_)
      · simp only [lt_I, le_I, eq_I, i_0, i_1, i_2, i_3, i_4, i_5, i_6, i_7, i_8, i_10, i_12, i_16, i_20, i_23, i_24, i_31, i_32, i_63, i_64, i_m1, i_9, i_11, i_13, i_25, i_60, i_75, i_79, i_80, i_96, i_100] at c_22
        refine lv_iconst (v := 0) hx hb dX10_allows_76 (by decide) ?_
        exact W.zret (v := 0) (ty := .boolean) hx hb hr rfl (fun t ht hW => ⟨⟨0, (), rfl, ⟨(by decide), (by show (0 : Int32).toInt = 0 ∨ (0 ≤ p2.toInt ∧ p2.toInt + p3.toInt ≤ 32); have := i_0; omega), (Or.inr (Or.inr (Or.inl ⟨x_1, ex_1, fx_1, x_2, ex_2, fx_2, x_3, ex_3, fx_3, n_6, hn_6, x_7, ex_7, x_8, ex_8, c_9, c_16, x_17, ex_17, fx_17, x_21, ex_21, fx_21, c_22, rfl⟩)))⟩, trivial⟩, hS.F ht⟩) hS.2.2 dX10_allows_77
      · simp only [lt_I, le_I, eq_I, i_0, i_1, i_2, i_3, i_4, i_5, i_6, i_7, i_8, i_10, i_12, i_16, i_20, i_23, i_24, i_31, i_32, i_63, i_64, i_m1, i_9, i_11, i_13, i_25, i_60, i_75, i_79, i_80, i_96, i_100] at c_22
        refine lv_iconst (v := 1) hx hb dX10_allows_72 (by decide) ?_
        refine lv_goto (tgt := 77) hx hb dX10_allows_73 (by decide) ?_
        exact W.zret (v := 1) (ty := .boolean) hx hb hr rfl (fun t ht hW => ⟨⟨1, (), rfl, ⟨(by decide), (by show (1 : Int32).toInt = 0 ∨ (0 ≤ p2.toInt ∧ p2.toInt + p3.toInt ≤ 32); have := i_1; omega), (Or.inr (Or.inr (Or.inr ⟨x_1, ex_1, fx_1, x_2, ex_2, fx_2, x_3, ex_3, fx_3, n_6, hn_6, x_7, ex_7, x_8, ex_8, c_9, c_16, x_17, ex_17, fx_17, x_21, ex_21, fx_21, c_22, rfl⟩)))⟩, trivial⟩, hS.F ht⟩) hS.2.2 dX10_allows_77

