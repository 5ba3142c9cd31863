section
theorem dX10_within_0 : decode cX10_within 0 = .ok (.iload_n 0, 1) := by decide +kernel
theorem dX10_within_1 : decode cX10_within 1 = .ok (.ifCond .lt 12, 3) := by decide +kernel
theorem dX10_within_4 : decode cX10_within 4 = .ok (.iload_n 0, 1) := by decide +kernel
theorem dX10_within_5 : decode cX10_within 5 = .ok (.iload_n 1, 1) := by decide +kernel
theorem dX10_within_6 : decode cX10_within 6 = .ok (.if_icmp .gt 7, 3) := by decide +kernel
theorem dX10_within_9 : decode cX10_within 9 = .ok (.iconst 1, 1) := by decide +kernel
theorem dX10_within_10 : decode cX10_within 10 = .ok (.goto 4, 3) := by decide +kernel
theorem dX10_within_13 : decode cX10_within 13 = .ok (.iconst 0, 1) := by decide +kernel
theorem dX10_within_14 : decode cX10_within 14 = .ok (.ireturn, 1) := by decide +kernel
set_option maxHeartbeats 4000000 in
set_option maxRecDepth 100000 in
theorem c_X10_within (l : Launch) (p0 p1 : Int32) : Met l yX10_within [Cond.code yX10_within cX10_within 2 (some .boolean)] ({ frames := 0, cells := 0, slots := 0, locals := 0 } : Room) (fun v _ => v = ([.int p0, .int p1] : List Value).toArray) (QcRead (bI (0 ≤ p0.toInt ∧ p0.toInt ≤ (p1 : Int32).toInt))) 0 0 (fun _ => False) := by
  refine Met.ofW (cc := cX10_within) (maxL := 2) (ret := (some .boolean)) (by decide) rfl ?_
  intro p e s m args below meth c s₁ B hml hv
  subst hv
  have hx := B.exec
  have hb := B.bytes
  have hr := B.returns
  have hlocks := B.notSynchronized
  have hl := lv_entry ([.int p0, .int p1]) (n := 2) (Nat.le_of_ble_eq_true rfl)
  rw [lg_entry_eq]
  generalize (lg_sl ([.int p0, .int p1]) ++ List.replicate (2 - (lg_sl ([.int p0, .int p1])).length) Slot.unset).toArray = ls at hl ⊢
  have hl : lv_has ls 2 [(0, .int p0), (1, .int p1)] := hl
  refine lv_iload_n hx hb dX10_within_0 rfl (lv_at hl 0 rfl) ?_
  refine lv_if_lt (tgt := 13) hx hb dX10_within_1 (by decide) (fun c_1 => ?_) (fun c_1 => ?_)
  · simp only [lt_I, le_I, eq_I, i_0, i_1, i_2, i_3, i_4, i_5, i_6, i_7, i_8, i_10, i_12, i_16, i_20, i_23, i_24, i_31, i_32, i_63, i_64, i_m1] at c_1
    refine lv_iconst (v := 0) hx hb dX10_within_13 (by decide) ?_
    exact W.zret (v := 0) (ty := .boolean) hx hb hr rfl (fun t ht hW => ⟨(by rw [bI_f (by first | omega | (have h32 := s_sub (x := 32) (y := p1) (by rw [i_32]; omega) (by rw [i_32]; omega); rw [i_32] at h32; omega))]), ht⟩) (fun q hq => nomatch hq) dX10_within_14
  · simp only [lt_I, le_I, eq_I, i_0, i_1, i_2, i_3, i_4, i_5, i_6, i_7, i_8, i_10, i_12, i_16, i_20, i_23, i_24, i_31, i_32, i_63, i_64, i_m1] at c_1
    refine lv_iload_n hx hb dX10_within_4 rfl (lv_at hl 0 rfl) ?_
    refine lv_iload_n hx hb dX10_within_5 rfl (lv_at hl 1 rfl) ?_
    refine lv_icmp_gt (tgt := 13) hx hb dX10_within_6 (by decide) (fun c_2 => ?_) (fun c_2 => ?_)
    · simp only [lt_I, le_I, eq_I, i_0, i_1, i_2, i_3, i_4, i_5, i_6, i_7, i_8, i_10, i_12, i_16, i_20, i_23, i_24, i_31, i_32, i_63, i_64, i_m1] at c_2
      refine lv_iconst (v := 0) hx hb dX10_within_13 (by decide) ?_
      exact W.zret (v := 0) (ty := .boolean) hx hb hr rfl (fun t ht hW => ⟨(by rw [bI_f (by first | omega | (have h32 := s_sub (x := 32) (y := p1) (by rw [i_32]; omega) (by rw [i_32]; omega); rw [i_32] at h32; omega))]), ht⟩) (fun q hq => nomatch hq) dX10_within_14
    · simp only [lt_I, le_I, eq_I, i_0, i_1, i_2, i_3, i_4, i_5, i_6, i_7, i_8, i_10, i_12, i_16, i_20, i_23, i_24, i_31, i_32, i_63, i_64, i_m1] at c_2
      refine lv_iconst (v := 1) hx hb dX10_within_9 (by decide) ?_
      refine lv_goto (tgt := 14) hx hb dX10_within_10 (by decide) ?_
      exact W.zret (v := 1) (ty := .boolean) hx hb hr rfl (fun t ht hW => ⟨(by rw [bI_t (by first | omega | (have h32 := s_sub (x := 32) (y := p1) (by rw [i_32]; omega) (by rw [i_32]; omega); rw [i_32] at h32; omega))]), ht⟩) (fun q hq => nomatch hq) dX10_within_14
theorem dX10_far_0 : decode cX10_far 0 = .ok (.iload_n 1, 1) := by decide +kernel
theorem dX10_far_1 : decode cX10_far 1 = .ok (.iload_n 0, 1) := by decide +kernel
theorem dX10_far_2 : decode cX10_far 2 = .ok (.isub, 1) := by decide +kernel
theorem dX10_far_3 : decode cX10_far 3 = .ok (.bipush 64, 2) := by decide +kernel
theorem dX10_far_5 : decode cX10_far 5 = .ok (.iadd, 1) := by decide +kernel
theorem dX10_far_6 : decode cX10_far 6 = .ok (.bipush 64, 2) := by decide +kernel
theorem dX10_far_8 : decode cX10_far 8 = .ok (.irem, 1) := by decide +kernel
theorem dX10_far_9 : decode cX10_far 9 = .ok (.ireturn, 1) := by decide +kernel
set_option maxHeartbeats 4000000 in
set_option maxRecDepth 100000 in
theorem c_X10_far (l : Launch) (p0 p1 : Int32) : Met l yX10_far [Cond.code yX10_far cX10_far 2 (some .int)] ({ frames := 0, cells := 0, slots := 0, locals := 0 } : Room) (fun v _ => v = ([.int p0, .int p1] : List Value).toArray) (QcRead (((p1 - p0) + 64) - ((p1 - p0) + 64) / 64 * 64)) 0 0 (fun _ => False) := by
  refine Met.ofW (cc := cX10_far) (maxL := 2) (ret := (some .int)) (by decide) rfl ?_
  intro p e s m args below meth c s₁ B hml hv
  subst hv
  have hx := B.exec
  have hb := B.bytes
  have hr := B.returns
  have hlocks := B.notSynchronized
  have hl := lv_entry ([.int p0, .int p1]) (n := 2) (Nat.le_of_ble_eq_true rfl)
  rw [lg_entry_eq]
  generalize (lg_sl ([.int p0, .int p1]) ++ List.replicate (2 - (lg_sl ([.int p0, .int p1])).length) Slot.unset).toArray = ls at hl ⊢
  have hl : lv_has ls 2 [(0, .int p0), (1, .int p1)] := hl
  refine lv_iload_n hx hb dX10_far_0 rfl (lv_at hl 1 rfl) ?_
  refine lv_iload_n hx hb dX10_far_1 rfl (lv_at hl 0 rfl) ?_
  refine lv_isub hx hb dX10_far_2 ?_
  refine lv_bipush (v := 64) hx hb dX10_far_3 (by decide) ?_
  refine lv_iadd hx hb dX10_far_5 ?_
  refine lv_bipush (v := 64) hx hb dX10_far_6 (by decide) ?_
  refine lv_irem hx hb dX10_far_8 (by decide) ?_
  exact W.iret (v := (((p1 - p0) + 64) - ((p1 - p0) + 64) / 64 * 64)) hx hb hr (fun t ht hW => ⟨rfl, ht⟩) (fun q hq => nomatch hq) dX10_far_9
theorem dX10_nodeOf_0 : decode cX10_nodeOf 0 = .ok (.iload_n 0, 1) := by decide +kernel
theorem dX10_nodeOf_1 : decode cX10_nodeOf 1 = .ok (.iconst 2, 1) := by decide +kernel
theorem dX10_nodeOf_2 : decode cX10_nodeOf 2 = .ok (.irem, 1) := by decide +kernel
theorem dX10_nodeOf_3 : decode cX10_nodeOf 3 = .ok (.ireturn, 1) := by decide +kernel
set_option maxHeartbeats 4000000 in
set_option maxRecDepth 100000 in
theorem c_X10_nodeOf (l : Launch) (p0 : Int32) : Met l yX10_nodeOf [Cond.code yX10_nodeOf cX10_nodeOf 1 (some .int)] ({ frames := 0, cells := 0, slots := 0, locals := 0 } : Room) (fun v _ => v = ([.int p0] : List Value).toArray) (QcRead (p0 - p0 / 2 * 2)) 0 0 (fun _ => False) := by
  refine Met.ofW (cc := cX10_nodeOf) (maxL := 1) (ret := (some .int)) (by decide) rfl ?_
  intro p e s m args below meth c s₁ B hml hv
  subst hv
  have hx := B.exec
  have hb := B.bytes
  have hr := B.returns
  have hlocks := B.notSynchronized
  have hl := lv_entry ([.int p0]) (n := 1) (Nat.le_of_ble_eq_true rfl)
  rw [lg_entry_eq]
  generalize (lg_sl ([.int p0]) ++ List.replicate (1 - (lg_sl ([.int p0])).length) Slot.unset).toArray = ls at hl ⊢
  have hl : lv_has ls 1 [(0, .int p0)] := hl
  refine lv_iload_n hx hb dX10_nodeOf_0 rfl (lv_at hl 0 rfl) ?_
  refine lv_iconst (v := 2) hx hb dX10_nodeOf_1 (by decide) ?_
  refine lv_irem hx hb dX10_nodeOf_2 (by decide) ?_
  exact W.iret (v := (p0 - p0 / 2 * 2)) hx hb hr (fun t ht hW => ⟨rfl, ht⟩) (fun q hq => nomatch hq) dX10_nodeOf_3
theorem dX10_peer_0 : decode cX10_peer 0 = .ok (.iload_n 0, 1) := by decide +kernel
theorem dX10_peer_1 : decode cX10_peer 1 = .ok (.iconst 2, 1) := by decide +kernel
theorem dX10_peer_2 : decode cX10_peer 2 = .ok (.irem, 1) := by decide +kernel
theorem dX10_peer_3 : decode cX10_peer 3 = .ok (.ifCond .ne 9, 3) := by decide +kernel
theorem dX10_peer_6 : decode cX10_peer 6 = .ok (.iload_n 0, 1) := by decide +kernel
theorem dX10_peer_7 : decode cX10_peer 7 = .ok (.iconst 1, 1) := by decide +kernel
theorem dX10_peer_8 : decode cX10_peer 8 = .ok (.iadd, 1) := by decide +kernel
theorem dX10_peer_9 : decode cX10_peer 9 = .ok (.goto 6, 3) := by decide +kernel
theorem dX10_peer_12 : decode cX10_peer 12 = .ok (.iload_n 0, 1) := by decide +kernel
theorem dX10_peer_13 : decode cX10_peer 13 = .ok (.iconst 1, 1) := by decide +kernel
theorem dX10_peer_14 : decode cX10_peer 14 = .ok (.isub, 1) := by decide +kernel
theorem dX10_peer_15 : decode cX10_peer 15 = .ok (.ireturn, 1) := by decide +kernel
set_option maxHeartbeats 4000000 in
set_option maxRecDepth 100000 in
theorem c_X10_peer (l : Launch) (p0 : Int32) : Met l yX10_peer [Cond.code yX10_peer cX10_peer 1 (some .int)] ({ frames := 0, cells := 0, slots := 0, locals := 0 } : Room) (fun v _ => v = ([.int p0] : List Value).toArray) (QcRead (peerT p0)) 0 0 (fun _ => False) := by
  refine Met.ofW (cc := cX10_peer) (maxL := 1) (ret := (some .int)) (by decide) rfl ?_
  intro p e s m args below meth c s₁ B hml hv
  subst hv
  have hx := B.exec
  have hb := B.bytes
  have hr := B.returns
  have hlocks := B.notSynchronized
  have hl := lv_entry ([.int p0]) (n := 1) (Nat.le_of_ble_eq_true rfl)
  rw [lg_entry_eq]
  generalize (lg_sl ([.int p0]) ++ List.replicate (1 - (lg_sl ([.int p0])).length) Slot.unset).toArray = ls at hl ⊢
  have hl : lv_has ls 1 [(0, .int p0)] := hl
  refine lv_iload_n hx hb dX10_peer_0 rfl (lv_at hl 0 rfl) ?_
  refine lv_iconst (v := 2) hx hb dX10_peer_1 (by decide) ?_
  refine lv_irem hx hb dX10_peer_2 (by decide) ?_
  refine lv_if_ne (tgt := 12) hx hb dX10_peer_3 (by decide) (fun c_1 => ?_) (fun c_1 => ?_)
  · simp only [lt_I, le_I, eq_I, i_0, i_1, i_2, i_3, i_4, i_5, i_6, i_7, i_8, i_10, i_12, i_16, i_20, i_23, i_24, i_31, i_32, i_63, i_64, i_m1] at c_1
    refine lv_iload_n hx hb dX10_peer_12 rfl (lv_at hl 0 rfl) ?_
    refine lv_iconst (v := 1) hx hb dX10_peer_13 (by decide) ?_
    refine lv_isub hx hb dX10_peer_14 ?_
    exact W.iret (v := (p0 - 1)) hx hb hr (fun t ht hW => ⟨(by simp only [peerT, eq_I, i_0]; split <;> first | rfl | (exfalso; omega)), ht⟩) (fun q hq => nomatch hq) dX10_peer_15
  · simp only [lt_I, le_I, eq_I, i_0, i_1, i_2, i_3, i_4, i_5, i_6, i_7, i_8, i_10, i_12, i_16, i_20, i_23, i_24, i_31, i_32, i_63, i_64, i_m1] at c_1
    refine lv_iload_n hx hb dX10_peer_6 rfl (lv_at hl 0 rfl) ?_
    refine lv_iconst (v := 1) hx hb dX10_peer_7 (by decide) ?_
    refine lv_iadd hx hb dX10_peer_8 ?_
    refine lv_goto (tgt := 15) hx hb dX10_peer_9 (by decide) ?_
    exact W.iret (v := (p0 + 1)) hx hb hr (fun t ht hW => ⟨(by simp only [peerT, eq_I, i_0]; split <;> first | rfl | (exfalso; omega)), ht⟩) (fun q hq => nomatch hq) dX10_peer_15
theorem dX10_thrown_0 : decode cX10_thrown 0 = .ok (.aload_n 0, 1) := by decide +kernel
theorem dX10_thrown_1 : decode cX10_thrown 1 = .ok (.getfield 153, 3) := by decide +kernel
theorem dX10_thrown_4 : decode cX10_thrown 4 = .ok (.ireturn, 1) := by decide +kernel
set_option maxHeartbeats 8000000 in
set_option maxRecDepth 100000 in
theorem u_X10_thrown (l : Launch) (E : EE) (z0 : Nat) (G : Nat → Nat) (hGz : ∀ q, G q ≠ 0 → z0 ≤ q) (h0 : Nat) (rf : Nat → Nat) (hR : MG G h0 rf) (t0 t1 t2 : Int32) (A : AA) (cd pk : Int32)  : Met l yX10_thrown [Cond.code yX10_thrown cX10_thrown 1 (some .int)] ({ frames := 0, cells := 0, slots := 0, locals := 0 } : Room) (va_Pc [.ref h0] (fun U => MH E h0 rf t0 t1 t2 A cd pk U.heap ∧ KS E z0 U)) (va_Qi (fun (r : Int32) (u : Unit) => (r = cd) ∧ (D_X10_thrown A cd pk r)) (fun u t => True) (fun _ : Nat => False)) 0 0 (fun _ : Nat => False) := by
  refine Met.ofW (cc := cX10_thrown) (maxL := 1) (ret := (some .int)) (by decide) rfl ?_
  intro p e s m args below meth c s₁ B hml hv
  obtain ⟨rfl, hM, hK⟩ := hv
  have hx := B.exec
  have hb := B.bytes
  have hr := B.returns
  have hts : ∀ w ∈ TS, w.before ([.ref h0] : List Value).toArray s = true := fun w hw => hK.2.1 w hw _
  have hown : s.vm.findClass RX10 = some m.cls := findClass_of_methodNamed B.named
  have hlocks := B.notSynchronized
  have hS : va_S (fun _ : Nat => False) s.heap s.heap [] := va_S.rf
  have hAz : ∀ q, (fun _ : Nat => False) q → z0 ≤ q := fun _ h => h.elim
  have hl := lv_entry ([.ref h0]) (n := 1) (Nat.le_of_ble_eq_true rfl)
  rw [lg_entry_eq]
  generalize (lg_sl ([.ref h0]) ++ List.replicate (1 - (lg_sl ([.ref h0])).length) Slot.unset).toArray = ls at hl ⊢
  have hl : lv_has ls 1 [(0, .ref h0)] := hl
  refine lv_aload_n hx hb dX10_thrown_0 rfl (lv_at hl 0 rfl) ?_
  refine va_get (D := DG E) (ci := 10) (v := .int cd) (C := RX10) (T := TX10) (N := 49) hx hb hts iw_X10 hown hK.1 (va_one hM.1) 0 rfl rfl 3 (by decide) (hts _ fl_X10_153) (fun _ h9 => h9) rfl dX10_thrown_1 ?_
  exact W.iret (v := cd) hx hb hr (fun t ht hW => ⟨⟨cd, (), rfl, ⟨(show cd = cd from rfl), rfl⟩, trivial⟩, hS.F ht⟩) hS.2.2 dX10_thrown_4
theorem dX10_fail_0 : decode cX10_fail 0 = .ok (.aload_n 0, 1) := by decide +kernel
theorem dX10_fail_1 : decode cX10_fail 1 = .ok (.iload_n 1, 1) := by decide +kernel
theorem dX10_fail_2 : decode cX10_fail 2 = .ok (.putfield 153, 3) := by decide +kernel
theorem dX10_fail_5 : decode cX10_fail 5 = .ok (.iconst 0, 1) := by decide +kernel
theorem dX10_fail_6 : decode cX10_fail 6 = .ok (.ireturn, 1) := by decide +kernel
set_option maxHeartbeats 8000000 in
set_option maxRecDepth 100000 in
theorem u_X10_fail (l : Launch) (E : EE) (z0 : Nat) (G : Nat → Nat) (hGz : ∀ q, G q ≠ 0 → z0 ≤ q) (h0 : Nat) (rf : Nat → Nat) (hR : MG G h0 rf) (t0 t1 t2 : Int32) (A : AA) (cd pk : Int32) (p0 : Int32) : Met l yX10_fail [Cond.code yX10_fail cX10_fail 2 (some .int)] ({ frames := 0, cells := 0, slots := 0, locals := 0 } : Room) (va_Pc [.ref h0, .int p0] (fun U => MH E h0 rf t0 t1 t2 A cd pk U.heap ∧ KS E z0 U)) (va_Qi (fun (r : Int32) (u : Int32) => ((u) = p0) ∧ (D_X10_fail A cd pk p0 A (u) pk r)) (fun u t => MH E h0 rf t0 t1 t2 A (u) pk t.heap) (fun q : Nat => G q ≠ 0)) 0 0 (fun q : Nat => G q ≠ 0) := by
  refine Met.ofW (cc := cX10_fail) (maxL := 2) (ret := (some .int)) (by decide) rfl ?_
  intro p e s m args below meth c s₁ B hml hv
  obtain ⟨rfl, hM, hK⟩ := hv
  have hx := B.exec
  have hb := B.bytes
  have hr := B.returns
  have hts : ∀ w ∈ TS, w.before ([.ref h0, .int p0] : List Value).toArray s = true := fun w hw => hK.2.1 w hw _
  have hown : s.vm.findClass RX10 = some m.cls := findClass_of_methodNamed B.named
  have hlocks := B.notSynchronized
  have hS : va_S (fun q : Nat => G q ≠ 0) s.heap s.heap [] := va_S.rf
  have hAz : ∀ q, (fun q : Nat => G q ≠ 0) q → z0 ≤ q := hGz
  have hl := lv_entry ([.ref h0, .int p0]) (n := 2) (Nat.le_of_ble_eq_true rfl)
  rw [lg_entry_eq]
  generalize (lg_sl ([.ref h0, .int p0]) ++ List.replicate (2 - (lg_sl ([.ref h0, .int p0])).length) Slot.unset).toArray = ls at hl ⊢
  have hl : lv_has ls 2 [(0, .ref h0), (1, .int p0)] := hl
  refine lv_aload_n hx hb dX10_fail_0 rfl (lv_at hl 0 rfl) ?_
  refine lv_iload_n hx hb dX10_fail_1 rfl (lv_at hl 1 rfl) ?_
  refine rr_put (D := DG E) (ci := 10) (v := .int p0) (ty := .int) (C := RX10) (T := TX10) (N := 49) hx hb hts iw_X10 tyX10 tyX10_ok nmX10 hown hK.1 hM.1 hS (by show G h0 ≠ 0; rw [hR.1]; decide) rfl 3 (by decide) (hts _ fl_X10_153) (fun _ h9 => h9) rfl (by decide +kernel) rfl rfl (Nat.le_of_ble_eq_true rfl) dX10_fail_2 (fun H locs hn ho hz hS => ?_)
  have hM : MH E h0 rf t0 t1 t2 A p0 pk H := hM.sc hR hn ho
  refine lv_iconst (v := 0) hx hb dX10_fail_5 (by decide) ?_
  exact W.iret (v := 0) hx hb hr (fun t ht hW => ⟨⟨0, p0, rfl, ⟨(show p0 = p0 from rfl), ⟨rfl, rfl, rfl, rfl⟩⟩, (by show MH E h0 rf t0 t1 t2 A p0 pk t.heap; rw [ht]; exact hM)⟩, hS.F ht⟩) hS.2.2 dX10_fail_6
theorem gdX10_region_0 : (decode cX10_region 0 = .ok (.aload_n 0, 1)) ∧ (decode cX10_region 1 = .ok (.iconst 0, 1)) ∧ (decode cX10_region 2 = .ok (.putfield 153, 3)) ∧ (decode cX10_region 5 = .ok (.iload_n 1, 1)) ∧ (decode cX10_region 6 = .ok (.iconst 1, 1)) ∧ (decode cX10_region 7 = .ok (.invokestatic 156, 3)) ∧ (decode cX10_region 10 = .ok (.ifCond .eq 40, 3)) ∧ (decode cX10_region 13 = .ok (.iload_n 2, 1)) ∧ (decode cX10_region 14 = .ok (.iconst 5, 1)) ∧ (decode cX10_region 15 = .ok (.invokestatic 156, 3)) ∧ (decode cX10_region 18 = .ok (.ifCond .eq 32, 3)) ∧ (decode cX10_region 21 = .ok (.iload_n 3, 1)) ∧ (decode cX10_region 22 = .ok (.bipush 32, 2)) ∧ (decode cX10_region 24 = .ok (.invokestatic 156, 3)) ∧ (decode cX10_region 27 = .ok (.ifCond .eq 23, 3)) ∧ (decode cX10_region 30 = .ok (.iload 4, 2)) := by decide +kernel
theorem dX10_region_0 : decode cX10_region 0 = .ok (.aload_n 0, 1) := gdX10_region_0.1
theorem dX10_region_1 : decode cX10_region 1 = .ok (.iconst 0, 1) := gdX10_region_0.2.1
theorem dX10_region_2 : decode cX10_region 2 = .ok (.putfield 153, 3) := gdX10_region_0.2.2.1
theorem dX10_region_5 : decode cX10_region 5 = .ok (.iload_n 1, 1) := gdX10_region_0.2.2.2.1
theorem dX10_region_6 : decode cX10_region 6 = .ok (.iconst 1, 1) := gdX10_region_0.2.2.2.2.1
theorem dX10_region_7 : decode cX10_region 7 = .ok (.invokestatic 156, 3) := gdX10_region_0.2.2.2.2.2.1
theorem dX10_region_10 : decode cX10_region 10 = .ok (.ifCond .eq 40, 3) := gdX10_region_0.2.2.2.2.2.2.1
theorem dX10_region_13 : decode cX10_region 13 = .ok (.iload_n 2, 1) := gdX10_region_0.2.2.2.2.2.2.2.1
theorem dX10_region_14 : decode cX10_region 14 = .ok (.iconst 5, 1) := gdX10_region_0.2.2.2.2.2.2.2.2.1
theorem dX10_region_15 : decode cX10_region 15 = .ok (.invokestatic 156, 3) := gdX10_region_0.2.2.2.2.2.2.2.2.2.1
theorem dX10_region_18 : decode cX10_region 18 = .ok (.ifCond .eq 32, 3) := gdX10_region_0.2.2.2.2.2.2.2.2.2.2.1
theorem dX10_region_21 : decode cX10_region 21 = .ok (.iload_n 3, 1) := gdX10_region_0.2.2.2.2.2.2.2.2.2.2.2.1
theorem dX10_region_22 : decode cX10_region 22 = .ok (.bipush 32, 2) := gdX10_region_0.2.2.2.2.2.2.2.2.2.2.2.2.1
theorem dX10_region_24 : decode cX10_region 24 = .ok (.invokestatic 156, 3) := gdX10_region_0.2.2.2.2.2.2.2.2.2.2.2.2.2.1
theorem dX10_region_27 : decode cX10_region 27 = .ok (.ifCond .eq 23, 3) := gdX10_region_0.2.2.2.2.2.2.2.2.2.2.2.2.2.2.1
theorem dX10_region_30 : decode cX10_region 30 = .ok (.iload 4, 2) := gdX10_region_0.2.2.2.2.2.2.2.2.2.2.2.2.2.2.2
theorem gdX10_region_32 : (decode cX10_region 32 = .ok (.bipush 32, 2)) ∧ (decode cX10_region 34 = .ok (.invokestatic 156, 3)) ∧ (decode cX10_region 37 = .ok (.ifCond .eq 13, 3)) ∧ (decode cX10_region 40 = .ok (.iload 5, 2)) ∧ (decode cX10_region 42 = .ok (.bipush 7, 2)) ∧ (decode cX10_region 44 = .ok (.invokestatic 156, 3)) ∧ (decode cX10_region 47 = .ok (.ifCond .ne 11, 3)) ∧ (decode cX10_region 50 = .ok (.aload_n 0, 1)) ∧ (decode cX10_region 51 = .ok (.iconst 1, 1)) ∧ (decode cX10_region 52 = .ok (.putfield 153, 3)) ∧ (decode cX10_region 55 = .ok (.goto 17, 3)) ∧ (decode cX10_region 58 = .ok (.iload_n 3, 1)) ∧ (decode cX10_region 59 = .ok (.iload 4, 2)) ∧ (decode cX10_region 61 = .ok (.iadd, 1)) ∧ (decode cX10_region 62 = .ok (.bipush 32, 2)) ∧ (decode cX10_region 64 = .ok (.if_icmp .le 8, 3)) := by decide +kernel
theorem dX10_region_32 : decode cX10_region 32 = .ok (.bipush 32, 2) := gdX10_region_32.1
theorem dX10_region_34 : decode cX10_region 34 = .ok (.invokestatic 156, 3) := gdX10_region_32.2.1
theorem dX10_region_37 : decode cX10_region 37 = .ok (.ifCond .eq 13, 3) := gdX10_region_32.2.2.1
theorem dX10_region_40 : decode cX10_region 40 = .ok (.iload 5, 2) := gdX10_region_32.2.2.2.1
theorem dX10_region_42 : decode cX10_region 42 = .ok (.bipush 7, 2) := gdX10_region_32.2.2.2.2.1
theorem dX10_region_44 : decode cX10_region 44 = .ok (.invokestatic 156, 3) := gdX10_region_32.2.2.2.2.2.1
theorem dX10_region_47 : decode cX10_region 47 = .ok (.ifCond .ne 11, 3) := gdX10_region_32.2.2.2.2.2.2.1
theorem dX10_region_50 : decode cX10_region 50 = .ok (.aload_n 0, 1) := gdX10_region_32.2.2.2.2.2.2.2.1
theorem dX10_region_51 : decode cX10_region 51 = .ok (.iconst 1, 1) := gdX10_region_32.2.2.2.2.2.2.2.2.1
theorem dX10_region_52 : decode cX10_region 52 = .ok (.putfield 153, 3) := gdX10_region_32.2.2.2.2.2.2.2.2.2.1
theorem dX10_region_55 : decode cX10_region 55 = .ok (.goto 17, 3) := gdX10_region_32.2.2.2.2.2.2.2.2.2.2.1
theorem dX10_region_58 : decode cX10_region 58 = .ok (.iload_n 3, 1) := gdX10_region_32.2.2.2.2.2.2.2.2.2.2.2.1
theorem dX10_region_59 : decode cX10_region 59 = .ok (.iload 4, 2) := gdX10_region_32.2.2.2.2.2.2.2.2.2.2.2.2.1
theorem dX10_region_61 : decode cX10_region 61 = .ok (.iadd, 1) := gdX10_region_32.2.2.2.2.2.2.2.2.2.2.2.2.2.1
theorem dX10_region_62 : decode cX10_region 62 = .ok (.bipush 32, 2) := gdX10_region_32.2.2.2.2.2.2.2.2.2.2.2.2.2.2.1
theorem dX10_region_64 : decode cX10_region 64 = .ok (.if_icmp .le 8, 3) := gdX10_region_32.2.2.2.2.2.2.2.2.2.2.2.2.2.2.2
theorem gdX10_region_67 : (decode cX10_region 67 = .ok (.aload_n 0, 1)) ∧ (decode cX10_region 68 = .ok (.iconst 1, 1)) ∧ (decode cX10_region 69 = .ok (.putfield 153, 3)) ∧ (decode cX10_region 72 = .ok (.aload_n 0, 1)) ∧ (decode cX10_region 73 = .ok (.getfield 153, 3)) ∧ (decode cX10_region 76 = .ok (.ifCond .eq 4, 3)) ∧ (decode cX10_region 79 = .ok (.return_, 1)) ∧ (decode cX10_region 80 = .ok (.bipush 6, 2)) ∧ (decode cX10_region 82 = .ok (.iload_n 1, 1)) ∧ (decode cX10_region 83 = .ok (.imul, 1)) ∧ (decode cX10_region 84 = .ok (.iload_n 2, 1)) ∧ (decode cX10_region 85 = .ok (.iadd, 1)) ∧ (decode cX10_region 86 = .ok (.istore 6, 2)) ∧ (decode cX10_region 88 = .ok (.aload_n 0, 1)) ∧ (decode cX10_region 89 = .ok (.getfield 13, 3)) ∧ (decode cX10_region 92 = .ok (.iload 6, 2)) := by decide +kernel
theorem dX10_region_67 : decode cX10_region 67 = .ok (.aload_n 0, 1) := gdX10_region_67.1
theorem dX10_region_68 : decode cX10_region 68 = .ok (.iconst 1, 1) := gdX10_region_67.2.1
theorem dX10_region_69 : decode cX10_region 69 = .ok (.putfield 153, 3) := gdX10_region_67.2.2.1
theorem dX10_region_72 : decode cX10_region 72 = .ok (.aload_n 0, 1) := gdX10_region_67.2.2.2.1
theorem dX10_region_73 : decode cX10_region 73 = .ok (.getfield 153, 3) := gdX10_region_67.2.2.2.2.1
theorem dX10_region_76 : decode cX10_region 76 = .ok (.ifCond .eq 4, 3) := gdX10_region_67.2.2.2.2.2.1
theorem dX10_region_79 : decode cX10_region 79 = .ok (.return_, 1) := gdX10_region_67.2.2.2.2.2.2.1
theorem dX10_region_80 : decode cX10_region 80 = .ok (.bipush 6, 2) := gdX10_region_67.2.2.2.2.2.2.2.1
theorem dX10_region_82 : decode cX10_region 82 = .ok (.iload_n 1, 1) := gdX10_region_67.2.2.2.2.2.2.2.2.1
theorem dX10_region_83 : decode cX10_region 83 = .ok (.imul, 1) := gdX10_region_67.2.2.2.2.2.2.2.2.2.1
theorem dX10_region_84 : decode cX10_region 84 = .ok (.iload_n 2, 1) := gdX10_region_67.2.2.2.2.2.2.2.2.2.2.1
theorem dX10_region_85 : decode cX10_region 85 = .ok (.iadd, 1) := gdX10_region_67.2.2.2.2.2.2.2.2.2.2.2.1
theorem dX10_region_86 : decode cX10_region 86 = .ok (.istore 6, 2) := gdX10_region_67.2.2.2.2.2.2.2.2.2.2.2.2.1
theorem dX10_region_88 : decode cX10_region 88 = .ok (.aload_n 0, 1) := gdX10_region_67.2.2.2.2.2.2.2.2.2.2.2.2.2.1
theorem dX10_region_89 : decode cX10_region 89 = .ok (.getfield 13, 3) := gdX10_region_67.2.2.2.2.2.2.2.2.2.2.2.2.2.2.1
theorem dX10_region_92 : decode cX10_region 92 = .ok (.iload 6, 2) := gdX10_region_67.2.2.2.2.2.2.2.2.2.2.2.2.2.2.2
theorem gdX10_region_94 : (decode cX10_region 94 = .ok (.iload_n 3, 1)) ∧ (decode cX10_region 95 = .ok (.iastore, 1)) ∧ (decode cX10_region 96 = .ok (.aload_n 0, 1)) ∧ (decode cX10_region 97 = .ok (.getfield 16, 3)) ∧ (decode cX10_region 100 = .ok (.iload 6, 2)) ∧ (decode cX10_region 102 = .ok (.iload 4, 2)) ∧ (decode cX10_region 104 = .ok (.iastore, 1)) ∧ (decode cX10_region 105 = .ok (.aload_n 0, 1)) ∧ (decode cX10_region 106 = .ok (.getfield 19, 3)) ∧ (decode cX10_region 109 = .ok (.iload 6, 2)) ∧ (decode cX10_region 111 = .ok (.iload 5, 2)) ∧ (decode cX10_region 113 = .ok (.iastore, 1)) ∧ (decode cX10_region 114 = .ok (.return_, 1)) := by decide +kernel
theorem dX10_region_94 : decode cX10_region 94 = .ok (.iload_n 3, 1) := gdX10_region_94.1
theorem dX10_region_95 : decode cX10_region 95 = .ok (.iastore, 1) := gdX10_region_94.2.1
theorem dX10_region_96 : decode cX10_region 96 = .ok (.aload_n 0, 1) := gdX10_region_94.2.2.1
theorem dX10_region_97 : decode cX10_region 97 = .ok (.getfield 16, 3) := gdX10_region_94.2.2.2.1
theorem dX10_region_100 : decode cX10_region 100 = .ok (.iload 6, 2) := gdX10_region_94.2.2.2.2.1
theorem dX10_region_102 : decode cX10_region 102 = .ok (.iload 4, 2) := gdX10_region_94.2.2.2.2.2.1
theorem dX10_region_104 : decode cX10_region 104 = .ok (.iastore, 1) := gdX10_region_94.2.2.2.2.2.2.1
theorem dX10_region_105 : decode cX10_region 105 = .ok (.aload_n 0, 1) := gdX10_region_94.2.2.2.2.2.2.2.1
theorem dX10_region_106 : decode cX10_region 106 = .ok (.getfield 19, 3) := gdX10_region_94.2.2.2.2.2.2.2.2.1
theorem dX10_region_109 : decode cX10_region 109 = .ok (.iload 6, 2) := gdX10_region_94.2.2.2.2.2.2.2.2.2.1
theorem dX10_region_111 : decode cX10_region 111 = .ok (.iload 5, 2) := gdX10_region_94.2.2.2.2.2.2.2.2.2.2.1
theorem dX10_region_113 : decode cX10_region 113 = .ok (.iastore, 1) := gdX10_region_94.2.2.2.2.2.2.2.2.2.2.2.1
theorem dX10_region_114 : decode cX10_region 114 = .ok (.return_, 1) := gdX10_region_94.2.2.2.2.2.2.2.2.2.2.2.2
set_option maxHeartbeats 8000000 in
set_option maxRecDepth 100000 in
theorem u_X10_region (l : Launch) (E : EE) (z0 : Nat) (G : Nat → Nat) (hGz : ∀ q, G q ≠ 0 → z0 ≤ q) (h0 : Nat) (rf : Nat → Nat) (hR : MG G h0 rf) (t0 t1 t2 : Int32) (A : AA) (cd pk : Int32) (p0 : Int32) (p1 : Int32) (p2 : Int32) (p3 : Int32) (p4 : Int32) (hI2 : I2 (A 5) (A 6)) : Met l yX10_region [Cond.code yX10_region cX10_region 7 none] ({ frames := 1, cells := 0, slots := 0, locals := 21 } : Room) (va_Pc [.ref h0, .int p0, .int p1, .int p2, .int p3, .int p4] (fun U => MH E h0 rf t0 t1 t2 A cd pk U.heap ∧ KS E z0 U)) (va_Qv (fun (u : (Nat → Int32) × (Nat → Int32) × (Nat → Int32) × Int32) => (I2 (u.1) (u.2.1)) ∧ ((u.2.2.2) = if (0 ≤ p0.toInt ∧ p0.toInt < 2 ∧ 0 ≤ p1.toInt ∧ p1.toInt < 6 ∧ 0 ≤ p4.toInt ∧ p4.toInt ≤ 7 ∧ 0 ≤ p2.toInt ∧ 0 ≤ p3.toInt ∧ p3.toInt ≤ 32 - p2.toInt) then 0 else 1) ∧ (D_X10_region A cd pk p0 p1 p2 p3 p4 (uA (uA (uA A 5 (u.1)) 6 (u.2.1)) 7 (u.2.2.1)) (u.2.2.2) pk)) (fun u t => MH E h0 rf t0 t1 t2 (uA (uA (uA A 5 (u.1)) 6 (u.2.1)) 7 (u.2.2.1)) (u.2.2.2) pk t.heap) (fun q : Nat => G q ≠ 0)) 0 0 (fun q : Nat => G q ≠ 0) := by
  refine Met.ofW (cc := cX10_region) (maxL := 7) (ret := none) (by decide) rfl ?_
  intro p e s m args below meth c s₁ B hml hv
  obtain ⟨rfl, hM, hK⟩ := hv
  have hx := B.exec
  have hb := B.bytes
  have hr := B.returns
  have hts : ∀ w ∈ TS, w.before ([.ref h0, .int p0, .int p1, .int p2, .int p3, .int p4] : List Value).toArray s = true := fun w hw => hK.2.1 w hw _
  have hown : s.vm.findClass RX10 = some m.cls := findClass_of_methodNamed B.named
  have hlocks := B.notSynchronized
  have hS : va_S (fun q : Nat => G q ≠ 0) s.heap s.heap [] := va_S.rf
  have hAz : ∀ q, (fun q : Nat => G q ≠ 0) q → z0 ≤ q := hGz
  have hl := lv_entry ([.ref h0, .int p0, .int p1, .int p2, .int p3, .int p4]) (n := 7) (Nat.le_of_ble_eq_true rfl)
  rw [lg_entry_eq]
  generalize (lg_sl ([.ref h0, .int p0, .int p1, .int p2, .int p3, .int p4]) ++ List.replicate (7 - (lg_sl ([.ref h0, .int p0, .int p1, .int p2, .int p3, .int p4])).length) Slot.unset).toArray = ls at hl ⊢
  have hl : lv_has ls 7 [(0, .ref h0), (1, .int p0), (2, .int p1), (3, .int p2), (4, .int p3), (5, .int p4)] := hl
  refine lv_aload_n hx hb dX10_region_0 rfl (lv_at hl 0 rfl) ?_
  refine lv_iconst (v := 0) hx hb dX10_region_1 (by decide) ?_
  refine rr_put (D := DG E) (ci := 10) (v := .int 0) (ty := .int) (C := RX10) (T := TX10) (N := 49) hx hb hts iw_X10 tyX10 tyX10_ok nmX10 hown hK.1 hM.1 hS (by show G h0 ≠ 0; rw [hR.1]; decide) rfl 3 (by decide) (hts _ fl_X10_153) (fun _ h9 => h9) rfl (by decide +kernel) rfl rfl (Nat.le_of_ble_eq_true rfl) dX10_region_2 (fun H locs hn ho hz hS => ?_)
  have hM : MH E h0 rf t0 t1 t2 A 0 pk H := hM.sc hR hn ho
  refine lv_iload_n hx hb dX10_region_5 rfl (lv_at hl 1 rfl) ?_
  refine lv_iconst (v := 1) hx hb dX10_region_6 (by decide) ?_
  refine W.callR (W.runS (As := [.int p0, .int 1]) (rest := []) ⟨hx, hb, hml, hown, hts⟩ (c_X10_within l p0 1) (cwS 2 hts (gdS ml_X10_156 st_X10_within in_X10 co_X10_within rfl) rfl rfl rfl (by decide +kernel) ⟨Nat.le_of_ble_eq_true rfl, Nat.le_of_ble_eq_true rfl⟩) preEq rfl rfl hl.1 rfl (lv_room (Nat.le_of_ble_eq_true rfl)) dX10_region_7 ⟨Nat.le_of_ble_eq_true rfl, Nat.le_of_ble_eq_true rfl⟩) ?_
  refine W.eq (g2 := F0 m 10 ls [.int (bI (0 ≤ p0.toInt ∧ p0.toInt ≤ (1 : Int32).toInt))]) (by rfl) ?_
  refine lv_if_eq (tgt := 50) hx hb dX10_region_10 (by decide) (fun c_1 => ?_) (fun c_1 => ?_)
  · have c_1 := bI_0 c_1
    have c_1r := c_1
    try simp only [lt_I, le_I, eq_I, i_0, i_1, i_2, i_3, i_4, i_5, i_6, i_7, i_8, i_10, i_12, i_16, i_20, i_23, i_24, i_31, i_32, i_63, i_64, i_m1, i_9, i_11, i_13, i_25, i_60, i_75, i_79, i_80, i_96, i_100] at c_1
    refine lv_aload_n hx hb dX10_region_50 rfl (lv_at hl 0 rfl) ?_
    refine lv_iconst (v := 1) hx hb dX10_region_51 (by decide) ?_
    refine rr_put (D := DG E) (ci := 10) (v := .int 1) (ty := .int) (C := RX10) (T := TX10) (N := 49) hx hb hts iw_X10 tyX10 tyX10_ok nmX10 hown hK.1 hM.1 hS (by show G h0 ≠ 0; rw [hR.1]; decide) rfl 3 (by decide) (hts _ fl_X10_153) (fun _ h9 => h9) rfl (by decide +kernel) rfl rfl (Nat.le_of_ble_eq_true rfl) dX10_region_52 (fun H locs hn ho hz hS => ?_)
    have hM : MH E h0 rf t0 t1 t2 A 1 pk H := hM.sc hR hn ho
    refine lv_goto (tgt := 72) hx hb dX10_region_55 (by decide) ?_
    refine lv_aload_n hx hb dX10_region_72 rfl (lv_at hl 0 rfl) ?_
    refine va_get (D := DG E) (ci := 10) (v := .int 1) (C := RX10) (T := TX10) (N := 49) hx hb hts iw_X10 hown hK.1 (va_one hM.1) 0 rfl rfl 3 (by decide) (hts _ fl_X10_153) (fun _ h9 => h9) rfl dX10_region_73 ?_
    refine lv_if_eq (tgt := 80) hx hb dX10_region_76 (by decide) (fun c_2 => absurd c_2 (by decide)) (fun c_2 => ?_)
    exact W.vret hx hb hr (fun t ht hW => ⟨⟨((A 5), (A 6), (A 7), 1), rfl, ⟨hI2, (show (1 : Int32) = if (0 ≤ p0.toInt ∧ p0.toInt < 2 ∧ 0 ≤ p1.toInt ∧ p1.toInt < 6 ∧ 0 ≤ p4.toInt ∧ p4.toInt ≤ 7 ∧ 0 ≤ p2.toInt ∧ 0 ≤ p3.toInt ∧ p3.toInt ≤ 32 - p2.toInt) then 0 else 1 from (by first | rw [if_pos (by omega)] | rw [if_neg (by omega)])), (Or.inl ⟨c_1r, rfl, rfl, rfl⟩)⟩, (by show MH E h0 rf t0 t1 t2 (uA (uA (uA A 5 (A 5)) 6 (A 6)) 7 (A 7)) 1 pk t.heap; rw [ht]; exact hM.cge (funext fun j => (cgj j 7 rfl (fun a0 => (cgj j 6 rfl (fun a1 => (cgj j 5 rfl (fun a2 => (by simp only [uA_n a0, uA_n a1, uA_n a2])))))))))⟩, hS.F ht⟩) hS.2.2 dX10_region_79
  · have c_1 := bI_n c_1
    have c_1r := c_1
    try simp only [lt_I, le_I, eq_I, i_0, i_1, i_2, i_3, i_4, i_5, i_6, i_7, i_8, i_10, i_12, i_16, i_20, i_23, i_24, i_31, i_32, i_63, i_64, i_m1, i_9, i_11, i_13, i_25, i_60, i_75, i_79, i_80, i_96, i_100] at c_1
    refine lv_iload_n hx hb dX10_region_13 rfl (lv_at hl 2 rfl) ?_
    refine lv_iconst (v := 5) hx hb dX10_region_14 (by decide) ?_
    refine W.callR (W.runS (As := [.int p1, .int 5]) (rest := []) ⟨hx, hb, hml, hown, hts⟩ (c_X10_within l p1 5) (cwS 2 hts (gdS ml_X10_156 st_X10_within in_X10 co_X10_within rfl) rfl rfl rfl (by decide +kernel) ⟨Nat.le_of_ble_eq_true rfl, Nat.le_of_ble_eq_true rfl⟩) preEq rfl rfl hl.1 rfl (lv_room (Nat.le_of_ble_eq_true rfl)) dX10_region_15 ⟨Nat.le_of_ble_eq_true rfl, Nat.le_of_ble_eq_true rfl⟩) ?_
    refine W.eq (g2 := F0 m 18 ls [.int (bI (0 ≤ p1.toInt ∧ p1.toInt ≤ (5 : Int32).toInt))]) (by rfl) ?_
    refine lv_if_eq (tgt := 50) hx hb dX10_region_18 (by decide) (fun c_3 => ?_) (fun c_3 => ?_)
    · have c_3 := bI_0 c_3
      have c_3r := c_3
      try simp only [lt_I, le_I, eq_I, i_0, i_1, i_2, i_3, i_4, i_5, i_6, i_7, i_8, i_10, i_12, i_16, i_20, i_23, i_24, i_31, i_32, i_63, i_64, i_m1, i_9, i_11, i_13, i_25, i_60, i_75, i_79, i_80, i_96, i_100] at c_3
      refine lv_aload_n hx hb dX10_region_50 rfl (lv_at hl 0 rfl) ?_
      refine lv_iconst (v := 1) hx hb dX10_region_51 (by decide) ?_
      refine rr_put (D := DG E) (ci := 10) (v := .int 1) (ty := .int) (C := RX10) (T := TX10) (N := 49) hx hb hts iw_X10 tyX10 tyX10_ok nmX10 hown hK.1 hM.1 hS (by show G h0 ≠ 0; rw [hR.1]; decide) rfl 3 (by decide) (hts _ fl_X10_153) (fun _ h9 => h9) rfl (by decide +kernel) rfl rfl (Nat.le_of_ble_eq_true rfl) dX10_region_52 (fun H locs hn ho hz hS => ?_)
      have hM : MH E h0 rf t0 t1 t2 A 1 pk H := hM.sc hR hn ho
      refine lv_goto (tgt := 72) hx hb dX10_region_55 (by decide) ?_
      refine lv_aload_n hx hb dX10_region_72 rfl (lv_at hl 0 rfl) ?_
      refine va_get (D := DG E) (ci := 10) (v := .int 1) (C := RX10) (T := TX10) (N := 49) hx hb hts iw_X10 hown hK.1 (va_one hM.1) 0 rfl rfl 3 (by decide) (hts _ fl_X10_153) (fun _ h9 => h9) rfl dX10_region_73 ?_
      refine lv_if_eq (tgt := 80) hx hb dX10_region_76 (by decide) (fun c_4 => absurd c_4 (by decide)) (fun c_4 => ?_)
      exact W.vret hx hb hr (fun t ht hW => ⟨⟨((A 5), (A 6), (A 7), 1), rfl, ⟨hI2, (show (1 : Int32) = if (0 ≤ p0.toInt ∧ p0.toInt < 2 ∧ 0 ≤ p1.toInt ∧ p1.toInt < 6 ∧ 0 ≤ p4.toInt ∧ p4.toInt ≤ 7 ∧ 0 ≤ p2.toInt ∧ 0 ≤ p3.toInt ∧ p3.toInt ≤ 32 - p2.toInt) then 0 else 1 from (by first | rw [if_pos (by omega)] | rw [if_neg (by omega)])), (Or.inr (Or.inl ⟨c_1r, c_3r, rfl, rfl, rfl⟩))⟩, (by show MH E h0 rf t0 t1 t2 (uA (uA (uA A 5 (A 5)) 6 (A 6)) 7 (A 7)) 1 pk t.heap; rw [ht]; exact hM.cge (funext fun j => (cgj j 7 rfl (fun a0 => (cgj j 6 rfl (fun a1 => (cgj j 5 rfl (fun a2 => (by simp only [uA_n a0, uA_n a1, uA_n a2])))))))))⟩, hS.F ht⟩) hS.2.2 dX10_region_79
    · have c_3 := bI_n c_3
      have c_3r := c_3
      try simp only [lt_I, le_I, eq_I, i_0, i_1, i_2, i_3, i_4, i_5, i_6, i_7, i_8, i_10, i_12, i_16, i_20, i_23, i_24, i_31, i_32, i_63, i_64, i_m1, i_9, i_11, i_13, i_25, i_60, i_75, i_79, i_80, i_96, i_100] at c_3
      refine lv_iload_n hx hb dX10_region_21 rfl (lv_at hl 3 rfl) ?_
      refine lv_bipush (v := 32) hx hb dX10_region_22 (by decide) ?_
      refine W.callR (W.runS (As := [.int p2, .int 32]) (rest := []) ⟨hx, hb, hml, hown, hts⟩ (c_X10_within l p2 32) (cwS 2 hts (gdS ml_X10_156 st_X10_within in_X10 co_X10_within rfl) rfl rfl rfl (by decide +kernel) ⟨Nat.le_of_ble_eq_true rfl, Nat.le_of_ble_eq_true rfl⟩) preEq rfl rfl hl.1 rfl (lv_room (Nat.le_of_ble_eq_true rfl)) dX10_region_24 ⟨Nat.le_of_ble_eq_true rfl, Nat.le_of_ble_eq_true rfl⟩) ?_
      refine W.eq (g2 := F0 m 27 ls [.int (bI (0 ≤ p2.toInt ∧ p2.toInt ≤ (32 : Int32).toInt))]) (by rfl) ?_
      refine lv_if_eq (tgt := 50) hx hb dX10_region_27 (by decide) (fun c_5 => ?_) (fun c_5 => ?_)
      · have c_5 := bI_0 c_5
        have c_5r := c_5
        try simp only [lt_I, le_I, eq_I, i_0, i_1, i_2, i_3, i_4, i_5, i_6, i_7, i_8, i_10, i_12, i_16, i_20, i_23, i_24, i_31, i_32, i_63, i_64, i_m1, i_9, i_11, i_13, i_25, i_60, i_75, i_79, i_80, i_96, i_100] at c_5
        refine lv_aload_n hx hb dX10_region_50 rfl (lv_at hl 0 rfl) ?_
        refine lv_iconst (v := 1) hx hb dX10_region_51 (by decide) ?_
        refine rr_put (D := DG E) (ci := 10) (v := .int 1) (ty := .int) (C := RX10) (T := TX10) (N := 49) hx hb hts iw_X10 tyX10 tyX10_ok nmX10 hown hK.1 hM.1 hS (by show G h0 ≠ 0; rw [hR.1]; decide) rfl 3 (by decide) (hts _ fl_X10_153) (fun _ h9 => h9) rfl (by decide +kernel) rfl rfl (Nat.le_of_ble_eq_true rfl) dX10_region_52 (fun H locs hn ho hz hS => ?_)
        have hM : MH E h0 rf t0 t1 t2 A 1 pk H := hM.sc hR hn ho
        refine lv_goto (tgt := 72) hx hb dX10_region_55 (by decide) ?_
        refine lv_aload_n hx hb dX10_region_72 rfl (lv_at hl 0 rfl) ?_
        refine va_get (D := DG E) (ci := 10) (v := .int 1) (C := RX10) (T := TX10) (N := 49) hx hb hts iw_X10 hown hK.1 (va_one hM.1) 0 rfl rfl 3 (by decide) (hts _ fl_X10_153) (fun _ h9 => h9) rfl dX10_region_73 ?_
        refine lv_if_eq (tgt := 80) hx hb dX10_region_76 (by decide) (fun c_6 => absurd c_6 (by decide)) (fun c_6 => ?_)
        exact W.vret hx hb hr (fun t ht hW => ⟨⟨((A 5), (A 6), (A 7), 1), rfl, ⟨hI2, (show (1 : Int32) = if (0 ≤ p0.toInt ∧ p0.toInt < 2 ∧ 0 ≤ p1.toInt ∧ p1.toInt < 6 ∧ 0 ≤ p4.toInt ∧ p4.toInt ≤ 7 ∧ 0 ≤ p2.toInt ∧ 0 ≤ p3.toInt ∧ p3.toInt ≤ 32 - p2.toInt) then 0 else 1 from (by first | rw [if_pos (by omega)] | rw [if_neg (by omega)])), (Or.inr (Or.inr (Or.inl ⟨c_1r, c_3r, c_5r, rfl, rfl, rfl⟩)))⟩, (by show MH E h0 rf t0 t1 t2 (uA (uA (uA A 5 (A 5)) 6 (A 6)) 7 (A 7)) 1 pk t.heap; rw [ht]; exact hM.cge (funext fun j => (cgj j 7 rfl (fun a0 => (cgj j 6 rfl (fun a1 => (cgj j 5 rfl (fun a2 => (by simp only [uA_n a0, uA_n a1, uA_n a2])))))))))⟩, hS.F ht⟩) hS.2.2 dX10_region_79
      · have c_5 := bI_n c_5
        have c_5r := c_5
        try simp only [lt_I, le_I, eq_I, i_0, i_1, i_2, i_3, i_4, i_5, i_6, i_7, i_8, i_10, i_12, i_16, i_20, i_23, i_24, i_31, i_32, i_63, i_64, i_m1, i_9, i_11, i_13, i_25, i_60, i_75, i_79, i_80, i_96, i_100] at c_5
        refine lv_iload hx hb dX10_region_30 (lv_at hl 4 rfl) ?_
        refine lv_bipush (v := 32) hx hb dX10_region_32 (by decide) ?_
        refine W.callR (W.runS (As := [.int p3, .int 32]) (rest := []) ⟨hx, hb, hml, hown, hts⟩ (c_X10_within l p3 32) (cwS 2 hts (gdS ml_X10_156 st_X10_within in_X10 co_X10_within rfl) rfl rfl rfl (by decide +kernel) ⟨Nat.le_of_ble_eq_true rfl, Nat.le_of_ble_eq_true rfl⟩) preEq rfl rfl hl.1 rfl (lv_room (Nat.le_of_ble_eq_true rfl)) dX10_region_34 ⟨Nat.le_of_ble_eq_true rfl, Nat.le_of_ble_eq_true rfl⟩) ?_
        refine W.eq (g2 := F0 m 37 ls [.int (bI (0 ≤ p3.toInt ∧ p3.toInt ≤ (32 : Int32).toInt))]) (by rfl) ?_
        refine lv_if_eq (tgt := 50) hx hb dX10_region_37 (by decide) (fun c_7 => ?_) (fun c_7 => ?_)
        · have c_7 := bI_0 c_7
          have c_7r := c_7
          try simp only [lt_I, le_I, eq_I, i_0, i_1, i_2, i_3, i_4, i_5, i_6, i_7, i_8, i_10, i_12, i_16, i_20, i_23, i_24, i_31, i_32, i_63, i_64, i_m1, i_9, i_11, i_13, i_25, i_60, i_75, i_79, i_80, i_96, i_100] at c_7
          refine lv_aload_n hx hb dX10_region_50 rfl (lv_at hl 0 rfl) ?_
          refine lv_iconst (v := 1) hx hb dX10_region_51 (by decide) ?_
          refine rr_put (D := DG E) (ci := 10) (v := .int 1) (ty := .int) (C := RX10) (T := TX10) (N := 49) hx hb hts iw_X10 tyX10 tyX10_ok nmX10 hown hK.1 hM.1 hS (by show G h0 ≠ 0; rw [hR.1]; decide) rfl 3 (by decide) (hts _ fl_X10_153) (fun _ h9 => h9) rfl (by decide +kernel) rfl rfl (Nat.le_of_ble_eq_true rfl) dX10_region_52 (fun H locs hn ho hz hS => ?_)
          have hM : MH E h0 rf t0 t1 t2 A 1 pk H := hM.sc hR hn ho
          refine lv_goto (tgt := 72) hx hb dX10_region_55 (by decide) ?_
          refine lv_aload_n hx hb dX10_region_72 rfl (lv_at hl 0 rfl) ?_
          refine va_get (D := DG E) (ci := 10) (v := .int 1) (C := RX10) (T := TX10) (N := 49) hx hb hts iw_X10 hown hK.1 (va_one hM.1) 0 rfl rfl 3 (by decide) (hts _ fl_X10_153) (fun _ h9 => h9) rfl dX10_region_73 ?_
          refine lv_if_eq (tgt := 80) hx hb dX10_region_76 (by decide) (fun c_8 => absurd c_8 (by decide)) (fun c_8 => ?_)
          exact W.vret hx hb hr (fun t ht hW => ⟨⟨((A 5), (A 6), (A 7), 1), rfl, ⟨hI2, (show (1 : Int32) = if (0 ≤ p0.toInt ∧ p0.toInt < 2 ∧ 0 ≤ p1.toInt ∧ p1.toInt < 6 ∧ 0 ≤ p4.toInt ∧ p4.toInt ≤ 7 ∧ 0 ≤ p2.toInt ∧ 0 ≤ p3.toInt ∧ p3.toInt ≤ 32 - p2.toInt) then 0 else 1 from (by first | rw [if_pos (by omega)] | rw [if_neg (by omega)])), (Or.inr (Or.inr (Or.inr (Or.inl ⟨c_1r, c_3r, c_5r, c_7r, rfl, rfl, rfl⟩))))⟩, (by show MH E h0 rf t0 t1 t2 (uA (uA (uA A 5 (A 5)) 6 (A 6)) 7 (A 7)) 1 pk t.heap; rw [ht]; exact hM.cge (funext fun j => (cgj j 7 rfl (fun a0 => (cgj j 6 rfl (fun a1 => (cgj j 5 rfl (fun a2 => (by simp only [uA_n a0, uA_n a1, uA_n a2])))))))))⟩, hS.F ht⟩) hS.2.2 dX10_region_79
        · have c_7 := bI_n c_7
          have c_7r := c_7
          try simp only [lt_I, le_I, eq_I, i_0, i_1, i_2, i_3, i_4, i_5, i_6, i_7, i_8, i_10, i_12, i_16, i_20, i_23, i_24, i_31, i_32, i_63, i_64, i_m1, i_9, i_11, i_13, i_25, i_60, i_75, i_79, i_80, i_96, i_100] at c_7
          refine lv_iload hx hb dX10_region_40 (lv_at hl 5 rfl) ?_
          refine lv_bipush (v := 7) hx hb dX10_region_42 (by decide) ?_
          refine W.callR (W.runS (As := [.int p4, .int 7]) (rest := []) ⟨hx, hb, hml, hown, hts⟩ (c_X10_within l p4 7) (cwS 2 hts (gdS ml_X10_156 st_X10_within in_X10 co_X10_within rfl) rfl rfl rfl (by decide +kernel) ⟨Nat.le_of_ble_eq_true rfl, Nat.le_of_ble_eq_true rfl⟩) preEq rfl rfl hl.1 rfl (lv_room (Nat.le_of_ble_eq_true rfl)) dX10_region_44 ⟨Nat.le_of_ble_eq_true rfl, Nat.le_of_ble_eq_true rfl⟩) ?_
          refine W.eq (g2 := F0 m 47 ls [.int (bI (0 ≤ p4.toInt ∧ p4.toInt ≤ (7 : Int32).toInt))]) (by rfl) ?_
          refine lv_if_ne (tgt := 58) hx hb dX10_region_47 (by decide) (fun c_9 => ?_) (fun c_9 => ?_)
          · have c_9 := bI_n c_9
            have c_9r := c_9
            try simp only [lt_I, le_I, eq_I, i_0, i_1, i_2, i_3, i_4, i_5, i_6, i_7, i_8, i_10, i_12, i_16, i_20, i_23, i_24, i_31, i_32, i_63, i_64, i_m1, i_9, i_11, i_13, i_25, i_60, i_75, i_79, i_80, i_96, i_100] at c_9
            refine lv_iload_n hx hb dX10_region_58 rfl (lv_at hl 3 rfl) ?_
            refine lv_iload hx hb dX10_region_59 (lv_at hl 4 rfl) ?_
            refine lv_iadd hx hb dX10_region_61 ?_
            refine lv_topi (fun x_10 ex_10 => ?_)
            have fx_10 : x_10.toInt = p2.toInt + p3.toInt := by have h9 := s_add (x := p2) (y := p3) (by omega) (by omega); rw [ex_10]; exact h9
            refine lv_bipush (v := 32) hx hb dX10_region_62 (by decide) ?_
            refine lv_icmp_le (tgt := 72) hx hb dX10_region_64 (by decide) (fun c_11 => ?_) (fun c_11 => ?_)
            · simp only [lt_I, le_I, eq_I, i_0, i_1, i_2, i_3, i_4, i_5, i_6, i_7, i_8, i_10, i_12, i_16, i_20, i_23, i_24, i_31, i_32, i_63, i_64, i_m1, i_9, i_11, i_13, i_25, i_60, i_75, i_79, i_80, i_96, i_100] at c_11
              refine lv_aload_n hx hb dX10_region_72 rfl (lv_at hl 0 rfl) ?_
              refine va_get (D := DG E) (ci := 10) (v := .int 0) (C := RX10) (T := TX10) (N := 49) hx hb hts iw_X10 hown hK.1 (va_one hM.1) 0 rfl rfl 3 (by decide) (hts _ fl_X10_153) (fun _ h9 => h9) rfl dX10_region_73 ?_
              refine lv_if_eq (tgt := 80) hx hb dX10_region_76 (by decide) (fun c_12 => ?_) (fun c_12 => absurd c_12 (by decide))
              refine lv_bipush (v := 6) hx hb dX10_region_80 (by decide) ?_
              refine lv_iload_n hx hb dX10_region_82 rfl (lv_at hl 1 rfl) ?_
              refine lv_imul hx hb dX10_region_83 ?_
              refine lv_topi (fun x_13 ex_13 => ?_)
              have fx_13 : x_13.toInt = 6 * p0.toInt := by rw [ex_13]; exact s_mulK i_6 (by omega) (by omega)
              refine lv_iload_n hx hb dX10_region_84 rfl (lv_at hl 2 rfl) ?_
              refine lv_iadd hx hb dX10_region_85 ?_
              refine lv_topi (fun x_14 ex_14 => ?_)
              have fx_14 : x_14.toInt = x_13.toInt + p1.toInt := by have h9 := s_add (x := x_13) (y := p1) (by omega) (by omega); rw [ex_14]; exact h9
              refine lv_istore (lv' := [(6, .int x_14), (0, .ref h0), (1, .int p0), (2, .int p1), (3, .int p2), (4, .int p3), (5, .int p4)]) hx hb dX10_region_86 hl (by decide) rfl (fun ls hl => ?_)
              refine lv_aload_n hx hb dX10_region_88 rfl (lv_at hl 1 rfl) ?_
              refine va_get (D := DG E) (ci := 10) (v := .ref (rf 5)) (C := RX10) (T := TX10) (N := 49) hx hb hts iw_X10 hown hK.1 (va_one hM.1) 0 rfl rfl 5 (by decide) (hts _ fl_X10_13) (fun _ h9 => h9) rfl dX10_region_89 ?_
              refine lv_iload hx hb dX10_region_92 (lv_at hl 0 rfl) ?_
              refine lv_iload_n hx hb dX10_region_94 rfl (lv_at hl 4 rfl) ?_
              have hi_15 : vp_in x_14 12 := vp_in_iff.mpr (by omega)
              have ha_16 : va_at (DG E) vwCl (rf 5, .inl (E.2.2 0, 12, .inl (A 5))) _ := hM.2 5 (by decide) (by decide) (by decide)
              obtain ⟨n_17, hn_17, en_17⟩ := s_nat (x := x_14) (by omega)
              refine rr_iast (D := DG E) hx hb hK.1 0 ha_16 hS (by show G (rf 5) ≠ 0; rw [hR.2 5 (by decide) (by decide) (by decide)]; decide) rfl hi_15 dX10_region_95 (fun H locs hn ho hz hS => ?_)
              rw [en_17] at hn
              obtain ⟨g_16, eg_16⟩ : ∃ z : Nat → Int32, z = upd (A 5) n_17 p2 := ⟨_, rfl⟩
              have sg_16 : g_16 n_17 = p2 := by rw [eg_16]; exact upd_s
              have ng_16 : ∀ k, k ≠ n_17 → g_16 k = (A 5) k := fun k hk => by rw [eg_16]; exact upd_n hk
              have hn : va_at (DG E) vwCl (rf 5, .inl (E.2.2 0, 12, .inl g_16)) H := by rw [eg_16]; exact hn
              have hM : MH E h0 rf t0 t1 t2 (uA A 5 g_16) 0 pk H := hM.w hR 5 (by decide) (by decide) (by decide) hn ho
              refine lv_aload_n hx hb dX10_region_96 rfl (lv_at hl 1 rfl) ?_
              refine va_get (D := DG E) (ci := 10) (v := .ref (rf 6)) (C := RX10) (T := TX10) (N := 49) hx hb hts iw_X10 hown hK.1 (va_one hM.1) 0 rfl rfl 6 (by decide) (hts _ fl_X10_16) (fun _ h9 => h9) rfl dX10_region_97 ?_
              refine lv_iload hx hb dX10_region_100 (lv_at hl 0 rfl) ?_
              refine lv_iload hx hb dX10_region_102 (lv_at hl 5 rfl) ?_
              have ha_18 : va_at (DG E) vwCl (rf 6, .inl (E.2.2 0, 12, .inl (A 6))) _ := hM.2 6 (by decide) (by decide) (by decide)
              refine rr_iast (D := DG E) hx hb hK.1 0 ha_18 hS (by show G (rf 6) ≠ 0; rw [hR.2 6 (by decide) (by decide) (by decide)]; decide) rfl hi_15 dX10_region_104 (fun H locs hn ho hz hS => ?_)
              rw [en_17] at hn
              obtain ⟨g_18, eg_18⟩ : ∃ z : Nat → Int32, z = upd (A 6) n_17 p3 := ⟨_, rfl⟩
              have sg_18 : g_18 n_17 = p3 := by rw [eg_18]; exact upd_s
              have ng_18 : ∀ k, k ≠ n_17 → g_18 k = (A 6) k := fun k hk => by rw [eg_18]; exact upd_n hk
              have hn : va_at (DG E) vwCl (rf 6, .inl (E.2.2 0, 12, .inl g_18)) H := by rw [eg_18]; exact hn
              have hM : MH E h0 rf t0 t1 t2 (uA (uA A 5 g_16) 6 g_18) 0 pk H := hM.w hR 6 (by decide) (by decide) (by decide) hn ho
              refine lv_aload_n hx hb dX10_region_105 rfl (lv_at hl 1 rfl) ?_
              refine va_get (D := DG E) (ci := 10) (v := .ref (rf 7)) (C := RX10) (T := TX10) (N := 49) hx hb hts iw_X10 hown hK.1 (va_one hM.1) 0 rfl rfl 7 (by decide) (hts _ fl_X10_19) (fun _ h9 => h9) rfl dX10_region_106 ?_
              refine lv_iload hx hb dX10_region_109 (lv_at hl 0 rfl) ?_
              refine lv_iload hx hb dX10_region_111 (lv_at hl 6 rfl) ?_
              have ha_19 : va_at (DG E) vwCl (rf 7, .inl (E.2.2 0, 12, .inl (A 7))) _ := hM.2 7 (by decide) (by decide) (by decide)
              refine rr_iast (D := DG E) hx hb hK.1 0 ha_19 hS (by show G (rf 7) ≠ 0; rw [hR.2 7 (by decide) (by decide) (by decide)]; decide) rfl hi_15 dX10_region_113 (fun H locs hn ho hz hS => ?_)
              rw [en_17] at hn
              obtain ⟨g_19, eg_19⟩ : ∃ z : Nat → Int32, z = upd (A 7) n_17 p4 := ⟨_, rfl⟩
              have sg_19 : g_19 n_17 = p4 := by rw [eg_19]; exact upd_s
              have ng_19 : ∀ k, k ≠ n_17 → g_19 k = (A 7) k := fun k hk => by rw [eg_19]; exact upd_n hk
              have hn : va_at (DG E) vwCl (rf 7, .inl (E.2.2 0, 12, .inl g_19)) H := by rw [eg_19]; exact hn
              have hM : MH E h0 rf t0 t1 t2 (uA (uA (uA A 5 g_16) 6 g_18) 7 g_19) 0 pk H := hM.w hR 7 (by decide) (by decide) (by decide) hn ho
              have hI2_20 : I2 g_16 g_18 := by
                intro n9 hn9
                have h9 : 0 ≤ ((A 5) n9).toInt ∧ 0 ≤ ((A 6) n9).toInt ∧ ((A 5) n9).toInt + ((A 6) n9).toInt ≤ 32 := hI2 n9 hn9
                show 0 ≤ (g_16 n9).toInt ∧ 0 ≤ (g_18 n9).toInt ∧ (g_16 n9).toInt + (g_18 n9).toInt ≤ 32
                by_cases ezn_17 : n9 = n_17
                · rw [ezn_17] at h9 ⊢
                  rw [sg_16]
                  rw [sg_18]
                  clear h9
                  exact ⟨by omega, by omega, by omega⟩
                · rw [ng_16 n9 ezn_17]
                  rw [ng_18 n9 ezn_17]
                  exact h9
              exact W.vret hx hb hr (fun t ht hW => ⟨⟨(g_16, g_18, g_19, 0), rfl, ⟨hI2_20, (show (0 : Int32) = if (0 ≤ p0.toInt ∧ p0.toInt < 2 ∧ 0 ≤ p1.toInt ∧ p1.toInt < 6 ∧ 0 ≤ p4.toInt ∧ p4.toInt ≤ 7 ∧ 0 ≤ p2.toInt ∧ 0 ≤ p3.toInt ∧ p3.toInt ≤ 32 - p2.toInt) then 0 else 1 from (by first | rw [if_pos (by omega)] | rw [if_neg (by omega)])), (Or.inr (Or.inr (Or.inr (Or.inr (Or.inl ⟨c_1r, c_3r, c_5r, c_7r, c_9r, x_10, ex_10, fx_10, c_11, x_13, ex_13, fx_13, x_14, ex_14, fx_14, n_17, hn_17, g_16, eg_16, g_18, eg_18, g_19, eg_19, rfl, rfl, rfl⟩)))))⟩, (by show MH E h0 rf t0 t1 t2 (uA (uA (uA A 5 g_16) 6 g_18) 7 g_19) 0 pk t.heap; rw [ht]; exact hM)⟩, hS.F ht⟩) hS.2.2 dX10_region_114
            · simp only [lt_I, le_I, eq_I, i_0, i_1, i_2, i_3, i_4, i_5, i_6, i_7, i_8, i_10, i_12, i_16, i_20, i_23, i_24, i_31, i_32, i_63, i_64, i_m1, i_9, i_11, i_13, i_25, i_60, i_75, i_79, i_80, i_96, i_100] at c_11
              refine lv_aload_n hx hb dX10_region_67 rfl (lv_at hl 0 rfl) ?_
              refine lv_iconst (v := 1) hx hb dX10_region_68 (by decide) ?_
              refine rr_put (D := DG E) (ci := 10) (v := .int 1) (ty := .int) (C := RX10) (T := TX10) (N := 49) hx hb hts iw_X10 tyX10 tyX10_ok nmX10 hown hK.1 hM.1 hS (by show G h0 ≠ 0; rw [hR.1]; decide) rfl 3 (by decide) (hts _ fl_X10_153) (fun _ h9 => h9) rfl (by decide +kernel) rfl rfl (Nat.le_of_ble_eq_true rfl) dX10_region_69 (fun H locs hn ho hz hS => ?_)
              have hM : MH E h0 rf t0 t1 t2 A 1 pk H := hM.sc hR hn ho
              refine lv_aload_n hx hb dX10_region_72 rfl (lv_at hl 0 rfl) ?_
              refine va_get (D := DG E) (ci := 10) (v := .int 1) (C := RX10) (T := TX10) (N := 49) hx hb hts iw_X10 hown hK.1 (va_one hM.1) 0 rfl rfl 3 (by decide) (hts _ fl_X10_153) (fun _ h9 => h9) rfl dX10_region_73 ?_
              refine lv_if_eq (tgt := 80) hx hb dX10_region_76 (by decide) (fun c_21 => absurd c_21 (by decide)) (fun c_21 => ?_)
              exact W.vret hx hb hr (fun t ht hW => ⟨⟨((A 5), (A 6), (A 7), 1), rfl, ⟨hI2, (show (1 : Int32) = if (0 ≤ p0.toInt ∧ p0.toInt < 2 ∧ 0 ≤ p1.toInt ∧ p1.toInt < 6 ∧ 0 ≤ p4.toInt ∧ p4.toInt ≤ 7 ∧ 0 ≤ p2.toInt ∧ 0 ≤ p3.toInt ∧ p3.toInt ≤ 32 - p2.toInt) then 0 else 1 from (by first | rw [if_pos (by omega)] | rw [if_neg (by omega)])), (Or.inr (Or.inr (Or.inr (Or.inr (Or.inr (Or.inl ⟨c_1r, c_3r, c_5r, c_7r, c_9r, x_10, ex_10, fx_10, c_11, rfl, rfl, rfl⟩))))))⟩, (by show MH E h0 rf t0 t1 t2 (uA (uA (uA A 5 (A 5)) 6 (A 6)) 7 (A 7)) 1 pk t.heap; rw [ht]; exact hM.cge (funext fun j => (cgj j 7 rfl (fun a0 => (cgj j 6 rfl (fun a1 => (cgj j 5 rfl (fun a2 => (by simp only [uA_n a0, uA_n a1, uA_n a2])))))))))⟩, hS.F ht⟩) hS.2.2 dX10_region_79
          · have c_9 := bI_0 c_9
            have c_9r := c_9
            try simp only [lt_I, le_I, eq_I, i_0, i_1, i_2, i_3, i_4, i_5, i_6, i_7, i_8, i_10, i_12, i_16, i_20, i_23, i_24, i_31, i_32, i_63, i_64, i_m1, i_9, i_11, i_13, i_25, i_60, i_75, i_79, i_80, i_96, i_100] at c_9
            refine lv_aload_n hx hb dX10_region_50 rfl (lv_at hl 0 rfl) ?_
            refine lv_iconst (v := 1) hx hb dX10_region_51 (by decide) ?_
            refine rr_put (D := DG E) (ci := 10) (v := .int 1) (ty := .int) (C := RX10) (T := TX10) (N := 49) hx hb hts iw_X10 tyX10 tyX10_ok nmX10 hown hK.1 hM.1 hS (by show G h0 ≠ 0; rw [hR.1]; decide) rfl 3 (by decide) (hts _ fl_X10_153) (fun _ h9 => h9) rfl (by decide +kernel) rfl rfl (Nat.le_of_ble_eq_true rfl) dX10_region_52 (fun H locs hn ho hz hS => ?_)
            have hM : MH E h0 rf t0 t1 t2 A 1 pk H := hM.sc hR hn ho
            refine lv_goto (tgt := 72) hx hb dX10_region_55 (by decide) ?_
            refine lv_aload_n hx hb dX10_region_72 rfl (lv_at hl 0 rfl) ?_
            refine va_get (D := DG E) (ci := 10) (v := .int 1) (C := RX10) (T := TX10) (N := 49) hx hb hts iw_X10 hown hK.1 (va_one hM.1) 0 rfl rfl 3 (by decide) (hts _ fl_X10_153) (fun _ h9 => h9) rfl dX10_region_73 ?_
            refine lv_if_eq (tgt := 80) hx hb dX10_region_76 (by decide) (fun c_22 => absurd c_22 (by decide)) (fun c_22 => ?_)
            exact W.vret hx hb hr (fun t ht hW => ⟨⟨((A 5), (A 6), (A 7), 1), rfl, ⟨hI2, (show (1 : Int32) = if (0 ≤ p0.toInt ∧ p0.toInt < 2 ∧ 0 ≤ p1.toInt ∧ p1.toInt < 6 ∧ 0 ≤ p4.toInt ∧ p4.toInt ≤ 7 ∧ 0 ≤ p2.toInt ∧ 0 ≤ p3.toInt ∧ p3.toInt ≤ 32 - p2.toInt) then 0 else 1 from (by first | rw [if_pos (by omega)] | rw [if_neg (by omega)])), (Or.inr (Or.inr (Or.inr (Or.inr (Or.inr (Or.inr ⟨c_1r, c_3r, c_5r, c_7r, c_9r, rfl, rfl, rfl⟩))))))⟩, (by show MH E h0 rf t0 t1 t2 (uA (uA (uA A 5 (A 5)) 6 (A 6)) 7 (A 7)) 1 pk t.heap; rw [ht]; exact hM.cge (funext fun j => (cgj j 7 rfl (fun a0 => (cgj j 6 rfl (fun a1 => (cgj j 5 rfl (fun a2 => (by simp only [uA_n a0, uA_n a1, uA_n a2])))))))))⟩, hS.F ht⟩) hS.2.2 dX10_region_79
theorem dX10_store_0 : decode cX10_store 0 = .ok (.aload_n 0, 1) := by decide +kernel
theorem dX10_store_1 : decode cX10_store 1 = .ok (.iconst 0, 1) := by decide +kernel
theorem dX10_store_2 : decode cX10_store 2 = .ok (.putfield 153, 3) := by decide +kernel
theorem dX10_store_5 : decode cX10_store 5 = .ok (.iload_n 1, 1) := by decide +kernel
theorem dX10_store_6 : decode cX10_store 6 = .ok (.iconst 1, 1) := by decide +kernel
theorem dX10_store_7 : decode cX10_store 7 = .ok (.invokestatic 156, 3) := by decide +kernel
theorem dX10_store_10 : decode cX10_store 10 = .ok (.ifCond .eq 12, 3) := by decide +kernel
theorem dX10_store_13 : decode cX10_store 13 = .ok (.iload_n 2, 1) := by decide +kernel
theorem dX10_store_14 : decode cX10_store 14 = .ok (.bipush 31, 2) := by decide +kernel
theorem dX10_store_16 : decode cX10_store 16 = .ok (.invokestatic 156, 3) := by decide +kernel
theorem dX10_store_19 : decode cX10_store 19 = .ok (.ifCond .ne 11, 3) := by decide +kernel
theorem dX10_store_22 : decode cX10_store 22 = .ok (.aload_n 0, 1) := by decide +kernel
theorem dX10_store_23 : decode cX10_store 23 = .ok (.iconst 1, 1) := by decide +kernel
theorem dX10_store_24 : decode cX10_store 24 = .ok (.putfield 153, 3) := by decide +kernel
theorem dX10_store_27 : decode cX10_store 27 = .ok (.goto 15, 3) := by decide +kernel
theorem dX10_store_30 : decode cX10_store 30 = .ok (.aload_n 0, 1) := by decide +kernel
theorem dX10_store_31 : decode cX10_store 31 = .ok (.getfield 7, 3) := by decide +kernel
theorem dX10_store_34 : decode cX10_store 34 = .ok (.bipush 32, 2) := by decide +kernel
theorem dX10_store_36 : decode cX10_store 36 = .ok (.iload_n 1, 1) := by decide +kernel
theorem dX10_store_37 : decode cX10_store 37 = .ok (.imul, 1) := by decide +kernel
theorem dX10_store_38 : decode cX10_store 38 = .ok (.iload_n 2, 1) := by decide +kernel
theorem dX10_store_39 : decode cX10_store 39 = .ok (.iadd, 1) := by decide +kernel
theorem dX10_store_40 : decode cX10_store 40 = .ok (.iload_n 3, 1) := by decide +kernel
theorem dX10_store_41 : decode cX10_store 41 = .ok (.iastore, 1) := by decide +kernel
theorem dX10_store_42 : decode cX10_store 42 = .ok (.return_, 1) := by decide +kernel
set_option maxHeartbeats 8000000 in
set_option maxRecDepth 100000 in
theorem u_X10_store (l : Launch) (E : EE) (z0 : Nat) (G : Nat → Nat) (hGz : ∀ q, G q ≠ 0 → z0 ≤ q) (h0 : Nat) (rf : Nat → Nat) (hR : MG G h0 rf) (t0 t1 t2 : Int32) (A : AA) (cd pk : Int32) (p0 : Int32) (p1 : Int32) (p2 : Int32) : Met l yX10_store [Cond.code yX10_store cX10_store 4 none] ({ frames := 1, cells := 0, slots := 0, locals := 21 } : Room) (va_Pc [.ref h0, .int p0, .int p1, .int p2] (fun U => MH E h0 rf t0 t1 t2 A cd pk U.heap ∧ KS E z0 U)) (va_Qv (fun (u : (Nat → Int32) × Int32) => (True) ∧ ((u.2) = if (0 ≤ p0.toInt ∧ p0.toInt < 2 ∧ 0 ≤ p1.toInt ∧ p1.toInt < 32) then 0 else 1) ∧ (D_X10_store A cd pk p0 p1 p2 (uA A 4 (u.1)) (u.2) pk)) (fun u t => MH E h0 rf t0 t1 t2 (uA A 4 (u.1)) (u.2) pk t.heap) (fun q : Nat => G q ≠ 0)) 0 0 (fun q : Nat => G q ≠ 0) := by
  refine Met.ofW (cc := cX10_store) (maxL := 4) (ret := none) (by decide) rfl ?_
  intro p e s m args below meth c s₁ B hml hv
  obtain ⟨rfl, hM, hK⟩ := hv
  have hx := B.exec
  have hb := B.bytes
  have hr := B.returns
  have hts : ∀ w ∈ TS, w.before ([.ref h0, .int p0, .int p1, .int p2] : List Value).toArray s = true := fun w hw => hK.2.1 w hw _
  have hown : s.vm.findClass RX10 = some m.cls := findClass_of_methodNamed B.named
  have hlocks := B.notSynchronized
  have hS : va_S (fun q : Nat => G q ≠ 0) s.heap s.heap [] := va_S.rf
  have hAz : ∀ q, (fun q : Nat => G q ≠ 0) q → z0 ≤ q := hGz
  have hl := lv_entry ([.ref h0, .int p0, .int p1, .int p2]) (n := 4) (Nat.le_of_ble_eq_true rfl)
  rw [lg_entry_eq]
  generalize (lg_sl ([.ref h0, .int p0, .int p1, .int p2]) ++ List.replicate (4 - (lg_sl ([.ref h0, .int p0, .int p1, .int p2])).length) Slot.unset).toArray = ls at hl ⊢
  have hl : lv_has ls 4 [(0, .ref h0), (1, .int p0), (2, .int p1), (3, .int p2)] := hl
  refine lv_aload_n hx hb dX10_store_0 rfl (lv_at hl 0 rfl) ?_
  refine lv_iconst (v := 0) hx hb dX10_store_1 (by decide) ?_
  refine rr_put (D := DG E) (ci := 10) (v := .int 0) (ty := .int) (C := RX10) (T := TX10) (N := 49) hx hb hts iw_X10 tyX10 tyX10_ok nmX10 hown hK.1 hM.1 hS (by show G h0 ≠ 0; rw [hR.1]; decide) rfl 3 (by decide) (hts _ fl_X10_153) (fun _ h9 => h9) rfl (by decide +kernel) rfl rfl (Nat.le_of_ble_eq_true rfl) dX10_store_2 (fun H locs hn ho hz hS => ?_)
  have hM : MH E h0 rf t0 t1 t2 A 0 pk H := hM.sc hR hn ho
  refine lv_iload_n hx hb dX10_store_5 rfl (lv_at hl 1 rfl) ?_
  refine lv_iconst (v := 1) hx hb dX10_store_6 (by decide) ?_
  refine W.callR (W.runS (As := [.int p0, .int 1]) (rest := []) ⟨hx, hb, hml, hown, hts⟩ (c_X10_within l p0 1) (cwS 2 hts (gdS ml_X10_156 st_X10_within in_X10 co_X10_within rfl) rfl rfl rfl (by decide +kernel) ⟨Nat.le_of_ble_eq_true rfl, Nat.le_of_ble_eq_true rfl⟩) preEq rfl rfl hl.1 rfl (lv_room (Nat.le_of_ble_eq_true rfl)) dX10_store_7 ⟨Nat.le_of_ble_eq_true rfl, Nat.le_of_ble_eq_true rfl⟩) ?_
  refine W.eq (g2 := F0 m 10 ls [.int (bI (0 ≤ p0.toInt ∧ p0.toInt ≤ (1 : Int32).toInt))]) (by rfl) ?_
  refine lv_if_eq (tgt := 22) hx hb dX10_store_10 (by decide) (fun c_1 => ?_) (fun c_1 => ?_)
  · have c_1 := bI_0 c_1
    have c_1r := c_1
    try simp only [lt_I, le_I, eq_I, i_0, i_1, i_2, i_3, i_4, i_5, i_6, i_7, i_8, i_10, i_12, i_16, i_20, i_23, i_24, i_31, i_32, i_63, i_64, i_m1, i_9, i_11, i_13, i_25, i_60, i_75, i_79, i_80, i_96, i_100] at c_1
    refine lv_aload_n hx hb dX10_store_22 rfl (lv_at hl 0 rfl) ?_
    refine lv_iconst (v := 1) hx hb dX10_store_23 (by decide) ?_
    refine rr_put (D := DG E) (ci := 10) (v := .int 1) (ty := .int) (C := RX10) (T := TX10) (N := 49) hx hb hts iw_X10 tyX10 tyX10_ok nmX10 hown hK.1 hM.1 hS (by show G h0 ≠ 0; rw [hR.1]; decide) rfl 3 (by decide) (hts _ fl_X10_153) (fun _ h9 => h9) rfl (by decide +kernel) rfl rfl (Nat.le_of_ble_eq_true rfl) dX10_store_24 (fun H locs hn ho hz hS => ?_)
    have hM : MH E h0 rf t0 t1 t2 A 1 pk H := hM.sc hR hn ho
    refine lv_goto (tgt := 42) hx hb dX10_store_27 (by decide) ?_
    exact W.vret hx hb hr (fun t ht hW => ⟨⟨((A 4), 1), rfl, ⟨trivial, (show (1 : Int32) = if (0 ≤ p0.toInt ∧ p0.toInt < 2 ∧ 0 ≤ p1.toInt ∧ p1.toInt < 32) then 0 else 1 from (by first | rw [if_pos (by omega)] | rw [if_neg (by omega)])), (Or.inl ⟨c_1r, rfl, rfl, rfl⟩)⟩, (by show MH E h0 rf t0 t1 t2 (uA A 4 (A 4)) 1 pk t.heap; rw [ht]; exact hM.cge (funext fun j => (cgj j 4 rfl (fun a0 => (by simp only [uA_n a0])))))⟩, hS.F ht⟩) hS.2.2 dX10_store_42
  · have c_1 := bI_n c_1
    have c_1r := c_1
    try simp only [lt_I, le_I, eq_I, i_0, i_1, i_2, i_3, i_4, i_5, i_6, i_7, i_8, i_10, i_12, i_16, i_20, i_23, i_24, i_31, i_32, i_63, i_64, i_m1, i_9, i_11, i_13, i_25, i_60, i_75, i_79, i_80, i_96, i_100] at c_1
    refine lv_iload_n hx hb dX10_store_13 rfl (lv_at hl 2 rfl) ?_
    refine lv_bipush (v := 31) hx hb dX10_store_14 (by decide) ?_
    refine W.callR (W.runS (As := [.int p1, .int 31]) (rest := []) ⟨hx, hb, hml, hown, hts⟩ (c_X10_within l p1 31) (cwS 2 hts (gdS ml_X10_156 st_X10_within in_X10 co_X10_within rfl) rfl rfl rfl (by decide +kernel) ⟨Nat.le_of_ble_eq_true rfl, Nat.le_of_ble_eq_true rfl⟩) preEq rfl rfl hl.1 rfl (lv_room (Nat.le_of_ble_eq_true rfl)) dX10_store_16 ⟨Nat.le_of_ble_eq_true rfl, Nat.le_of_ble_eq_true rfl⟩) ?_
    refine W.eq (g2 := F0 m 19 ls [.int (bI (0 ≤ p1.toInt ∧ p1.toInt ≤ (31 : Int32).toInt))]) (by rfl) ?_
    refine lv_if_ne (tgt := 30) hx hb dX10_store_19 (by decide) (fun c_2 => ?_) (fun c_2 => ?_)
    · have c_2 := bI_n c_2
      have c_2r := c_2
      try simp only [lt_I, le_I, eq_I, i_0, i_1, i_2, i_3, i_4, i_5, i_6, i_7, i_8, i_10, i_12, i_16, i_20, i_23, i_24, i_31, i_32, i_63, i_64, i_m1, i_9, i_11, i_13, i_25, i_60, i_75, i_79, i_80, i_96, i_100] at c_2
      refine lv_aload_n hx hb dX10_store_30 rfl (lv_at hl 0 rfl) ?_
      refine va_get (D := DG E) (ci := 10) (v := .ref (rf 4)) (C := RX10) (T := TX10) (N := 49) hx hb hts iw_X10 hown hK.1 (va_one hM.1) 0 rfl rfl 4 (by decide) (hts _ fl_X10_7) (fun _ h9 => h9) rfl dX10_store_31 ?_
      refine lv_bipush (v := 32) hx hb dX10_store_34 (by decide) ?_
      refine lv_iload_n hx hb dX10_store_36 rfl (lv_at hl 1 rfl) ?_
      refine lv_imul hx hb dX10_store_37 ?_
      refine lv_topi (fun x_3 ex_3 => ?_)
      have fx_3 : x_3.toInt = 32 * p0.toInt := by rw [ex_3]; exact s_mulK i_32 (by omega) (by omega)
      refine lv_iload_n hx hb dX10_store_38 rfl (lv_at hl 2 rfl) ?_
      refine lv_iadd hx hb dX10_store_39 ?_
      refine lv_topi (fun x_4 ex_4 => ?_)
      have fx_4 : x_4.toInt = x_3.toInt + p1.toInt := by have h9 := s_add (x := x_3) (y := p1) (by omega) (by omega); rw [ex_4]; exact h9
      refine lv_iload_n hx hb dX10_store_40 rfl (lv_at hl 3 rfl) ?_
      have hi_5 : vp_in x_4 64 := vp_in_iff.mpr (by omega)
      have ha_6 : va_at (DG E) vwCl (rf 4, .inl (E.2.2 0, 64, .inl (A 4))) _ := hM.2 4 (by decide) (by decide) (by decide)
      obtain ⟨n_7, hn_7, en_7⟩ := s_nat (x := x_4) (by omega)
      refine rr_iast (D := DG E) hx hb hK.1 0 ha_6 hS (by show G (rf 4) ≠ 0; rw [hR.2 4 (by decide) (by decide) (by decide)]; decide) rfl hi_5 dX10_store_41 (fun H locs hn ho hz hS => ?_)
      rw [en_7] at hn
      obtain ⟨g_6, eg_6⟩ : ∃ z : Nat → Int32, z = upd (A 4) n_7 p2 := ⟨_, rfl⟩
      have sg_6 : g_6 n_7 = p2 := by rw [eg_6]; exact upd_s
      have ng_6 : ∀ k, k ≠ n_7 → g_6 k = (A 4) k := fun k hk => by rw [eg_6]; exact upd_n hk
      have hn : va_at (DG E) vwCl (rf 4, .inl (E.2.2 0, 64, .inl g_6)) H := by rw [eg_6]; exact hn
      have hM : MH E h0 rf t0 t1 t2 (uA A 4 g_6) 0 pk H := hM.w hR 4 (by decide) (by decide) (by decide) hn ho
      exact W.vret hx hb hr (fun t ht hW => ⟨⟨(g_6, 0), rfl, ⟨trivial, (show (0 : Int32) = if (0 ≤ p0.toInt ∧ p0.toInt < 2 ∧ 0 ≤ p1.toInt ∧ p1.toInt < 32) then 0 else 1 from (by first | rw [if_pos (by omega)] | rw [if_neg (by omega)])), (Or.inr (Or.inl ⟨c_1r, c_2r, x_3, ex_3, fx_3, x_4, ex_4, fx_4, n_7, hn_7, g_6, eg_6, rfl, rfl, rfl⟩))⟩, (by show MH E h0 rf t0 t1 t2 (uA A 4 g_6) 0 pk t.heap; rw [ht]; exact hM)⟩, hS.F ht⟩) hS.2.2 dX10_store_42
    · have c_2 := bI_0 c_2
      have c_2r := c_2
      try simp only [lt_I, le_I, eq_I, i_0, i_1, i_2, i_3, i_4, i_5, i_6, i_7, i_8, i_10, i_12, i_16, i_20, i_23, i_24, i_31, i_32, i_63, i_64, i_m1, i_9, i_11, i_13, i_25, i_60, i_75, i_79, i_80, i_96, i_100] at c_2
      refine lv_aload_n hx hb dX10_store_22 rfl (lv_at hl 0 rfl) ?_
      refine lv_iconst (v := 1) hx hb dX10_store_23 (by decide) ?_
      refine rr_put (D := DG E) (ci := 10) (v := .int 1) (ty := .int) (C := RX10) (T := TX10) (N := 49) hx hb hts iw_X10 tyX10 tyX10_ok nmX10 hown hK.1 hM.1 hS (by show G h0 ≠ 0; rw [hR.1]; decide) rfl 3 (by decide) (hts _ fl_X10_153) (fun _ h9 => h9) rfl (by decide +kernel) rfl rfl (Nat.le_of_ble_eq_true rfl) dX10_store_24 (fun H locs hn ho hz hS => ?_)
      have hM : MH E h0 rf t0 t1 t2 A 1 pk H := hM.sc hR hn ho
      refine lv_goto (tgt := 42) hx hb dX10_store_27 (by decide) ?_
      exact W.vret hx hb hr (fun t ht hW => ⟨⟨((A 4), 1), rfl, ⟨trivial, (show (1 : Int32) = if (0 ≤ p0.toInt ∧ p0.toInt < 2 ∧ 0 ≤ p1.toInt ∧ p1.toInt < 32) then 0 else 1 from (by first | rw [if_pos (by omega)] | rw [if_neg (by omega)])), (Or.inr (Or.inr ⟨c_1r, c_2r, rfl, rfl, rfl⟩))⟩, (by show MH E h0 rf t0 t1 t2 (uA A 4 (A 4)) 1 pk t.heap; rw [ht]; exact hM.cge (funext fun j => (cgj j 4 rfl (fun a0 => (by simp only [uA_n a0])))))⟩, hS.F ht⟩) hS.2.2 dX10_store_42
theorem dX10_cell_0 : decode cX10_cell 0 = .ok (.aload_n 0, 1) := by decide +kernel
theorem dX10_cell_1 : decode cX10_cell 1 = .ok (.iconst 0, 1) := by decide +kernel
theorem dX10_cell_2 : decode cX10_cell 2 = .ok (.putfield 153, 3) := by decide +kernel
theorem dX10_cell_5 : decode cX10_cell 5 = .ok (.iload_n 1, 1) := by decide +kernel
theorem dX10_cell_6 : decode cX10_cell 6 = .ok (.iconst 1, 1) := by decide +kernel
theorem dX10_cell_7 : decode cX10_cell 7 = .ok (.invokestatic 156, 3) := by decide +kernel
theorem dX10_cell_10 : decode cX10_cell 10 = .ok (.ifCond .eq 26, 3) := by decide +kernel
theorem dX10_cell_13 : decode cX10_cell 13 = .ok (.iload_n 2, 1) := by decide +kernel
theorem dX10_cell_14 : decode cX10_cell 14 = .ok (.bipush 31, 2) := by decide +kernel
theorem dX10_cell_16 : decode cX10_cell 16 = .ok (.invokestatic 156, 3) := by decide +kernel
theorem dX10_cell_19 : decode cX10_cell 19 = .ok (.ifCond .eq 17, 3) := by decide +kernel
theorem dX10_cell_22 : decode cX10_cell 22 = .ok (.aload_n 0, 1) := by decide +kernel
theorem dX10_cell_23 : decode cX10_cell 23 = .ok (.getfield 7, 3) := by decide +kernel
theorem dX10_cell_26 : decode cX10_cell 26 = .ok (.bipush 32, 2) := by decide +kernel
theorem dX10_cell_28 : decode cX10_cell 28 = .ok (.iload_n 1, 1) := by decide +kernel
theorem dX10_cell_29 : decode cX10_cell 29 = .ok (.imul, 1) := by decide +kernel
theorem dX10_cell_30 : decode cX10_cell 30 = .ok (.iload_n 2, 1) := by decide +kernel
theorem dX10_cell_31 : decode cX10_cell 31 = .ok (.iadd, 1) := by decide +kernel
theorem dX10_cell_32 : decode cX10_cell 32 = .ok (.iaload, 1) := by decide +kernel
theorem dX10_cell_33 : decode cX10_cell 33 = .ok (.goto 4, 3) := by decide +kernel
theorem dX10_cell_36 : decode cX10_cell 36 = .ok (.iconst 0, 1) := by decide +kernel
theorem dX10_cell_37 : decode cX10_cell 37 = .ok (.ireturn, 1) := by decide +kernel
set_option maxHeartbeats 8000000 in
set_option maxRecDepth 100000 in
theorem u_X10_cell (l : Launch) (E : EE) (z0 : Nat) (G : Nat → Nat) (hGz : ∀ q, G q ≠ 0 → z0 ≤ q) (h0 : Nat) (rf : Nat → Nat) (hR : MG G h0 rf) (t0 t1 t2 : Int32) (A : AA) (cd pk : Int32) (p0 : Int32) (p1 : Int32) : Met l yX10_cell [Cond.code yX10_cell cX10_cell 3 (some .int)] ({ frames := 1, cells := 0, slots := 0, locals := 21 } : Room) (va_Pc [.ref h0, .int p0, .int p1] (fun U => MH E h0 rf t0 t1 t2 A cd pk U.heap ∧ KS E z0 U)) (va_Qi (fun (r : Int32) (u : Int32) => D_X10_cell A cd pk p0 p1 A (u) pk r) (fun u t => MH E h0 rf t0 t1 t2 A (u) pk t.heap) (fun q : Nat => G q ≠ 0)) 0 0 (fun q : Nat => G q ≠ 0) := by
  refine Met.ofW (cc := cX10_cell) (maxL := 3) (ret := (some .int)) (by decide) rfl ?_
  intro p e s m args below meth c s₁ B hml hv
  obtain ⟨rfl, hM, hK⟩ := hv
  have hx := B.exec
  have hb := B.bytes
  have hr := B.returns
  have hts : ∀ w ∈ TS, w.before ([.ref h0, .int p0, .int p1] : List Value).toArray s = true := fun w hw => hK.2.1 w hw _
  have hown : s.vm.findClass RX10 = some m.cls := findClass_of_methodNamed B.named
  have hlocks := B.notSynchronized
  have hS : va_S (fun q : Nat => G q ≠ 0) s.heap s.heap [] := va_S.rf
  have hAz : ∀ q, (fun q : Nat => G q ≠ 0) q → z0 ≤ q := hGz
  have hl := lv_entry ([.ref h0, .int p0, .int p1]) (n := 3) (Nat.le_of_ble_eq_true rfl)
  rw [lg_entry_eq]
  generalize (lg_sl ([.ref h0, .int p0, .int p1]) ++ List.replicate (3 - (lg_sl ([.ref h0, .int p0, .int p1])).length) Slot.unset).toArray = ls at hl ⊢
  have hl : lv_has ls 3 [(0, .ref h0), (1, .int p0), (2, .int p1)] := hl
  refine lv_aload_n hx hb dX10_cell_0 rfl (lv_at hl 0 rfl) ?_
  refine lv_iconst (v := 0) hx hb dX10_cell_1 (by decide) ?_
  refine rr_put (D := DG E) (ci := 10) (v := .int 0) (ty := .int) (C := RX10) (T := TX10) (N := 49) hx hb hts iw_X10 tyX10 tyX10_ok nmX10 hown hK.1 hM.1 hS (by show G h0 ≠ 0; rw [hR.1]; decide) rfl 3 (by decide) (hts _ fl_X10_153) (fun _ h9 => h9) rfl (by decide +kernel) rfl rfl (Nat.le_of_ble_eq_true rfl) dX10_cell_2 (fun H locs hn ho hz hS => ?_)
  have hM : MH E h0 rf t0 t1 t2 A 0 pk H := hM.sc hR hn ho
  refine lv_iload_n hx hb dX10_cell_5 rfl (lv_at hl 1 rfl) ?_
  refine lv_iconst (v := 1) hx hb dX10_cell_6 (by decide) ?_
  refine W.callR (W.runS (As := [.int p0, .int 1]) (rest := []) ⟨hx, hb, hml, hown, hts⟩ (c_X10_within l p0 1) (cwS 2 hts (gdS ml_X10_156 st_X10_within in_X10 co_X10_within rfl) rfl rfl rfl (by decide +kernel) ⟨Nat.le_of_ble_eq_true rfl, Nat.le_of_ble_eq_true rfl⟩) preEq rfl rfl hl.1 rfl (lv_room (Nat.le_of_ble_eq_true rfl)) dX10_cell_7 ⟨Nat.le_of_ble_eq_true rfl, Nat.le_of_ble_eq_true rfl⟩) ?_
  refine W.eq (g2 := F0 m 10 ls [.int (bI (0 ≤ p0.toInt ∧ p0.toInt ≤ (1 : Int32).toInt))]) (by rfl) ?_
  refine lv_if_eq (tgt := 36) hx hb dX10_cell_10 (by decide) (fun c_1 => ?_) (fun c_1 => ?_)
  · have c_1 := bI_0 c_1
    have c_1r := c_1
    try simp only [lt_I, le_I, eq_I, i_0, i_1, i_2, i_3, i_4, i_5, i_6, i_7, i_8, i_10, i_12, i_16, i_20, i_23, i_24, i_31, i_32, i_63, i_64, i_m1, i_9, i_11, i_13, i_25, i_60, i_75, i_79, i_80, i_96, i_100] at c_1
    refine lv_iconst (v := 0) hx hb dX10_cell_36 (by decide) ?_
    exact W.iret (v := 0) hx hb hr (fun t ht hW => ⟨⟨0, 0, rfl, (Or.inl ⟨c_1r, rfl, rfl, rfl, rfl⟩), (by show MH E h0 rf t0 t1 t2 A 0 pk t.heap; rw [ht]; exact hM)⟩, hS.F ht⟩) hS.2.2 dX10_cell_37
  · have c_1 := bI_n c_1
    have c_1r := c_1
    try simp only [lt_I, le_I, eq_I, i_0, i_1, i_2, i_3, i_4, i_5, i_6, i_7, i_8, i_10, i_12, i_16, i_20, i_23, i_24, i_31, i_32, i_63, i_64, i_m1, i_9, i_11, i_13, i_25, i_60, i_75, i_79, i_80, i_96, i_100] at c_1
    refine lv_iload_n hx hb dX10_cell_13 rfl (lv_at hl 2 rfl) ?_
    refine lv_bipush (v := 31) hx hb dX10_cell_14 (by decide) ?_
    refine W.callR (W.runS (As := [.int p1, .int 31]) (rest := []) ⟨hx, hb, hml, hown, hts⟩ (c_X10_within l p1 31) (cwS 2 hts (gdS ml_X10_156 st_X10_within in_X10 co_X10_within rfl) rfl rfl rfl (by decide +kernel) ⟨Nat.le_of_ble_eq_true rfl, Nat.le_of_ble_eq_true rfl⟩) preEq rfl rfl hl.1 rfl (lv_room (Nat.le_of_ble_eq_true rfl)) dX10_cell_16 ⟨Nat.le_of_ble_eq_true rfl, Nat.le_of_ble_eq_true rfl⟩) ?_
    refine W.eq (g2 := F0 m 19 ls [.int (bI (0 ≤ p1.toInt ∧ p1.toInt ≤ (31 : Int32).toInt))]) (by rfl) ?_
    refine lv_if_eq (tgt := 36) hx hb dX10_cell_19 (by decide) (fun c_2 => ?_) (fun c_2 => ?_)
    · have c_2 := bI_0 c_2
      have c_2r := c_2
      try simp only [lt_I, le_I, eq_I, i_0, i_1, i_2, i_3, i_4, i_5, i_6, i_7, i_8, i_10, i_12, i_16, i_20, i_23, i_24, i_31, i_32, i_63, i_64, i_m1, i_9, i_11, i_13, i_25, i_60, i_75, i_79, i_80, i_96, i_100] at c_2
      refine lv_iconst (v := 0) hx hb dX10_cell_36 (by decide) ?_
      exact W.iret (v := 0) hx hb hr (fun t ht hW => ⟨⟨0, 0, rfl, (Or.inr (Or.inl ⟨c_1r, c_2r, rfl, rfl, rfl, rfl⟩)), (by show MH E h0 rf t0 t1 t2 A 0 pk t.heap; rw [ht]; exact hM)⟩, hS.F ht⟩) hS.2.2 dX10_cell_37
    · have c_2 := bI_n c_2
      have c_2r := c_2
      try simp only [lt_I, le_I, eq_I, i_0, i_1, i_2, i_3, i_4, i_5, i_6, i_7, i_8, i_10, i_12, i_16, i_20, i_23, i_24, i_31, i_32, i_63, i_64, i_m1, i_9, i_11, i_13, i_25, i_60, i_75, i_79, i_80, i_96, i_100] at c_2
      refine lv_aload_n hx hb dX10_cell_22 rfl (lv_at hl 0 rfl) ?_
      refine va_get (D := DG E) (ci := 10) (v := .ref (rf 4)) (C := RX10) (T := TX10) (N := 49) hx hb hts iw_X10 hown hK.1 (va_one hM.1) 0 rfl rfl 4 (by decide) (hts _ fl_X10_7) (fun _ h9 => h9) rfl dX10_cell_23 ?_
      refine lv_bipush (v := 32) hx hb dX10_cell_26 (by decide) ?_
      refine lv_iload_n hx hb dX10_cell_28 rfl (lv_at hl 1 rfl) ?_
      refine lv_imul hx hb dX10_cell_29 ?_
      refine lv_topi (fun x_3 ex_3 => ?_)
      have fx_3 : x_3.toInt = 32 * p0.toInt := by rw [ex_3]; exact s_mulK i_32 (by omega) (by omega)
      refine lv_iload_n hx hb dX10_cell_30 rfl (lv_at hl 2 rfl) ?_
      refine lv_iadd hx hb dX10_cell_31 ?_
      refine lv_topi (fun x_4 ex_4 => ?_)
      have fx_4 : x_4.toInt = x_3.toInt + p1.toInt := by have h9 := s_add (x := x_3) (y := p1) (by omega) (by omega); rw [ex_4]; exact h9
      have hi_5 : vp_in x_4 64 := vp_in_iff.mpr (by omega)
      have ha_6 : va_at (DG E) vwCl (rf 4, .inl (E.2.2 0, 64, .inl (A 4))) _ := hM.2 4 (by decide) (by decide) (by decide)
      obtain ⟨n_7, hn_7, en_7⟩ := s_nat (x := x_4) (by omega)
      refine va_iald (D := DG E) hx hb hK.1 (va_one ha_6) 0 0 rfl rfl hi_5 dX10_cell_32 ?_
      refine W.eq (g2 := F0 m 33 ls [.int ((A 4) n_7)]) (by rw [en_7]) ?_
      refine lv_goto (tgt := 37) hx hb dX10_cell_33 (by decide) ?_
      exact W.iret (v := ((A 4) n_7)) hx hb hr (fun t ht hW => ⟨⟨((A 4) n_7), 0, rfl, (Or.inr (Or.inr ⟨c_1r, c_2r, x_3, ex_3, fx_3, x_4, ex_4, fx_4, n_7, hn_7, rfl, rfl, rfl, rfl⟩)), (by show MH E h0 rf t0 t1 t2 A 0 pk t.heap; rw [ht]; exact hM)⟩, hS.F ht⟩) hS.2.2 dX10_cell_37
theorem gdX10_complete_0 : (decode cX10_complete 0 = .ok (.iload_n 1, 1)) ∧ (decode cX10_complete 1 = .ok (.invokestatic 160, 3)) ∧ (decode cX10_complete 4 = .ok (.istore 6, 2)) ∧ (decode cX10_complete 6 = .ok (.aload_n 0, 1)) ∧ (decode cX10_complete 7 = .ok (.getfield 22, 3)) ∧ (decode cX10_complete 10 = .ok (.iload 6, 2)) ∧ (decode cX10_complete 12 = .ok (.iaload, 1)) ∧ (decode cX10_complete 13 = .ok (.bipush 16, 2)) ∧ (decode cX10_complete 15 = .ok (.if_icmp .ne 4, 3)) ∧ (decode cX10_complete 18 = .ok (.return_, 1)) ∧ (decode cX10_complete 19 = .ok (.bipush 80, 2)) ∧ (decode cX10_complete 21 = .ok (.iload 6, 2)) ∧ (decode cX10_complete 23 = .ok (.imul, 1)) ∧ (decode cX10_complete 24 = .ok (.iconst 5, 1)) ∧ (decode cX10_complete 25 = .ok (.aload_n 0, 1)) ∧ (decode cX10_complete 26 = .ok (.getfield 22, 3)) := by decide +kernel
theorem dX10_complete_0 : decode cX10_complete 0 = .ok (.iload_n 1, 1) := gdX10_complete_0.1
theorem dX10_complete_1 : decode cX10_complete 1 = .ok (.invokestatic 160, 3) := gdX10_complete_0.2.1
theorem dX10_complete_4 : decode cX10_complete 4 = .ok (.istore 6, 2) := gdX10_complete_0.2.2.1
theorem dX10_complete_6 : decode cX10_complete 6 = .ok (.aload_n 0, 1) := gdX10_complete_0.2.2.2.1
theorem dX10_complete_7 : decode cX10_complete 7 = .ok (.getfield 22, 3) := gdX10_complete_0.2.2.2.2.1
theorem dX10_complete_10 : decode cX10_complete 10 = .ok (.iload 6, 2) := gdX10_complete_0.2.2.2.2.2.1
theorem dX10_complete_12 : decode cX10_complete 12 = .ok (.iaload, 1) := gdX10_complete_0.2.2.2.2.2.2.1
theorem dX10_complete_13 : decode cX10_complete 13 = .ok (.bipush 16, 2) := gdX10_complete_0.2.2.2.2.2.2.2.1
theorem dX10_complete_15 : decode cX10_complete 15 = .ok (.if_icmp .ne 4, 3) := gdX10_complete_0.2.2.2.2.2.2.2.2.1
theorem dX10_complete_18 : decode cX10_complete 18 = .ok (.return_, 1) := gdX10_complete_0.2.2.2.2.2.2.2.2.2.1
theorem dX10_complete_19 : decode cX10_complete 19 = .ok (.bipush 80, 2) := gdX10_complete_0.2.2.2.2.2.2.2.2.2.2.1
theorem dX10_complete_21 : decode cX10_complete 21 = .ok (.iload 6, 2) := gdX10_complete_0.2.2.2.2.2.2.2.2.2.2.2.1
theorem dX10_complete_23 : decode cX10_complete 23 = .ok (.imul, 1) := gdX10_complete_0.2.2.2.2.2.2.2.2.2.2.2.2.1
theorem dX10_complete_24 : decode cX10_complete 24 = .ok (.iconst 5, 1) := gdX10_complete_0.2.2.2.2.2.2.2.2.2.2.2.2.2.1
theorem dX10_complete_25 : decode cX10_complete 25 = .ok (.aload_n 0, 1) := gdX10_complete_0.2.2.2.2.2.2.2.2.2.2.2.2.2.2.1
theorem dX10_complete_26 : decode cX10_complete 26 = .ok (.getfield 22, 3) := gdX10_complete_0.2.2.2.2.2.2.2.2.2.2.2.2.2.2.2
theorem gdX10_complete_29 : (decode cX10_complete 29 = .ok (.iload 6, 2)) ∧ (decode cX10_complete 31 = .ok (.iaload, 1)) ∧ (decode cX10_complete 32 = .ok (.imul, 1)) ∧ (decode cX10_complete 33 = .ok (.iadd, 1)) ∧ (decode cX10_complete 34 = .ok (.istore 7, 2)) ∧ (decode cX10_complete 36 = .ok (.aload_n 0, 1)) ∧ (decode cX10_complete 37 = .ok (.getfield 25, 3)) ∧ (decode cX10_complete 40 = .ok (.iload 7, 2)) ∧ (decode cX10_complete 42 = .ok (.iload_n 1, 1)) ∧ (decode cX10_complete 43 = .ok (.iastore, 1)) ∧ (decode cX10_complete 44 = .ok (.aload_n 0, 1)) ∧ (decode cX10_complete 45 = .ok (.getfield 25, 3)) ∧ (decode cX10_complete 48 = .ok (.iload 7, 2)) ∧ (decode cX10_complete 50 = .ok (.iconst 1, 1)) ∧ (decode cX10_complete 51 = .ok (.iadd, 1)) ∧ (decode cX10_complete 52 = .ok (.iload_n 2, 1)) := by decide +kernel
theorem dX10_complete_29 : decode cX10_complete 29 = .ok (.iload 6, 2) := gdX10_complete_29.1
theorem dX10_complete_31 : decode cX10_complete 31 = .ok (.iaload, 1) := gdX10_complete_29.2.1
theorem dX10_complete_32 : decode cX10_complete 32 = .ok (.imul, 1) := gdX10_complete_29.2.2.1
theorem dX10_complete_33 : decode cX10_complete 33 = .ok (.iadd, 1) := gdX10_complete_29.2.2.2.1
theorem dX10_complete_34 : decode cX10_complete 34 = .ok (.istore 7, 2) := gdX10_complete_29.2.2.2.2.1
theorem dX10_complete_36 : decode cX10_complete 36 = .ok (.aload_n 0, 1) := gdX10_complete_29.2.2.2.2.2.1
theorem dX10_complete_37 : decode cX10_complete 37 = .ok (.getfield 25, 3) := gdX10_complete_29.2.2.2.2.2.2.1
theorem dX10_complete_40 : decode cX10_complete 40 = .ok (.iload 7, 2) := gdX10_complete_29.2.2.2.2.2.2.2.1
theorem dX10_complete_42 : decode cX10_complete 42 = .ok (.iload_n 1, 1) := gdX10_complete_29.2.2.2.2.2.2.2.2.1
theorem dX10_complete_43 : decode cX10_complete 43 = .ok (.iastore, 1) := gdX10_complete_29.2.2.2.2.2.2.2.2.2.1
theorem dX10_complete_44 : decode cX10_complete 44 = .ok (.aload_n 0, 1) := gdX10_complete_29.2.2.2.2.2.2.2.2.2.2.1
theorem dX10_complete_45 : decode cX10_complete 45 = .ok (.getfield 25, 3) := gdX10_complete_29.2.2.2.2.2.2.2.2.2.2.2.1
theorem dX10_complete_48 : decode cX10_complete 48 = .ok (.iload 7, 2) := gdX10_complete_29.2.2.2.2.2.2.2.2.2.2.2.2.1
theorem dX10_complete_50 : decode cX10_complete 50 = .ok (.iconst 1, 1) := gdX10_complete_29.2.2.2.2.2.2.2.2.2.2.2.2.2.1
theorem dX10_complete_51 : decode cX10_complete 51 = .ok (.iadd, 1) := gdX10_complete_29.2.2.2.2.2.2.2.2.2.2.2.2.2.2.1
theorem dX10_complete_52 : decode cX10_complete 52 = .ok (.iload_n 2, 1) := gdX10_complete_29.2.2.2.2.2.2.2.2.2.2.2.2.2.2.2
theorem gdX10_complete_53 : (decode cX10_complete 53 = .ok (.iastore, 1)) ∧ (decode cX10_complete 54 = .ok (.aload_n 0, 1)) ∧ (decode cX10_complete 55 = .ok (.getfield 25, 3)) ∧ (decode cX10_complete 58 = .ok (.iload 7, 2)) ∧ (decode cX10_complete 60 = .ok (.iconst 2, 1)) ∧ (decode cX10_complete 61 = .ok (.iadd, 1)) ∧ (decode cX10_complete 62 = .ok (.iload_n 3, 1)) ∧ (decode cX10_complete 63 = .ok (.iastore, 1)) ∧ (decode cX10_complete 64 = .ok (.aload_n 0, 1)) ∧ (decode cX10_complete 65 = .ok (.getfield 25, 3)) ∧ (decode cX10_complete 68 = .ok (.iload 7, 2)) ∧ (decode cX10_complete 70 = .ok (.iconst 3, 1)) ∧ (decode cX10_complete 71 = .ok (.iadd, 1)) ∧ (decode cX10_complete 72 = .ok (.iload 4, 2)) ∧ (decode cX10_complete 74 = .ok (.iastore, 1)) ∧ (decode cX10_complete 75 = .ok (.aload_n 0, 1)) := by decide +kernel
theorem dX10_complete_53 : decode cX10_complete 53 = .ok (.iastore, 1) := gdX10_complete_53.1
theorem dX10_complete_54 : decode cX10_complete 54 = .ok (.aload_n 0, 1) := gdX10_complete_53.2.1
theorem dX10_complete_55 : decode cX10_complete 55 = .ok (.getfield 25, 3) := gdX10_complete_53.2.2.1
theorem dX10_complete_58 : decode cX10_complete 58 = .ok (.iload 7, 2) := gdX10_complete_53.2.2.2.1
theorem dX10_complete_60 : decode cX10_complete 60 = .ok (.iconst 2, 1) := gdX10_complete_53.2.2.2.2.1
theorem dX10_complete_61 : decode cX10_complete 61 = .ok (.iadd, 1) := gdX10_complete_53.2.2.2.2.2.1
theorem dX10_complete_62 : decode cX10_complete 62 = .ok (.iload_n 3, 1) := gdX10_complete_53.2.2.2.2.2.2.1
theorem dX10_complete_63 : decode cX10_complete 63 = .ok (.iastore, 1) := gdX10_complete_53.2.2.2.2.2.2.2.1
theorem dX10_complete_64 : decode cX10_complete 64 = .ok (.aload_n 0, 1) := gdX10_complete_53.2.2.2.2.2.2.2.2.1
theorem dX10_complete_65 : decode cX10_complete 65 = .ok (.getfield 25, 3) := gdX10_complete_53.2.2.2.2.2.2.2.2.2.1
theorem dX10_complete_68 : decode cX10_complete 68 = .ok (.iload 7, 2) := gdX10_complete_53.2.2.2.2.2.2.2.2.2.2.1
theorem dX10_complete_70 : decode cX10_complete 70 = .ok (.iconst 3, 1) := gdX10_complete_53.2.2.2.2.2.2.2.2.2.2.2.1
theorem dX10_complete_71 : decode cX10_complete 71 = .ok (.iadd, 1) := gdX10_complete_53.2.2.2.2.2.2.2.2.2.2.2.2.1
theorem dX10_complete_72 : decode cX10_complete 72 = .ok (.iload 4, 2) := gdX10_complete_53.2.2.2.2.2.2.2.2.2.2.2.2.2.1
theorem dX10_complete_74 : decode cX10_complete 74 = .ok (.iastore, 1) := gdX10_complete_53.2.2.2.2.2.2.2.2.2.2.2.2.2.2.1
theorem dX10_complete_75 : decode cX10_complete 75 = .ok (.aload_n 0, 1) := gdX10_complete_53.2.2.2.2.2.2.2.2.2.2.2.2.2.2.2
theorem gdX10_complete_76 : (decode cX10_complete 76 = .ok (.getfield 25, 3)) ∧ (decode cX10_complete 79 = .ok (.iload 7, 2)) ∧ (decode cX10_complete 81 = .ok (.iconst 4, 1)) ∧ (decode cX10_complete 82 = .ok (.iadd, 1)) ∧ (decode cX10_complete 83 = .ok (.iload 5, 2)) ∧ (decode cX10_complete 85 = .ok (.iastore, 1)) ∧ (decode cX10_complete 86 = .ok (.aload_n 0, 1)) ∧ (decode cX10_complete 87 = .ok (.getfield 22, 3)) ∧ (decode cX10_complete 90 = .ok (.iload 6, 2)) ∧ (decode cX10_complete 92 = .ok (.dup2, 1)) ∧ (decode cX10_complete 93 = .ok (.iaload, 1)) ∧ (decode cX10_complete 94 = .ok (.iconst 1, 1)) ∧ (decode cX10_complete 95 = .ok (.iadd, 1)) ∧ (decode cX10_complete 96 = .ok (.iastore, 1)) ∧ (decode cX10_complete 97 = .ok (.return_, 1)) := by decide +kernel
theorem dX10_complete_76 : decode cX10_complete 76 = .ok (.getfield 25, 3) := gdX10_complete_76.1
theorem dX10_complete_79 : decode cX10_complete 79 = .ok (.iload 7, 2) := gdX10_complete_76.2.1
theorem dX10_complete_81 : decode cX10_complete 81 = .ok (.iconst 4, 1) := gdX10_complete_76.2.2.1
theorem dX10_complete_82 : decode cX10_complete 82 = .ok (.iadd, 1) := gdX10_complete_76.2.2.2.1
theorem dX10_complete_83 : decode cX10_complete 83 = .ok (.iload 5, 2) := gdX10_complete_76.2.2.2.2.1
theorem dX10_complete_85 : decode cX10_complete 85 = .ok (.iastore, 1) := gdX10_complete_76.2.2.2.2.2.1
theorem dX10_complete_86 : decode cX10_complete 86 = .ok (.aload_n 0, 1) := gdX10_complete_76.2.2.2.2.2.2.1
theorem dX10_complete_87 : decode cX10_complete 87 = .ok (.getfield 22, 3) := gdX10_complete_76.2.2.2.2.2.2.2.1
theorem dX10_complete_90 : decode cX10_complete 90 = .ok (.iload 6, 2) := gdX10_complete_76.2.2.2.2.2.2.2.2.1
theorem dX10_complete_92 : decode cX10_complete 92 = .ok (.dup2, 1) := gdX10_complete_76.2.2.2.2.2.2.2.2.2.1
theorem dX10_complete_93 : decode cX10_complete 93 = .ok (.iaload, 1) := gdX10_complete_76.2.2.2.2.2.2.2.2.2.2.1
theorem dX10_complete_94 : decode cX10_complete 94 = .ok (.iconst 1, 1) := gdX10_complete_76.2.2.2.2.2.2.2.2.2.2.2.1
theorem dX10_complete_95 : decode cX10_complete 95 = .ok (.iadd, 1) := gdX10_complete_76.2.2.2.2.2.2.2.2.2.2.2.2.1
theorem dX10_complete_96 : decode cX10_complete 96 = .ok (.iastore, 1) := gdX10_complete_76.2.2.2.2.2.2.2.2.2.2.2.2.2.1
theorem dX10_complete_97 : decode cX10_complete 97 = .ok (.return_, 1) := gdX10_complete_76.2.2.2.2.2.2.2.2.2.2.2.2.2.2
set_option maxHeartbeats 8000000 in
set_option maxRecDepth 100000 in
theorem u_X10_complete (l : Launch) (E : EE) (z0 : Nat) (G : Nat → Nat) (hGz : ∀ q, G q ≠ 0 → z0 ≤ q) (h0 : Nat) (rf : Nat → Nat) (hR : MG G h0 rf) (t0 t1 t2 : Int32) (A : AA) (cd pk : Int32) (p0 : Int32) (p1 : Int32) (p2 : Int32) (p3 : Int32) (p4 : Int32) (hI3 : I3 (A 8)) (hy0 : 0 ≤ p0.toInt ∧ p0.toInt ≤ 3) : Met l yX10_complete [Cond.code yX10_complete cX10_complete 8 none] ({ frames := 1, cells := 0, slots := 0, locals := 20 } : Room) (va_Pc [.ref h0, .int p0, .int p1, .int p2, .int p3, .int p4] (fun U => MH E h0 rf t0 t1 t2 A cd pk U.heap ∧ KS E z0 U)) (va_Qv (fun (u : (Nat → Int32) × (Nat → Int32)) => (I3 (u.1)) ∧ (D_X10_complete A cd pk p0 p1 p2 p3 p4 (uA (uA A 8 (u.1)) 9 (u.2)) cd pk)) (fun u t => MH E h0 rf t0 t1 t2 (uA (uA A 8 (u.1)) 9 (u.2)) cd pk t.heap) (fun q : Nat => G q ≠ 0)) 0 0 (fun q : Nat => G q ≠ 0) := by
  refine Met.ofW (cc := cX10_complete) (maxL := 8) (ret := none) (by decide) rfl ?_
  intro p e s m args below meth c s₁ B hml hv
  obtain ⟨rfl, hM, hK⟩ := hv
  have hx := B.exec
  have hb := B.bytes
  have hr := B.returns
  have hts : ∀ w ∈ TS, w.before ([.ref h0, .int p0, .int p1, .int p2, .int p3, .int p4] : List Value).toArray s = true := fun w hw => hK.2.1 w hw _
  have hown : s.vm.findClass RX10 = some m.cls := findClass_of_methodNamed B.named
  have hlocks := B.notSynchronized
  have hS : va_S (fun q : Nat => G q ≠ 0) s.heap s.heap [] := va_S.rf
  have hAz : ∀ q, (fun q : Nat => G q ≠ 0) q → z0 ≤ q := hGz
  have hl := lv_entry ([.ref h0, .int p0, .int p1, .int p2, .int p3, .int p4]) (n := 8) (Nat.le_of_ble_eq_true rfl)
  rw [lg_entry_eq]
  generalize (lg_sl ([.ref h0, .int p0, .int p1, .int p2, .int p3, .int p4]) ++ List.replicate (8 - (lg_sl ([.ref h0, .int p0, .int p1, .int p2, .int p3, .int p4])).length) Slot.unset).toArray = ls at hl ⊢
  have hl : lv_has ls 8 [(0, .ref h0), (1, .int p0), (2, .int p1), (3, .int p2), (4, .int p3), (5, .int p4)] := hl
  refine lv_iload_n hx hb dX10_complete_0 rfl (lv_at hl 1 rfl) ?_
  refine W.callR (W.runS (As := [.int p0]) (rest := []) ⟨hx, hb, hml, hown, hts⟩ (c_X10_nodeOf l p0) (cwS 1 hts (gdS ml_X10_160 st_X10_nodeOf in_X10 co_X10_nodeOf rfl) rfl rfl rfl (by decide +kernel) ⟨Nat.le_of_ble_eq_true rfl, Nat.le_of_ble_eq_true rfl⟩) preEq rfl rfl hl.1 rfl (lv_room (Nat.le_of_ble_eq_true rfl)) dX10_complete_1 ⟨Nat.le_of_ble_eq_true rfl, Nat.le_of_ble_eq_true rfl⟩) ?_
  refine W.eq (g2 := F0 m 4 ls [.int (p0 - p0 / 2 * 2)]) (by rfl) ?_
  refine lv_topi (fun x_1 ex_1 => ?_)
  have fx_1 : x_1.toInt = p0.toInt % 2 := by rw [ex_1]; exact s_rem (x := p0) 2 (by decide) (by decide) (by omega)
  refine lv_istore (lv' := [(6, .int x_1), (0, .ref h0), (1, .int p0), (2, .int p1), (3, .int p2), (4, .int p3), (5, .int p4)]) hx hb dX10_complete_4 hl (by decide) rfl (fun ls hl => ?_)
  refine lv_aload_n hx hb dX10_complete_6 rfl (lv_at hl 1 rfl) ?_
  refine va_get (D := DG E) (ci := 10) (v := .ref (rf 8)) (C := RX10) (T := TX10) (N := 49) hx hb hts iw_X10 hown hK.1 (va_one hM.1) 0 rfl rfl 8 (by decide) (hts _ fl_X10_22) (fun _ h9 => h9) rfl dX10_complete_7 ?_
  refine lv_iload hx hb dX10_complete_10 (lv_at hl 0 rfl) ?_
  have hi_2 : vp_in x_1 2 := vp_in_iff.mpr (by omega)
  have ha_3 : va_at (DG E) vwCl (rf 8, .inl (E.2.2 0, 2, .inl (A 8))) _ := hM.2 8 (by decide) (by decide) (by decide)
  obtain ⟨n_4, hn_4, en_4⟩ := s_nat (x := x_1) (by omega)
  refine va_iald (D := DG E) hx hb hK.1 (va_one ha_3) 0 0 rfl rfl hi_2 dX10_complete_12 ?_
  refine W.eq (g2 := F0 m 13 ls [.int ((A 8) n_4)]) (by rw [en_4]) ?_
  have hk_5 : n_4 < 2 := by omega
  have q_6 : 0 ≤ ((A 8) n_4).toInt := (hI3 n_4 hk_5).1
  have q_7 : ((A 8) n_4).toInt ≤ 16 := (hI3 n_4 hk_5).2
  refine lv_bipush (v := 16) hx hb dX10_complete_13 (by decide) ?_
  refine lv_icmp_ne (tgt := 19) hx hb dX10_complete_15 (by decide) (fun c_8 => ?_) (fun c_8 => ?_)
  · simp only [lt_I, le_I, eq_I, i_0, i_1, i_2, i_3, i_4, i_5, i_6, i_7, i_8, i_10, i_12, i_16, i_20, i_23, i_24, i_31, i_32, i_63, i_64, i_m1, i_9, i_11, i_13, i_25, i_60, i_75, i_79, i_80, i_96, i_100] at c_8
    refine lv_bipush (v := 80) hx hb dX10_complete_19 (by decide) ?_
    refine lv_iload hx hb dX10_complete_21 (lv_at hl 0 rfl) ?_
    refine lv_imul hx hb dX10_complete_23 ?_
    refine lv_topi (fun x_9 ex_9 => ?_)
    have fx_9 : x_9.toInt = 80 * x_1.toInt := by rw [ex_9]; exact s_mulK i_80 (by omega) (by omega)
    refine lv_iconst (v := 5) hx hb dX10_complete_24 (by decide) ?_
    refine lv_aload_n hx hb dX10_complete_25 rfl (lv_at hl 1 rfl) ?_
    refine va_get (D := DG E) (ci := 10) (v := .ref (rf 8)) (C := RX10) (T := TX10) (N := 49) hx hb hts iw_X10 hown hK.1 (va_one hM.1) 0 rfl rfl 8 (by decide) (hts _ fl_X10_22) (fun _ h9 => h9) rfl dX10_complete_26 ?_
    refine lv_iload hx hb dX10_complete_29 (lv_at hl 0 rfl) ?_
    have ha_10 : va_at (DG E) vwCl (rf 8, .inl (E.2.2 0, 2, .inl (A 8))) _ := hM.2 8 (by decide) (by decide) (by decide)
    refine va_iald (D := DG E) hx hb hK.1 (va_one ha_10) 0 0 rfl rfl hi_2 dX10_complete_31 ?_
    refine W.eq (g2 := F0 m 32 ls [.int ((A 8) n_4), .int 5, .int x_9]) (by rw [en_4]) ?_
    refine lv_imul hx hb dX10_complete_32 ?_
    refine lv_topi (fun x_11 ex_11 => ?_)
    have fx_11 : x_11.toInt = 5 * ((A 8) n_4).toInt := by rw [ex_11]; exact s_mulK i_5 (by omega) (by omega)
    refine lv_iadd hx hb dX10_complete_33 ?_
    refine lv_topi (fun x_12 ex_12 => ?_)
    have fx_12 : x_12.toInt = x_9.toInt + x_11.toInt := by have h9 := s_add (x := x_9) (y := x_11) (by omega) (by omega); rw [ex_12]; exact h9
    refine lv_istore (lv' := [(7, .int x_12), (6, .int x_1), (0, .ref h0), (1, .int p0), (2, .int p1), (3, .int p2), (4, .int p3), (5, .int p4)]) hx hb dX10_complete_34 hl (by decide) rfl (fun ls hl => ?_)
    refine lv_aload_n hx hb dX10_complete_36 rfl (lv_at hl 2 rfl) ?_
    refine va_get (D := DG E) (ci := 10) (v := .ref (rf 9)) (C := RX10) (T := TX10) (N := 49) hx hb hts iw_X10 hown hK.1 (va_one hM.1) 0 rfl rfl 9 (by decide) (hts _ fl_X10_25) (fun _ h9 => h9) rfl dX10_complete_37 ?_
    refine lv_iload hx hb dX10_complete_40 (lv_at hl 0 rfl) ?_
    refine lv_iload_n hx hb dX10_complete_42 rfl (lv_at hl 3 rfl) ?_
    have hi_13 : vp_in x_12 160 := vp_in_iff.mpr (by omega)
    have ha_14 : va_at (DG E) vwCl (rf 9, .inl (E.2.2 0, 160, .inl (A 9))) _ := hM.2 9 (by decide) (by decide) (by decide)
    obtain ⟨n_15, hn_15, en_15⟩ := s_nat (x := x_12) (by omega)
    refine rr_iast (D := DG E) hx hb hK.1 0 ha_14 hS (by show G (rf 9) ≠ 0; rw [hR.2 9 (by decide) (by decide) (by decide)]; decide) rfl hi_13 dX10_complete_43 (fun H locs hn ho hz hS => ?_)
    rw [en_15] at hn
    obtain ⟨g_14, eg_14⟩ : ∃ z : Nat → Int32, z = upd (A 9) n_15 p0 := ⟨_, rfl⟩
    have sg_14 : g_14 n_15 = p0 := by rw [eg_14]; exact upd_s
    have ng_14 : ∀ k, k ≠ n_15 → g_14 k = (A 9) k := fun k hk => by rw [eg_14]; exact upd_n hk
    have hn : va_at (DG E) vwCl (rf 9, .inl (E.2.2 0, 160, .inl g_14)) H := by rw [eg_14]; exact hn
    have hM : MH E h0 rf t0 t1 t2 (uA A 9 g_14) cd pk H := hM.w hR 9 (by decide) (by decide) (by decide) hn ho
    refine lv_aload_n hx hb dX10_complete_44 rfl (lv_at hl 2 rfl) ?_
    refine va_get (D := DG E) (ci := 10) (v := .ref (rf 9)) (C := RX10) (T := TX10) (N := 49) hx hb hts iw_X10 hown hK.1 (va_one hM.1) 0 rfl rfl 9 (by decide) (hts _ fl_X10_25) (fun _ h9 => h9) rfl dX10_complete_45 ?_
    refine lv_iload hx hb dX10_complete_48 (lv_at hl 0 rfl) ?_
    refine lv_iconst (v := 1) hx hb dX10_complete_50 (by decide) ?_
    refine lv_iadd hx hb dX10_complete_51 ?_
    refine lv_topi (fun x_16 ex_16 => ?_)
    have fx_16 : x_16.toInt = x_12.toInt + 1 := by have h9 := s_add (x := x_12) (y := 1) (by rw [i_1]; omega) (by rw [i_1]; omega); rw [i_1] at h9; rw [ex_16]; exact h9
    refine lv_iload_n hx hb dX10_complete_52 rfl (lv_at hl 4 rfl) ?_
    have hi_17 : vp_in x_16 160 := vp_in_iff.mpr (by omega)
    have ha_18 : va_at (DG E) vwCl (rf 9, .inl (E.2.2 0, 160, .inl g_14)) _ := hM.2 9 (by decide) (by decide) (by decide)
    obtain ⟨n_19, hn_19, en_19⟩ := s_nat (x := x_16) (by omega)
    refine rr_iast (D := DG E) hx hb hK.1 0 ha_18 hS (by show G (rf 9) ≠ 0; rw [hR.2 9 (by decide) (by decide) (by decide)]; decide) rfl hi_17 dX10_complete_53 (fun H locs hn ho hz hS => ?_)
    rw [en_19] at hn
    obtain ⟨g_18, eg_18⟩ : ∃ z : Nat → Int32, z = upd g_14 n_19 p1 := ⟨_, rfl⟩
    have sg_18 : g_18 n_19 = p1 := by rw [eg_18]; exact upd_s
    have ng_18 : ∀ k, k ≠ n_19 → g_18 k = g_14 k := fun k hk => by rw [eg_18]; exact upd_n hk
    have hn : va_at (DG E) vwCl (rf 9, .inl (E.2.2 0, 160, .inl g_18)) H := by rw [eg_18]; exact hn
    have hM : MH E h0 rf t0 t1 t2 (uA (uA A 9 g_14) 9 g_18) cd pk H := hM.w hR 9 (by decide) (by decide) (by decide) hn ho
    refine lv_aload_n hx hb dX10_complete_54 rfl (lv_at hl 2 rfl) ?_
    refine va_get (D := DG E) (ci := 10) (v := .ref (rf 9)) (C := RX10) (T := TX10) (N := 49) hx hb hts iw_X10 hown hK.1 (va_one hM.1) 0 rfl rfl 9 (by decide) (hts _ fl_X10_25) (fun _ h9 => h9) rfl dX10_complete_55 ?_
    refine lv_iload hx hb dX10_complete_58 (lv_at hl 0 rfl) ?_
    refine lv_iconst (v := 2) hx hb dX10_complete_60 (by decide) ?_
    refine lv_iadd hx hb dX10_complete_61 ?_
    refine lv_topi (fun x_20 ex_20 => ?_)
    have fx_20 : x_20.toInt = x_12.toInt + 2 := by have h9 := s_add (x := x_12) (y := 2) (by rw [i_2]; omega) (by rw [i_2]; omega); rw [i_2] at h9; rw [ex_20]; exact h9
    refine lv_iload_n hx hb dX10_complete_62 rfl (lv_at hl 5 rfl) ?_
    have hi_21 : vp_in x_20 160 := vp_in_iff.mpr (by omega)
    have ha_22 : va_at (DG E) vwCl (rf 9, .inl (E.2.2 0, 160, .inl g_18)) _ := hM.2 9 (by decide) (by decide) (by decide)
    obtain ⟨n_23, hn_23, en_23⟩ := s_nat (x := x_20) (by omega)
    refine rr_iast (D := DG E) hx hb hK.1 0 ha_22 hS (by show G (rf 9) ≠ 0; rw [hR.2 9 (by decide) (by decide) (by decide)]; decide) rfl hi_21 dX10_complete_63 (fun H locs hn ho hz hS => ?_)
    rw [en_23] at hn
    obtain ⟨g_22, eg_22⟩ : ∃ z : Nat → Int32, z = upd g_18 n_23 p2 := ⟨_, rfl⟩
    have sg_22 : g_22 n_23 = p2 := by rw [eg_22]; exact upd_s
    have ng_22 : ∀ k, k ≠ n_23 → g_22 k = g_18 k := fun k hk => by rw [eg_22]; exact upd_n hk
    have hn : va_at (DG E) vwCl (rf 9, .inl (E.2.2 0, 160, .inl g_22)) H := by rw [eg_22]; exact hn
    have hM : MH E h0 rf t0 t1 t2 (uA (uA (uA A 9 g_14) 9 g_18) 9 g_22) cd pk H := hM.w hR 9 (by decide) (by decide) (by decide) hn ho
    refine lv_aload_n hx hb dX10_complete_64 rfl (lv_at hl 2 rfl) ?_
    refine va_get (D := DG E) (ci := 10) (v := .ref (rf 9)) (C := RX10) (T := TX10) (N := 49) hx hb hts iw_X10 hown hK.1 (va_one hM.1) 0 rfl rfl 9 (by decide) (hts _ fl_X10_25) (fun _ h9 => h9) rfl dX10_complete_65 ?_
    refine lv_iload hx hb dX10_complete_68 (lv_at hl 0 rfl) ?_
    refine lv_iconst (v := 3) hx hb dX10_complete_70 (by decide) ?_
    refine lv_iadd hx hb dX10_complete_71 ?_
    refine lv_topi (fun x_24 ex_24 => ?_)
    have fx_24 : x_24.toInt = x_12.toInt + 3 := by have h9 := s_add (x := x_12) (y := 3) (by rw [i_3]; omega) (by rw [i_3]; omega); rw [i_3] at h9; rw [ex_24]; exact h9
    refine lv_iload hx hb dX10_complete_72 (lv_at hl 6 rfl) ?_
    have hi_25 : vp_in x_24 160 := vp_in_iff.mpr (by omega)
    have ha_26 : va_at (DG E) vwCl (rf 9, .inl (E.2.2 0, 160, .inl g_22)) _ := hM.2 9 (by decide) (by decide) (by decide)
    obtain ⟨n_27, hn_27, en_27⟩ := s_nat (x := x_24) (by omega)
    refine rr_iast (D := DG E) hx hb hK.1 0 ha_26 hS (by show G (rf 9) ≠ 0; rw [hR.2 9 (by decide) (by decide) (by decide)]; decide) rfl hi_25 dX10_complete_74 (fun H locs hn ho hz hS => ?_)
    rw [en_27] at hn
    obtain ⟨g_26, eg_26⟩ : ∃ z : Nat → Int32, z = upd g_22 n_27 p3 := ⟨_, rfl⟩
    have sg_26 : g_26 n_27 = p3 := by rw [eg_26]; exact upd_s
    have ng_26 : ∀ k, k ≠ n_27 → g_26 k = g_22 k := fun k hk => by rw [eg_26]; exact upd_n hk
    have hn : va_at (DG E) vwCl (rf 9, .inl (E.2.2 0, 160, .inl g_26)) H := by rw [eg_26]; exact hn
    have hM : MH E h0 rf t0 t1 t2 (uA (uA (uA (uA A 9 g_14) 9 g_18) 9 g_22) 9 g_26) cd pk H := hM.w hR 9 (by decide) (by decide) (by decide) hn ho
    refine lv_aload_n hx hb dX10_complete_75 rfl (lv_at hl 2 rfl) ?_
    refine va_get (D := DG E) (ci := 10) (v := .ref (rf 9)) (C := RX10) (T := TX10) (N := 49) hx hb hts iw_X10 hown hK.1 (va_one hM.1) 0 rfl rfl 9 (by decide) (hts _ fl_X10_25) (fun _ h9 => h9) rfl dX10_complete_76 ?_
    refine lv_iload hx hb dX10_complete_79 (lv_at hl 0 rfl) ?_
    refine lv_iconst (v := 4) hx hb dX10_complete_81 (by decide) ?_
    refine lv_iadd hx hb dX10_complete_82 ?_
    refine lv_topi (fun x_28 ex_28 => ?_)
    have fx_28 : x_28.toInt = x_12.toInt + 4 := by have h9 := s_add (x := x_12) (y := 4) (by rw [i_4]; omega) (by rw [i_4]; omega); rw [i_4] at h9; rw [ex_28]; exact h9
    refine lv_iload hx hb dX10_complete_83 (lv_at hl 7 rfl) ?_
    have hi_29 : vp_in x_28 160 := vp_in_iff.mpr (by omega)
    have ha_30 : va_at (DG E) vwCl (rf 9, .inl (E.2.2 0, 160, .inl g_26)) _ := hM.2 9 (by decide) (by decide) (by decide)
    obtain ⟨n_31, hn_31, en_31⟩ := s_nat (x := x_28) (by omega)
    refine rr_iast (D := DG E) hx hb hK.1 0 ha_30 hS (by show G (rf 9) ≠ 0; rw [hR.2 9 (by decide) (by decide) (by decide)]; decide) rfl hi_29 dX10_complete_85 (fun H locs hn ho hz hS => ?_)
    rw [en_31] at hn
    obtain ⟨g_30, eg_30⟩ : ∃ z : Nat → Int32, z = upd g_26 n_31 p4 := ⟨_, rfl⟩
    have sg_30 : g_30 n_31 = p4 := by rw [eg_30]; exact upd_s
    have ng_30 : ∀ k, k ≠ n_31 → g_30 k = g_26 k := fun k hk => by rw [eg_30]; exact upd_n hk
    have hn : va_at (DG E) vwCl (rf 9, .inl (E.2.2 0, 160, .inl g_30)) H := by rw [eg_30]; exact hn
    have hM : MH E h0 rf t0 t1 t2 (uA (uA (uA (uA (uA A 9 g_14) 9 g_18) 9 g_22) 9 g_26) 9 g_30) cd pk H := hM.w hR 9 (by decide) (by decide) (by decide) hn ho
    refine lv_aload_n hx hb dX10_complete_86 rfl (lv_at hl 2 rfl) ?_
    refine va_get (D := DG E) (ci := 10) (v := .ref (rf 8)) (C := RX10) (T := TX10) (N := 49) hx hb hts iw_X10 hown hK.1 (va_one hM.1) 0 rfl rfl 8 (by decide) (hts _ fl_X10_22) (fun _ h9 => h9) rfl dX10_complete_87 ?_
    refine lv_iload hx hb dX10_complete_90 (lv_at hl 1 rfl) ?_
    refine lv_dup2_11 hx hb dX10_complete_92 rfl rfl ?_
    have ha_32 : va_at (DG E) vwCl (rf 8, .inl (E.2.2 0, 2, .inl (A 8))) _ := hM.2 8 (by decide) (by decide) (by decide)
    refine va_iald (D := DG E) hx hb hK.1 (va_one ha_32) 0 0 rfl rfl hi_2 dX10_complete_93 ?_
    refine W.eq (g2 := F0 m 94 ls [.int ((A 8) n_4), .int x_1, .ref (rf 8)]) (by rw [en_4]) ?_
    refine lv_iconst (v := 1) hx hb dX10_complete_94 (by decide) ?_
    refine lv_iadd hx hb dX10_complete_95 ?_
    refine lv_topi (fun x_33 ex_33 => ?_)
    have fx_33 : x_33.toInt = ((A 8) n_4).toInt + 1 := by have h9 := s_add (x := ((A 8) n_4)) (y := 1) (by rw [i_1]; omega) (by rw [i_1]; omega); rw [i_1] at h9; rw [ex_33]; exact h9
    have ha_34 : va_at (DG E) vwCl (rf 8, .inl (E.2.2 0, 2, .inl (A 8))) _ := hM.2 8 (by decide) (by decide) (by decide)
    refine rr_iast (D := DG E) hx hb hK.1 0 ha_34 hS (by show G (rf 8) ≠ 0; rw [hR.2 8 (by decide) (by decide) (by decide)]; decide) rfl hi_2 dX10_complete_96 (fun H locs hn ho hz hS => ?_)
    rw [en_4] at hn
    obtain ⟨g_34, eg_34⟩ : ∃ z : Nat → Int32, z = upd (A 8) n_4 x_33 := ⟨_, rfl⟩
    have sg_34 : g_34 n_4 = x_33 := by rw [eg_34]; exact upd_s
    have ng_34 : ∀ k, k ≠ n_4 → g_34 k = (A 8) k := fun k hk => by rw [eg_34]; exact upd_n hk
    have hn : va_at (DG E) vwCl (rf 8, .inl (E.2.2 0, 2, .inl g_34)) H := by rw [eg_34]; exact hn
    have hM : MH E h0 rf t0 t1 t2 (uA (uA (uA (uA (uA (uA A 9 g_14) 9 g_18) 9 g_22) 9 g_26) 9 g_30) 8 g_34) cd pk H := hM.w hR 8 (by decide) (by decide) (by decide) hn ho
    have hI3_35 : I3 g_34 := by
      intro n9 hn9
      have h9 : 0 ≤ ((A 8) n9).toInt ∧ ((A 8) n9).toInt ≤ 16 := hI3 n9 hn9
      show 0 ≤ (g_34 n9).toInt ∧ (g_34 n9).toInt ≤ 16
      by_cases ezn_4 : n9 = n_4
      · rw [ezn_4] at h9 ⊢
        rw [sg_34]
        clear h9
        exact ⟨by omega, by omega⟩
      · rw [ng_34 n9 ezn_4]
        exact h9
    exact W.vret hx hb hr (fun t ht hW => ⟨⟨(g_34, g_30), rfl, ⟨hI3_35, (Or.inl ⟨x_1, ex_1, fx_1, n_4, hn_4, c_8, x_9, ex_9, fx_9, x_11, ex_11, fx_11, x_12, ex_12, fx_12, n_15, hn_15, g_14, eg_14, x_16, ex_16, fx_16, n_19, hn_19, g_18, eg_18, x_20, ex_20, fx_20, n_23, hn_23, g_22, eg_22, x_24, ex_24, fx_24, n_27, hn_27, g_26, eg_26, x_28, ex_28, fx_28, n_31, hn_31, g_30, eg_30, x_33, ex_33, fx_33, g_34, eg_34, rfl, rfl, rfl⟩)⟩, (by show MH E h0 rf t0 t1 t2 (uA (uA A 8 g_34) 9 g_30) cd pk t.heap; rw [ht]; exact hM.cge (funext fun j => (cgj j 9 rfl (fun a0 => (cgj j 8 rfl (fun a1 => (by simp only [uA_n a0, uA_n a1])))))))⟩, hS.F ht⟩) hS.2.2 dX10_complete_97
  · simp only [lt_I, le_I, eq_I, i_0, i_1, i_2, i_3, i_4, i_5, i_6, i_7, i_8, i_10, i_12, i_16, i_20, i_23, i_24, i_31, i_32, i_63, i_64, i_m1, i_9, i_11, i_13, i_25, i_60, i_75, i_79, i_80, i_96, i_100] at c_8
    exact W.vret hx hb hr (fun t ht hW => ⟨⟨((A 8), (A 9)), rfl, ⟨hI3, (Or.inr ⟨x_1, ex_1, fx_1, n_4, hn_4, c_8, rfl, rfl, rfl⟩)⟩, (by show MH E h0 rf t0 t1 t2 (uA (uA A 8 (A 8)) 9 (A 9)) cd pk t.heap; rw [ht]; exact hM.cge (funext fun j => (cgj j 9 rfl (fun a0 => (cgj j 8 rfl (fun a1 => (by simp only [uA_n a0, uA_n a1])))))))⟩, hS.F ht⟩) hS.2.2 dX10_complete_18
theorem gdX10_allows_0 : (decode cX10_allows 0 = .ok (.bipush 6, 2)) ∧ (decode cX10_allows 2 = .ok (.iload_n 1, 1)) ∧ (decode cX10_allows 3 = .ok (.invokestatic 160, 3)) ∧ (decode cX10_allows 6 = .ok (.imul, 1)) ∧ (decode cX10_allows 7 = .ok (.iload_n 2, 1)) ∧ (decode cX10_allows 8 = .ok (.iadd, 1)) ∧ (decode cX10_allows 9 = .ok (.istore 6, 2)) ∧ (decode cX10_allows 11 = .ok (.aload_n 0, 1)) ∧ (decode cX10_allows 12 = .ok (.getfield 19, 3)) ∧ (decode cX10_allows 15 = .ok (.iload 6, 2)) ∧ (decode cX10_allows 17 = .ok (.iaload, 1)) ∧ (decode cX10_allows 18 = .ok (.iload 5, 2)) ∧ (decode cX10_allows 20 = .ok (.idiv, 1)) ∧ (decode cX10_allows 21 = .ok (.iconst 2, 1)) ∧ (decode cX10_allows 22 = .ok (.irem, 1)) ∧ (decode cX10_allows 23 = .ok (.iconst 1, 1)) := by decide +kernel
theorem dX10_allows_0 : decode cX10_allows 0 = .ok (.bipush 6, 2) := gdX10_allows_0.1
theorem dX10_allows_2 : decode cX10_allows 2 = .ok (.iload_n 1, 1) := gdX10_allows_0.2.1
theorem dX10_allows_3 : decode cX10_allows 3 = .ok (.invokestatic 160, 3) := gdX10_allows_0.2.2.1
theorem dX10_allows_6 : decode cX10_allows 6 = .ok (.imul, 1) := gdX10_allows_0.2.2.2.1
theorem dX10_allows_7 : decode cX10_allows 7 = .ok (.iload_n 2, 1) := gdX10_allows_0.2.2.2.2.1
theorem dX10_allows_8 : decode cX10_allows 8 = .ok (.iadd, 1) := gdX10_allows_0.2.2.2.2.2.1
theorem dX10_allows_9 : decode cX10_allows 9 = .ok (.istore 6, 2) := gdX10_allows_0.2.2.2.2.2.2.1
theorem dX10_allows_11 : decode cX10_allows 11 = .ok (.aload_n 0, 1) := gdX10_allows_0.2.2.2.2.2.2.2.1
theorem dX10_allows_12 : decode cX10_allows 12 = .ok (.getfield 19, 3) := gdX10_allows_0.2.2.2.2.2.2.2.2.1
theorem dX10_allows_15 : decode cX10_allows 15 = .ok (.iload 6, 2) := gdX10_allows_0.2.2.2.2.2.2.2.2.2.1
theorem dX10_allows_17 : decode cX10_allows 17 = .ok (.iaload, 1) := gdX10_allows_0.2.2.2.2.2.2.2.2.2.2.1
theorem dX10_allows_18 : decode cX10_allows 18 = .ok (.iload 5, 2) := gdX10_allows_0.2.2.2.2.2.2.2.2.2.2.2.1
theorem dX10_allows_20 : decode cX10_allows 20 = .ok (.idiv, 1) := gdX10_allows_0.2.2.2.2.2.2.2.2.2.2.2.2.1
theorem dX10_allows_21 : decode cX10_allows 21 = .ok (.iconst 2, 1) := gdX10_allows_0.2.2.2.2.2.2.2.2.2.2.2.2.2.1
theorem dX10_allows_22 : decode cX10_allows 22 = .ok (.irem, 1) := gdX10_allows_0.2.2.2.2.2.2.2.2.2.2.2.2.2.2.1
theorem dX10_allows_23 : decode cX10_allows 23 = .ok (.iconst 1, 1) := gdX10_allows_0.2.2.2.2.2.2.2.2.2.2.2.2.2.2.2
theorem gdX10_allows_24 : (decode cX10_allows 24 = .ok (.if_icmp .ne 7, 3)) ∧ (decode cX10_allows 27 = .ok (.iconst 1, 1)) ∧ (decode cX10_allows 28 = .ok (.goto 4, 3)) ∧ (decode cX10_allows 31 = .ok (.iconst 0, 1)) ∧ (decode cX10_allows 32 = .ok (.istore 7, 2)) ∧ (decode cX10_allows 34 = .ok (.iload 7, 2)) ∧ (decode cX10_allows 36 = .ok (.ifCond .eq 40, 3)) ∧ (decode cX10_allows 39 = .ok (.iload_n 3, 1)) ∧ (decode cX10_allows 40 = .ok (.aload_n 0, 1)) ∧ (decode cX10_allows 41 = .ok (.getfield 13, 3)) ∧ (decode cX10_allows 44 = .ok (.iload 6, 2)) ∧ (decode cX10_allows 46 = .ok (.iaload, 1)) ∧ (decode cX10_allows 47 = .ok (.if_icmp .lt 29, 3)) ∧ (decode cX10_allows 50 = .ok (.iload_n 3, 1)) ∧ (decode cX10_allows 51 = .ok (.iload 4, 2)) ∧ (decode cX10_allows 53 = .ok (.iadd, 1)) := by decide +kernel
theorem dX10_allows_24 : decode cX10_allows 24 = .ok (.if_icmp .ne 7, 3) := gdX10_allows_24.1
theorem dX10_allows_27 : decode cX10_allows 27 = .ok (.iconst 1, 1) := gdX10_allows_24.2.1
theorem dX10_allows_28 : decode cX10_allows 28 = .ok (.goto 4, 3) := gdX10_allows_24.2.2.1
theorem dX10_allows_31 : decode cX10_allows 31 = .ok (.iconst 0, 1) := gdX10_allows_24.2.2.2.1
theorem dX10_allows_32 : decode cX10_allows 32 = .ok (.istore 7, 2) := gdX10_allows_24.2.2.2.2.1
theorem dX10_allows_34 : decode cX10_allows 34 = .ok (.iload 7, 2) := gdX10_allows_24.2.2.2.2.2.1
theorem dX10_allows_36 : decode cX10_allows 36 = .ok (.ifCond .eq 40, 3) := gdX10_allows_24.2.2.2.2.2.2.1
theorem dX10_allows_39 : decode cX10_allows 39 = .ok (.iload_n 3, 1) := gdX10_allows_24.2.2.2.2.2.2.2.1
theorem dX10_allows_40 : decode cX10_allows 40 = .ok (.aload_n 0, 1) := gdX10_allows_24.2.2.2.2.2.2.2.2.1
theorem dX10_allows_41 : decode cX10_allows 41 = .ok (.getfield 13, 3) := gdX10_allows_24.2.2.2.2.2.2.2.2.2.1
theorem dX10_allows_44 : decode cX10_allows 44 = .ok (.iload 6, 2) := gdX10_allows_24.2.2.2.2.2.2.2.2.2.2.1
theorem dX10_allows_46 : decode cX10_allows 46 = .ok (.iaload, 1) := gdX10_allows_24.2.2.2.2.2.2.2.2.2.2.2.1
theorem dX10_allows_47 : decode cX10_allows 47 = .ok (.if_icmp .lt 29, 3) := gdX10_allows_24.2.2.2.2.2.2.2.2.2.2.2.2.1
theorem dX10_allows_50 : decode cX10_allows 50 = .ok (.iload_n 3, 1) := gdX10_allows_24.2.2.2.2.2.2.2.2.2.2.2.2.2.1
theorem dX10_allows_51 : decode cX10_allows 51 = .ok (.iload 4, 2) := gdX10_allows_24.2.2.2.2.2.2.2.2.2.2.2.2.2.2.1
theorem dX10_allows_53 : decode cX10_allows 53 = .ok (.iadd, 1) := gdX10_allows_24.2.2.2.2.2.2.2.2.2.2.2.2.2.2.2
theorem gdX10_allows_54 : (decode cX10_allows 54 = .ok (.aload_n 0, 1)) ∧ (decode cX10_allows 55 = .ok (.getfield 13, 3)) ∧ (decode cX10_allows 58 = .ok (.iload 6, 2)) ∧ (decode cX10_allows 60 = .ok (.iaload, 1)) ∧ (decode cX10_allows 61 = .ok (.aload_n 0, 1)) ∧ (decode cX10_allows 62 = .ok (.getfield 16, 3)) ∧ (decode cX10_allows 65 = .ok (.iload 6, 2)) ∧ (decode cX10_allows 67 = .ok (.iaload, 1)) ∧ (decode cX10_allows 68 = .ok (.iadd, 1)) ∧ (decode cX10_allows 69 = .ok (.if_icmp .gt 7, 3)) ∧ (decode cX10_allows 72 = .ok (.iconst 1, 1)) ∧ (decode cX10_allows 73 = .ok (.goto 4, 3)) ∧ (decode cX10_allows 76 = .ok (.iconst 0, 1)) ∧ (decode cX10_allows 77 = .ok (.ireturn, 1)) := by decide +kernel
theorem dX10_allows_54 : decode cX10_allows 54 = .ok (.aload_n 0, 1) := gdX10_allows_54.1
theorem dX10_allows_55 : decode cX10_allows 55 = .ok (.getfield 13, 3) := gdX10_allows_54.2.1
theorem dX10_allows_58 : decode cX10_allows 58 = .ok (.iload 6, 2) := gdX10_allows_54.2.2.1
theorem dX10_allows_60 : decode cX10_allows 60 = .ok (.iaload, 1) := gdX10_allows_54.2.2.2.1
theorem dX10_allows_61 : decode cX10_allows 61 = .ok (.aload_n 0, 1) := gdX10_allows_54.2.2.2.2.1
theorem dX10_allows_62 : decode cX10_allows 62 = .ok (.getfield 16, 3) := gdX10_allows_54.2.2.2.2.2.1
theorem dX10_allows_65 : decode cX10_allows 65 = .ok (.iload 6, 2) := gdX10_allows_54.2.2.2.2.2.2.1
theorem dX10_allows_67 : decode cX10_allows 67 = .ok (.iaload, 1) := gdX10_allows_54.2.2.2.2.2.2.2.1
theorem dX10_allows_68 : decode cX10_allows 68 = .ok (.iadd, 1) := gdX10_allows_54.2.2.2.2.2.2.2.2.1
theorem dX10_allows_69 : decode cX10_allows 69 = .ok (.if_icmp .gt 7, 3) := gdX10_allows_54.2.2.2.2.2.2.2.2.2.1
theorem dX10_allows_72 : decode cX10_allows 72 = .ok (.iconst 1, 1) := gdX10_allows_54.2.2.2.2.2.2.2.2.2.2.1
theorem dX10_allows_73 : decode cX10_allows 73 = .ok (.goto 4, 3) := gdX10_allows_54.2.2.2.2.2.2.2.2.2.2.2.1
theorem dX10_allows_76 : decode cX10_allows 76 = .ok (.iconst 0, 1) := gdX10_allows_54.2.2.2.2.2.2.2.2.2.2.2.2.1
theorem dX10_allows_77 : decode cX10_allows 77 = .ok (.ireturn, 1) := gdX10_allows_54.2.2.2.2.2.2.2.2.2.2.2.2.2
set_option maxHeartbeats 8000000 in
set_option maxRecDepth 100000 in
theorem u_X10_allows (l : Launch) (E : EE) (z0 : Nat) (G : Nat → Nat) (hGz : ∀ q, G q ≠ 0 → z0 ≤ q) (h0 : Nat) (rf : Nat → Nat) (hR : MG G h0 rf) (t0 t1 t2 : Int32) (A : AA) (cd pk : Int32) (p0 : Int32) (p1 : Int32) (p2 : Int32) (p3 : Int32) (p4 : Int32) (hI2 : I2 (A 5) (A 6)) (hy0 : 0 ≤ p0.toInt ∧ p0.toInt ≤ 3) (hy1 : 0 ≤ p1.toInt ∧ p1.toInt ≤ 5) (hy2 : -1 ≤ p2.toInt ∧ p2.toInt ≤ 60) (hy3 : 0 ≤ p3.toInt ∧ p3.toInt ≤ 12) (hy4 : ¬ p4 = 0) : Met l yX10_allows [Cond.code yX10_allows cX10_allows 8 (some .boolean)] ({ frames := 1, cells := 0, slots := 0, locals := 20 } : Room) (va_Pc [.ref h0, .int p0, .int p1, .int p2, .int p3, .int p4] (fun U => MH E h0 rf t0 t1 t2 A cd pk U.heap ∧ KS E z0 U)) (va_Qi (fun (r : Int32) (u : Unit) => (r = 0 ∨ r = 1) ∧ (r.toInt = 0 ∨ (0 ≤ p2.toInt ∧ p2.toInt + p3.toInt ≤ 32)) ∧ (D_X10_allows A cd pk p0 p1 p2 p3 p4 r)) (fun u t => True) (fun _ : Nat => False)) 0 0 (fun _ : Nat => False) := by
  refine Met.ofW (cc := cX10_allows) (maxL := 8) (ret := (some .boolean)) (by decide) rfl ?_
  intro p e s m args below meth c s₁ B hml hv
  obtain ⟨rfl, hM, hK⟩ := hv
  have hx := B.exec
  have hb := B.bytes
  have hr := B.returns
  have hts : ∀ w ∈ TS, w.before ([.ref h0, .int p0, .int p1, .int p2, .int p3, .int p4] : List Value).toArray s = true := fun w hw => hK.2.1 w hw _
  have hown : s.vm.findClass RX10 = some m.cls := findClass_of_methodNamed B.named
  have hlocks := B.notSynchronized
  have hS : va_S (fun _ : Nat => False) s.heap s.heap [] := va_S.rf
  have hAz : ∀ q, (fun _ : Nat => False) q → z0 ≤ q := fun _ h => h.elim
  have hl := lv_entry ([.ref h0, .int p0, .int p1, .int p2, .int p3, .int p4]) (n := 8) (Nat.le_of_ble_eq_true rfl)
  rw [lg_entry_eq]
  generalize (lg_sl ([.ref h0, .int p0, .int p1, .int p2, .int p3, .int p4]) ++ List.replicate (8 - (lg_sl ([.ref h0, .int p0, .int p1, .int p2, .int p3, .int p4])).length) Slot.unset).toArray = ls at hl ⊢
  have hl : lv_has ls 8 [(0, .ref h0), (1, .int p0), (2, .int p1), (3, .int p2), (4, .int p3), (5, .int p4)] := hl
  refine lv_bipush (v := 6) hx hb dX10_allows_0 (by decide) ?_
  refine lv_iload_n hx hb dX10_allows_2 rfl (lv_at hl 1 rfl) ?_
  refine W.callR (W.runS (As := [.int p0]) (rest := [.int 6]) ⟨hx, hb, hml, hown, hts⟩ (c_X10_nodeOf l p0) (cwS 1 hts (gdS ml_X10_160 st_X10_nodeOf in_X10 co_X10_nodeOf rfl) rfl rfl rfl (by decide +kernel) ⟨Nat.le_of_ble_eq_true rfl, Nat.le_of_ble_eq_true rfl⟩) preEq rfl rfl hl.1 rfl (lv_room (Nat.le_of_ble_eq_true rfl)) dX10_allows_3 ⟨Nat.le_of_ble_eq_true rfl, Nat.le_of_ble_eq_true rfl⟩) ?_
  refine W.eq (g2 := F0 m 6 ls [.int (p0 - p0 / 2 * 2), .int 6]) (by rfl) ?_
  refine lv_topi (fun x_1 ex_1 => ?_)
  have fx_1 : x_1.toInt = p0.toInt % 2 := by rw [ex_1]; exact s_rem (x := p0) 2 (by decide) (by decide) (by omega)
  refine lv_imul hx hb dX10_allows_6 ?_
  refine lv_topi (fun x_2 ex_2 => ?_)
  have fx_2 : x_2.toInt = 6 * x_1.toInt := by rw [ex_2]; exact s_mulK i_6 (by omega) (by omega)
  refine lv_iload_n hx hb dX10_allows_7 rfl (lv_at hl 2 rfl) ?_
  refine lv_iadd hx hb dX10_allows_8 ?_
  refine lv_topi (fun x_3 ex_3 => ?_)
  have fx_3 : x_3.toInt = x_2.toInt + p1.toInt := by have h9 := s_add (x := x_2) (y := p1) (by omega) (by omega); rw [ex_3]; exact h9
  refine lv_istore (lv' := [(6, .int x_3), (0, .ref h0), (1, .int p0), (2, .int p1), (3, .int p2), (4, .int p3), (5, .int p4)]) hx hb dX10_allows_9 hl (by decide) rfl (fun ls hl => ?_)
  refine lv_aload_n hx hb dX10_allows_11 rfl (lv_at hl 1 rfl) ?_
  refine va_get (D := DG E) (ci := 10) (v := .ref (rf 7)) (C := RX10) (T := TX10) (N := 49) hx hb hts iw_X10 hown hK.1 (va_one hM.1) 0 rfl rfl 7 (by decide) (hts _ fl_X10_19) (fun _ h9 => h9) rfl dX10_allows_12 ?_
  refine lv_iload hx hb dX10_allows_15 (lv_at hl 0 rfl) ?_
  have hi_4 : vp_in x_3 12 := vp_in_iff.mpr (by omega)
  have ha_5 : va_at (DG E) vwCl (rf 7, .inl (E.2.2 0, 12, .inl (A 7))) _ := hM.2 7 (by decide) (by decide) (by decide)
  obtain ⟨n_6, hn_6, en_6⟩ := s_nat (x := x_3) (by omega)
  refine va_iald (D := DG E) hx hb hK.1 (va_one ha_5) 0 0 rfl rfl hi_4 dX10_allows_17 ?_
  refine W.eq (g2 := F0 m 18 ls [.int ((A 7) n_6)]) (by rw [en_6]) ?_
  refine lv_iload hx hb dX10_allows_18 (lv_at hl 6 rfl) ?_
  refine lv_idiv hx hb dX10_allows_20 hy4 ?_
  refine lv_topi (fun x_7 ex_7 => ?_)
  refine lv_iconst (v := 2) hx hb dX10_allows_21 (by decide) ?_
  refine lv_irem hx hb dX10_allows_22 (by decide) ?_
  refine lv_topi (fun x_8 ex_8 => ?_)
  refine lv_iconst (v := 1) hx hb dX10_allows_23 (by decide) ?_
  refine lv_icmp_ne (tgt := 31) hx hb dX10_allows_24 (by decide) (fun c_9 => ?_) (fun c_9 => ?_)
  · simp only [lt_I, le_I, eq_I, i_0, i_1, i_2, i_3, i_4, i_5, i_6, i_7, i_8, i_10, i_12, i_16, i_20, i_23, i_24, i_31, i_32, i_63, i_64, i_m1, i_9, i_11, i_13, i_25, i_60, i_75, i_79, i_80, i_96, i_100] at c_9
    refine lv_iconst (v := 0) hx hb dX10_allows_31 (by decide) ?_
    refine lv_istore (lv' := [(7, .int 0), (6, .int x_3), (0, .ref h0), (1, .int p0), (2, .int p1), (3, .int p2), (4, .int p3), (5, .int p4)]) hx hb dX10_allows_32 hl (by decide) rfl (fun ls hl => ?_)
    refine lv_iload hx hb dX10_allows_34 (lv_at hl 0 rfl) ?_
    refine lv_if_eq (tgt := 76) hx hb dX10_allows_36 (by decide) (fun c_10 => ?_) (fun c_10 => absurd c_10 (by decide))
    refine lv_iconst (v := 0) hx hb dX10_allows_76 (by decide) ?_
    exact W.zret (v := 0) (ty := .boolean) hx hb hr rfl (fun t ht hW => ⟨⟨0, (), rfl, ⟨(by decide), (by show (0 : Int32).toInt = 0 ∨ (0 ≤ p2.toInt ∧ p2.toInt + p3.toInt ≤ 32); have := i_0; omega), (Or.inl ⟨x_1, ex_1, fx_1, x_2, ex_2, fx_2, x_3, ex_3, fx_3, n_6, hn_6, x_7, ex_7, x_8, ex_8, c_9, rfl⟩)⟩, trivial⟩, hS.F ht⟩) hS.2.2 dX10_allows_77
  · simp only [lt_I, le_I, eq_I, i_0, i_1, i_2, i_3, i_4, i_5, i_6, i_7, i_8, i_10, i_12, i_16, i_20, i_23, i_24, i_31, i_32, i_63, i_64, i_m1, i_9, i_11, i_13, i_25, i_60, i_75, i_79, i_80, i_96, i_100] at c_9
    refine lv_iconst (v := 1) hx hb dX10_allows_27 (by decide) ?_
    refine lv_goto (tgt := 32) hx hb dX10_allows_28 (by decide) ?_
    refine lv_istore (lv' := [(7, .int 1), (6, .int x_3), (0, .ref h0), (1, .int p0), (2, .int p1), (3, .int p2), (4, .int p3), (5, .int p4)]) hx hb dX10_allows_32 hl (by decide) rfl (fun ls hl => ?_)
    refine lv_iload hx hb dX10_allows_34 (lv_at hl 0 rfl) ?_
    refine lv_if_eq (tgt := 76) hx hb dX10_allows_36 (by decide) (fun c_11 => absurd c_11 (by decide)) (fun c_11 => ?_)
    refine lv_iload_n hx hb dX10_allows_39 rfl (lv_at hl 5 rfl) ?_
    refine lv_aload_n hx hb dX10_allows_40 rfl (lv_at hl 2 rfl) ?_
    refine va_get (D := DG E) (ci := 10) (v := .ref (rf 5)) (C := RX10) (T := TX10) (N := 49) hx hb hts iw_X10 hown hK.1 (va_one hM.1) 0 rfl rfl 5 (by decide) (hts _ fl_X10_13) (fun _ h9 => h9) rfl dX10_allows_41 ?_
    refine lv_iload hx hb dX10_allows_44 (lv_at hl 1 rfl) ?_
    have ha_12 : va_at (DG E) vwCl (rf 5, .inl (E.2.2 0, 12, .inl (A 5))) _ := hM.2 5 (by decide) (by decide) (by decide)
    refine va_iald (D := DG E) hx hb hK.1 (va_one ha_12) 0 0 rfl rfl hi_4 dX10_allows_46 ?_
    refine W.eq (g2 := F0 m 47 ls [.int ((A 5) n_6), .int p2]) (by rw [en_6]) ?_
    have hk_13 : n_6 < 12 := by omega
    have q_14 : 0 ≤ ((A 5) n_6).toInt := (hI2 n_6 hk_13).1
    have q_15 : ((A 5) n_6).toInt + ((A 6) n_6).toInt ≤ 32 := (hI2 n_6 hk_13).2.2
    refine lv_icmp_lt (tgt := 76) hx hb dX10_allows_47 (by decide) (fun c_16 => ?_) (fun c_16 => ?_)
    · simp only [lt_I, le_I, eq_I, i_0, i_1, i_2, i_3, i_4, i_5, i_6, i_7, i_8, i_10, i_12, i_16, i_20, i_23, i_24, i_31, i_32, i_63, i_64, i_m1, i_9, i_11, i_13, i_25, i_60, i_75, i_79, i_80, i_96, i_100] at c_16
      refine lv_iconst (v := 0) hx hb dX10_allows_76 (by decide) ?_
      exact W.zret (v := 0) (ty := .boolean) hx hb hr rfl (fun t ht hW => ⟨⟨0, (), rfl, ⟨(by decide), (by show (0 : Int32).toInt = 0 ∨ (0 ≤ p2.toInt ∧ p2.toInt + p3.toInt ≤ 32); have := i_0; omega), (Or.inr (Or.inl ⟨x_1, ex_1, fx_1, x_2, ex_2, fx_2, x_3, ex_3, fx_3, n_6, hn_6, x_7, ex_7, x_8, ex_8, c_9, c_16, rfl⟩))⟩, trivial⟩, hS.F ht⟩) hS.2.2 dX10_allows_77
    · simp only [lt_I, le_I, eq_I, i_0, i_1, i_2, i_3, i_4, i_5, i_6, i_7, i_8, i_10, i_12, i_16, i_20, i_23, i_24, i_31, i_32, i_63, i_64, i_m1, i_9, i_11, i_13, i_25, i_60, i_75, i_79, i_80, i_96, i_100] at c_16
      refine lv_iload_n hx hb dX10_allows_50 rfl (lv_at hl 5 rfl) ?_
      refine lv_iload hx hb dX10_allows_51 (lv_at hl 6 rfl) ?_
      refine lv_iadd hx hb dX10_allows_53 ?_
      refine lv_topi (fun x_17 ex_17 => ?_)
      have fx_17 : x_17.toInt = p2.toInt + p3.toInt := by have h9 := s_add (x := p2) (y := p3) (by omega) (by omega); rw [ex_17]; exact h9
      refine lv_aload_n hx hb dX10_allows_54 rfl (lv_at hl 2 rfl) ?_
      refine va_get (D := DG E) (ci := 10) (v := .ref (rf 5)) (C := RX10) (T := TX10) (N := 49) hx hb hts iw_X10 hown hK.1 (va_one hM.1) 0 rfl rfl 5 (by decide) (hts _ fl_X10_13) (fun _ h9 => h9) rfl dX10_allows_55 ?_
      refine lv_iload hx hb dX10_allows_58 (lv_at hl 1 rfl) ?_
      have ha_18 : va_at (DG E) vwCl (rf 5, .inl (E.2.2 0, 12, .inl (A 5))) _ := hM.2 5 (by decide) (by decide) (by decide)
      refine va_iald (D := DG E) hx hb hK.1 (va_one ha_18) 0 0 rfl rfl hi_4 dX10_allows_60 ?_
      refine W.eq (g2 := F0 m 61 ls [.int ((A 5) n_6), .int x_17]) (by rw [en_6]) ?_
      refine lv_aload_n hx hb dX10_allows_61 rfl (lv_at hl 2 rfl) ?_
      refine va_get (D := DG E) (ci := 10) (v := .ref (rf 6)) (C := RX10) (T := TX10) (N := 49) hx hb hts iw_X10 hown hK.1 (va_one hM.1) 0 rfl rfl 6 (by decide) (hts _ fl_X10_16) (fun _ h9 => h9) rfl dX10_allows_62 ?_
      refine lv_iload hx hb dX10_allows_65 (lv_at hl 1 rfl) ?_
      have ha_19 : va_at (DG E) vwCl (rf 6, .inl (E.2.2 0, 12, .inl (A 6))) _ := hM.2 6 (by decide) (by decide) (by decide)
      refine va_iald (D := DG E) hx hb hK.1 (va_one ha_19) 0 0 rfl rfl hi_4 dX10_allows_67 ?_
      refine W.eq (g2 := F0 m 68 ls [.int ((A 6) n_6), .int ((A 5) n_6), .int x_17]) (by rw [en_6]) ?_
      have q_20 : 0 ≤ ((A 6) n_6).toInt := (hI2 n_6 hk_13).2.1
      refine lv_iadd hx hb dX10_allows_68 ?_
      refine lv_topi (fun x_21 ex_21 => ?_)
      have fx_21 : x_21.toInt = ((A 5) n_6).toInt + ((A 6) n_6).toInt := by have h9 := s_add (x := ((A 5) n_6)) (y := ((A 6) n_6)) (by omega) (by omega); rw [ex_21]; exact h9
      refine lv_icmp_gt (tgt := 76) hx hb dX10_allows_69 (by decide) (fun c_22 => ?_) (fun c_22 => ?_)
      · simp only [lt_I, le_I, eq_I, i_0, i_1, i_2, i_3, i_4, i_5, i_6, i_7, i_8, i_10, i_12, i_16, i_20, i_23, i_24, i_31, i_32, i_63, i_64, i_m1, i_9, i_11, i_13, i_25, i_60, i_75, i_79, i_80, i_96, i_100] at c_22
        refine lv_iconst (v := 0) hx hb dX10_allows_76 (by decide) ?_
        exact W.zret (v := 0) (ty := .boolean) hx hb hr rfl (fun t ht hW => ⟨⟨0, (), rfl, ⟨(by decide), (by show (0 : Int32).toInt = 0 ∨ (0 ≤ p2.toInt ∧ p2.toInt + p3.toInt ≤ 32); have := i_0; omega), (Or.inr (Or.inr (Or.inl ⟨x_1, ex_1, fx_1, x_2, ex_2, fx_2, x_3, ex_3, fx_3, n_6, hn_6, x_7, ex_7, x_8, ex_8, c_9, c_16, x_17, ex_17, fx_17, x_21, ex_21, fx_21, c_22, rfl⟩)))⟩, trivial⟩, hS.F ht⟩) hS.2.2 dX10_allows_77
      · simp only [lt_I, le_I, eq_I, i_0, i_1, i_2, i_3, i_4, i_5, i_6, i_7, i_8, i_10, i_12, i_16, i_20, i_23, i_24, i_31, i_32, i_63, i_64, i_m1, i_9, i_11, i_13, i_25, i_60, i_75, i_79, i_80, i_96, i_100] at c_22
        refine lv_iconst (v := 1) hx hb dX10_allows_72 (by decide) ?_
        refine lv_goto (tgt := 77) hx hb dX10_allows_73 (by decide) ?_
        exact W.zret (v := 1) (ty := .boolean) hx hb hr rfl (fun t ht hW => ⟨⟨1, (), rfl, ⟨(by decide), (by show (1 : Int32).toInt = 0 ∨ (0 ≤ p2.toInt ∧ p2.toInt + p3.toInt ≤ 32); have := i_1; omega), (Or.inr (Or.inr (Or.inr ⟨x_1, ex_1, fx_1, x_2, ex_2, fx_2, x_3, ex_3, fx_3, n_6, hn_6, x_7, ex_7, x_8, ex_8, c_9, c_16, x_17, ex_17, fx_17, x_21, ex_21, fx_21, c_22, rfl⟩)))⟩, trivial⟩, hS.F ht⟩) hS.2.2 dX10_allows_77
end
section
theorem gdX10_move1_0 : (decode cX10_move1 0 = .ok (.aload_n 0, 1)) ∧ (decode cX10_move1 1 = .ok (.getfield 119, 3)) ∧ (decode cX10_move1 4 = .ok (.iload_n 2, 1)) ∧ (decode cX10_move1 5 = .ok (.aload_n 0, 1)) ∧ (decode cX10_move1 6 = .ok (.getfield 119, 3)) ∧ (decode cX10_move1 9 = .ok (.iload_n 1, 1)) ∧ (decode cX10_move1 10 = .ok (.iaload, 1)) ∧ (decode cX10_move1 11 = .ok (.iastore, 1)) ∧ (decode cX10_move1 12 = .ok (.aload_n 0, 1)) ∧ (decode cX10_move1 13 = .ok (.getfield 122, 3)) ∧ (decode cX10_move1 16 = .ok (.iload_n 2, 1)) ∧ (decode cX10_move1 17 = .ok (.aload_n 0, 1)) ∧ (decode cX10_move1 18 = .ok (.getfield 122, 3)) ∧ (decode cX10_move1 21 = .ok (.iload_n 1, 1)) ∧ (decode cX10_move1 22 = .ok (.iaload, 1)) ∧ (decode cX10_move1 23 = .ok (.iastore, 1)) := by decide +kernel
theorem dX10_move1_0 : decode cX10_move1 0 = .ok (.aload_n 0, 1) := gdX10_move1_0.1
theorem dX10_move1_1 : decode cX10_move1 1 = .ok (.getfield 119, 3) := gdX10_move1_0.2.1
theorem dX10_move1_4 : decode cX10_move1 4 = .ok (.iload_n 2, 1) := gdX10_move1_0.2.2.1
theorem dX10_move1_5 : decode cX10_move1 5 = .ok (.aload_n 0, 1) := gdX10_move1_0.2.2.2.1
theorem dX10_move1_6 : decode cX10_move1 6 = .ok (.getfield 119, 3) := gdX10_move1_0.2.2.2.2.1
theorem dX10_move1_9 : decode cX10_move1 9 = .ok (.iload_n 1, 1) := gdX10_move1_0.2.2.2.2.2.1
theorem dX10_move1_10 : decode cX10_move1 10 = .ok (.iaload, 1) := gdX10_move1_0.2.2.2.2.2.2.1
theorem dX10_move1_11 : decode cX10_move1 11 = .ok (.iastore, 1) := gdX10_move1_0.2.2.2.2.2.2.2.1
theorem dX10_move1_12 : decode cX10_move1 12 = .ok (.aload_n 0, 1) := gdX10_move1_0.2.2.2.2.2.2.2.2.1
theorem dX10_move1_13 : decode cX10_move1 13 = .ok (.getfield 122, 3) := gdX10_move1_0.2.2.2.2.2.2.2.2.2.1
theorem dX10_move1_16 : decode cX10_move1 16 = .ok (.iload_n 2, 1) := gdX10_move1_0.2.2.2.2.2.2.2.2.2.2.1
theorem dX10_move1_17 : decode cX10_move1 17 = .ok (.aload_n 0, 1) := gdX10_move1_0.2.2.2.2.2.2.2.2.2.2.2.1
theorem dX10_move1_18 : decode cX10_move1 18 = .ok (.getfield 122, 3) := gdX10_move1_0.2.2.2.2.2.2.2.2.2.2.2.2.1
theorem dX10_move1_21 : decode cX10_move1 21 = .ok (.iload_n 1, 1) := gdX10_move1_0.2.2.2.2.2.2.2.2.2.2.2.2.2.1
theorem dX10_move1_22 : decode cX10_move1 22 = .ok (.iaload, 1) := gdX10_move1_0.2.2.2.2.2.2.2.2.2.2.2.2.2.2.1
theorem dX10_move1_23 : decode cX10_move1 23 = .ok (.iastore, 1) := gdX10_move1_0.2.2.2.2.2.2.2.2.2.2.2.2.2.2.2
theorem gdX10_move1_24 : (decode cX10_move1 24 = .ok (.aload_n 0, 1)) ∧ (decode cX10_move1 25 = .ok (.getfield 125, 3)) ∧ (decode cX10_move1 28 = .ok (.iload_n 2, 1)) ∧ (decode cX10_move1 29 = .ok (.aload_n 0, 1)) ∧ (decode cX10_move1 30 = .ok (.getfield 125, 3)) ∧ (decode cX10_move1 33 = .ok (.iload_n 1, 1)) ∧ (decode cX10_move1 34 = .ok (.iaload, 1)) ∧ (decode cX10_move1 35 = .ok (.iastore, 1)) ∧ (decode cX10_move1 36 = .ok (.aload_n 0, 1)) ∧ (decode cX10_move1 37 = .ok (.getfield 128, 3)) ∧ (decode cX10_move1 40 = .ok (.iload_n 2, 1)) ∧ (decode cX10_move1 41 = .ok (.aload_n 0, 1)) ∧ (decode cX10_move1 42 = .ok (.getfield 128, 3)) ∧ (decode cX10_move1 45 = .ok (.iload_n 1, 1)) ∧ (decode cX10_move1 46 = .ok (.iaload, 1)) ∧ (decode cX10_move1 47 = .ok (.iastore, 1)) := by decide +kernel
theorem dX10_move1_24 : decode cX10_move1 24 = .ok (.aload_n 0, 1) := gdX10_move1_24.1
theorem dX10_move1_25 : decode cX10_move1 25 = .ok (.getfield 125, 3) := gdX10_move1_24.2.1
theorem dX10_move1_28 : decode cX10_move1 28 = .ok (.iload_n 2, 1) := gdX10_move1_24.2.2.1
theorem dX10_move1_29 : decode cX10_move1 29 = .ok (.aload_n 0, 1) := gdX10_move1_24.2.2.2.1
theorem dX10_move1_30 : decode cX10_move1 30 = .ok (.getfield 125, 3) := gdX10_move1_24.2.2.2.2.1
theorem dX10_move1_33 : decode cX10_move1 33 = .ok (.iload_n 1, 1) := gdX10_move1_24.2.2.2.2.2.1
theorem dX10_move1_34 : decode cX10_move1 34 = .ok (.iaload, 1) := gdX10_move1_24.2.2.2.2.2.2.1
theorem dX10_move1_35 : decode cX10_move1 35 = .ok (.iastore, 1) := gdX10_move1_24.2.2.2.2.2.2.2.1
theorem dX10_move1_36 : decode cX10_move1 36 = .ok (.aload_n 0, 1) := gdX10_move1_24.2.2.2.2.2.2.2.2.1
theorem dX10_move1_37 : decode cX10_move1 37 = .ok (.getfield 128, 3) := gdX10_move1_24.2.2.2.2.2.2.2.2.2.1
theorem dX10_move1_40 : decode cX10_move1 40 = .ok (.iload_n 2, 1) := gdX10_move1_24.2.2.2.2.2.2.2.2.2.2.1
theorem dX10_move1_41 : decode cX10_move1 41 = .ok (.aload_n 0, 1) := gdX10_move1_24.2.2.2.2.2.2.2.2.2.2.2.1
theorem dX10_move1_42 : decode cX10_move1 42 = .ok (.getfield 128, 3) := gdX10_move1_24.2.2.2.2.2.2.2.2.2.2.2.2.1
theorem dX10_move1_45 : decode cX10_move1 45 = .ok (.iload_n 1, 1) := gdX10_move1_24.2.2.2.2.2.2.2.2.2.2.2.2.2.1
theorem dX10_move1_46 : decode cX10_move1 46 = .ok (.iaload, 1) := gdX10_move1_24.2.2.2.2.2.2.2.2.2.2.2.2.2.2.1
theorem dX10_move1_47 : decode cX10_move1 47 = .ok (.iastore, 1) := gdX10_move1_24.2.2.2.2.2.2.2.2.2.2.2.2.2.2.2
theorem gdX10_move1_48 : (decode cX10_move1 48 = .ok (.aload_n 0, 1)) ∧ (decode cX10_move1 49 = .ok (.getfield 131, 3)) ∧ (decode cX10_move1 52 = .ok (.iload_n 2, 1)) ∧ (decode cX10_move1 53 = .ok (.aload_n 0, 1)) ∧ (decode cX10_move1 54 = .ok (.getfield 131, 3)) ∧ (decode cX10_move1 57 = .ok (.iload_n 1, 1)) ∧ (decode cX10_move1 58 = .ok (.iaload, 1)) ∧ (decode cX10_move1 59 = .ok (.iastore, 1)) ∧ (decode cX10_move1 60 = .ok (.aload_n 0, 1)) ∧ (decode cX10_move1 61 = .ok (.getfield 134, 3)) ∧ (decode cX10_move1 64 = .ok (.iload_n 2, 1)) ∧ (decode cX10_move1 65 = .ok (.aload_n 0, 1)) ∧ (decode cX10_move1 66 = .ok (.getfield 134, 3)) ∧ (decode cX10_move1 69 = .ok (.iload_n 1, 1)) ∧ (decode cX10_move1 70 = .ok (.iaload, 1)) ∧ (decode cX10_move1 71 = .ok (.iastore, 1)) := by decide +kernel
theorem dX10_move1_48 : decode cX10_move1 48 = .ok (.aload_n 0, 1) := gdX10_move1_48.1
theorem dX10_move1_49 : decode cX10_move1 49 = .ok (.getfield 131, 3) := gdX10_move1_48.2.1
theorem dX10_move1_52 : decode cX10_move1 52 = .ok (.iload_n 2, 1) := gdX10_move1_48.2.2.1
theorem dX10_move1_53 : decode cX10_move1 53 = .ok (.aload_n 0, 1) := gdX10_move1_48.2.2.2.1
theorem dX10_move1_54 : decode cX10_move1 54 = .ok (.getfield 131, 3) := gdX10_move1_48.2.2.2.2.1
theorem dX10_move1_57 : decode cX10_move1 57 = .ok (.iload_n 1, 1) := gdX10_move1_48.2.2.2.2.2.1
theorem dX10_move1_58 : decode cX10_move1 58 = .ok (.iaload, 1) := gdX10_move1_48.2.2.2.2.2.2.1
theorem dX10_move1_59 : decode cX10_move1 59 = .ok (.iastore, 1) := gdX10_move1_48.2.2.2.2.2.2.2.1
theorem dX10_move1_60 : decode cX10_move1 60 = .ok (.aload_n 0, 1) := gdX10_move1_48.2.2.2.2.2.2.2.2.1
theorem dX10_move1_61 : decode cX10_move1 61 = .ok (.getfield 134, 3) := gdX10_move1_48.2.2.2.2.2.2.2.2.2.1
theorem dX10_move1_64 : decode cX10_move1 64 = .ok (.iload_n 2, 1) := gdX10_move1_48.2.2.2.2.2.2.2.2.2.2.1
theorem dX10_move1_65 : decode cX10_move1 65 = .ok (.aload_n 0, 1) := gdX10_move1_48.2.2.2.2.2.2.2.2.2.2.2.1
theorem dX10_move1_66 : decode cX10_move1 66 = .ok (.getfield 134, 3) := gdX10_move1_48.2.2.2.2.2.2.2.2.2.2.2.2.1
theorem dX10_move1_69 : decode cX10_move1 69 = .ok (.iload_n 1, 1) := gdX10_move1_48.2.2.2.2.2.2.2.2.2.2.2.2.2.1
theorem dX10_move1_70 : decode cX10_move1 70 = .ok (.iaload, 1) := gdX10_move1_48.2.2.2.2.2.2.2.2.2.2.2.2.2.2.1
theorem dX10_move1_71 : decode cX10_move1 71 = .ok (.iastore, 1) := gdX10_move1_48.2.2.2.2.2.2.2.2.2.2.2.2.2.2.2
theorem gdX10_move1_72 : (decode cX10_move1 72 = .ok (.aload_n 0, 1)) ∧ (decode cX10_move1 73 = .ok (.getfield 137, 3)) ∧ (decode cX10_move1 76 = .ok (.iload_n 2, 1)) ∧ (decode cX10_move1 77 = .ok (.aload_n 0, 1)) ∧ (decode cX10_move1 78 = .ok (.getfield 137, 3)) ∧ (decode cX10_move1 81 = .ok (.iload_n 1, 1)) ∧ (decode cX10_move1 82 = .ok (.iaload, 1)) ∧ (decode cX10_move1 83 = .ok (.iastore, 1)) ∧ (decode cX10_move1 84 = .ok (.iconst 0, 1)) ∧ (decode cX10_move1 85 = .ok (.istore_n 3, 1)) ∧ (decode cX10_move1 86 = .ok (.iload_n 3, 1)) ∧ (decode cX10_move1 87 = .ok (.iconst 4, 1)) ∧ (decode cX10_move1 88 = .ok (.if_icmp .ge 29, 3)) ∧ (decode cX10_move1 91 = .ok (.aload_n 0, 1)) ∧ (decode cX10_move1 92 = .ok (.getfield 140, 3)) ∧ (decode cX10_move1 95 = .ok (.iconst 4, 1)) := by decide +kernel
theorem dX10_move1_72 : decode cX10_move1 72 = .ok (.aload_n 0, 1) := gdX10_move1_72.1
theorem dX10_move1_73 : decode cX10_move1 73 = .ok (.getfield 137, 3) := gdX10_move1_72.2.1
theorem dX10_move1_76 : decode cX10_move1 76 = .ok (.iload_n 2, 1) := gdX10_move1_72.2.2.1
theorem dX10_move1_77 : decode cX10_move1 77 = .ok (.aload_n 0, 1) := gdX10_move1_72.2.2.2.1
theorem dX10_move1_78 : decode cX10_move1 78 = .ok (.getfield 137, 3) := gdX10_move1_72.2.2.2.2.1
theorem dX10_move1_81 : decode cX10_move1 81 = .ok (.iload_n 1, 1) := gdX10_move1_72.2.2.2.2.2.1
theorem dX10_move1_82 : decode cX10_move1 82 = .ok (.iaload, 1) := gdX10_move1_72.2.2.2.2.2.2.1
theorem dX10_move1_83 : decode cX10_move1 83 = .ok (.iastore, 1) := gdX10_move1_72.2.2.2.2.2.2.2.1
theorem dX10_move1_84 : decode cX10_move1 84 = .ok (.iconst 0, 1) := gdX10_move1_72.2.2.2.2.2.2.2.2.1
theorem dX10_move1_85 : decode cX10_move1 85 = .ok (.istore_n 3, 1) := gdX10_move1_72.2.2.2.2.2.2.2.2.2.1
theorem dX10_move1_86 : decode cX10_move1 86 = .ok (.iload_n 3, 1) := gdX10_move1_72.2.2.2.2.2.2.2.2.2.2.1
theorem dX10_move1_87 : decode cX10_move1 87 = .ok (.iconst 4, 1) := gdX10_move1_72.2.2.2.2.2.2.2.2.2.2.2.1
theorem dX10_move1_88 : decode cX10_move1 88 = .ok (.if_icmp .ge 29, 3) := gdX10_move1_72.2.2.2.2.2.2.2.2.2.2.2.2.1
theorem dX10_move1_91 : decode cX10_move1 91 = .ok (.aload_n 0, 1) := gdX10_move1_72.2.2.2.2.2.2.2.2.2.2.2.2.2.1
theorem dX10_move1_92 : decode cX10_move1 92 = .ok (.getfield 140, 3) := gdX10_move1_72.2.2.2.2.2.2.2.2.2.2.2.2.2.2.1
theorem dX10_move1_95 : decode cX10_move1 95 = .ok (.iconst 4, 1) := gdX10_move1_72.2.2.2.2.2.2.2.2.2.2.2.2.2.2.2
theorem gdX10_move1_96 : (decode cX10_move1 96 = .ok (.iload_n 2, 1)) ∧ (decode cX10_move1 97 = .ok (.imul, 1)) ∧ (decode cX10_move1 98 = .ok (.iload_n 3, 1)) ∧ (decode cX10_move1 99 = .ok (.iadd, 1)) ∧ (decode cX10_move1 100 = .ok (.aload_n 0, 1)) ∧ (decode cX10_move1 101 = .ok (.getfield 140, 3)) ∧ (decode cX10_move1 104 = .ok (.iconst 4, 1)) ∧ (decode cX10_move1 105 = .ok (.iload_n 1, 1)) ∧ (decode cX10_move1 106 = .ok (.imul, 1)) ∧ (decode cX10_move1 107 = .ok (.iload_n 3, 1)) ∧ (decode cX10_move1 108 = .ok (.iadd, 1)) ∧ (decode cX10_move1 109 = .ok (.iaload, 1)) ∧ (decode cX10_move1 110 = .ok (.iastore, 1)) ∧ (decode cX10_move1 111 = .ok (.iinc 3 1, 3)) ∧ (decode cX10_move1 114 = .ok (.goto (-28), 3)) ∧ (decode cX10_move1 117 = .ok (.return_, 1)) := by decide +kernel
theorem dX10_move1_96 : decode cX10_move1 96 = .ok (.iload_n 2, 1) := gdX10_move1_96.1
theorem dX10_move1_97 : decode cX10_move1 97 = .ok (.imul, 1) := gdX10_move1_96.2.1
theorem dX10_move1_98 : decode cX10_move1 98 = .ok (.iload_n 3, 1) := gdX10_move1_96.2.2.1
theorem dX10_move1_99 : decode cX10_move1 99 = .ok (.iadd, 1) := gdX10_move1_96.2.2.2.1
theorem dX10_move1_100 : decode cX10_move1 100 = .ok (.aload_n 0, 1) := gdX10_move1_96.2.2.2.2.1
theorem dX10_move1_101 : decode cX10_move1 101 = .ok (.getfield 140, 3) := gdX10_move1_96.2.2.2.2.2.1
theorem dX10_move1_104 : decode cX10_move1 104 = .ok (.iconst 4, 1) := gdX10_move1_96.2.2.2.2.2.2.1
theorem dX10_move1_105 : decode cX10_move1 105 = .ok (.iload_n 1, 1) := gdX10_move1_96.2.2.2.2.2.2.2.1
theorem dX10_move1_106 : decode cX10_move1 106 = .ok (.imul, 1) := gdX10_move1_96.2.2.2.2.2.2.2.2.1
theorem dX10_move1_107 : decode cX10_move1 107 = .ok (.iload_n 3, 1) := gdX10_move1_96.2.2.2.2.2.2.2.2.2.1
theorem dX10_move1_108 : decode cX10_move1 108 = .ok (.iadd, 1) := gdX10_move1_96.2.2.2.2.2.2.2.2.2.2.1
theorem dX10_move1_109 : decode cX10_move1 109 = .ok (.iaload, 1) := gdX10_move1_96.2.2.2.2.2.2.2.2.2.2.2.1
theorem dX10_move1_110 : decode cX10_move1 110 = .ok (.iastore, 1) := gdX10_move1_96.2.2.2.2.2.2.2.2.2.2.2.2.1
theorem dX10_move1_111 : decode cX10_move1 111 = .ok (.iinc 3 1, 3) := gdX10_move1_96.2.2.2.2.2.2.2.2.2.2.2.2.2.1
theorem dX10_move1_114 : decode cX10_move1 114 = .ok (.goto (-28), 3) := gdX10_move1_96.2.2.2.2.2.2.2.2.2.2.2.2.2.2.1
theorem dX10_move1_117 : decode cX10_move1 117 = .ok (.return_, 1) := gdX10_move1_96.2.2.2.2.2.2.2.2.2.2.2.2.2.2.2
set_option maxHeartbeats 8000000 in
set_option maxRecDepth 100000 in
theorem u_X10_move1 (l : Launch) (E : EE) (z0 : Nat) (G : Nat → Nat) (hGz : ∀ q, G q ≠ 0 → z0 ≤ q) (h0 : Nat) (rf : Nat → Nat) (hR : MG G h0 rf) (t0 t1 t2 : Int32) (A : AA) (cd pk : Int32) (p0 : Int32) (p1 : Int32) (hI7 : I7 (A 41) (A 42) (A 44) (A 45) (A 46)) (hy0 : 0 ≤ p0.toInt ∧ p0.toInt ≤ 24) (hy1 : 0 ≤ p1.toInt ∧ p1.toInt ≤ 24) : Met l yX10_move1 [Cond.code yX10_move1 cX10_move1 4 none] ({ frames := 0, cells := 0, slots := 0, locals := 0 } : Room) (va_Pc [.ref h0, .int p0, .int p1] (fun U => MH E h0 rf t0 t1 t2 A cd pk U.heap ∧ KS E z0 U)) (va_Qv (fun (u : (Nat → Int32) × (Nat → Int32) × (Nat → Int32) × (Nat → Int32) × (Nat → Int32) × (Nat → Int32) × (Nat → Int32) × (Nat → Int32)) => (I7 (u.1) (u.2.1) (u.2.2.2.1) (u.2.2.2.2.1) (u.2.2.2.2.2.1)) ∧ (D_X10_move1 A cd pk p0 p1 (uA (uA (uA (uA (uA (uA (uA (uA A 41 (u.1)) 42 (u.2.1)) 43 (u.2.2.1)) 44 (u.2.2.2.1)) 45 (u.2.2.2.2.1)) 46 (u.2.2.2.2.2.1)) 47 (u.2.2.2.2.2.2.1)) 48 (u.2.2.2.2.2.2.2)) cd pk)) (fun u t => MH E h0 rf t0 t1 t2 (uA (uA (uA (uA (uA (uA (uA (uA A 41 (u.1)) 42 (u.2.1)) 43 (u.2.2.1)) 44 (u.2.2.2.1)) 45 (u.2.2.2.2.1)) 46 (u.2.2.2.2.2.1)) 47 (u.2.2.2.2.2.2.1)) 48 (u.2.2.2.2.2.2.2)) cd pk t.heap) (fun q : Nat => G q ≠ 0)) 0 0 (fun q : Nat => G q ≠ 0) := by
  refine Met.ofW (cc := cX10_move1) (maxL := 4) (ret := none) (by decide) rfl ?_
  intro p e s m args below meth c s₁ B hml hv
  obtain ⟨rfl, hM, hK⟩ := hv
  have hx := B.exec
  have hb := B.bytes
  have hr := B.returns
  have hts : ∀ w ∈ TS, w.before ([.ref h0, .int p0, .int p1] : List Value).toArray s = true := fun w hw => hK.2.1 w hw _
  have hown : s.vm.findClass RX10 = some m.cls := findClass_of_methodNamed B.named
  have hlocks := B.notSynchronized
  have hS : va_S (fun q : Nat => G q ≠ 0) s.heap s.heap [] := va_S.rf
  have hAz : ∀ q, (fun q : Nat => G q ≠ 0) q → z0 ≤ q := hGz
  have hl := lv_entry ([.ref h0, .int p0, .int p1]) (n := 4) (Nat.le_of_ble_eq_true rfl)
  rw [lg_entry_eq]
  generalize (lg_sl ([.ref h0, .int p0, .int p1]) ++ List.replicate (4 - (lg_sl ([.ref h0, .int p0, .int p1])).length) Slot.unset).toArray = ls at hl ⊢
  have hl : lv_has ls 4 [(0, .ref h0), (1, .int p0), (2, .int p1)] := hl
  refine lv_aload_n hx hb dX10_move1_0 rfl (lv_at hl 0 rfl) ?_
  refine va_get (D := DG E) (ci := 10) (v := .ref (rf 41)) (C := RX10) (T := TX10) (N := 49) hx hb hts iw_X10 hown hK.1 (va_one hM.1) 0 rfl rfl 41 (by decide) (hts _ fl_X10_119) (fun _ h9 => h9) rfl dX10_move1_1 ?_
  refine lv_iload_n hx hb dX10_move1_4 rfl (lv_at hl 2 rfl) ?_
  refine lv_aload_n hx hb dX10_move1_5 rfl (lv_at hl 0 rfl) ?_
  refine va_get (D := DG E) (ci := 10) (v := .ref (rf 41)) (C := RX10) (T := TX10) (N := 49) hx hb hts iw_X10 hown hK.1 (va_one hM.1) 0 rfl rfl 41 (by decide) (hts _ fl_X10_119) (fun _ h9 => h9) rfl dX10_move1_6 ?_
  refine lv_iload_n hx hb dX10_move1_9 rfl (lv_at hl 1 rfl) ?_
  have hi_1 : vp_in p0 25 := vp_in_iff.mpr (by omega)
  have ha_2 : va_at (DG E) vwCl (rf 41, .inl (E.2.2 0, 25, .inl (A 41))) _ := hM.2 41 (by decide) (by decide) (by decide)
  obtain ⟨n_3, hn_3, en_3⟩ := s_nat (x := p0) (by omega)
  refine va_iald (D := DG E) hx hb hK.1 (va_one ha_2) 0 0 rfl rfl hi_1 dX10_move1_10 ?_
  refine W.eq (g2 := F0 m 11 ls [.int ((A 41) n_3), .int p1, .ref (rf 41)]) (by rw [en_3]) ?_
  have hk_4 : n_3 < 25 := by omega
  have q_5 : 0 ≤ ((A 41) n_3).toInt := (hI7 n_3 hk_4).1
  have q_6 : ((A 41) n_3).toInt ≤ 3 := (hI7 n_3 hk_4).2.1
  have hi_7 : vp_in p1 25 := vp_in_iff.mpr (by omega)
  have ha_8 : va_at (DG E) vwCl (rf 41, .inl (E.2.2 0, 25, .inl (A 41))) _ := hM.2 41 (by decide) (by decide) (by decide)
  obtain ⟨n_9, hn_9, en_9⟩ := s_nat (x := p1) (by omega)
  refine rr_iast (D := DG E) hx hb hK.1 0 ha_8 hS (by show G (rf 41) ≠ 0; rw [hR.2 41 (by decide) (by decide) (by decide)]; decide) rfl hi_7 dX10_move1_11 (fun H locs hn ho hz hS => ?_)
  rw [en_9] at hn
  obtain ⟨g_8, eg_8⟩ : ∃ z : Nat → Int32, z = upd (A 41) n_9 ((A 41) n_3) := ⟨_, rfl⟩
  have sg_8 : g_8 n_9 = ((A 41) n_3) := by rw [eg_8]; exact upd_s
  have ng_8 : ∀ k, k ≠ n_9 → g_8 k = (A 41) k := fun k hk => by rw [eg_8]; exact upd_n hk
  have hn : va_at (DG E) vwCl (rf 41, .inl (E.2.2 0, 25, .inl g_8)) H := by rw [eg_8]; exact hn
  have hM : MH E h0 rf t0 t1 t2 (uA A 41 g_8) cd pk H := hM.w hR 41 (by decide) (by decide) (by decide) hn ho
  refine lv_aload_n hx hb dX10_move1_12 rfl (lv_at hl 0 rfl) ?_
  refine va_get (D := DG E) (ci := 10) (v := .ref (rf 42)) (C := RX10) (T := TX10) (N := 49) hx hb hts iw_X10 hown hK.1 (va_one hM.1) 0 rfl rfl 42 (by decide) (hts _ fl_X10_122) (fun _ h9 => h9) rfl dX10_move1_13 ?_
  refine lv_iload_n hx hb dX10_move1_16 rfl (lv_at hl 2 rfl) ?_
  refine lv_aload_n hx hb dX10_move1_17 rfl (lv_at hl 0 rfl) ?_
  refine va_get (D := DG E) (ci := 10) (v := .ref (rf 42)) (C := RX10) (T := TX10) (N := 49) hx hb hts iw_X10 hown hK.1 (va_one hM.1) 0 rfl rfl 42 (by decide) (hts _ fl_X10_122) (fun _ h9 => h9) rfl dX10_move1_18 ?_
  refine lv_iload_n hx hb dX10_move1_21 rfl (lv_at hl 1 rfl) ?_
  have ha_10 : va_at (DG E) vwCl (rf 42, .inl (E.2.2 0, 25, .inl (A 42))) _ := hM.2 42 (by decide) (by decide) (by decide)
  refine va_iald (D := DG E) hx hb hK.1 (va_one ha_10) 0 0 rfl rfl hi_1 dX10_move1_22 ?_
  refine W.eq (g2 := F0 m 23 ls [.int ((A 42) n_3), .int p1, .ref (rf 42)]) (by rw [en_3]) ?_
  have ha_11 : va_at (DG E) vwCl (rf 42, .inl (E.2.2 0, 25, .inl (A 42))) _ := hM.2 42 (by decide) (by decide) (by decide)
  refine rr_iast (D := DG E) hx hb hK.1 0 ha_11 hS (by show G (rf 42) ≠ 0; rw [hR.2 42 (by decide) (by decide) (by decide)]; decide) rfl hi_7 dX10_move1_23 (fun H locs hn ho hz hS => ?_)
  rw [en_9] at hn
  obtain ⟨g_11, eg_11⟩ : ∃ z : Nat → Int32, z = upd (A 42) n_9 ((A 42) n_3) := ⟨_, rfl⟩
  have sg_11 : g_11 n_9 = ((A 42) n_3) := by rw [eg_11]; exact upd_s
  have ng_11 : ∀ k, k ≠ n_9 → g_11 k = (A 42) k := fun k hk => by rw [eg_11]; exact upd_n hk
  have hn : va_at (DG E) vwCl (rf 42, .inl (E.2.2 0, 25, .inl g_11)) H := by rw [eg_11]; exact hn
  have hM : MH E h0 rf t0 t1 t2 (uA (uA A 41 g_8) 42 g_11) cd pk H := hM.w hR 42 (by decide) (by decide) (by decide) hn ho
  refine lv_aload_n hx hb dX10_move1_24 rfl (lv_at hl 0 rfl) ?_
  refine va_get (D := DG E) (ci := 10) (v := .ref (rf 43)) (C := RX10) (T := TX10) (N := 49) hx hb hts iw_X10 hown hK.1 (va_one hM.1) 0 rfl rfl 43 (by decide) (hts _ fl_X10_125) (fun _ h9 => h9) rfl dX10_move1_25 ?_
  refine lv_iload_n hx hb dX10_move1_28 rfl (lv_at hl 2 rfl) ?_
  refine lv_aload_n hx hb dX10_move1_29 rfl (lv_at hl 0 rfl) ?_
  refine va_get (D := DG E) (ci := 10) (v := .ref (rf 43)) (C := RX10) (T := TX10) (N := 49) hx hb hts iw_X10 hown hK.1 (va_one hM.1) 0 rfl rfl 43 (by decide) (hts _ fl_X10_125) (fun _ h9 => h9) rfl dX10_move1_30 ?_
  refine lv_iload_n hx hb dX10_move1_33 rfl (lv_at hl 1 rfl) ?_
  have ha_12 : va_at (DG E) vwCl (rf 43, .inl (E.2.2 0, 25, .inl (A 43))) _ := hM.2 43 (by decide) (by decide) (by decide)
  refine va_iald (D := DG E) hx hb hK.1 (va_one ha_12) 0 0 rfl rfl hi_1 dX10_move1_34 ?_
  refine W.eq (g2 := F0 m 35 ls [.int ((A 43) n_3), .int p1, .ref (rf 43)]) (by rw [en_3]) ?_
  have ha_13 : va_at (DG E) vwCl (rf 43, .inl (E.2.2 0, 25, .inl (A 43))) _ := hM.2 43 (by decide) (by decide) (by decide)
  refine rr_iast (D := DG E) hx hb hK.1 0 ha_13 hS (by show G (rf 43) ≠ 0; rw [hR.2 43 (by decide) (by decide) (by decide)]; decide) rfl hi_7 dX10_move1_35 (fun H locs hn ho hz hS => ?_)
  rw [en_9] at hn
  obtain ⟨g_13, eg_13⟩ : ∃ z : Nat → Int32, z = upd (A 43) n_9 ((A 43) n_3) := ⟨_, rfl⟩
  have sg_13 : g_13 n_9 = ((A 43) n_3) := by rw [eg_13]; exact upd_s
  have ng_13 : ∀ k, k ≠ n_9 → g_13 k = (A 43) k := fun k hk => by rw [eg_13]; exact upd_n hk
  have hn : va_at (DG E) vwCl (rf 43, .inl (E.2.2 0, 25, .inl g_13)) H := by rw [eg_13]; exact hn
  have hM : MH E h0 rf t0 t1 t2 (uA (uA (uA A 41 g_8) 42 g_11) 43 g_13) cd pk H := hM.w hR 43 (by decide) (by decide) (by decide) hn ho
  refine lv_aload_n hx hb dX10_move1_36 rfl (lv_at hl 0 rfl) ?_
  refine va_get (D := DG E) (ci := 10) (v := .ref (rf 44)) (C := RX10) (T := TX10) (N := 49) hx hb hts iw_X10 hown hK.1 (va_one hM.1) 0 rfl rfl 44 (by decide) (hts _ fl_X10_128) (fun _ h9 => h9) rfl dX10_move1_37 ?_
  refine lv_iload_n hx hb dX10_move1_40 rfl (lv_at hl 2 rfl) ?_
  refine lv_aload_n hx hb dX10_move1_41 rfl (lv_at hl 0 rfl) ?_
  refine va_get (D := DG E) (ci := 10) (v := .ref (rf 44)) (C := RX10) (T := TX10) (N := 49) hx hb hts iw_X10 hown hK.1 (va_one hM.1) 0 rfl rfl 44 (by decide) (hts _ fl_X10_128) (fun _ h9 => h9) rfl dX10_move1_42 ?_
  refine lv_iload_n hx hb dX10_move1_45 rfl (lv_at hl 1 rfl) ?_
  have ha_14 : va_at (DG E) vwCl (rf 44, .inl (E.2.2 0, 25, .inl (A 44))) _ := hM.2 44 (by decide) (by decide) (by decide)
  refine va_iald (D := DG E) hx hb hK.1 (va_one ha_14) 0 0 rfl rfl hi_1 dX10_move1_46 ?_
  refine W.eq (g2 := F0 m 47 ls [.int ((A 44) n_3), .int p1, .ref (rf 44)]) (by rw [en_3]) ?_
  have ha_15 : va_at (DG E) vwCl (rf 44, .inl (E.2.2 0, 25, .inl (A 44))) _ := hM.2 44 (by decide) (by decide) (by decide)
  refine rr_iast (D := DG E) hx hb hK.1 0 ha_15 hS (by show G (rf 44) ≠ 0; rw [hR.2 44 (by decide) (by decide) (by decide)]; decide) rfl hi_7 dX10_move1_47 (fun H locs hn ho hz hS => ?_)
  rw [en_9] at hn
  obtain ⟨g_15, eg_15⟩ : ∃ z : Nat → Int32, z = upd (A 44) n_9 ((A 44) n_3) := ⟨_, rfl⟩
  have sg_15 : g_15 n_9 = ((A 44) n_3) := by rw [eg_15]; exact upd_s
  have ng_15 : ∀ k, k ≠ n_9 → g_15 k = (A 44) k := fun k hk => by rw [eg_15]; exact upd_n hk
  have hn : va_at (DG E) vwCl (rf 44, .inl (E.2.2 0, 25, .inl g_15)) H := by rw [eg_15]; exact hn
  have hM : MH E h0 rf t0 t1 t2 (uA (uA (uA (uA A 41 g_8) 42 g_11) 43 g_13) 44 g_15) cd pk H := hM.w hR 44 (by decide) (by decide) (by decide) hn ho
  refine lv_aload_n hx hb dX10_move1_48 rfl (lv_at hl 0 rfl) ?_
  refine va_get (D := DG E) (ci := 10) (v := .ref (rf 45)) (C := RX10) (T := TX10) (N := 49) hx hb hts iw_X10 hown hK.1 (va_one hM.1) 0 rfl rfl 45 (by decide) (hts _ fl_X10_131) (fun _ h9 => h9) rfl dX10_move1_49 ?_
  refine lv_iload_n hx hb dX10_move1_52 rfl (lv_at hl 2 rfl) ?_
  refine lv_aload_n hx hb dX10_move1_53 rfl (lv_at hl 0 rfl) ?_
  refine va_get (D := DG E) (ci := 10) (v := .ref (rf 45)) (C := RX10) (T := TX10) (N := 49) hx hb hts iw_X10 hown hK.1 (va_one hM.1) 0 rfl rfl 45 (by decide) (hts _ fl_X10_131) (fun _ h9 => h9) rfl dX10_move1_54 ?_
  refine lv_iload_n hx hb dX10_move1_57 rfl (lv_at hl 1 rfl) ?_
  have ha_16 : va_at (DG E) vwCl (rf 45, .inl (E.2.2 0, 25, .inl (A 45))) _ := hM.2 45 (by decide) (by decide) (by decide)
  refine va_iald (D := DG E) hx hb hK.1 (va_one ha_16) 0 0 rfl rfl hi_1 dX10_move1_58 ?_
  refine W.eq (g2 := F0 m 59 ls [.int ((A 45) n_3), .int p1, .ref (rf 45)]) (by rw [en_3]) ?_
  have ha_17 : va_at (DG E) vwCl (rf 45, .inl (E.2.2 0, 25, .inl (A 45))) _ := hM.2 45 (by decide) (by decide) (by decide)
  refine rr_iast (D := DG E) hx hb hK.1 0 ha_17 hS (by show G (rf 45) ≠ 0; rw [hR.2 45 (by decide) (by decide) (by decide)]; decide) rfl hi_7 dX10_move1_59 (fun H locs hn ho hz hS => ?_)
  rw [en_9] at hn
  obtain ⟨g_17, eg_17⟩ : ∃ z : Nat → Int32, z = upd (A 45) n_9 ((A 45) n_3) := ⟨_, rfl⟩
  have sg_17 : g_17 n_9 = ((A 45) n_3) := by rw [eg_17]; exact upd_s
  have ng_17 : ∀ k, k ≠ n_9 → g_17 k = (A 45) k := fun k hk => by rw [eg_17]; exact upd_n hk
  have hn : va_at (DG E) vwCl (rf 45, .inl (E.2.2 0, 25, .inl g_17)) H := by rw [eg_17]; exact hn
  have hM : MH E h0 rf t0 t1 t2 (uA (uA (uA (uA (uA A 41 g_8) 42 g_11) 43 g_13) 44 g_15) 45 g_17) cd pk H := hM.w hR 45 (by decide) (by decide) (by decide) hn ho
  refine lv_aload_n hx hb dX10_move1_60 rfl (lv_at hl 0 rfl) ?_
  refine va_get (D := DG E) (ci := 10) (v := .ref (rf 46)) (C := RX10) (T := TX10) (N := 49) hx hb hts iw_X10 hown hK.1 (va_one hM.1) 0 rfl rfl 46 (by decide) (hts _ fl_X10_134) (fun _ h9 => h9) rfl dX10_move1_61 ?_
  refine lv_iload_n hx hb dX10_move1_64 rfl (lv_at hl 2 rfl) ?_
  refine lv_aload_n hx hb dX10_move1_65 rfl (lv_at hl 0 rfl) ?_
  refine va_get (D := DG E) (ci := 10) (v := .ref (rf 46)) (C := RX10) (T := TX10) (N := 49) hx hb hts iw_X10 hown hK.1 (va_one hM.1) 0 rfl rfl 46 (by decide) (hts _ fl_X10_134) (fun _ h9 => h9) rfl dX10_move1_66 ?_
  refine lv_iload_n hx hb dX10_move1_69 rfl (lv_at hl 1 rfl) ?_
  have ha_18 : va_at (DG E) vwCl (rf 46, .inl (E.2.2 0, 25, .inl (A 46))) _ := hM.2 46 (by decide) (by decide) (by decide)
  refine va_iald (D := DG E) hx hb hK.1 (va_one ha_18) 0 0 rfl rfl hi_1 dX10_move1_70 ?_
  refine W.eq (g2 := F0 m 71 ls [.int ((A 46) n_3), .int p1, .ref (rf 46)]) (by rw [en_3]) ?_
  have ha_19 : va_at (DG E) vwCl (rf 46, .inl (E.2.2 0, 25, .inl (A 46))) _ := hM.2 46 (by decide) (by decide) (by decide)
  refine rr_iast (D := DG E) hx hb hK.1 0 ha_19 hS (by show G (rf 46) ≠ 0; rw [hR.2 46 (by decide) (by decide) (by decide)]; decide) rfl hi_7 dX10_move1_71 (fun H locs hn ho hz hS => ?_)
  rw [en_9] at hn
  obtain ⟨g_19, eg_19⟩ : ∃ z : Nat → Int32, z = upd (A 46) n_9 ((A 46) n_3) := ⟨_, rfl⟩
  have sg_19 : g_19 n_9 = ((A 46) n_3) := by rw [eg_19]; exact upd_s
  have ng_19 : ∀ k, k ≠ n_9 → g_19 k = (A 46) k := fun k hk => by rw [eg_19]; exact upd_n hk
  have hn : va_at (DG E) vwCl (rf 46, .inl (E.2.2 0, 25, .inl g_19)) H := by rw [eg_19]; exact hn
  have hM : MH E h0 rf t0 t1 t2 (uA (uA (uA (uA (uA (uA A 41 g_8) 42 g_11) 43 g_13) 44 g_15) 45 g_17) 46 g_19) cd pk H := hM.w hR 46 (by decide) (by decide) (by decide) hn ho
  refine lv_aload_n hx hb dX10_move1_72 rfl (lv_at hl 0 rfl) ?_
  refine va_get (D := DG E) (ci := 10) (v := .ref (rf 47)) (C := RX10) (T := TX10) (N := 49) hx hb hts iw_X10 hown hK.1 (va_one hM.1) 0 rfl rfl 47 (by decide) (hts _ fl_X10_137) (fun _ h9 => h9) rfl dX10_move1_73 ?_
  refine lv_iload_n hx hb dX10_move1_76 rfl (lv_at hl 2 rfl) ?_
  refine lv_aload_n hx hb dX10_move1_77 rfl (lv_at hl 0 rfl) ?_
  refine va_get (D := DG E) (ci := 10) (v := .ref (rf 47)) (C := RX10) (T := TX10) (N := 49) hx hb hts iw_X10 hown hK.1 (va_one hM.1) 0 rfl rfl 47 (by decide) (hts _ fl_X10_137) (fun _ h9 => h9) rfl dX10_move1_78 ?_
  refine lv_iload_n hx hb dX10_move1_81 rfl (lv_at hl 1 rfl) ?_
  have ha_20 : va_at (DG E) vwCl (rf 47, .inl (E.2.2 0, 25, .inl (A 47))) _ := hM.2 47 (by decide) (by decide) (by decide)
  refine va_iald (D := DG E) hx hb hK.1 (va_one ha_20) 0 0 rfl rfl hi_1 dX10_move1_82 ?_
  refine W.eq (g2 := F0 m 83 ls [.int ((A 47) n_3), .int p1, .ref (rf 47)]) (by rw [en_3]) ?_
  have ha_21 : va_at (DG E) vwCl (rf 47, .inl (E.2.2 0, 25, .inl (A 47))) _ := hM.2 47 (by decide) (by decide) (by decide)
  refine rr_iast (D := DG E) hx hb hK.1 0 ha_21 hS (by show G (rf 47) ≠ 0; rw [hR.2 47 (by decide) (by decide) (by decide)]; decide) rfl hi_7 dX10_move1_83 (fun H locs hn ho hz hS => ?_)
  rw [en_9] at hn
  obtain ⟨g_21, eg_21⟩ : ∃ z : Nat → Int32, z = upd (A 47) n_9 ((A 47) n_3) := ⟨_, rfl⟩
  have sg_21 : g_21 n_9 = ((A 47) n_3) := by rw [eg_21]; exact upd_s
  have ng_21 : ∀ k, k ≠ n_9 → g_21 k = (A 47) k := fun k hk => by rw [eg_21]; exact upd_n hk
  have hn : va_at (DG E) vwCl (rf 47, .inl (E.2.2 0, 25, .inl g_21)) H := by rw [eg_21]; exact hn
  have hM : MH E h0 rf t0 t1 t2 (uA (uA (uA (uA (uA (uA (uA A 41 g_8) 42 g_11) 43 g_13) 44 g_15) 45 g_17) 46 g_19) 47 g_21) cd pk H := hM.w hR 47 (by decide) (by decide) (by decide) hn ho
  refine lv_iconst (v := 0) hx hb dX10_move1_84 (by decide) ?_
  refine lv_istore_n (lv' := [(3, .int 0), (0, .ref h0), (1, .int p0), (2, .int p1)]) hx hb dX10_move1_85 rfl hl (by decide) rfl (fun ls hl => ?_)
  refine lv_iload_n hx hb dX10_move1_86 rfl (lv_at hl 0 rfl) ?_
  refine lv_iconst (v := 4) hx hb dX10_move1_87 (by decide) ?_
  refine lv_icmp_ge (tgt := 117) hx hb dX10_move1_88 (by decide) (fun c_22 => absurd c_22 (by decide)) (fun c_22 => ?_)
  refine lv_aload_n hx hb dX10_move1_91 rfl (lv_at hl 1 rfl) ?_
  refine va_get (D := DG E) (ci := 10) (v := .ref (rf 48)) (C := RX10) (T := TX10) (N := 49) hx hb hts iw_X10 hown hK.1 (va_one hM.1) 0 rfl rfl 48 (by decide) (hts _ fl_X10_140) (fun _ h9 => h9) rfl dX10_move1_92 ?_
  refine lv_iconst (v := 4) hx hb dX10_move1_95 (by decide) ?_
  refine lv_iload_n hx hb dX10_move1_96 rfl (lv_at hl 3 rfl) ?_
  refine lv_imul hx hb dX10_move1_97 ?_
  refine lv_topi (fun x_23 ex_23 => ?_)
  have fx_23 : x_23.toInt = 4 * p1.toInt := by rw [ex_23]; exact s_mulK i_4 (by omega) (by omega)
  refine lv_iload_n hx hb dX10_move1_98 rfl (lv_at hl 0 rfl) ?_
  refine lv_iadd hx hb dX10_move1_99 ?_
  refine lv_topi (fun x_24 ex_24 => ?_)
  have fx_24 : x_24.toInt = x_23.toInt + 0 := by have h9 := s_add (x := x_23) (y := 0) (by rw [i_0]; omega) (by rw [i_0]; omega); rw [i_0] at h9; rw [ex_24]; exact h9
  refine lv_aload_n hx hb dX10_move1_100 rfl (lv_at hl 1 rfl) ?_
  refine va_get (D := DG E) (ci := 10) (v := .ref (rf 48)) (C := RX10) (T := TX10) (N := 49) hx hb hts iw_X10 hown hK.1 (va_one hM.1) 0 rfl rfl 48 (by decide) (hts _ fl_X10_140) (fun _ h9 => h9) rfl dX10_move1_101 ?_
  refine lv_iconst (v := 4) hx hb dX10_move1_104 (by decide) ?_
  refine lv_iload_n hx hb dX10_move1_105 rfl (lv_at hl 2 rfl) ?_
  refine lv_imul hx hb dX10_move1_106 ?_
  refine lv_topi (fun x_25 ex_25 => ?_)
  have fx_25 : x_25.toInt = 4 * p0.toInt := by rw [ex_25]; exact s_mulK i_4 (by omega) (by omega)
  refine lv_iload_n hx hb dX10_move1_107 rfl (lv_at hl 0 rfl) ?_
  refine lv_iadd hx hb dX10_move1_108 ?_
  refine lv_topi (fun x_26 ex_26 => ?_)
  have fx_26 : x_26.toInt = x_25.toInt + 0 := by have h9 := s_add (x := x_25) (y := 0) (by rw [i_0]; omega) (by rw [i_0]; omega); rw [i_0] at h9; rw [ex_26]; exact h9
  have hi_27 : vp_in x_26 100 := vp_in_iff.mpr (by omega)
  have ha_28 : va_at (DG E) vwCl (rf 48, .inl (E.2.2 0, 100, .inl (A 48))) _ := hM.2 48 (by decide) (by decide) (by decide)
  obtain ⟨n_29, hn_29, en_29⟩ := s_nat (x := x_26) (by omega)
  refine va_iald (D := DG E) hx hb hK.1 (va_one ha_28) 0 0 rfl rfl hi_27 dX10_move1_109 ?_
  refine W.eq (g2 := F0 m 110 ls [.int ((A 48) n_29), .int x_24, .ref (rf 48)]) (by rw [en_29]) ?_
  have hi_30 : vp_in x_24 100 := vp_in_iff.mpr (by omega)
  have ha_31 : va_at (DG E) vwCl (rf 48, .inl (E.2.2 0, 100, .inl (A 48))) _ := hM.2 48 (by decide) (by decide) (by decide)
  obtain ⟨n_32, hn_32, en_32⟩ := s_nat (x := x_24) (by omega)
  refine rr_iast (D := DG E) hx hb hK.1 0 ha_31 hS (by show G (rf 48) ≠ 0; rw [hR.2 48 (by decide) (by decide) (by decide)]; decide) rfl hi_30 dX10_move1_110 (fun H locs hn ho hz hS => ?_)
  rw [en_32] at hn
  obtain ⟨g_31, eg_31⟩ : ∃ z : Nat → Int32, z = upd (A 48) n_32 ((A 48) n_29) := ⟨_, rfl⟩
  have sg_31 : g_31 n_32 = ((A 48) n_29) := by rw [eg_31]; exact upd_s
  have ng_31 : ∀ k, k ≠ n_32 → g_31 k = (A 48) k := fun k hk => by rw [eg_31]; exact upd_n hk
  have hn : va_at (DG E) vwCl (rf 48, .inl (E.2.2 0, 100, .inl g_31)) H := by rw [eg_31]; exact hn
  have hM : MH E h0 rf t0 t1 t2 (uA (uA (uA (uA (uA (uA (uA (uA A 41 g_8) 42 g_11) 43 g_13) 44 g_15) 45 g_17) 46 g_19) 47 g_21) 48 g_31) cd pk H := hM.w hR 48 (by decide) (by decide) (by decide) hn ho
  refine lv_iinc (v := 1) (lv' := [(3, .int 1), (0, .ref h0), (1, .int p0), (2, .int p1)]) hx hb dX10_move1_111 hl (k := 0) rfl (by decide) (by decide) rfl (fun ls hl => ?_)
  refine lv_goto (tgt := 86) hx hb dX10_move1_114 (by decide) ?_
  refine lv_iload_n hx hb dX10_move1_86 rfl (lv_at hl 0 rfl) ?_
  refine lv_iconst (v := 4) hx hb dX10_move1_87 (by decide) ?_
  refine lv_icmp_ge (tgt := 117) hx hb dX10_move1_88 (by decide) (fun c_33 => absurd c_33 (by decide)) (fun c_33 => ?_)
  refine lv_aload_n hx hb dX10_move1_91 rfl (lv_at hl 1 rfl) ?_
  refine va_get (D := DG E) (ci := 10) (v := .ref (rf 48)) (C := RX10) (T := TX10) (N := 49) hx hb hts iw_X10 hown hK.1 (va_one hM.1) 0 rfl rfl 48 (by decide) (hts _ fl_X10_140) (fun _ h9 => h9) rfl dX10_move1_92 ?_
  refine lv_iconst (v := 4) hx hb dX10_move1_95 (by decide) ?_
  refine lv_iload_n hx hb dX10_move1_96 rfl (lv_at hl 3 rfl) ?_
  refine lv_imul hx hb dX10_move1_97 ?_
  refine W.eq (g2 := F0 m 98 ls [.int x_23, .ref (rf 48)]) (by rw [ex_23]) ?_
  refine lv_iload_n hx hb dX10_move1_98 rfl (lv_at hl 0 rfl) ?_
  refine lv_iadd hx hb dX10_move1_99 ?_
  refine lv_topi (fun x_34 ex_34 => ?_)
  have fx_34 : x_34.toInt = x_23.toInt + 1 := by have h9 := s_add (x := x_23) (y := 1) (by rw [i_1]; omega) (by rw [i_1]; omega); rw [i_1] at h9; rw [ex_34]; exact h9
  refine lv_aload_n hx hb dX10_move1_100 rfl (lv_at hl 1 rfl) ?_
  refine va_get (D := DG E) (ci := 10) (v := .ref (rf 48)) (C := RX10) (T := TX10) (N := 49) hx hb hts iw_X10 hown hK.1 (va_one hM.1) 0 rfl rfl 48 (by decide) (hts _ fl_X10_140) (fun _ h9 => h9) rfl dX10_move1_101 ?_
  refine lv_iconst (v := 4) hx hb dX10_move1_104 (by decide) ?_
  refine lv_iload_n hx hb dX10_move1_105 rfl (lv_at hl 2 rfl) ?_
  refine lv_imul hx hb dX10_move1_106 ?_
  refine W.eq (g2 := F0 m 107 ls [.int x_25, .ref (rf 48), .int x_34, .ref (rf 48)]) (by rw [ex_25]) ?_
  refine lv_iload_n hx hb dX10_move1_107 rfl (lv_at hl 0 rfl) ?_
  refine lv_iadd hx hb dX10_move1_108 ?_
  refine lv_topi (fun x_35 ex_35 => ?_)
  have fx_35 : x_35.toInt = x_25.toInt + 1 := by have h9 := s_add (x := x_25) (y := 1) (by rw [i_1]; omega) (by rw [i_1]; omega); rw [i_1] at h9; rw [ex_35]; exact h9
  have hi_36 : vp_in x_35 100 := vp_in_iff.mpr (by omega)
  have ha_37 : va_at (DG E) vwCl (rf 48, .inl (E.2.2 0, 100, .inl g_31)) _ := hM.2 48 (by decide) (by decide) (by decide)
  obtain ⟨n_38, hn_38, en_38⟩ := s_nat (x := x_35) (by omega)
  refine va_iald (D := DG E) hx hb hK.1 (va_one ha_37) 0 0 rfl rfl hi_36 dX10_move1_109 ?_
  refine W.eq (g2 := F0 m 110 ls [.int (g_31 n_38), .int x_34, .ref (rf 48)]) (by rw [en_38]) ?_
  have hi_39 : vp_in x_34 100 := vp_in_iff.mpr (by omega)
  have ha_40 : va_at (DG E) vwCl (rf 48, .inl (E.2.2 0, 100, .inl g_31)) _ := hM.2 48 (by decide) (by decide) (by decide)
  obtain ⟨n_41, hn_41, en_41⟩ := s_nat (x := x_34) (by omega)
  refine rr_iast (D := DG E) hx hb hK.1 0 ha_40 hS (by show G (rf 48) ≠ 0; rw [hR.2 48 (by decide) (by decide) (by decide)]; decide) rfl hi_39 dX10_move1_110 (fun H locs hn ho hz hS => ?_)
  rw [en_41] at hn
  obtain ⟨g_40, eg_40⟩ : ∃ z : Nat → Int32, z = upd g_31 n_41 (g_31 n_38) := ⟨_, rfl⟩
  have sg_40 : g_40 n_41 = (g_31 n_38) := by rw [eg_40]; exact upd_s
  have ng_40 : ∀ k, k ≠ n_41 → g_40 k = g_31 k := fun k hk => by rw [eg_40]; exact upd_n hk
  have hn : va_at (DG E) vwCl (rf 48, .inl (E.2.2 0, 100, .inl g_40)) H := by rw [eg_40]; exact hn
  have hM : MH E h0 rf t0 t1 t2 (uA (uA (uA (uA (uA (uA (uA (uA (uA A 41 g_8) 42 g_11) 43 g_13) 44 g_15) 45 g_17) 46 g_19) 47 g_21) 48 g_31) 48 g_40) cd pk H := hM.w hR 48 (by decide) (by decide) (by decide) hn ho
  refine lv_iinc (v := 2) (lv' := [(3, .int 2), (0, .ref h0), (1, .int p0), (2, .int p1)]) hx hb dX10_move1_111 hl (k := 0) rfl (by decide) (by decide) rfl (fun ls hl => ?_)
  refine lv_goto (tgt := 86) hx hb dX10_move1_114 (by decide) ?_
  refine lv_iload_n hx hb dX10_move1_86 rfl (lv_at hl 0 rfl) ?_
  refine lv_iconst (v := 4) hx hb dX10_move1_87 (by decide) ?_
  refine lv_icmp_ge (tgt := 117) hx hb dX10_move1_88 (by decide) (fun c_42 => absurd c_42 (by decide)) (fun c_42 => ?_)
  refine lv_aload_n hx hb dX10_move1_91 rfl (lv_at hl 1 rfl) ?_
  refine va_get (D := DG E) (ci := 10) (v := .ref (rf 48)) (C := RX10) (T := TX10) (N := 49) hx hb hts iw_X10 hown hK.1 (va_one hM.1) 0 rfl rfl 48 (by decide) (hts _ fl_X10_140) (fun _ h9 => h9) rfl dX10_move1_92 ?_
  refine lv_iconst (v := 4) hx hb dX10_move1_95 (by decide) ?_
  refine lv_iload_n hx hb dX10_move1_96 rfl (lv_at hl 3 rfl) ?_
  refine lv_imul hx hb dX10_move1_97 ?_
  refine W.eq (g2 := F0 m 98 ls [.int x_23, .ref (rf 48)]) (by rw [ex_23]) ?_
  refine lv_iload_n hx hb dX10_move1_98 rfl (lv_at hl 0 rfl) ?_
  refine lv_iadd hx hb dX10_move1_99 ?_
  refine lv_topi (fun x_43 ex_43 => ?_)
  have fx_43 : x_43.toInt = x_23.toInt + 2 := by have h9 := s_add (x := x_23) (y := 2) (by rw [i_2]; omega) (by rw [i_2]; omega); rw [i_2] at h9; rw [ex_43]; exact h9
  refine lv_aload_n hx hb dX10_move1_100 rfl (lv_at hl 1 rfl) ?_
  refine va_get (D := DG E) (ci := 10) (v := .ref (rf 48)) (C := RX10) (T := TX10) (N := 49) hx hb hts iw_X10 hown hK.1 (va_one hM.1) 0 rfl rfl 48 (by decide) (hts _ fl_X10_140) (fun _ h9 => h9) rfl dX10_move1_101 ?_
  refine lv_iconst (v := 4) hx hb dX10_move1_104 (by decide) ?_
  refine lv_iload_n hx hb dX10_move1_105 rfl (lv_at hl 2 rfl) ?_
  refine lv_imul hx hb dX10_move1_106 ?_
  refine W.eq (g2 := F0 m 107 ls [.int x_25, .ref (rf 48), .int x_43, .ref (rf 48)]) (by rw [ex_25]) ?_
  refine lv_iload_n hx hb dX10_move1_107 rfl (lv_at hl 0 rfl) ?_
  refine lv_iadd hx hb dX10_move1_108 ?_
  refine lv_topi (fun x_44 ex_44 => ?_)
  have fx_44 : x_44.toInt = x_25.toInt + 2 := by have h9 := s_add (x := x_25) (y := 2) (by rw [i_2]; omega) (by rw [i_2]; omega); rw [i_2] at h9; rw [ex_44]; exact h9
  have hi_45 : vp_in x_44 100 := vp_in_iff.mpr (by omega)
  have ha_46 : va_at (DG E) vwCl (rf 48, .inl (E.2.2 0, 100, .inl g_40)) _ := hM.2 48 (by decide) (by decide) (by decide)
  obtain ⟨n_47, hn_47, en_47⟩ := s_nat (x := x_44) (by omega)
  refine va_iald (D := DG E) hx hb hK.1 (va_one ha_46) 0 0 rfl rfl hi_45 dX10_move1_109 ?_
  refine W.eq (g2 := F0 m 110 ls [.int (g_40 n_47), .int x_43, .ref (rf 48)]) (by rw [en_47]) ?_
  have hi_48 : vp_in x_43 100 := vp_in_iff.mpr (by omega)
  have ha_49 : va_at (DG E) vwCl (rf 48, .inl (E.2.2 0, 100, .inl g_40)) _ := hM.2 48 (by decide) (by decide) (by decide)
  obtain ⟨n_50, hn_50, en_50⟩ := s_nat (x := x_43) (by omega)
  refine rr_iast (D := DG E) hx hb hK.1 0 ha_49 hS (by show G (rf 48) ≠ 0; rw [hR.2 48 (by decide) (by decide) (by decide)]; decide) rfl hi_48 dX10_move1_110 (fun H locs hn ho hz hS => ?_)
  rw [en_50] at hn
  obtain ⟨g_49, eg_49⟩ : ∃ z : Nat → Int32, z = upd g_40 n_50 (g_40 n_47) := ⟨_, rfl⟩
  have sg_49 : g_49 n_50 = (g_40 n_47) := by rw [eg_49]; exact upd_s
  have ng_49 : ∀ k, k ≠ n_50 → g_49 k = g_40 k := fun k hk => by rw [eg_49]; exact upd_n hk
  have hn : va_at (DG E) vwCl (rf 48, .inl (E.2.2 0, 100, .inl g_49)) H := by rw [eg_49]; exact hn
  have hM : MH E h0 rf t0 t1 t2 (uA (uA (uA (uA (uA (uA (uA (uA (uA (uA A 41 g_8) 42 g_11) 43 g_13) 44 g_15) 45 g_17) 46 g_19) 47 g_21) 48 g_31) 48 g_40) 48 g_49) cd pk H := hM.w hR 48 (by decide) (by decide) (by decide) hn ho
  refine lv_iinc (v := 3) (lv' := [(3, .int 3), (0, .ref h0), (1, .int p0), (2, .int p1)]) hx hb dX10_move1_111 hl (k := 0) rfl (by decide) (by decide) rfl (fun ls hl => ?_)
  refine lv_goto (tgt := 86) hx hb dX10_move1_114 (by decide) ?_
  refine lv_iload_n hx hb dX10_move1_86 rfl (lv_at hl 0 rfl) ?_
  refine lv_iconst (v := 4) hx hb dX10_move1_87 (by decide) ?_
  refine lv_icmp_ge (tgt := 117) hx hb dX10_move1_88 (by decide) (fun c_51 => absurd c_51 (by decide)) (fun c_51 => ?_)
  refine lv_aload_n hx hb dX10_move1_91 rfl (lv_at hl 1 rfl) ?_
  refine va_get (D := DG E) (ci := 10) (v := .ref (rf 48)) (C := RX10) (T := TX10) (N := 49) hx hb hts iw_X10 hown hK.1 (va_one hM.1) 0 rfl rfl 48 (by decide) (hts _ fl_X10_140) (fun _ h9 => h9) rfl dX10_move1_92 ?_
  refine lv_iconst (v := 4) hx hb dX10_move1_95 (by decide) ?_
  refine lv_iload_n hx hb dX10_move1_96 rfl (lv_at hl 3 rfl) ?_
  refine lv_imul hx hb dX10_move1_97 ?_
  refine W.eq (g2 := F0 m 98 ls [.int x_23, .ref (rf 48)]) (by rw [ex_23]) ?_
  refine lv_iload_n hx hb dX10_move1_98 rfl (lv_at hl 0 rfl) ?_
  refine lv_iadd hx hb dX10_move1_99 ?_
  refine lv_topi (fun x_52 ex_52 => ?_)
  have fx_52 : x_52.toInt = x_23.toInt + 3 := by have h9 := s_add (x := x_23) (y := 3) (by rw [i_3]; omega) (by rw [i_3]; omega); rw [i_3] at h9; rw [ex_52]; exact h9
  refine lv_aload_n hx hb dX10_move1_100 rfl (lv_at hl 1 rfl) ?_
  refine va_get (D := DG E) (ci := 10) (v := .ref (rf 48)) (C := RX10) (T := TX10) (N := 49) hx hb hts iw_X10 hown hK.1 (va_one hM.1) 0 rfl rfl 48 (by decide) (hts _ fl_X10_140) (fun _ h9 => h9) rfl dX10_move1_101 ?_
  refine lv_iconst (v := 4) hx hb dX10_move1_104 (by decide) ?_
  refine lv_iload_n hx hb dX10_move1_105 rfl (lv_at hl 2 rfl) ?_
  refine lv_imul hx hb dX10_move1_106 ?_
  refine W.eq (g2 := F0 m 107 ls [.int x_25, .ref (rf 48), .int x_52, .ref (rf 48)]) (by rw [ex_25]) ?_
  refine lv_iload_n hx hb dX10_move1_107 rfl (lv_at hl 0 rfl) ?_
  refine lv_iadd hx hb dX10_move1_108 ?_
  refine lv_topi (fun x_53 ex_53 => ?_)
  have fx_53 : x_53.toInt = x_25.toInt + 3 := by have h9 := s_add (x := x_25) (y := 3) (by rw [i_3]; omega) (by rw [i_3]; omega); rw [i_3] at h9; rw [ex_53]; exact h9
  have hi_54 : vp_in x_53 100 := vp_in_iff.mpr (by omega)
  have ha_55 : va_at (DG E) vwCl (rf 48, .inl (E.2.2 0, 100, .inl g_49)) _ := hM.2 48 (by decide) (by decide) (by decide)
  obtain ⟨n_56, hn_56, en_56⟩ := s_nat (x := x_53) (by omega)
  refine va_iald (D := DG E) hx hb hK.1 (va_one ha_55) 0 0 rfl rfl hi_54 dX10_move1_109 ?_
  refine W.eq (g2 := F0 m 110 ls [.int (g_49 n_56), .int x_52, .ref (rf 48)]) (by rw [en_56]) ?_
  have hi_57 : vp_in x_52 100 := vp_in_iff.mpr (by omega)
  have ha_58 : va_at (DG E) vwCl (rf 48, .inl (E.2.2 0, 100, .inl g_49)) _ := hM.2 48 (by decide) (by decide) (by decide)
  obtain ⟨n_59, hn_59, en_59⟩ := s_nat (x := x_52) (by omega)
  refine rr_iast (D := DG E) hx hb hK.1 0 ha_58 hS (by show G (rf 48) ≠ 0; rw [hR.2 48 (by decide) (by decide) (by decide)]; decide) rfl hi_57 dX10_move1_110 (fun H locs hn ho hz hS => ?_)
  rw [en_59] at hn
  obtain ⟨g_58, eg_58⟩ : ∃ z : Nat → Int32, z = upd g_49 n_59 (g_49 n_56) := ⟨_, rfl⟩
  have sg_58 : g_58 n_59 = (g_49 n_56) := by rw [eg_58]; exact upd_s
  have ng_58 : ∀ k, k ≠ n_59 → g_58 k = g_49 k := fun k hk => by rw [eg_58]; exact upd_n hk
  have hn : va_at (DG E) vwCl (rf 48, .inl (E.2.2 0, 100, .inl g_58)) H := by rw [eg_58]; exact hn
  have hM : MH E h0 rf t0 t1 t2 (uA (uA (uA (uA (uA (uA (uA (uA (uA (uA (uA A 41 g_8) 42 g_11) 43 g_13) 44 g_15) 45 g_17) 46 g_19) 47 g_21) 48 g_31) 48 g_40) 48 g_49) 48 g_58) cd pk H := hM.w hR 48 (by decide) (by decide) (by decide) hn ho
  refine lv_iinc (v := 4) (lv' := [(3, .int 4), (0, .ref h0), (1, .int p0), (2, .int p1)]) hx hb dX10_move1_111 hl (k := 0) rfl (by decide) (by decide) rfl (fun ls hl => ?_)
  refine lv_goto (tgt := 86) hx hb dX10_move1_114 (by decide) ?_
  refine lv_iload_n hx hb dX10_move1_86 rfl (lv_at hl 0 rfl) ?_
  refine lv_iconst (v := 4) hx hb dX10_move1_87 (by decide) ?_
  refine lv_icmp_ge (tgt := 117) hx hb dX10_move1_88 (by decide) (fun c_60 => ?_) (fun c_60 => absurd c_60 (by decide))
  have hI7_61 : I7 g_8 g_11 g_15 g_17 g_19 := by
    intro n9 hn9
    have h9 : 0 ≤ ((A 41) n9).toInt ∧ ((A 41) n9).toInt ≤ 3 ∧ 0 ≤ ((A 44) n9).toInt ∧ ((A 44) n9).toInt ≤ 12 ∧ (((A 42) n9).toInt ≠ 0 ∧ ((A 42) n9).toInt ≠ 1 ∧ ((A 42) n9).toInt ≠ 4 ∨ ((A 44) n9).toInt ≤ 4) ∧ (((A 42) n9).toInt < 1 ∨ 3 < ((A 42) n9).toInt ∨ (0 ≤ ((A 45) n9).toInt ∧ ((A 45) n9).toInt ≤ 5)) ∧ -1 ≤ ((A 46) n9).toInt ∧ ((A 46) n9).toInt ≤ 60 ∧ 0 ≤ ((A 42) n9).toInt := hI7 n9 hn9
    show 0 ≤ (g_8 n9).toInt ∧ (g_8 n9).toInt ≤ 3 ∧ 0 ≤ (g_15 n9).toInt ∧ (g_15 n9).toInt ≤ 12 ∧ ((g_11 n9).toInt ≠ 0 ∧ (g_11 n9).toInt ≠ 1 ∧ (g_11 n9).toInt ≠ 4 ∨ (g_15 n9).toInt ≤ 4) ∧ ((g_11 n9).toInt < 1 ∨ 3 < (g_11 n9).toInt ∨ (0 ≤ (g_17 n9).toInt ∧ (g_17 n9).toInt ≤ 5)) ∧ -1 ≤ (g_19 n9).toInt ∧ (g_19 n9).toInt ≤ 60 ∧ 0 ≤ (g_11 n9).toInt
    by_cases ezn_9 : n9 = n_9
    · rw [ezn_9] at h9 ⊢
      rw [sg_8]
      rw [sg_11]
      rw [sg_15]
      rw [sg_17]
      rw [sg_19]
      exact hI7 n_3 (by omega)
    · rw [ng_8 n9 ezn_9]
      rw [ng_11 n9 ezn_9]
      rw [ng_15 n9 ezn_9]
      rw [ng_17 n9 ezn_9]
      rw [ng_19 n9 ezn_9]
      exact h9
  exact W.vret hx hb hr (fun t ht hW => ⟨⟨(g_8, g_11, g_13, g_15, g_17, g_19, g_21, g_58), rfl, ⟨hI7_61, ⟨n_3, hn_3, n_9, hn_9, g_8, eg_8, g_11, eg_11, g_13, eg_13, g_15, eg_15, g_17, eg_17, g_19, eg_19, g_21, eg_21, x_23, ex_23, fx_23, x_24, ex_24, fx_24, x_25, ex_25, fx_25, x_26, ex_26, fx_26, n_29, hn_29, n_32, hn_32, g_31, eg_31, x_34, ex_34, fx_34, x_35, ex_35, fx_35, n_38, hn_38, n_41, hn_41, g_40, eg_40, x_43, ex_43, fx_43, x_44, ex_44, fx_44, n_47, hn_47, n_50, hn_50, g_49, eg_49, x_52, ex_52, fx_52, x_53, ex_53, fx_53, n_56, hn_56, n_59, hn_59, g_58, eg_58, rfl, rfl, rfl⟩⟩, (by show MH E h0 rf t0 t1 t2 (uA (uA (uA (uA (uA (uA (uA (uA A 41 g_8) 42 g_11) 43 g_13) 44 g_15) 45 g_17) 46 g_19) 47 g_21) 48 g_58) cd pk t.heap; rw [ht]; exact hM.cge (funext fun j => (cgj j 48 rfl (fun a0 => (cgj j 47 rfl (fun a1 => (cgj j 46 rfl (fun a2 => (cgj j 45 rfl (fun a3 => (cgj j 44 rfl (fun a4 => (cgj j 43 rfl (fun a5 => (cgj j 42 rfl (fun a6 => (cgj j 41 rfl (fun a7 => (by simp only [uA_n a0, uA_n a1, uA_n a2, uA_n a3, uA_n a4, uA_n a5, uA_n a6, uA_n a7])))))))))))))))))))⟩, hS.F ht⟩) hS.2.2 dX10_move1_117
theorem gdX10_emit_0 : (decode cX10_emit 0 = .ok (.aload_n 0, 1)) ∧ (decode cX10_emit 1 = .ok (.getfield 164, 3)) ∧ (decode cX10_emit 4 = .ok (.bipush 24, 2)) ∧ (decode cX10_emit 6 = .ok (.if_icmp .ne 5, 3)) ∧ (decode cX10_emit 9 = .ok (.iconst (-1), 1)) ∧ (decode cX10_emit 10 = .ok (.ireturn, 1)) ∧ (decode cX10_emit 11 = .ok (.aload_n 0, 1)) ∧ (decode cX10_emit 12 = .ok (.getfield 164, 3)) ∧ (decode cX10_emit 15 = .ok (.istore 7, 2)) ∧ (decode cX10_emit 17 = .ok (.aload_n 0, 1)) ∧ (decode cX10_emit 18 = .ok (.dup, 1)) ∧ (decode cX10_emit 19 = .ok (.getfield 164, 3)) ∧ (decode cX10_emit 22 = .ok (.iconst 1, 1)) ∧ (decode cX10_emit 23 = .ok (.iadd, 1)) ∧ (decode cX10_emit 24 = .ok (.putfield 164, 3)) ∧ (decode cX10_emit 27 = .ok (.aload_n 0, 1)) := by decide +kernel
theorem dX10_emit_0 : decode cX10_emit 0 = .ok (.aload_n 0, 1) := gdX10_emit_0.1
theorem dX10_emit_1 : decode cX10_emit 1 = .ok (.getfield 164, 3) := gdX10_emit_0.2.1
theorem dX10_emit_4 : decode cX10_emit 4 = .ok (.bipush 24, 2) := gdX10_emit_0.2.2.1
theorem dX10_emit_6 : decode cX10_emit 6 = .ok (.if_icmp .ne 5, 3) := gdX10_emit_0.2.2.2.1
theorem dX10_emit_9 : decode cX10_emit 9 = .ok (.iconst (-1), 1) := gdX10_emit_0.2.2.2.2.1
theorem dX10_emit_10 : decode cX10_emit 10 = .ok (.ireturn, 1) := gdX10_emit_0.2.2.2.2.2.1
theorem dX10_emit_11 : decode cX10_emit 11 = .ok (.aload_n 0, 1) := gdX10_emit_0.2.2.2.2.2.2.1
theorem dX10_emit_12 : decode cX10_emit 12 = .ok (.getfield 164, 3) := gdX10_emit_0.2.2.2.2.2.2.2.1
theorem dX10_emit_15 : decode cX10_emit 15 = .ok (.istore 7, 2) := gdX10_emit_0.2.2.2.2.2.2.2.2.1
theorem dX10_emit_17 : decode cX10_emit 17 = .ok (.aload_n 0, 1) := gdX10_emit_0.2.2.2.2.2.2.2.2.2.1
theorem dX10_emit_18 : decode cX10_emit 18 = .ok (.dup, 1) := gdX10_emit_0.2.2.2.2.2.2.2.2.2.2.1
theorem dX10_emit_19 : decode cX10_emit 19 = .ok (.getfield 164, 3) := gdX10_emit_0.2.2.2.2.2.2.2.2.2.2.2.1
theorem dX10_emit_22 : decode cX10_emit 22 = .ok (.iconst 1, 1) := gdX10_emit_0.2.2.2.2.2.2.2.2.2.2.2.2.1
theorem dX10_emit_23 : decode cX10_emit 23 = .ok (.iadd, 1) := gdX10_emit_0.2.2.2.2.2.2.2.2.2.2.2.2.2.1
theorem dX10_emit_24 : decode cX10_emit 24 = .ok (.putfield 164, 3) := gdX10_emit_0.2.2.2.2.2.2.2.2.2.2.2.2.2.2.1
theorem dX10_emit_27 : decode cX10_emit 27 = .ok (.aload_n 0, 1) := gdX10_emit_0.2.2.2.2.2.2.2.2.2.2.2.2.2.2.2
theorem gdX10_emit_28 : (decode cX10_emit 28 = .ok (.getfield 119, 3)) ∧ (decode cX10_emit 31 = .ok (.iload 7, 2)) ∧ (decode cX10_emit 33 = .ok (.iload_n 1, 1)) ∧ (decode cX10_emit 34 = .ok (.invokestatic 167, 3)) ∧ (decode cX10_emit 37 = .ok (.iastore, 1)) ∧ (decode cX10_emit 38 = .ok (.aload_n 0, 1)) ∧ (decode cX10_emit 39 = .ok (.getfield 122, 3)) ∧ (decode cX10_emit 42 = .ok (.iload 7, 2)) ∧ (decode cX10_emit 44 = .ok (.iload_n 2, 1)) ∧ (decode cX10_emit 45 = .ok (.iastore, 1)) ∧ (decode cX10_emit 46 = .ok (.aload_n 0, 1)) ∧ (decode cX10_emit 47 = .ok (.getfield 125, 3)) ∧ (decode cX10_emit 50 = .ok (.iload 7, 2)) ∧ (decode cX10_emit 52 = .ok (.iload_n 3, 1)) ∧ (decode cX10_emit 53 = .ok (.iastore, 1)) ∧ (decode cX10_emit 54 = .ok (.aload_n 0, 1)) := by decide +kernel
theorem dX10_emit_28 : decode cX10_emit 28 = .ok (.getfield 119, 3) := gdX10_emit_28.1
theorem dX10_emit_31 : decode cX10_emit 31 = .ok (.iload 7, 2) := gdX10_emit_28.2.1
theorem dX10_emit_33 : decode cX10_emit 33 = .ok (.iload_n 1, 1) := gdX10_emit_28.2.2.1
theorem dX10_emit_34 : decode cX10_emit 34 = .ok (.invokestatic 167, 3) := gdX10_emit_28.2.2.2.1
theorem dX10_emit_37 : decode cX10_emit 37 = .ok (.iastore, 1) := gdX10_emit_28.2.2.2.2.1
theorem dX10_emit_38 : decode cX10_emit 38 = .ok (.aload_n 0, 1) := gdX10_emit_28.2.2.2.2.2.1
theorem dX10_emit_39 : decode cX10_emit 39 = .ok (.getfield 122, 3) := gdX10_emit_28.2.2.2.2.2.2.1
theorem dX10_emit_42 : decode cX10_emit 42 = .ok (.iload 7, 2) := gdX10_emit_28.2.2.2.2.2.2.2.1
theorem dX10_emit_44 : decode cX10_emit 44 = .ok (.iload_n 2, 1) := gdX10_emit_28.2.2.2.2.2.2.2.2.1
theorem dX10_emit_45 : decode cX10_emit 45 = .ok (.iastore, 1) := gdX10_emit_28.2.2.2.2.2.2.2.2.2.1
theorem dX10_emit_46 : decode cX10_emit 46 = .ok (.aload_n 0, 1) := gdX10_emit_28.2.2.2.2.2.2.2.2.2.2.1
theorem dX10_emit_47 : decode cX10_emit 47 = .ok (.getfield 125, 3) := gdX10_emit_28.2.2.2.2.2.2.2.2.2.2.2.1
theorem dX10_emit_50 : decode cX10_emit 50 = .ok (.iload 7, 2) := gdX10_emit_28.2.2.2.2.2.2.2.2.2.2.2.2.1
theorem dX10_emit_52 : decode cX10_emit 52 = .ok (.iload_n 3, 1) := gdX10_emit_28.2.2.2.2.2.2.2.2.2.2.2.2.2.1
theorem dX10_emit_53 : decode cX10_emit 53 = .ok (.iastore, 1) := gdX10_emit_28.2.2.2.2.2.2.2.2.2.2.2.2.2.2.1
theorem dX10_emit_54 : decode cX10_emit 54 = .ok (.aload_n 0, 1) := gdX10_emit_28.2.2.2.2.2.2.2.2.2.2.2.2.2.2.2
theorem gdX10_emit_55 : (decode cX10_emit 55 = .ok (.getfield 128, 3)) ∧ (decode cX10_emit 58 = .ok (.iload 7, 2)) ∧ (decode cX10_emit 60 = .ok (.iconst 0, 1)) ∧ (decode cX10_emit 61 = .ok (.iastore, 1)) ∧ (decode cX10_emit 62 = .ok (.aload_n 0, 1)) ∧ (decode cX10_emit 63 = .ok (.getfield 131, 3)) ∧ (decode cX10_emit 66 = .ok (.iload 7, 2)) ∧ (decode cX10_emit 68 = .ok (.iload 4, 2)) ∧ (decode cX10_emit 70 = .ok (.iastore, 1)) ∧ (decode cX10_emit 71 = .ok (.aload_n 0, 1)) ∧ (decode cX10_emit 72 = .ok (.getfield 134, 3)) ∧ (decode cX10_emit 75 = .ok (.iload 7, 2)) ∧ (decode cX10_emit 77 = .ok (.iload 5, 2)) ∧ (decode cX10_emit 79 = .ok (.iastore, 1)) ∧ (decode cX10_emit 80 = .ok (.aload_n 0, 1)) ∧ (decode cX10_emit 81 = .ok (.getfield 137, 3)) := by decide +kernel
theorem dX10_emit_55 : decode cX10_emit 55 = .ok (.getfield 128, 3) := gdX10_emit_55.1
theorem dX10_emit_58 : decode cX10_emit 58 = .ok (.iload 7, 2) := gdX10_emit_55.2.1
theorem dX10_emit_60 : decode cX10_emit 60 = .ok (.iconst 0, 1) := gdX10_emit_55.2.2.1
theorem dX10_emit_61 : decode cX10_emit 61 = .ok (.iastore, 1) := gdX10_emit_55.2.2.2.1
theorem dX10_emit_62 : decode cX10_emit 62 = .ok (.aload_n 0, 1) := gdX10_emit_55.2.2.2.2.1
theorem dX10_emit_63 : decode cX10_emit 63 = .ok (.getfield 131, 3) := gdX10_emit_55.2.2.2.2.2.1
theorem dX10_emit_66 : decode cX10_emit 66 = .ok (.iload 7, 2) := gdX10_emit_55.2.2.2.2.2.2.1
theorem dX10_emit_68 : decode cX10_emit 68 = .ok (.iload 4, 2) := gdX10_emit_55.2.2.2.2.2.2.2.1
theorem dX10_emit_70 : decode cX10_emit 70 = .ok (.iastore, 1) := gdX10_emit_55.2.2.2.2.2.2.2.2.1
theorem dX10_emit_71 : decode cX10_emit 71 = .ok (.aload_n 0, 1) := gdX10_emit_55.2.2.2.2.2.2.2.2.2.1
theorem dX10_emit_72 : decode cX10_emit 72 = .ok (.getfield 134, 3) := gdX10_emit_55.2.2.2.2.2.2.2.2.2.2.1
theorem dX10_emit_75 : decode cX10_emit 75 = .ok (.iload 7, 2) := gdX10_emit_55.2.2.2.2.2.2.2.2.2.2.2.1
theorem dX10_emit_77 : decode cX10_emit 77 = .ok (.iload 5, 2) := gdX10_emit_55.2.2.2.2.2.2.2.2.2.2.2.2.1
theorem dX10_emit_79 : decode cX10_emit 79 = .ok (.iastore, 1) := gdX10_emit_55.2.2.2.2.2.2.2.2.2.2.2.2.2.1
theorem dX10_emit_80 : decode cX10_emit 80 = .ok (.aload_n 0, 1) := gdX10_emit_55.2.2.2.2.2.2.2.2.2.2.2.2.2.2.1
theorem dX10_emit_81 : decode cX10_emit 81 = .ok (.getfield 137, 3) := gdX10_emit_55.2.2.2.2.2.2.2.2.2.2.2.2.2.2.2
theorem gdX10_emit_84 : (decode cX10_emit 84 = .ok (.iload 7, 2)) ∧ (decode cX10_emit 86 = .ok (.iload 6, 2)) ∧ (decode cX10_emit 88 = .ok (.iastore, 1)) ∧ (decode cX10_emit 89 = .ok (.iload 7, 2)) ∧ (decode cX10_emit 91 = .ok (.ireturn, 1)) := by decide +kernel
theorem dX10_emit_84 : decode cX10_emit 84 = .ok (.iload 7, 2) := gdX10_emit_84.1
theorem dX10_emit_86 : decode cX10_emit 86 = .ok (.iload 6, 2) := gdX10_emit_84.2.1
theorem dX10_emit_88 : decode cX10_emit 88 = .ok (.iastore, 1) := gdX10_emit_84.2.2.1
theorem dX10_emit_89 : decode cX10_emit 89 = .ok (.iload 7, 2) := gdX10_emit_84.2.2.2.1
theorem dX10_emit_91 : decode cX10_emit 91 = .ok (.ireturn, 1) := gdX10_emit_84.2.2.2.2
set_option maxHeartbeats 8000000 in
set_option maxRecDepth 100000 in
theorem u_X10_emit (l : Launch) (E : EE) (z0 : Nat) (G : Nat → Nat) (hGz : ∀ q, G q ≠ 0 → z0 ≤ q) (h0 : Nat) (rf : Nat → Nat) (hR : MG G h0 rf) (t0 t1 t2 : Int32) (A : AA) (cd pk : Int32) (p0 : Int32) (p1 : Int32) (p2 : Int32) (p3 : Int32) (p4 : Int32) (p5 : Int32) (hI7 : I7 (A 41) (A 42) (A 44) (A 45) (A 46)) (hy0 : 0 ≤ p0.toInt ∧ p0.toInt ≤ 3) (hy1 : 0 ≤ pk.toInt ∧ pk.toInt ≤ 24) (hy2 : -1 ≤ p4.toInt ∧ p4.toInt ≤ 60) (hy3 : 0 ≤ p1.toInt) (hy4 : p1.toInt < 1 ∨ 3 < p1.toInt ∨ (0 ≤ p3.toInt ∧ p3.toInt ≤ 5)) : Met l yX10_emit [Cond.code yX10_emit cX10_emit 8 (some .int)] ({ frames := 1, cells := 0, slots := 0, locals := 20 } : Room) (va_Pc [.ref h0, .int p0, .int p1, .int p2, .int p3, .int p4, .int p5] (fun U => MH E h0 rf t0 t1 t2 A cd pk U.heap ∧ KS E z0 U)) (va_Qi (fun (r : Int32) (u : (Nat → Int32) × (Nat → Int32) × (Nat → Int32) × (Nat → Int32) × (Nat → Int32) × (Nat → Int32) × (Nat → Int32) × Int32) => (I7 (u.1) (u.2.1) (u.2.2.2.1) (u.2.2.2.2.1) (u.2.2.2.2.2.1)) ∧ (0 ≤ (u.2.2.2.2.2.2.2).toInt ∧ (u.2.2.2.2.2.2.2).toInt ≤ 24) ∧ (-1 ≤ r.toInt ∧ r.toInt ≤ 23) ∧ (∀ n : Nat, (n : Int) = r.toInt → (u.2.1) n = p1) ∧ (((u.2.2.2.1) 24).toInt = ((A 44) 24).toInt ∧ ((u.2.2.2.2.2.1) 24).toInt = ((A 46) 24).toInt) ∧ (D_X10_emit A cd pk p0 p1 p2 p3 p4 p5 (uA (uA (uA (uA (uA (uA (uA A 41 (u.1)) 42 (u.2.1)) 43 (u.2.2.1)) 44 (u.2.2.2.1)) 45 (u.2.2.2.2.1)) 46 (u.2.2.2.2.2.1)) 47 (u.2.2.2.2.2.2.1)) cd (u.2.2.2.2.2.2.2) r)) (fun u t => MH E h0 rf t0 t1 t2 (uA (uA (uA (uA (uA (uA (uA A 41 (u.1)) 42 (u.2.1)) 43 (u.2.2.1)) 44 (u.2.2.2.1)) 45 (u.2.2.2.2.1)) 46 (u.2.2.2.2.2.1)) 47 (u.2.2.2.2.2.2.1)) cd (u.2.2.2.2.2.2.2) t.heap) (fun q : Nat => G q ≠ 0)) 0 0 (fun q : Nat => G q ≠ 0) := by
  refine Met.ofW (cc := cX10_emit) (maxL := 8) (ret := (some .int)) (by decide) rfl ?_
  intro p e s m args below meth c s₁ B hml hv
  obtain ⟨rfl, hM, hK⟩ := hv
  have hx := B.exec
  have hb := B.bytes
  have hr := B.returns
  have hts : ∀ w ∈ TS, w.before ([.ref h0, .int p0, .int p1, .int p2, .int p3, .int p4, .int p5] : List Value).toArray s = true := fun w hw => hK.2.1 w hw _
  have hown : s.vm.findClass RX10 = some m.cls := findClass_of_methodNamed B.named
  have hlocks := B.notSynchronized
  have hS : va_S (fun q : Nat => G q ≠ 0) s.heap s.heap [] := va_S.rf
  have hAz : ∀ q, (fun q : Nat => G q ≠ 0) q → z0 ≤ q := hGz
  have hl := lv_entry ([.ref h0, .int p0, .int p1, .int p2, .int p3, .int p4, .int p5]) (n := 8) (Nat.le_of_ble_eq_true rfl)
  rw [lg_entry_eq]
  generalize (lg_sl ([.ref h0, .int p0, .int p1, .int p2, .int p3, .int p4, .int p5]) ++ List.replicate (8 - (lg_sl ([.ref h0, .int p0, .int p1, .int p2, .int p3, .int p4, .int p5])).length) Slot.unset).toArray = ls at hl ⊢
  have hl : lv_has ls 8 [(0, .ref h0), (1, .int p0), (2, .int p1), (3, .int p2), (4, .int p3), (5, .int p4), (6, .int p5)] := hl
  refine lv_aload_n hx hb dX10_emit_0 rfl (lv_at hl 0 rfl) ?_
  refine va_get (D := DG E) (ci := 10) (v := .int pk) (C := RX10) (T := TX10) (N := 49) hx hb hts iw_X10 hown hK.1 (va_one hM.1) 0 rfl rfl 40 (by decide) (hts _ fl_X10_164) (fun _ h9 => h9) rfl dX10_emit_1 ?_
  refine lv_bipush (v := 24) hx hb dX10_emit_4 (by decide) ?_
  refine lv_icmp_ne (tgt := 11) hx hb dX10_emit_6 (by decide) (fun c_1 => ?_) (fun c_1 => ?_)
  · simp only [lt_I, le_I, eq_I, i_0, i_1, i_2, i_3, i_4, i_5, i_6, i_7, i_8, i_10, i_12, i_16, i_20, i_23, i_24, i_31, i_32, i_63, i_64, i_m1, i_9, i_11, i_13, i_25, i_60, i_75, i_79, i_80, i_96, i_100] at c_1
    refine lv_aload_n hx hb dX10_emit_11 rfl (lv_at hl 0 rfl) ?_
    refine va_get (D := DG E) (ci := 10) (v := .int pk) (C := RX10) (T := TX10) (N := 49) hx hb hts iw_X10 hown hK.1 (va_one hM.1) 0 rfl rfl 40 (by decide) (hts _ fl_X10_164) (fun _ h9 => h9) rfl dX10_emit_12 ?_
    refine lv_istore (lv' := [(7, .int pk), (0, .ref h0), (1, .int p0), (2, .int p1), (3, .int p2), (4, .int p3), (5, .int p4), (6, .int p5)]) hx hb dX10_emit_15 hl (by decide) rfl (fun ls hl => ?_)
    refine lv_aload_n hx hb dX10_emit_17 rfl (lv_at hl 1 rfl) ?_
    refine lv_dup hx hb dX10_emit_18 rfl ?_
    refine va_get (D := DG E) (ci := 10) (v := .int pk) (C := RX10) (T := TX10) (N := 49) hx hb hts iw_X10 hown hK.1 (va_one hM.1) 0 rfl rfl 40 (by decide) (hts _ fl_X10_164) (fun _ h9 => h9) rfl dX10_emit_19 ?_
    refine lv_iconst (v := 1) hx hb dX10_emit_22 (by decide) ?_
    refine lv_iadd hx hb dX10_emit_23 ?_
    refine lv_topi (fun x_2 ex_2 => ?_)
    have fx_2 : x_2.toInt = pk.toInt + 1 := by have h9 := s_add (x := pk) (y := 1) (by rw [i_1]; omega) (by rw [i_1]; omega); rw [i_1] at h9; rw [ex_2]; exact h9
    refine rr_put (D := DG E) (ci := 10) (v := .int x_2) (ty := .int) (C := RX10) (T := TX10) (N := 49) hx hb hts iw_X10 tyX10 tyX10_ok nmX10 hown hK.1 hM.1 hS (by show G h0 ≠ 0; rw [hR.1]; decide) rfl 40 (by decide) (hts _ fl_X10_164) (fun _ h9 => h9) rfl (by decide +kernel) rfl rfl (Nat.le_of_ble_eq_true rfl) dX10_emit_24 (fun H locs hn ho hz hS => ?_)
    rw [mfs_set40] at hn
    have hM : MH E h0 rf t0 t1 t2 A cd x_2 H := hM.sc hR hn ho
    refine lv_aload_n hx hb dX10_emit_27 rfl (lv_at hl 1 rfl) ?_
    refine va_get (D := DG E) (ci := 10) (v := .ref (rf 41)) (C := RX10) (T := TX10) (N := 49) hx hb hts iw_X10 hown hK.1 (va_one hM.1) 0 rfl rfl 41 (by decide) (hts _ fl_X10_119) (fun _ h9 => h9) rfl dX10_emit_28 ?_
    refine lv_iload hx hb dX10_emit_31 (lv_at hl 0 rfl) ?_
    refine lv_iload_n hx hb dX10_emit_33 rfl (lv_at hl 2 rfl) ?_
    refine W.callR (W.runS (As := [.int p0]) (rest := [.int pk, .ref (rf 41)]) ⟨hx, hb, hml, hown, hts⟩ (c_X10_peer l p0) (cwS 1 hts (gdS ml_X10_167 st_X10_peer in_X10 co_X10_peer rfl) rfl rfl rfl (by decide +kernel) ⟨Nat.le_of_ble_eq_true rfl, Nat.le_of_ble_eq_true rfl⟩) preEq rfl rfl hl.1 rfl (lv_room (Nat.le_of_ble_eq_true rfl)) dX10_emit_34 ⟨Nat.le_of_ble_eq_true rfl, Nat.le_of_ble_eq_true rfl⟩) ?_
    refine W.eq (g2 := F0 m 37 ls [.int (peerT p0), .int pk, .ref (rf 41)]) (by rfl) ?_
    refine lv_topi (fun x_3 ex_3 => ?_)
    have fx_3 := peerT_b (q := p0) (by omega); rw [← ex_3] at fx_3
    have hi_4 : vp_in pk 25 := vp_in_iff.mpr (by omega)
    have ha_5 : va_at (DG E) vwCl (rf 41, .inl (E.2.2 0, 25, .inl (A 41))) _ := hM.2 41 (by decide) (by decide) (by decide)
    obtain ⟨n_6, hn_6, en_6⟩ := s_nat (x := pk) (by omega)
    refine rr_iast (D := DG E) hx hb hK.1 0 ha_5 hS (by show G (rf 41) ≠ 0; rw [hR.2 41 (by decide) (by decide) (by decide)]; decide) rfl hi_4 dX10_emit_37 (fun H locs hn ho hz hS => ?_)
    rw [en_6] at hn
    obtain ⟨g_5, eg_5⟩ : ∃ z : Nat → Int32, z = upd (A 41) n_6 x_3 := ⟨_, rfl⟩
    have sg_5 : g_5 n_6 = x_3 := by rw [eg_5]; exact upd_s
    have ng_5 : ∀ k, k ≠ n_6 → g_5 k = (A 41) k := fun k hk => by rw [eg_5]; exact upd_n hk
    have hn : va_at (DG E) vwCl (rf 41, .inl (E.2.2 0, 25, .inl g_5)) H := by rw [eg_5]; exact hn
    have hM : MH E h0 rf t0 t1 t2 (uA A 41 g_5) cd x_2 H := hM.w hR 41 (by decide) (by decide) (by decide) hn ho
    refine lv_aload_n hx hb dX10_emit_38 rfl (lv_at hl 1 rfl) ?_
    refine va_get (D := DG E) (ci := 10) (v := .ref (rf 42)) (C := RX10) (T := TX10) (N := 49) hx hb hts iw_X10 hown hK.1 (va_one hM.1) 0 rfl rfl 42 (by decide) (hts _ fl_X10_122) (fun _ h9 => h9) rfl dX10_emit_39 ?_
    refine lv_iload hx hb dX10_emit_42 (lv_at hl 0 rfl) ?_
    refine lv_iload_n hx hb dX10_emit_44 rfl (lv_at hl 3 rfl) ?_
    have ha_7 : va_at (DG E) vwCl (rf 42, .inl (E.2.2 0, 25, .inl (A 42))) _ := hM.2 42 (by decide) (by decide) (by decide)
    refine rr_iast (D := DG E) hx hb hK.1 0 ha_7 hS (by show G (rf 42) ≠ 0; rw [hR.2 42 (by decide) (by decide) (by decide)]; decide) rfl hi_4 dX10_emit_45 (fun H locs hn ho hz hS => ?_)
    rw [en_6] at hn
    obtain ⟨g_7, eg_7⟩ : ∃ z : Nat → Int32, z = upd (A 42) n_6 p1 := ⟨_, rfl⟩
    have sg_7 : g_7 n_6 = p1 := by rw [eg_7]; exact upd_s
    have ng_7 : ∀ k, k ≠ n_6 → g_7 k = (A 42) k := fun k hk => by rw [eg_7]; exact upd_n hk
    have hn : va_at (DG E) vwCl (rf 42, .inl (E.2.2 0, 25, .inl g_7)) H := by rw [eg_7]; exact hn
    have hM : MH E h0 rf t0 t1 t2 (uA (uA A 41 g_5) 42 g_7) cd x_2 H := hM.w hR 42 (by decide) (by decide) (by decide) hn ho
    refine lv_aload_n hx hb dX10_emit_46 rfl (lv_at hl 1 rfl) ?_
    refine va_get (D := DG E) (ci := 10) (v := .ref (rf 43)) (C := RX10) (T := TX10) (N := 49) hx hb hts iw_X10 hown hK.1 (va_one hM.1) 0 rfl rfl 43 (by decide) (hts _ fl_X10_125) (fun _ h9 => h9) rfl dX10_emit_47 ?_
    refine lv_iload hx hb dX10_emit_50 (lv_at hl 0 rfl) ?_
    refine lv_iload_n hx hb dX10_emit_52 rfl (lv_at hl 4 rfl) ?_
    have ha_8 : va_at (DG E) vwCl (rf 43, .inl (E.2.2 0, 25, .inl (A 43))) _ := hM.2 43 (by decide) (by decide) (by decide)
    refine rr_iast (D := DG E) hx hb hK.1 0 ha_8 hS (by show G (rf 43) ≠ 0; rw [hR.2 43 (by decide) (by decide) (by decide)]; decide) rfl hi_4 dX10_emit_53 (fun H locs hn ho hz hS => ?_)
    rw [en_6] at hn
    obtain ⟨g_8, eg_8⟩ : ∃ z : Nat → Int32, z = upd (A 43) n_6 p2 := ⟨_, rfl⟩
    have sg_8 : g_8 n_6 = p2 := by rw [eg_8]; exact upd_s
    have ng_8 : ∀ k, k ≠ n_6 → g_8 k = (A 43) k := fun k hk => by rw [eg_8]; exact upd_n hk
    have hn : va_at (DG E) vwCl (rf 43, .inl (E.2.2 0, 25, .inl g_8)) H := by rw [eg_8]; exact hn
    have hM : MH E h0 rf t0 t1 t2 (uA (uA (uA A 41 g_5) 42 g_7) 43 g_8) cd x_2 H := hM.w hR 43 (by decide) (by decide) (by decide) hn ho
    refine lv_aload_n hx hb dX10_emit_54 rfl (lv_at hl 1 rfl) ?_
    refine va_get (D := DG E) (ci := 10) (v := .ref (rf 44)) (C := RX10) (T := TX10) (N := 49) hx hb hts iw_X10 hown hK.1 (va_one hM.1) 0 rfl rfl 44 (by decide) (hts _ fl_X10_128) (fun _ h9 => h9) rfl dX10_emit_55 ?_
    refine lv_iload hx hb dX10_emit_58 (lv_at hl 0 rfl) ?_
    refine lv_iconst (v := 0) hx hb dX10_emit_60 (by decide) ?_
    have ha_9 : va_at (DG E) vwCl (rf 44, .inl (E.2.2 0, 25, .inl (A 44))) _ := hM.2 44 (by decide) (by decide) (by decide)
    refine rr_iast (D := DG E) hx hb hK.1 0 ha_9 hS (by show G (rf 44) ≠ 0; rw [hR.2 44 (by decide) (by decide) (by decide)]; decide) rfl hi_4 dX10_emit_61 (fun H locs hn ho hz hS => ?_)
    rw [en_6] at hn
    obtain ⟨g_9, eg_9⟩ : ∃ z : Nat → Int32, z = upd (A 44) n_6 0 := ⟨_, rfl⟩
    have sg_9 : g_9 n_6 = 0 := by rw [eg_9]; exact upd_s
    have ng_9 : ∀ k, k ≠ n_6 → g_9 k = (A 44) k := fun k hk => by rw [eg_9]; exact upd_n hk
    have hn : va_at (DG E) vwCl (rf 44, .inl (E.2.2 0, 25, .inl g_9)) H := by rw [eg_9]; exact hn
    have hM : MH E h0 rf t0 t1 t2 (uA (uA (uA (uA A 41 g_5) 42 g_7) 43 g_8) 44 g_9) cd x_2 H := hM.w hR 44 (by decide) (by decide) (by decide) hn ho
    refine lv_aload_n hx hb dX10_emit_62 rfl (lv_at hl 1 rfl) ?_
    refine va_get (D := DG E) (ci := 10) (v := .ref (rf 45)) (C := RX10) (T := TX10) (N := 49) hx hb hts iw_X10 hown hK.1 (va_one hM.1) 0 rfl rfl 45 (by decide) (hts _ fl_X10_131) (fun _ h9 => h9) rfl dX10_emit_63 ?_
    refine lv_iload hx hb dX10_emit_66 (lv_at hl 0 rfl) ?_
    refine lv_iload hx hb dX10_emit_68 (lv_at hl 5 rfl) ?_
    have ha_10 : va_at (DG E) vwCl (rf 45, .inl (E.2.2 0, 25, .inl (A 45))) _ := hM.2 45 (by decide) (by decide) (by decide)
    refine rr_iast (D := DG E) hx hb hK.1 0 ha_10 hS (by show G (rf 45) ≠ 0; rw [hR.2 45 (by decide) (by decide) (by decide)]; decide) rfl hi_4 dX10_emit_70 (fun H locs hn ho hz hS => ?_)
    rw [en_6] at hn
    obtain ⟨g_10, eg_10⟩ : ∃ z : Nat → Int32, z = upd (A 45) n_6 p3 := ⟨_, rfl⟩
    have sg_10 : g_10 n_6 = p3 := by rw [eg_10]; exact upd_s
    have ng_10 : ∀ k, k ≠ n_6 → g_10 k = (A 45) k := fun k hk => by rw [eg_10]; exact upd_n hk
    have hn : va_at (DG E) vwCl (rf 45, .inl (E.2.2 0, 25, .inl g_10)) H := by rw [eg_10]; exact hn
    have hM : MH E h0 rf t0 t1 t2 (uA (uA (uA (uA (uA A 41 g_5) 42 g_7) 43 g_8) 44 g_9) 45 g_10) cd x_2 H := hM.w hR 45 (by decide) (by decide) (by decide) hn ho
    refine lv_aload_n hx hb dX10_emit_71 rfl (lv_at hl 1 rfl) ?_
    refine va_get (D := DG E) (ci := 10) (v := .ref (rf 46)) (C := RX10) (T := TX10) (N := 49) hx hb hts iw_X10 hown hK.1 (va_one hM.1) 0 rfl rfl 46 (by decide) (hts _ fl_X10_134) (fun _ h9 => h9) rfl dX10_emit_72 ?_
    refine lv_iload hx hb dX10_emit_75 (lv_at hl 0 rfl) ?_
    refine lv_iload hx hb dX10_emit_77 (lv_at hl 6 rfl) ?_
    have ha_11 : va_at (DG E) vwCl (rf 46, .inl (E.2.2 0, 25, .inl (A 46))) _ := hM.2 46 (by decide) (by decide) (by decide)
    refine rr_iast (D := DG E) hx hb hK.1 0 ha_11 hS (by show G (rf 46) ≠ 0; rw [hR.2 46 (by decide) (by decide) (by decide)]; decide) rfl hi_4 dX10_emit_79 (fun H locs hn ho hz hS => ?_)
    rw [en_6] at hn
    obtain ⟨g_11, eg_11⟩ : ∃ z : Nat → Int32, z = upd (A 46) n_6 p4 := ⟨_, rfl⟩
    have sg_11 : g_11 n_6 = p4 := by rw [eg_11]; exact upd_s
    have ng_11 : ∀ k, k ≠ n_6 → g_11 k = (A 46) k := fun k hk => by rw [eg_11]; exact upd_n hk
    have hn : va_at (DG E) vwCl (rf 46, .inl (E.2.2 0, 25, .inl g_11)) H := by rw [eg_11]; exact hn
    have hM : MH E h0 rf t0 t1 t2 (uA (uA (uA (uA (uA (uA A 41 g_5) 42 g_7) 43 g_8) 44 g_9) 45 g_10) 46 g_11) cd x_2 H := hM.w hR 46 (by decide) (by decide) (by decide) hn ho
    refine lv_aload_n hx hb dX10_emit_80 rfl (lv_at hl 1 rfl) ?_
    refine va_get (D := DG E) (ci := 10) (v := .ref (rf 47)) (C := RX10) (T := TX10) (N := 49) hx hb hts iw_X10 hown hK.1 (va_one hM.1) 0 rfl rfl 47 (by decide) (hts _ fl_X10_137) (fun _ h9 => h9) rfl dX10_emit_81 ?_
    refine lv_iload hx hb dX10_emit_84 (lv_at hl 0 rfl) ?_
    refine lv_iload hx hb dX10_emit_86 (lv_at hl 7 rfl) ?_
    have ha_12 : va_at (DG E) vwCl (rf 47, .inl (E.2.2 0, 25, .inl (A 47))) _ := hM.2 47 (by decide) (by decide) (by decide)
    refine rr_iast (D := DG E) hx hb hK.1 0 ha_12 hS (by show G (rf 47) ≠ 0; rw [hR.2 47 (by decide) (by decide) (by decide)]; decide) rfl hi_4 dX10_emit_88 (fun H locs hn ho hz hS => ?_)
    rw [en_6] at hn
    obtain ⟨g_12, eg_12⟩ : ∃ z : Nat → Int32, z = upd (A 47) n_6 p5 := ⟨_, rfl⟩
    have sg_12 : g_12 n_6 = p5 := by rw [eg_12]; exact upd_s
    have ng_12 : ∀ k, k ≠ n_6 → g_12 k = (A 47) k := fun k hk => by rw [eg_12]; exact upd_n hk
    have hn : va_at (DG E) vwCl (rf 47, .inl (E.2.2 0, 25, .inl g_12)) H := by rw [eg_12]; exact hn
    have hM : MH E h0 rf t0 t1 t2 (uA (uA (uA (uA (uA (uA (uA A 41 g_5) 42 g_7) 43 g_8) 44 g_9) 45 g_10) 46 g_11) 47 g_12) cd x_2 H := hM.w hR 47 (by decide) (by decide) (by decide) hn ho
    refine lv_iload hx hb dX10_emit_89 (lv_at hl 0 rfl) ?_
    have hI7_13 : I7 g_5 g_7 g_9 g_10 g_11 := by
      intro n9 hn9
      have h9 : 0 ≤ ((A 41) n9).toInt ∧ ((A 41) n9).toInt ≤ 3 ∧ 0 ≤ ((A 44) n9).toInt ∧ ((A 44) n9).toInt ≤ 12 ∧ (((A 42) n9).toInt ≠ 0 ∧ ((A 42) n9).toInt ≠ 1 ∧ ((A 42) n9).toInt ≠ 4 ∨ ((A 44) n9).toInt ≤ 4) ∧ (((A 42) n9).toInt < 1 ∨ 3 < ((A 42) n9).toInt ∨ (0 ≤ ((A 45) n9).toInt ∧ ((A 45) n9).toInt ≤ 5)) ∧ -1 ≤ ((A 46) n9).toInt ∧ ((A 46) n9).toInt ≤ 60 ∧ 0 ≤ ((A 42) n9).toInt := hI7 n9 hn9
      show 0 ≤ (g_5 n9).toInt ∧ (g_5 n9).toInt ≤ 3 ∧ 0 ≤ (g_9 n9).toInt ∧ (g_9 n9).toInt ≤ 12 ∧ ((g_7 n9).toInt ≠ 0 ∧ (g_7 n9).toInt ≠ 1 ∧ (g_7 n9).toInt ≠ 4 ∨ (g_9 n9).toInt ≤ 4) ∧ ((g_7 n9).toInt < 1 ∨ 3 < (g_7 n9).toInt ∨ (0 ≤ (g_10 n9).toInt ∧ (g_10 n9).toInt ≤ 5)) ∧ -1 ≤ (g_11 n9).toInt ∧ (g_11 n9).toInt ≤ 60 ∧ 0 ≤ (g_7 n9).toInt
      by_cases ezn_6 : n9 = n_6
      · rw [ezn_6] at h9 ⊢
        rw [sg_5]
        rw [sg_7]
        rw [sg_9]
        rw [sg_10]
        rw [sg_11]
        have := i_0
        clear h9
        exact ⟨by omega, by omega, by omega, by omega, by omega, by omega, by omega, by omega, by omega⟩
      · rw [ng_5 n9 ezn_6]
        rw [ng_7 n9 ezn_6]
        rw [ng_9 n9 ezn_6]
        rw [ng_10 n9 ezn_6]
        rw [ng_11 n9 ezn_6]
        exact h9
    exact W.iret (v := pk) hx hb hr (fun t ht hW => ⟨⟨pk, (g_5, g_7, g_8, g_9, g_10, g_11, g_12, x_2), rfl, ⟨hI7_13, (by show 0 ≤ x_2.toInt ∧ x_2.toInt ≤ 24; omega), (by show -1 ≤ pk.toInt ∧ pk.toInt ≤ 23; omega), (show ∀ n : Nat, (n : Int) = pk.toInt → g_7 n = p1 from (fun n hn => by
        obtain rfl : n_6 = n := by omega
        exact sg_7)), (show (g_9 24).toInt = ((A 44) 24).toInt ∧ (g_11 24).toInt = ((A 46) 24).toInt from ⟨by rw [ng_9 24 (by omega)], by rw [ng_11 24 (by omega)]⟩), (Or.inl ⟨c_1, x_2, ex_2, fx_2, x_3, ex_3, n_6, hn_6, g_5, eg_5, g_7, eg_7, g_8, eg_8, g_9, eg_9, g_10, eg_10, g_11, eg_11, g_12, eg_12, rfl, rfl, rfl, rfl⟩)⟩, (by show MH E h0 rf t0 t1 t2 (uA (uA (uA (uA (uA (uA (uA A 41 g_5) 42 g_7) 43 g_8) 44 g_9) 45 g_10) 46 g_11) 47 g_12) cd x_2 t.heap; rw [ht]; exact hM)⟩, hS.F ht⟩) hS.2.2 dX10_emit_91
  · simp only [lt_I, le_I, eq_I, i_0, i_1, i_2, i_3, i_4, i_5, i_6, i_7, i_8, i_10, i_12, i_16, i_20, i_23, i_24, i_31, i_32, i_63, i_64, i_m1, i_9, i_11, i_13, i_25, i_60, i_75, i_79, i_80, i_96, i_100] at c_1
    refine lv_iconst (v := (-1)) hx hb dX10_emit_9 (by decide) ?_
    exact W.iret (v := (-1)) hx hb hr (fun t ht hW => ⟨⟨(-1), ((A 41), (A 42), (A 43), (A 44), (A 45), (A 46), (A 47), pk), rfl, ⟨hI7, (by show 0 ≤ pk.toInt ∧ pk.toInt ≤ 24; have := i_m1; omega), (by show -1 ≤ (-1 : Int32).toInt ∧ (-1 : Int32).toInt ≤ 23; have := i_m1; omega), (show ∀ n : Nat, (n : Int) = (-1 : Int32).toInt → (A 42) n = p1 from (fun n hn => by have := i_m1; omega)), (show ((A 44) 24).toInt = ((A 44) 24).toInt ∧ ((A 46) 24).toInt = ((A 46) 24).toInt from ⟨rfl, rfl⟩), (Or.inr ⟨c_1, rfl, rfl, rfl, rfl⟩)⟩, (by show MH E h0 rf t0 t1 t2 (uA (uA (uA (uA (uA (uA (uA A 41 (A 41)) 42 (A 42)) 43 (A 43)) 44 (A 44)) 45 (A 45)) 46 (A 46)) 47 (A 47)) cd pk t.heap; rw [ht]; exact hM.cge (funext fun j => (cgj j 47 rfl (fun a0 => (cgj j 46 rfl (fun a1 => (cgj j 45 rfl (fun a2 => (cgj j 44 rfl (fun a3 => (cgj j 43 rfl (fun a4 => (cgj j 42 rfl (fun a5 => (cgj j 41 rfl (fun a6 => (by simp only [uA_n a0, uA_n a1, uA_n a2, uA_n a3, uA_n a4, uA_n a5, uA_n a6])))))))))))))))))⟩, hS.F ht⟩) hS.2.2 dX10_emit_10
theorem dX10_load_0 : decode cX10_load 0 = .ok (.iload_n 1, 1) := by decide +kernel
theorem dX10_load_1 : decode cX10_load 1 = .ok (.ifCond .ge 4, 3) := by decide +kernel
theorem dX10_load_4 : decode cX10_load 4 = .ok (.return_, 1) := by decide +kernel
theorem dX10_load_5 : decode cX10_load 5 = .ok (.aload_n 0, 1) := by decide +kernel
theorem dX10_load_6 : decode cX10_load 6 = .ok (.getfield 128, 3) := by decide +kernel
theorem dX10_load_9 : decode cX10_load 9 = .ok (.iload_n 1, 1) := by decide +kernel
theorem dX10_load_10 : decode cX10_load 10 = .ok (.iload 4, 2) := by decide +kernel
theorem dX10_load_12 : decode cX10_load 12 = .ok (.iastore, 1) := by decide +kernel
theorem dX10_load_13 : decode cX10_load 13 = .ok (.iconst 0, 1) := by decide +kernel
theorem dX10_load_14 : decode cX10_load 14 = .ok (.istore 5, 2) := by decide +kernel
theorem dX10_load_16 : decode cX10_load 16 = .ok (.iload 5, 2) := by decide +kernel
theorem dX10_load_18 : decode cX10_load 18 = .ok (.iload 4, 2) := by decide +kernel
theorem dX10_load_20 : decode cX10_load 20 = .ok (.if_icmp .ge 37, 3) := by decide +kernel
theorem dX10_load_23 : decode cX10_load 23 = .ok (.aload_n 0, 1) := by decide +kernel
theorem dX10_load_24 : decode cX10_load 24 = .ok (.getfield 140, 3) := by decide +kernel
theorem dX10_load_27 : decode cX10_load 27 = .ok (.iconst 4, 1) := by decide +kernel
theorem dX10_load_28 : decode cX10_load 28 = .ok (.iload_n 1, 1) := by decide +kernel
theorem dX10_load_29 : decode cX10_load 29 = .ok (.imul, 1) := by decide +kernel
theorem dX10_load_30 : decode cX10_load 30 = .ok (.iload 5, 2) := by decide +kernel
theorem dX10_load_32 : decode cX10_load 32 = .ok (.iadd, 1) := by decide +kernel
theorem dX10_load_33 : decode cX10_load 33 = .ok (.aload_n 0, 1) := by decide +kernel
theorem dX10_load_34 : decode cX10_load 34 = .ok (.getfield 7, 3) := by decide +kernel
theorem dX10_load_37 : decode cX10_load 37 = .ok (.bipush 32, 2) := by decide +kernel
theorem dX10_load_39 : decode cX10_load 39 = .ok (.iload_n 2, 1) := by decide +kernel
theorem dX10_load_40 : decode cX10_load 40 = .ok (.invokestatic 160, 3) := by decide +kernel
theorem dX10_load_43 : decode cX10_load 43 = .ok (.imul, 1) := by decide +kernel
theorem dX10_load_44 : decode cX10_load 44 = .ok (.iload_n 3, 1) := by decide +kernel
theorem dX10_load_45 : decode cX10_load 45 = .ok (.iadd, 1) := by decide +kernel
theorem dX10_load_46 : decode cX10_load 46 = .ok (.iload 5, 2) := by decide +kernel
theorem dX10_load_48 : decode cX10_load 48 = .ok (.iadd, 1) := by decide +kernel
theorem dX10_load_49 : decode cX10_load 49 = .ok (.iaload, 1) := by decide +kernel
theorem dX10_load_50 : decode cX10_load 50 = .ok (.iastore, 1) := by decide +kernel
theorem dX10_load_51 : decode cX10_load 51 = .ok (.iinc 5 1, 3) := by decide +kernel
theorem dX10_load_54 : decode cX10_load 54 = .ok (.goto (-38), 3) := by decide +kernel
theorem dX10_load_57 : decode cX10_load 57 = .ok (.return_, 1) := by decide +kernel
set_option maxHeartbeats 8000000 in
set_option maxRecDepth 100000 in
theorem u_X10_load (l : Launch) (E : EE) (z0 : Nat) (G : Nat → Nat) (hGz : ∀ q, G q ≠ 0 → z0 ≤ q) (h0 : Nat) (rf : Nat → Nat) (hR : MG G h0 rf) (t0 t1 t2 : Int32) (A : AA) (cd pk : Int32) (p0 : Int32) (p1 : Int32) (p2 : Int32) (p3 : Int32) (hI7 : I7 (A 41) (A 42) (A 44) (A 45) (A 46)) (hy0 : -1 ≤ p0.toInt ∧ p0.toInt ≤ 23) (hy1 : 0 ≤ p1.toInt ∧ p1.toInt ≤ 3) (hy2 : 0 ≤ p2.toInt ∧ p2.toInt ≤ 32) (hy3 : 0 ≤ p3.toInt ∧ p3.toInt ≤ 4) (hy4 : p2.toInt + p3.toInt ≤ 32) : Met l yX10_load [Cond.code yX10_load cX10_load 6 none] ({ frames := 1, cells := 0, slots := 0, locals := 20 } : Room) (va_Pc [.ref h0, .int p0, .int p1, .int p2, .int p3] (fun U => MH E h0 rf t0 t1 t2 A cd pk U.heap ∧ KS E z0 U)) (va_Qv (fun (u : (Nat → Int32) × (Nat → Int32)) => (I7 (A 41) (A 42) (u.1) (A 45) (A 46)) ∧ (((u.1) 24).toInt = ((A 44) 24).toInt ∧ ((A 46) 24).toInt = ((A 46) 24).toInt) ∧ (D_X10_load A cd pk p0 p1 p2 p3 (uA (uA A 44 (u.1)) 48 (u.2)) cd pk)) (fun u t => MH E h0 rf t0 t1 t2 (uA (uA A 44 (u.1)) 48 (u.2)) cd pk t.heap) (fun q : Nat => G q ≠ 0)) 0 0 (fun q : Nat => G q ≠ 0) := by
  refine Met.ofW (cc := cX10_load) (maxL := 6) (ret := none) (by decide) rfl ?_
  intro p e s m args below meth c s₁ B hml hv
  obtain ⟨rfl, hM, hK⟩ := hv
  have hx := B.exec
  have hb := B.bytes
  have hr := B.returns
  have hts : ∀ w ∈ TS, w.before ([.ref h0, .int p0, .int p1, .int p2, .int p3] : List Value).toArray s = true := fun w hw => hK.2.1 w hw _
  have hown : s.vm.findClass RX10 = some m.cls := findClass_of_methodNamed B.named
  have hlocks := B.notSynchronized
  have hS : va_S (fun q : Nat => G q ≠ 0) s.heap s.heap [] := va_S.rf
  have hAz : ∀ q, (fun q : Nat => G q ≠ 0) q → z0 ≤ q := hGz
  have hl := lv_entry ([.ref h0, .int p0, .int p1, .int p2, .int p3]) (n := 6) (Nat.le_of_ble_eq_true rfl)
  rw [lg_entry_eq]
  generalize (lg_sl ([.ref h0, .int p0, .int p1, .int p2, .int p3]) ++ List.replicate (6 - (lg_sl ([.ref h0, .int p0, .int p1, .int p2, .int p3])).length) Slot.unset).toArray = ls at hl ⊢
  have hl : lv_has ls 6 [(0, .ref h0), (1, .int p0), (2, .int p1), (3, .int p2), (4, .int p3)] := hl
  refine lv_iload_n hx hb dX10_load_0 rfl (lv_at hl 1 rfl) ?_
  refine lv_if_ge (tgt := 5) hx hb dX10_load_1 (by decide) (fun c_1 => ?_) (fun c_1 => ?_)
  · simp only [lt_I, le_I, eq_I, i_0, i_1, i_2, i_3, i_4, i_5, i_6, i_7, i_8, i_10, i_12, i_16, i_20, i_23, i_24, i_31, i_32, i_63, i_64, i_m1, i_9, i_11, i_13, i_25, i_60, i_75, i_79, i_80, i_96, i_100] at c_1
    refine lv_aload_n hx hb dX10_load_5 rfl (lv_at hl 0 rfl) ?_
    refine va_get (D := DG E) (ci := 10) (v := .ref (rf 44)) (C := RX10) (T := TX10) (N := 49) hx hb hts iw_X10 hown hK.1 (va_one hM.1) 0 rfl rfl 44 (by decide) (hts _ fl_X10_128) (fun _ h9 => h9) rfl dX10_load_6 ?_
    refine lv_iload_n hx hb dX10_load_9 rfl (lv_at hl 1 rfl) ?_
    refine lv_iload hx hb dX10_load_10 (lv_at hl 4 rfl) ?_
    have hi_2 : vp_in p0 25 := vp_in_iff.mpr (by omega)
    have ha_3 : va_at (DG E) vwCl (rf 44, .inl (E.2.2 0, 25, .inl (A 44))) _ := hM.2 44 (by decide) (by decide) (by decide)
    obtain ⟨n_4, hn_4, en_4⟩ := s_nat (x := p0) (by omega)
    refine rr_iast (D := DG E) hx hb hK.1 0 ha_3 hS (by show G (rf 44) ≠ 0; rw [hR.2 44 (by decide) (by decide) (by decide)]; decide) rfl hi_2 dX10_load_12 (fun H locs hn ho hz hS => ?_)
    rw [en_4] at hn
    obtain ⟨g_3, eg_3⟩ : ∃ z : Nat → Int32, z = upd (A 44) n_4 p3 := ⟨_, rfl⟩
    have sg_3 : g_3 n_4 = p3 := by rw [eg_3]; exact upd_s
    have ng_3 : ∀ k, k ≠ n_4 → g_3 k = (A 44) k := fun k hk => by rw [eg_3]; exact upd_n hk
    have hn : va_at (DG E) vwCl (rf 44, .inl (E.2.2 0, 25, .inl g_3)) H := by rw [eg_3]; exact hn
    have hM : MH E h0 rf t0 t1 t2 (uA A 44 g_3) cd pk H := hM.w hR 44 (by decide) (by decide) (by decide) hn ho
    refine lv_iconst (v := 0) hx hb dX10_load_13 (by decide) ?_
    refine lv_istore (lv' := [(5, .int 0), (0, .ref h0), (1, .int p0), (2, .int p1), (3, .int p2), (4, .int p3)]) hx hb dX10_load_14 hl (by decide) rfl (fun ls hl => ?_)
    refine lv_iload hx hb dX10_load_16 (lv_at hl 0 rfl) ?_
    refine lv_iload hx hb dX10_load_18 (lv_at hl 5 rfl) ?_
    refine lv_icmp_ge (tgt := 57) hx hb dX10_load_20 (by decide) (fun c_5 => ?_) (fun c_5 => ?_)
    · simp only [lt_I, le_I, eq_I, i_0, i_1, i_2, i_3, i_4, i_5, i_6, i_7, i_8, i_10, i_12, i_16, i_20, i_23, i_24, i_31, i_32, i_63, i_64, i_m1, i_9, i_11, i_13, i_25, i_60, i_75, i_79, i_80, i_96, i_100] at c_5
      have hI7_6 : I7 (A 41) (A 42) g_3 (A 45) (A 46) := by
        intro n9 hn9
        have h9 : 0 ≤ ((A 41) n9).toInt ∧ ((A 41) n9).toInt ≤ 3 ∧ 0 ≤ ((A 44) n9).toInt ∧ ((A 44) n9).toInt ≤ 12 ∧ (((A 42) n9).toInt ≠ 0 ∧ ((A 42) n9).toInt ≠ 1 ∧ ((A 42) n9).toInt ≠ 4 ∨ ((A 44) n9).toInt ≤ 4) ∧ (((A 42) n9).toInt < 1 ∨ 3 < ((A 42) n9).toInt ∨ (0 ≤ ((A 45) n9).toInt ∧ ((A 45) n9).toInt ≤ 5)) ∧ -1 ≤ ((A 46) n9).toInt ∧ ((A 46) n9).toInt ≤ 60 ∧ 0 ≤ ((A 42) n9).toInt := hI7 n9 hn9
        show 0 ≤ ((A 41) n9).toInt ∧ ((A 41) n9).toInt ≤ 3 ∧ 0 ≤ (g_3 n9).toInt ∧ (g_3 n9).toInt ≤ 12 ∧ (((A 42) n9).toInt ≠ 0 ∧ ((A 42) n9).toInt ≠ 1 ∧ ((A 42) n9).toInt ≠ 4 ∨ (g_3 n9).toInt ≤ 4) ∧ (((A 42) n9).toInt < 1 ∨ 3 < ((A 42) n9).toInt ∨ (0 ≤ ((A 45) n9).toInt ∧ ((A 45) n9).toInt ≤ 5)) ∧ -1 ≤ ((A 46) n9).toInt ∧ ((A 46) n9).toInt ≤ 60 ∧ 0 ≤ ((A 42) n9).toInt
        by_cases ezn_4 : n9 = n_4
        · rw [ezn_4] at h9 ⊢
          rw [sg_3]
          exact ⟨by first | exact h9.1 | omega, by first | exact h9.2.1 | omega, by first | exact h9.2.2.1 | omega, by first | exact h9.2.2.2.1 | omega, by first | exact h9.2.2.2.2.1 | omega, by first | exact h9.2.2.2.2.2.1 | omega, by first | exact h9.2.2.2.2.2.2.1 | omega, by first | exact h9.2.2.2.2.2.2.2.1 | omega, by first | exact h9.2.2.2.2.2.2.2.2 | omega⟩
        · rw [ng_3 n9 ezn_4]
          exact h9
      exact W.vret hx hb hr (fun t ht hW => ⟨⟨(g_3, (A 48)), rfl, ⟨hI7_6, (show (g_3 24).toInt = ((A 44) 24).toInt ∧ ((A 46) 24).toInt = ((A 46) 24).toInt from ⟨by rw [ng_3 24 (by omega)], rfl⟩), (Or.inl ⟨c_1, n_4, hn_4, g_3, eg_3, c_5, rfl, rfl, rfl⟩)⟩, (by show MH E h0 rf t0 t1 t2 (uA (uA A 44 g_3) 48 (A 48)) cd pk t.heap; rw [ht]; exact hM.cge (funext fun j => (cgj j 48 rfl (fun a0 => (cgj j 44 rfl (fun a1 => (by simp only [uA_n a0, uA_n a1])))))))⟩, hS.F ht⟩) hS.2.2 dX10_load_57
    · simp only [lt_I, le_I, eq_I, i_0, i_1, i_2, i_3, i_4, i_5, i_6, i_7, i_8, i_10, i_12, i_16, i_20, i_23, i_24, i_31, i_32, i_63, i_64, i_m1, i_9, i_11, i_13, i_25, i_60, i_75, i_79, i_80, i_96, i_100] at c_5
      refine lv_aload_n hx hb dX10_load_23 rfl (lv_at hl 1 rfl) ?_
      refine va_get (D := DG E) (ci := 10) (v := .ref (rf 48)) (C := RX10) (T := TX10) (N := 49) hx hb hts iw_X10 hown hK.1 (va_one hM.1) 0 rfl rfl 48 (by decide) (hts _ fl_X10_140) (fun _ h9 => h9) rfl dX10_load_24 ?_
      refine lv_iconst (v := 4) hx hb dX10_load_27 (by decide) ?_
      refine lv_iload_n hx hb dX10_load_28 rfl (lv_at hl 2 rfl) ?_
      refine lv_imul hx hb dX10_load_29 ?_
      refine lv_topi (fun x_7 ex_7 => ?_)
      have fx_7 : x_7.toInt = 4 * p0.toInt := by rw [ex_7]; exact s_mulK i_4 (by omega) (by omega)
      refine lv_iload hx hb dX10_load_30 (lv_at hl 0 rfl) ?_
      refine lv_iadd hx hb dX10_load_32 ?_
      refine lv_topi (fun x_8 ex_8 => ?_)
      have fx_8 : x_8.toInt = x_7.toInt + 0 := by have h9 := s_add (x := x_7) (y := 0) (by rw [i_0]; omega) (by rw [i_0]; omega); rw [i_0] at h9; rw [ex_8]; exact h9
      refine lv_aload_n hx hb dX10_load_33 rfl (lv_at hl 1 rfl) ?_
      refine va_get (D := DG E) (ci := 10) (v := .ref (rf 4)) (C := RX10) (T := TX10) (N := 49) hx hb hts iw_X10 hown hK.1 (va_one hM.1) 0 rfl rfl 4 (by decide) (hts _ fl_X10_7) (fun _ h9 => h9) rfl dX10_load_34 ?_
      refine lv_bipush (v := 32) hx hb dX10_load_37 (by decide) ?_
      refine lv_iload_n hx hb dX10_load_39 rfl (lv_at hl 3 rfl) ?_
      refine W.callR (W.runS (As := [.int p1]) (rest := [.int 32, .ref (rf 4), .int x_8, .ref (rf 48)]) ⟨hx, hb, hml, hown, hts⟩ (c_X10_nodeOf l p1) (cwS 1 hts (gdS ml_X10_160 st_X10_nodeOf in_X10 co_X10_nodeOf rfl) rfl rfl rfl (by decide +kernel) ⟨Nat.le_of_ble_eq_true rfl, Nat.le_of_ble_eq_true rfl⟩) preEq rfl rfl hl.1 rfl (lv_room (Nat.le_of_ble_eq_true rfl)) dX10_load_40 ⟨Nat.le_of_ble_eq_true rfl, Nat.le_of_ble_eq_true rfl⟩) ?_
      refine W.eq (g2 := F0 m 43 ls [.int (p1 - p1 / 2 * 2), .int 32, .ref (rf 4), .int x_8, .ref (rf 48)]) (by rfl) ?_
      refine lv_topi (fun x_9 ex_9 => ?_)
      have fx_9 : x_9.toInt = p1.toInt % 2 := by rw [ex_9]; exact s_rem (x := p1) 2 (by decide) (by decide) (by omega)
      refine lv_imul hx hb dX10_load_43 ?_
      refine lv_topi (fun x_10 ex_10 => ?_)
      have fx_10 : x_10.toInt = 32 * x_9.toInt := by rw [ex_10]; exact s_mulK i_32 (by omega) (by omega)
      refine lv_iload_n hx hb dX10_load_44 rfl (lv_at hl 4 rfl) ?_
      refine lv_iadd hx hb dX10_load_45 ?_
      refine lv_topi (fun x_11 ex_11 => ?_)
      have fx_11 : x_11.toInt = x_10.toInt + p2.toInt := by have h9 := s_add (x := x_10) (y := p2) (by omega) (by omega); rw [ex_11]; exact h9
      refine lv_iload hx hb dX10_load_46 (lv_at hl 0 rfl) ?_
      refine lv_iadd hx hb dX10_load_48 ?_
      refine lv_topi (fun x_12 ex_12 => ?_)
      have fx_12 : x_12.toInt = x_11.toInt + 0 := by have h9 := s_add (x := x_11) (y := 0) (by rw [i_0]; omega) (by rw [i_0]; omega); rw [i_0] at h9; rw [ex_12]; exact h9
      have hi_13 : vp_in x_12 64 := vp_in_iff.mpr (by omega)
      have ha_14 : va_at (DG E) vwCl (rf 4, .inl (E.2.2 0, 64, .inl (A 4))) _ := hM.2 4 (by decide) (by decide) (by decide)
      obtain ⟨n_15, hn_15, en_15⟩ := s_nat (x := x_12) (by omega)
      refine va_iald (D := DG E) hx hb hK.1 (va_one ha_14) 0 0 rfl rfl hi_13 dX10_load_49 ?_
      refine W.eq (g2 := F0 m 50 ls [.int ((A 4) n_15), .int x_8, .ref (rf 48)]) (by rw [en_15]) ?_
      have hi_16 : vp_in x_8 100 := vp_in_iff.mpr (by omega)
      have ha_17 : va_at (DG E) vwCl (rf 48, .inl (E.2.2 0, 100, .inl (A 48))) _ := hM.2 48 (by decide) (by decide) (by decide)
      obtain ⟨n_18, hn_18, en_18⟩ := s_nat (x := x_8) (by omega)
      refine rr_iast (D := DG E) hx hb hK.1 0 ha_17 hS (by show G (rf 48) ≠ 0; rw [hR.2 48 (by decide) (by decide) (by decide)]; decide) rfl hi_16 dX10_load_50 (fun H locs hn ho hz hS => ?_)
      rw [en_18] at hn
      obtain ⟨g_17, eg_17⟩ : ∃ z : Nat → Int32, z = upd (A 48) n_18 ((A 4) n_15) := ⟨_, rfl⟩
      have sg_17 : g_17 n_18 = ((A 4) n_15) := by rw [eg_17]; exact upd_s
      have ng_17 : ∀ k, k ≠ n_18 → g_17 k = (A 48) k := fun k hk => by rw [eg_17]; exact upd_n hk
      have hn : va_at (DG E) vwCl (rf 48, .inl (E.2.2 0, 100, .inl g_17)) H := by rw [eg_17]; exact hn
      have hM : MH E h0 rf t0 t1 t2 (uA (uA A 44 g_3) 48 g_17) cd pk H := hM.w hR 48 (by decide) (by decide) (by decide) hn ho
      refine lv_iinc (v := 1) (lv' := [(5, .int 1), (0, .ref h0), (1, .int p0), (2, .int p1), (3, .int p2), (4, .int p3)]) hx hb dX10_load_51 hl (k := 0) rfl (by decide) (by decide) rfl (fun ls hl => ?_)
      refine lv_goto (tgt := 16) hx hb dX10_load_54 (by decide) ?_
      refine lv_iload hx hb dX10_load_16 (lv_at hl 0 rfl) ?_
      refine lv_iload hx hb dX10_load_18 (lv_at hl 5 rfl) ?_
      refine lv_icmp_ge (tgt := 57) hx hb dX10_load_20 (by decide) (fun c_19 => ?_) (fun c_19 => ?_)
      · simp only [lt_I, le_I, eq_I, i_0, i_1, i_2, i_3, i_4, i_5, i_6, i_7, i_8, i_10, i_12, i_16, i_20, i_23, i_24, i_31, i_32, i_63, i_64, i_m1, i_9, i_11, i_13, i_25, i_60, i_75, i_79, i_80, i_96, i_100] at c_19
        have hI7_20 : I7 (A 41) (A 42) g_3 (A 45) (A 46) := by
          intro n9 hn9
          have h9 : 0 ≤ ((A 41) n9).toInt ∧ ((A 41) n9).toInt ≤ 3 ∧ 0 ≤ ((A 44) n9).toInt ∧ ((A 44) n9).toInt ≤ 12 ∧ (((A 42) n9).toInt ≠ 0 ∧ ((A 42) n9).toInt ≠ 1 ∧ ((A 42) n9).toInt ≠ 4 ∨ ((A 44) n9).toInt ≤ 4) ∧ (((A 42) n9).toInt < 1 ∨ 3 < ((A 42) n9).toInt ∨ (0 ≤ ((A 45) n9).toInt ∧ ((A 45) n9).toInt ≤ 5)) ∧ -1 ≤ ((A 46) n9).toInt ∧ ((A 46) n9).toInt ≤ 60 ∧ 0 ≤ ((A 42) n9).toInt := hI7 n9 hn9
          show 0 ≤ ((A 41) n9).toInt ∧ ((A 41) n9).toInt ≤ 3 ∧ 0 ≤ (g_3 n9).toInt ∧ (g_3 n9).toInt ≤ 12 ∧ (((A 42) n9).toInt ≠ 0 ∧ ((A 42) n9).toInt ≠ 1 ∧ ((A 42) n9).toInt ≠ 4 ∨ (g_3 n9).toInt ≤ 4) ∧ (((A 42) n9).toInt < 1 ∨ 3 < ((A 42) n9).toInt ∨ (0 ≤ ((A 45) n9).toInt ∧ ((A 45) n9).toInt ≤ 5)) ∧ -1 ≤ ((A 46) n9).toInt ∧ ((A 46) n9).toInt ≤ 60 ∧ 0 ≤ ((A 42) n9).toInt
          by_cases ezn_4 : n9 = n_4
          · rw [ezn_4] at h9 ⊢
            rw [sg_3]
            exact ⟨by first | exact h9.1 | omega, by first | exact h9.2.1 | omega, by first | exact h9.2.2.1 | omega, by first | exact h9.2.2.2.1 | omega, by first | exact h9.2.2.2.2.1 | omega, by first | exact h9.2.2.2.2.2.1 | omega, by first | exact h9.2.2.2.2.2.2.1 | omega, by first | exact h9.2.2.2.2.2.2.2.1 | omega, by first | exact h9.2.2.2.2.2.2.2.2 | omega⟩
          · rw [ng_3 n9 ezn_4]
            exact h9
        exact W.vret hx hb hr (fun t ht hW => ⟨⟨(g_3, g_17), rfl, ⟨hI7_20, (show (g_3 24).toInt = ((A 44) 24).toInt ∧ ((A 46) 24).toInt = ((A 46) 24).toInt from ⟨by rw [ng_3 24 (by omega)], rfl⟩), (Or.inr (Or.inl ⟨c_1, n_4, hn_4, g_3, eg_3, c_5, x_7, ex_7, fx_7, x_8, ex_8, fx_8, x_9, ex_9, fx_9, x_10, ex_10, fx_10, x_11, ex_11, fx_11, x_12, ex_12, fx_12, n_15, hn_15, n_18, hn_18, g_17, eg_17, c_19, rfl, rfl, rfl⟩))⟩, (by show MH E h0 rf t0 t1 t2 (uA (uA A 44 g_3) 48 g_17) cd pk t.heap; rw [ht]; exact hM)⟩, hS.F ht⟩) hS.2.2 dX10_load_57
      · simp only [lt_I, le_I, eq_I, i_0, i_1, i_2, i_3, i_4, i_5, i_6, i_7, i_8, i_10, i_12, i_16, i_20, i_23, i_24, i_31, i_32, i_63, i_64, i_m1, i_9, i_11, i_13, i_25, i_60, i_75, i_79, i_80, i_96, i_100] at c_19
        refine lv_aload_n hx hb dX10_load_23 rfl (lv_at hl 1 rfl) ?_
        refine va_get (D := DG E) (ci := 10) (v := .ref (rf 48)) (C := RX10) (T := TX10) (N := 49) hx hb hts iw_X10 hown hK.1 (va_one hM.1) 0 rfl rfl 48 (by decide) (hts _ fl_X10_140) (fun _ h9 => h9) rfl dX10_load_24 ?_
        refine lv_iconst (v := 4) hx hb dX10_load_27 (by decide) ?_
        refine lv_iload_n hx hb dX10_load_28 rfl (lv_at hl 2 rfl) ?_
        refine lv_imul hx hb dX10_load_29 ?_
        refine W.eq (g2 := F0 m 30 ls [.int x_7, .ref (rf 48)]) (by rw [ex_7]) ?_
        refine lv_iload hx hb dX10_load_30 (lv_at hl 0 rfl) ?_
        refine lv_iadd hx hb dX10_load_32 ?_
        refine lv_topi (fun x_21 ex_21 => ?_)
        have fx_21 : x_21.toInt = x_7.toInt + 1 := by have h9 := s_add (x := x_7) (y := 1) (by rw [i_1]; omega) (by rw [i_1]; omega); rw [i_1] at h9; rw [ex_21]; exact h9
        refine lv_aload_n hx hb dX10_load_33 rfl (lv_at hl 1 rfl) ?_
        refine va_get (D := DG E) (ci := 10) (v := .ref (rf 4)) (C := RX10) (T := TX10) (N := 49) hx hb hts iw_X10 hown hK.1 (va_one hM.1) 0 rfl rfl 4 (by decide) (hts _ fl_X10_7) (fun _ h9 => h9) rfl dX10_load_34 ?_
        refine lv_bipush (v := 32) hx hb dX10_load_37 (by decide) ?_
        refine lv_iload_n hx hb dX10_load_39 rfl (lv_at hl 3 rfl) ?_
        refine W.callR (W.runS (As := [.int p1]) (rest := [.int 32, .ref (rf 4), .int x_21, .ref (rf 48)]) ⟨hx, hb, hml, hown, hts⟩ (c_X10_nodeOf l p1) (cwS 1 hts (gdS ml_X10_160 st_X10_nodeOf in_X10 co_X10_nodeOf rfl) rfl rfl rfl (by decide +kernel) ⟨Nat.le_of_ble_eq_true rfl, Nat.le_of_ble_eq_true rfl⟩) preEq rfl rfl hl.1 rfl (lv_room (Nat.le_of_ble_eq_true rfl)) dX10_load_40 ⟨Nat.le_of_ble_eq_true rfl, Nat.le_of_ble_eq_true rfl⟩) ?_
        refine W.eq (g2 := F0 m 43 ls [.int (p1 - p1 / 2 * 2), .int 32, .ref (rf 4), .int x_21, .ref (rf 48)]) (by rfl) ?_
        refine lv_topi (fun x_22 ex_22 => ?_)
        have fx_22 : x_22.toInt = p1.toInt % 2 := by rw [ex_22]; exact s_rem (x := p1) 2 (by decide) (by decide) (by omega)
        refine lv_imul hx hb dX10_load_43 ?_
        refine lv_topi (fun x_23 ex_23 => ?_)
        have fx_23 : x_23.toInt = 32 * x_22.toInt := by rw [ex_23]; exact s_mulK i_32 (by omega) (by omega)
        refine lv_iload_n hx hb dX10_load_44 rfl (lv_at hl 4 rfl) ?_
        refine lv_iadd hx hb dX10_load_45 ?_
        refine lv_topi (fun x_24 ex_24 => ?_)
        have fx_24 : x_24.toInt = x_23.toInt + p2.toInt := by have h9 := s_add (x := x_23) (y := p2) (by omega) (by omega); rw [ex_24]; exact h9
        refine lv_iload hx hb dX10_load_46 (lv_at hl 0 rfl) ?_
        refine lv_iadd hx hb dX10_load_48 ?_
        refine lv_topi (fun x_25 ex_25 => ?_)
        have fx_25 : x_25.toInt = x_24.toInt + 1 := by have h9 := s_add (x := x_24) (y := 1) (by rw [i_1]; omega) (by rw [i_1]; omega); rw [i_1] at h9; rw [ex_25]; exact h9
        have hi_26 : vp_in x_25 64 := vp_in_iff.mpr (by omega)
        have ha_27 : va_at (DG E) vwCl (rf 4, .inl (E.2.2 0, 64, .inl (A 4))) _ := hM.2 4 (by decide) (by decide) (by decide)
        obtain ⟨n_28, hn_28, en_28⟩ := s_nat (x := x_25) (by omega)
        refine va_iald (D := DG E) hx hb hK.1 (va_one ha_27) 0 0 rfl rfl hi_26 dX10_load_49 ?_
        refine W.eq (g2 := F0 m 50 ls [.int ((A 4) n_28), .int x_21, .ref (rf 48)]) (by rw [en_28]) ?_
        have hi_29 : vp_in x_21 100 := vp_in_iff.mpr (by omega)
        have ha_30 : va_at (DG E) vwCl (rf 48, .inl (E.2.2 0, 100, .inl g_17)) _ := hM.2 48 (by decide) (by decide) (by decide)
        obtain ⟨n_31, hn_31, en_31⟩ := s_nat (x := x_21) (by omega)
        refine rr_iast (D := DG E) hx hb hK.1 0 ha_30 hS (by show G (rf 48) ≠ 0; rw [hR.2 48 (by decide) (by decide) (by decide)]; decide) rfl hi_29 dX10_load_50 (fun H locs hn ho hz hS => ?_)
        rw [en_31] at hn
        obtain ⟨g_30, eg_30⟩ : ∃ z : Nat → Int32, z = upd g_17 n_31 ((A 4) n_28) := ⟨_, rfl⟩
        have sg_30 : g_30 n_31 = ((A 4) n_28) := by rw [eg_30]; exact upd_s
        have ng_30 : ∀ k, k ≠ n_31 → g_30 k = g_17 k := fun k hk => by rw [eg_30]; exact upd_n hk
        have hn : va_at (DG E) vwCl (rf 48, .inl (E.2.2 0, 100, .inl g_30)) H := by rw [eg_30]; exact hn
        have hM : MH E h0 rf t0 t1 t2 (uA (uA (uA A 44 g_3) 48 g_17) 48 g_30) cd pk H := hM.w hR 48 (by decide) (by decide) (by decide) hn ho
        refine lv_iinc (v := 2) (lv' := [(5, .int 2), (0, .ref h0), (1, .int p0), (2, .int p1), (3, .int p2), (4, .int p3)]) hx hb dX10_load_51 hl (k := 0) rfl (by decide) (by decide) rfl (fun ls hl => ?_)
        refine lv_goto (tgt := 16) hx hb dX10_load_54 (by decide) ?_
        refine lv_iload hx hb dX10_load_16 (lv_at hl 0 rfl) ?_
        refine lv_iload hx hb dX10_load_18 (lv_at hl 5 rfl) ?_
        refine lv_icmp_ge (tgt := 57) hx hb dX10_load_20 (by decide) (fun c_32 => ?_) (fun c_32 => ?_)
        · simp only [lt_I, le_I, eq_I, i_0, i_1, i_2, i_3, i_4, i_5, i_6, i_7, i_8, i_10, i_12, i_16, i_20, i_23, i_24, i_31, i_32, i_63, i_64, i_m1, i_9, i_11, i_13, i_25, i_60, i_75, i_79, i_80, i_96, i_100] at c_32
          have hI7_33 : I7 (A 41) (A 42) g_3 (A 45) (A 46) := by
            intro n9 hn9
            have h9 : 0 ≤ ((A 41) n9).toInt ∧ ((A 41) n9).toInt ≤ 3 ∧ 0 ≤ ((A 44) n9).toInt ∧ ((A 44) n9).toInt ≤ 12 ∧ (((A 42) n9).toInt ≠ 0 ∧ ((A 42) n9).toInt ≠ 1 ∧ ((A 42) n9).toInt ≠ 4 ∨ ((A 44) n9).toInt ≤ 4) ∧ (((A 42) n9).toInt < 1 ∨ 3 < ((A 42) n9).toInt ∨ (0 ≤ ((A 45) n9).toInt ∧ ((A 45) n9).toInt ≤ 5)) ∧ -1 ≤ ((A 46) n9).toInt ∧ ((A 46) n9).toInt ≤ 60 ∧ 0 ≤ ((A 42) n9).toInt := hI7 n9 hn9
            show 0 ≤ ((A 41) n9).toInt ∧ ((A 41) n9).toInt ≤ 3 ∧ 0 ≤ (g_3 n9).toInt ∧ (g_3 n9).toInt ≤ 12 ∧ (((A 42) n9).toInt ≠ 0 ∧ ((A 42) n9).toInt ≠ 1 ∧ ((A 42) n9).toInt ≠ 4 ∨ (g_3 n9).toInt ≤ 4) ∧ (((A 42) n9).toInt < 1 ∨ 3 < ((A 42) n9).toInt ∨ (0 ≤ ((A 45) n9).toInt ∧ ((A 45) n9).toInt ≤ 5)) ∧ -1 ≤ ((A 46) n9).toInt ∧ ((A 46) n9).toInt ≤ 60 ∧ 0 ≤ ((A 42) n9).toInt
            by_cases ezn_4 : n9 = n_4
            · rw [ezn_4] at h9 ⊢
              rw [sg_3]
              exact ⟨by first | exact h9.1 | omega, by first | exact h9.2.1 | omega, by first | exact h9.2.2.1 | omega, by first | exact h9.2.2.2.1 | omega, by first | exact h9.2.2.2.2.1 | omega, by first | exact h9.2.2.2.2.2.1 | omega, by first | exact h9.2.2.2.2.2.2.1 | omega, by first | exact h9.2.2.2.2.2.2.2.1 | omega, by first | exact h9.2.2.2.2.2.2.2.2 | omega⟩
            · rw [ng_3 n9 ezn_4]
              exact h9
          exact W.vret hx hb hr (fun t ht hW => ⟨⟨(g_3, g_30), rfl, ⟨hI7_33, (show (g_3 24).toInt = ((A 44) 24).toInt ∧ ((A 46) 24).toInt = ((A 46) 24).toInt from ⟨by rw [ng_3 24 (by omega)], rfl⟩), (Or.inr (Or.inr (Or.inl ⟨c_1, n_4, hn_4, g_3, eg_3, c_5, x_7, ex_7, fx_7, x_8, ex_8, fx_8, x_9, ex_9, fx_9, x_10, ex_10, fx_10, x_11, ex_11, fx_11, x_12, ex_12, fx_12, n_15, hn_15, n_18, hn_18, g_17, eg_17, c_19, x_21, ex_21, fx_21, x_22, ex_22, fx_22, x_23, ex_23, fx_23, x_24, ex_24, fx_24, x_25, ex_25, fx_25, n_28, hn_28, n_31, hn_31, g_30, eg_30, c_32, rfl, rfl, rfl⟩)))⟩, (by show MH E h0 rf t0 t1 t2 (uA (uA A 44 g_3) 48 g_30) cd pk t.heap; rw [ht]; exact hM.cge (funext fun j => (cgj j 48 rfl (fun a0 => (cgj j 44 rfl (fun a1 => (by simp only [uA_n a0, uA_n a1])))))))⟩, hS.F ht⟩) hS.2.2 dX10_load_57
        · simp only [lt_I, le_I, eq_I, i_0, i_1, i_2, i_3, i_4, i_5, i_6, i_7, i_8, i_10, i_12, i_16, i_20, i_23, i_24, i_31, i_32, i_63, i_64, i_m1, i_9, i_11, i_13, i_25, i_60, i_75, i_79, i_80, i_96, i_100] at c_32
          refine lv_aload_n hx hb dX10_load_23 rfl (lv_at hl 1 rfl) ?_
          refine va_get (D := DG E) (ci := 10) (v := .ref (rf 48)) (C := RX10) (T := TX10) (N := 49) hx hb hts iw_X10 hown hK.1 (va_one hM.1) 0 rfl rfl 48 (by decide) (hts _ fl_X10_140) (fun _ h9 => h9) rfl dX10_load_24 ?_
          refine lv_iconst (v := 4) hx hb dX10_load_27 (by decide) ?_
          refine lv_iload_n hx hb dX10_load_28 rfl (lv_at hl 2 rfl) ?_
          refine lv_imul hx hb dX10_load_29 ?_
          refine W.eq (g2 := F0 m 30 ls [.int x_7, .ref (rf 48)]) (by rw [ex_7]) ?_
          refine lv_iload hx hb dX10_load_30 (lv_at hl 0 rfl) ?_
          refine lv_iadd hx hb dX10_load_32 ?_
          refine lv_topi (fun x_34 ex_34 => ?_)
          have fx_34 : x_34.toInt = x_7.toInt + 2 := by have h9 := s_add (x := x_7) (y := 2) (by rw [i_2]; omega) (by rw [i_2]; omega); rw [i_2] at h9; rw [ex_34]; exact h9
          refine lv_aload_n hx hb dX10_load_33 rfl (lv_at hl 1 rfl) ?_
          refine va_get (D := DG E) (ci := 10) (v := .ref (rf 4)) (C := RX10) (T := TX10) (N := 49) hx hb hts iw_X10 hown hK.1 (va_one hM.1) 0 rfl rfl 4 (by decide) (hts _ fl_X10_7) (fun _ h9 => h9) rfl dX10_load_34 ?_
          refine lv_bipush (v := 32) hx hb dX10_load_37 (by decide) ?_
          refine lv_iload_n hx hb dX10_load_39 rfl (lv_at hl 3 rfl) ?_
          refine W.callR (W.runS (As := [.int p1]) (rest := [.int 32, .ref (rf 4), .int x_34, .ref (rf 48)]) ⟨hx, hb, hml, hown, hts⟩ (c_X10_nodeOf l p1) (cwS 1 hts (gdS ml_X10_160 st_X10_nodeOf in_X10 co_X10_nodeOf rfl) rfl rfl rfl (by decide +kernel) ⟨Nat.le_of_ble_eq_true rfl, Nat.le_of_ble_eq_true rfl⟩) preEq rfl rfl hl.1 rfl (lv_room (Nat.le_of_ble_eq_true rfl)) dX10_load_40 ⟨Nat.le_of_ble_eq_true rfl, Nat.le_of_ble_eq_true rfl⟩) ?_
          refine W.eq (g2 := F0 m 43 ls [.int (p1 - p1 / 2 * 2), .int 32, .ref (rf 4), .int x_34, .ref (rf 48)]) (by rfl) ?_
          refine lv_topi (fun x_35 ex_35 => ?_)
          have fx_35 : x_35.toInt = p1.toInt % 2 := by rw [ex_35]; exact s_rem (x := p1) 2 (by decide) (by decide) (by omega)
          refine lv_imul hx hb dX10_load_43 ?_
          refine lv_topi (fun x_36 ex_36 => ?_)
          have fx_36 : x_36.toInt = 32 * x_35.toInt := by rw [ex_36]; exact s_mulK i_32 (by omega) (by omega)
          refine lv_iload_n hx hb dX10_load_44 rfl (lv_at hl 4 rfl) ?_
          refine lv_iadd hx hb dX10_load_45 ?_
          refine lv_topi (fun x_37 ex_37 => ?_)
          have fx_37 : x_37.toInt = x_36.toInt + p2.toInt := by have h9 := s_add (x := x_36) (y := p2) (by omega) (by omega); rw [ex_37]; exact h9
          refine lv_iload hx hb dX10_load_46 (lv_at hl 0 rfl) ?_
          refine lv_iadd hx hb dX10_load_48 ?_
          refine lv_topi (fun x_38 ex_38 => ?_)
          have fx_38 : x_38.toInt = x_37.toInt + 2 := by have h9 := s_add (x := x_37) (y := 2) (by rw [i_2]; omega) (by rw [i_2]; omega); rw [i_2] at h9; rw [ex_38]; exact h9
          have hi_39 : vp_in x_38 64 := vp_in_iff.mpr (by omega)
          have ha_40 : va_at (DG E) vwCl (rf 4, .inl (E.2.2 0, 64, .inl (A 4))) _ := hM.2 4 (by decide) (by decide) (by decide)
          obtain ⟨n_41, hn_41, en_41⟩ := s_nat (x := x_38) (by omega)
          refine va_iald (D := DG E) hx hb hK.1 (va_one ha_40) 0 0 rfl rfl hi_39 dX10_load_49 ?_
          refine W.eq (g2 := F0 m 50 ls [.int ((A 4) n_41), .int x_34, .ref (rf 48)]) (by rw [en_41]) ?_
          have hi_42 : vp_in x_34 100 := vp_in_iff.mpr (by omega)
          have ha_43 : va_at (DG E) vwCl (rf 48, .inl (E.2.2 0, 100, .inl g_30)) _ := hM.2 48 (by decide) (by decide) (by decide)
          obtain ⟨n_44, hn_44, en_44⟩ := s_nat (x := x_34) (by omega)
          refine rr_iast (D := DG E) hx hb hK.1 0 ha_43 hS (by show G (rf 48) ≠ 0; rw [hR.2 48 (by decide) (by decide) (by decide)]; decide) rfl hi_42 dX10_load_50 (fun H locs hn ho hz hS => ?_)
          rw [en_44] at hn
          obtain ⟨g_43, eg_43⟩ : ∃ z : Nat → Int32, z = upd g_30 n_44 ((A 4) n_41) := ⟨_, rfl⟩
          have sg_43 : g_43 n_44 = ((A 4) n_41) := by rw [eg_43]; exact upd_s
          have ng_43 : ∀ k, k ≠ n_44 → g_43 k = g_30 k := fun k hk => by rw [eg_43]; exact upd_n hk
          have hn : va_at (DG E) vwCl (rf 48, .inl (E.2.2 0, 100, .inl g_43)) H := by rw [eg_43]; exact hn
          have hM : MH E h0 rf t0 t1 t2 (uA (uA (uA (uA A 44 g_3) 48 g_17) 48 g_30) 48 g_43) cd pk H := hM.w hR 48 (by decide) (by decide) (by decide) hn ho
          refine lv_iinc (v := 3) (lv' := [(5, .int 3), (0, .ref h0), (1, .int p0), (2, .int p1), (3, .int p2), (4, .int p3)]) hx hb dX10_load_51 hl (k := 0) rfl (by decide) (by decide) rfl (fun ls hl => ?_)
          refine lv_goto (tgt := 16) hx hb dX10_load_54 (by decide) ?_
          refine lv_iload hx hb dX10_load_16 (lv_at hl 0 rfl) ?_
          refine lv_iload hx hb dX10_load_18 (lv_at hl 5 rfl) ?_
          refine lv_icmp_ge (tgt := 57) hx hb dX10_load_20 (by decide) (fun c_45 => ?_) (fun c_45 => ?_)
          · simp only [lt_I, le_I, eq_I, i_0, i_1, i_2, i_3, i_4, i_5, i_6, i_7, i_8, i_10, i_12, i_16, i_20, i_23, i_24, i_31, i_32, i_63, i_64, i_m1, i_9, i_11, i_13, i_25, i_60, i_75, i_79, i_80, i_96, i_100] at c_45
            have hI7_46 : I7 (A 41) (A 42) g_3 (A 45) (A 46) := by
              intro n9 hn9
              have h9 : 0 ≤ ((A 41) n9).toInt ∧ ((A 41) n9).toInt ≤ 3 ∧ 0 ≤ ((A 44) n9).toInt ∧ ((A 44) n9).toInt ≤ 12 ∧ (((A 42) n9).toInt ≠ 0 ∧ ((A 42) n9).toInt ≠ 1 ∧ ((A 42) n9).toInt ≠ 4 ∨ ((A 44) n9).toInt ≤ 4) ∧ (((A 42) n9).toInt < 1 ∨ 3 < ((A 42) n9).toInt ∨ (0 ≤ ((A 45) n9).toInt ∧ ((A 45) n9).toInt ≤ 5)) ∧ -1 ≤ ((A 46) n9).toInt ∧ ((A 46) n9).toInt ≤ 60 ∧ 0 ≤ ((A 42) n9).toInt := hI7 n9 hn9
              show 0 ≤ ((A 41) n9).toInt ∧ ((A 41) n9).toInt ≤ 3 ∧ 0 ≤ (g_3 n9).toInt ∧ (g_3 n9).toInt ≤ 12 ∧ (((A 42) n9).toInt ≠ 0 ∧ ((A 42) n9).toInt ≠ 1 ∧ ((A 42) n9).toInt ≠ 4 ∨ (g_3 n9).toInt ≤ 4) ∧ (((A 42) n9).toInt < 1 ∨ 3 < ((A 42) n9).toInt ∨ (0 ≤ ((A 45) n9).toInt ∧ ((A 45) n9).toInt ≤ 5)) ∧ -1 ≤ ((A 46) n9).toInt ∧ ((A 46) n9).toInt ≤ 60 ∧ 0 ≤ ((A 42) n9).toInt
              by_cases ezn_4 : n9 = n_4
              · rw [ezn_4] at h9 ⊢
                rw [sg_3]
                exact ⟨by first | exact h9.1 | omega, by first | exact h9.2.1 | omega, by first | exact h9.2.2.1 | omega, by first | exact h9.2.2.2.1 | omega, by first | exact h9.2.2.2.2.1 | omega, by first | exact h9.2.2.2.2.2.1 | omega, by first | exact h9.2.2.2.2.2.2.1 | omega, by first | exact h9.2.2.2.2.2.2.2.1 | omega, by first | exact h9.2.2.2.2.2.2.2.2 | omega⟩
              · rw [ng_3 n9 ezn_4]
                exact h9
            exact W.vret hx hb hr (fun t ht hW => ⟨⟨(g_3, g_43), rfl, ⟨hI7_46, (show (g_3 24).toInt = ((A 44) 24).toInt ∧ ((A 46) 24).toInt = ((A 46) 24).toInt from ⟨by rw [ng_3 24 (by omega)], rfl⟩), (Or.inr (Or.inr (Or.inr (Or.inl ⟨c_1, n_4, hn_4, g_3, eg_3, c_5, x_7, ex_7, fx_7, x_8, ex_8, fx_8, x_9, ex_9, fx_9, x_10, ex_10, fx_10, x_11, ex_11, fx_11, x_12, ex_12, fx_12, n_15, hn_15, n_18, hn_18, g_17, eg_17, c_19, x_21, ex_21, fx_21, x_22, ex_22, fx_22, x_23, ex_23, fx_23, x_24, ex_24, fx_24, x_25, ex_25, fx_25, n_28, hn_28, n_31, hn_31, g_30, eg_30, c_32, x_34, ex_34, fx_34, x_35, ex_35, fx_35, x_36, ex_36, fx_36, x_37, ex_37, fx_37, x_38, ex_38, fx_38, n_41, hn_41, n_44, hn_44, g_43, eg_43, c_45, rfl, rfl, rfl⟩))))⟩, (by show MH E h0 rf t0 t1 t2 (uA (uA A 44 g_3) 48 g_43) cd pk t.heap; rw [ht]; exact hM.cge (funext fun j => (cgj j 48 rfl (fun a0 => (cgj j 44 rfl (fun a1 => (by simp only [uA_n a0, uA_n a1])))))))⟩, hS.F ht⟩) hS.2.2 dX10_load_57
          · simp only [lt_I, le_I, eq_I, i_0, i_1, i_2, i_3, i_4, i_5, i_6, i_7, i_8, i_10, i_12, i_16, i_20, i_23, i_24, i_31, i_32, i_63, i_64, i_m1, i_9, i_11, i_13, i_25, i_60, i_75, i_79, i_80, i_96, i_100] at c_45
            refine lv_aload_n hx hb dX10_load_23 rfl (lv_at hl 1 rfl) ?_
            refine va_get (D := DG E) (ci := 10) (v := .ref (rf 48)) (C := RX10) (T := TX10) (N := 49) hx hb hts iw_X10 hown hK.1 (va_one hM.1) 0 rfl rfl 48 (by decide) (hts _ fl_X10_140) (fun _ h9 => h9) rfl dX10_load_24 ?_
            refine lv_iconst (v := 4) hx hb dX10_load_27 (by decide) ?_
            refine lv_iload_n hx hb dX10_load_28 rfl (lv_at hl 2 rfl) ?_
            refine lv_imul hx hb dX10_load_29 ?_
            refine W.eq (g2 := F0 m 30 ls [.int x_7, .ref (rf 48)]) (by rw [ex_7]) ?_
            refine lv_iload hx hb dX10_load_30 (lv_at hl 0 rfl) ?_
            refine lv_iadd hx hb dX10_load_32 ?_
            refine lv_topi (fun x_47 ex_47 => ?_)
            have fx_47 : x_47.toInt = x_7.toInt + 3 := by have h9 := s_add (x := x_7) (y := 3) (by rw [i_3]; omega) (by rw [i_3]; omega); rw [i_3] at h9; rw [ex_47]; exact h9
            refine lv_aload_n hx hb dX10_load_33 rfl (lv_at hl 1 rfl) ?_
            refine va_get (D := DG E) (ci := 10) (v := .ref (rf 4)) (C := RX10) (T := TX10) (N := 49) hx hb hts iw_X10 hown hK.1 (va_one hM.1) 0 rfl rfl 4 (by decide) (hts _ fl_X10_7) (fun _ h9 => h9) rfl dX10_load_34 ?_
            refine lv_bipush (v := 32) hx hb dX10_load_37 (by decide) ?_
            refine lv_iload_n hx hb dX10_load_39 rfl (lv_at hl 3 rfl) ?_
            refine W.callR (W.runS (As := [.int p1]) (rest := [.int 32, .ref (rf 4), .int x_47, .ref (rf 48)]) ⟨hx, hb, hml, hown, hts⟩ (c_X10_nodeOf l p1) (cwS 1 hts (gdS ml_X10_160 st_X10_nodeOf in_X10 co_X10_nodeOf rfl) rfl rfl rfl (by decide +kernel) ⟨Nat.le_of_ble_eq_true rfl, Nat.le_of_ble_eq_true rfl⟩) preEq rfl rfl hl.1 rfl (lv_room (Nat.le_of_ble_eq_true rfl)) dX10_load_40 ⟨Nat.le_of_ble_eq_true rfl, Nat.le_of_ble_eq_true rfl⟩) ?_
            refine W.eq (g2 := F0 m 43 ls [.int (p1 - p1 / 2 * 2), .int 32, .ref (rf 4), .int x_47, .ref (rf 48)]) (by rfl) ?_
            refine lv_topi (fun x_48 ex_48 => ?_)
            have fx_48 : x_48.toInt = p1.toInt % 2 := by rw [ex_48]; exact s_rem (x := p1) 2 (by decide) (by decide) (by omega)
            refine lv_imul hx hb dX10_load_43 ?_
            refine lv_topi (fun x_49 ex_49 => ?_)
            have fx_49 : x_49.toInt = 32 * x_48.toInt := by rw [ex_49]; exact s_mulK i_32 (by omega) (by omega)
            refine lv_iload_n hx hb dX10_load_44 rfl (lv_at hl 4 rfl) ?_
            refine lv_iadd hx hb dX10_load_45 ?_
            refine lv_topi (fun x_50 ex_50 => ?_)
            have fx_50 : x_50.toInt = x_49.toInt + p2.toInt := by have h9 := s_add (x := x_49) (y := p2) (by omega) (by omega); rw [ex_50]; exact h9
            refine lv_iload hx hb dX10_load_46 (lv_at hl 0 rfl) ?_
            refine lv_iadd hx hb dX10_load_48 ?_
            refine lv_topi (fun x_51 ex_51 => ?_)
            have fx_51 : x_51.toInt = x_50.toInt + 3 := by have h9 := s_add (x := x_50) (y := 3) (by rw [i_3]; omega) (by rw [i_3]; omega); rw [i_3] at h9; rw [ex_51]; exact h9
            have hi_52 : vp_in x_51 64 := vp_in_iff.mpr (by omega)
            have ha_53 : va_at (DG E) vwCl (rf 4, .inl (E.2.2 0, 64, .inl (A 4))) _ := hM.2 4 (by decide) (by decide) (by decide)
            obtain ⟨n_54, hn_54, en_54⟩ := s_nat (x := x_51) (by omega)
            refine va_iald (D := DG E) hx hb hK.1 (va_one ha_53) 0 0 rfl rfl hi_52 dX10_load_49 ?_
            refine W.eq (g2 := F0 m 50 ls [.int ((A 4) n_54), .int x_47, .ref (rf 48)]) (by rw [en_54]) ?_
            have hi_55 : vp_in x_47 100 := vp_in_iff.mpr (by omega)
            have ha_56 : va_at (DG E) vwCl (rf 48, .inl (E.2.2 0, 100, .inl g_43)) _ := hM.2 48 (by decide) (by decide) (by decide)
            obtain ⟨n_57, hn_57, en_57⟩ := s_nat (x := x_47) (by omega)
            refine rr_iast (D := DG E) hx hb hK.1 0 ha_56 hS (by show G (rf 48) ≠ 0; rw [hR.2 48 (by decide) (by decide) (by decide)]; decide) rfl hi_55 dX10_load_50 (fun H locs hn ho hz hS => ?_)
            rw [en_57] at hn
            obtain ⟨g_56, eg_56⟩ : ∃ z : Nat → Int32, z = upd g_43 n_57 ((A 4) n_54) := ⟨_, rfl⟩
            have sg_56 : g_56 n_57 = ((A 4) n_54) := by rw [eg_56]; exact upd_s
            have ng_56 : ∀ k, k ≠ n_57 → g_56 k = g_43 k := fun k hk => by rw [eg_56]; exact upd_n hk
            have hn : va_at (DG E) vwCl (rf 48, .inl (E.2.2 0, 100, .inl g_56)) H := by rw [eg_56]; exact hn
            have hM : MH E h0 rf t0 t1 t2 (uA (uA (uA (uA (uA A 44 g_3) 48 g_17) 48 g_30) 48 g_43) 48 g_56) cd pk H := hM.w hR 48 (by decide) (by decide) (by decide) hn ho
            refine lv_iinc (v := 4) (lv' := [(5, .int 4), (0, .ref h0), (1, .int p0), (2, .int p1), (3, .int p2), (4, .int p3)]) hx hb dX10_load_51 hl (k := 0) rfl (by decide) (by decide) rfl (fun ls hl => ?_)
            refine lv_goto (tgt := 16) hx hb dX10_load_54 (by decide) ?_
            refine lv_iload hx hb dX10_load_16 (lv_at hl 0 rfl) ?_
            refine lv_iload hx hb dX10_load_18 (lv_at hl 5 rfl) ?_
            refine lv_icmp_ge (tgt := 57) hx hb dX10_load_20 (by decide) (fun c_58 => ?_) (fun c_58 => by exfalso; simp only [lt_I, le_I, eq_I, i_0, i_1, i_2, i_3, i_4, i_5, i_6, i_7, i_8, i_10, i_12, i_16, i_20, i_23, i_24, i_31, i_32, i_63, i_64, i_m1, i_9, i_11, i_13, i_25, i_60, i_75, i_79, i_80, i_96, i_100] at c_58; omega)
            simp only [lt_I, le_I, eq_I, i_0, i_1, i_2, i_3, i_4, i_5, i_6, i_7, i_8, i_10, i_12, i_16, i_20, i_23, i_24, i_31, i_32, i_63, i_64, i_m1, i_9, i_11, i_13, i_25, i_60, i_75, i_79, i_80, i_96, i_100] at c_58
            have hI7_59 : I7 (A 41) (A 42) g_3 (A 45) (A 46) := by
              intro n9 hn9
              have h9 : 0 ≤ ((A 41) n9).toInt ∧ ((A 41) n9).toInt ≤ 3 ∧ 0 ≤ ((A 44) n9).toInt ∧ ((A 44) n9).toInt ≤ 12 ∧ (((A 42) n9).toInt ≠ 0 ∧ ((A 42) n9).toInt ≠ 1 ∧ ((A 42) n9).toInt ≠ 4 ∨ ((A 44) n9).toInt ≤ 4) ∧ (((A 42) n9).toInt < 1 ∨ 3 < ((A 42) n9).toInt ∨ (0 ≤ ((A 45) n9).toInt ∧ ((A 45) n9).toInt ≤ 5)) ∧ -1 ≤ ((A 46) n9).toInt ∧ ((A 46) n9).toInt ≤ 60 ∧ 0 ≤ ((A 42) n9).toInt := hI7 n9 hn9
              show 0 ≤ ((A 41) n9).toInt ∧ ((A 41) n9).toInt ≤ 3 ∧ 0 ≤ (g_3 n9).toInt ∧ (g_3 n9).toInt ≤ 12 ∧ (((A 42) n9).toInt ≠ 0 ∧ ((A 42) n9).toInt ≠ 1 ∧ ((A 42) n9).toInt ≠ 4 ∨ (g_3 n9).toInt ≤ 4) ∧ (((A 42) n9).toInt < 1 ∨ 3 < ((A 42) n9).toInt ∨ (0 ≤ ((A 45) n9).toInt ∧ ((A 45) n9).toInt ≤ 5)) ∧ -1 ≤ ((A 46) n9).toInt ∧ ((A 46) n9).toInt ≤ 60 ∧ 0 ≤ ((A 42) n9).toInt
              by_cases ezn_4 : n9 = n_4
              · rw [ezn_4] at h9 ⊢
                rw [sg_3]
                exact ⟨by first | exact h9.1 | omega, by first | exact h9.2.1 | omega, by first | exact h9.2.2.1 | omega, by first | exact h9.2.2.2.1 | omega, by first | exact h9.2.2.2.2.1 | omega, by first | exact h9.2.2.2.2.2.1 | omega, by first | exact h9.2.2.2.2.2.2.1 | omega, by first | exact h9.2.2.2.2.2.2.2.1 | omega, by first | exact h9.2.2.2.2.2.2.2.2 | omega⟩
              · rw [ng_3 n9 ezn_4]
                exact h9
            exact W.vret hx hb hr (fun t ht hW => ⟨⟨(g_3, g_56), rfl, ⟨hI7_59, (show (g_3 24).toInt = ((A 44) 24).toInt ∧ ((A 46) 24).toInt = ((A 46) 24).toInt from ⟨by rw [ng_3 24 (by omega)], rfl⟩), (Or.inr (Or.inr (Or.inr (Or.inr (Or.inl ⟨c_1, n_4, hn_4, g_3, eg_3, c_5, x_7, ex_7, fx_7, x_8, ex_8, fx_8, x_9, ex_9, fx_9, x_10, ex_10, fx_10, x_11, ex_11, fx_11, x_12, ex_12, fx_12, n_15, hn_15, n_18, hn_18, g_17, eg_17, c_19, x_21, ex_21, fx_21, x_22, ex_22, fx_22, x_23, ex_23, fx_23, x_24, ex_24, fx_24, x_25, ex_25, fx_25, n_28, hn_28, n_31, hn_31, g_30, eg_30, c_32, x_34, ex_34, fx_34, x_35, ex_35, fx_35, x_36, ex_36, fx_36, x_37, ex_37, fx_37, x_38, ex_38, fx_38, n_41, hn_41, n_44, hn_44, g_43, eg_43, c_45, x_47, ex_47, fx_47, x_48, ex_48, fx_48, x_49, ex_49, fx_49, x_50, ex_50, fx_50, x_51, ex_51, fx_51, n_54, hn_54, n_57, hn_57, g_56, eg_56, rfl, rfl, rfl⟩)))))⟩, (by show MH E h0 rf t0 t1 t2 (uA (uA A 44 g_3) 48 g_56) cd pk t.heap; rw [ht]; exact hM.cge (funext fun j => (cgj j 48 rfl (fun a0 => (cgj j 44 rfl (fun a1 => (by simp only [uA_n a0, uA_n a1])))))))⟩, hS.F ht⟩) hS.2.2 dX10_load_57
  · simp only [lt_I, le_I, eq_I, i_0, i_1, i_2, i_3, i_4, i_5, i_6, i_7, i_8, i_10, i_12, i_16, i_20, i_23, i_24, i_31, i_32, i_63, i_64, i_m1, i_9, i_11, i_13, i_25, i_60, i_75, i_79, i_80, i_96, i_100] at c_1
    exact W.vret hx hb hr (fun t ht hW => ⟨⟨((A 44), (A 48)), rfl, ⟨hI7, (show ((A 44) 24).toInt = ((A 44) 24).toInt ∧ ((A 46) 24).toInt = ((A 46) 24).toInt from ⟨rfl, rfl⟩), (Or.inr (Or.inr (Or.inr (Or.inr (Or.inr ⟨c_1, rfl, rfl, rfl⟩)))))⟩, (by show MH E h0 rf t0 t1 t2 (uA (uA A 44 (A 44)) 48 (A 48)) cd pk t.heap; rw [ht]; exact hM.cge (funext fun j => (cgj j 48 rfl (fun a0 => (cgj j 44 rfl (fun a1 => (by simp only [uA_n a0, uA_n a1])))))))⟩, hS.F ht⟩) hS.2.2 dX10_load_4
theorem dX10_takeCells_0 : decode cX10_takeCells 0 = .ok (.iconst 0, 1) := by decide +kernel
theorem dX10_takeCells_1 : decode cX10_takeCells 1 = .ok (.istore_n 3, 1) := by decide +kernel
theorem dX10_takeCells_2 : decode cX10_takeCells 2 = .ok (.iload_n 3, 1) := by decide +kernel
theorem dX10_takeCells_3 : decode cX10_takeCells 3 = .ok (.iload_n 2, 1) := by decide +kernel
theorem dX10_takeCells_4 : decode cX10_takeCells 4 = .ok (.if_icmp .ge 26, 3) := by decide +kernel
theorem dX10_takeCells_7 : decode cX10_takeCells 7 = .ok (.aload_n 0, 1) := by decide +kernel
theorem dX10_takeCells_8 : decode cX10_takeCells 8 = .ok (.getfield 7, 3) := by decide +kernel
theorem dX10_takeCells_11 : decode cX10_takeCells 11 = .ok (.iload_n 1, 1) := by decide +kernel
theorem dX10_takeCells_12 : decode cX10_takeCells 12 = .ok (.iload_n 3, 1) := by decide +kernel
theorem dX10_takeCells_13 : decode cX10_takeCells 13 = .ok (.iadd, 1) := by decide +kernel
theorem dX10_takeCells_14 : decode cX10_takeCells 14 = .ok (.aload_n 0, 1) := by decide +kernel
theorem dX10_takeCells_15 : decode cX10_takeCells 15 = .ok (.getfield 140, 3) := by decide +kernel
theorem dX10_takeCells_18 : decode cX10_takeCells 18 = .ok (.bipush 96, 2) := by decide +kernel
theorem dX10_takeCells_20 : decode cX10_takeCells 20 = .ok (.iload_n 3, 1) := by decide +kernel
theorem dX10_takeCells_21 : decode cX10_takeCells 21 = .ok (.iadd, 1) := by decide +kernel
theorem dX10_takeCells_22 : decode cX10_takeCells 22 = .ok (.iaload, 1) := by decide +kernel
theorem dX10_takeCells_23 : decode cX10_takeCells 23 = .ok (.iastore, 1) := by decide +kernel
theorem dX10_takeCells_24 : decode cX10_takeCells 24 = .ok (.iinc 3 1, 3) := by decide +kernel
theorem dX10_takeCells_27 : decode cX10_takeCells 27 = .ok (.goto (-25), 3) := by decide +kernel
theorem dX10_takeCells_30 : decode cX10_takeCells 30 = .ok (.return_, 1) := by decide +kernel
set_option maxHeartbeats 8000000 in
set_option maxRecDepth 100000 in
theorem u_X10_takeCells (l : Launch) (E : EE) (z0 : Nat) (G : Nat → Nat) (hGz : ∀ q, G q ≠ 0 → z0 ≤ q) (h0 : Nat) (rf : Nat → Nat) (hR : MG G h0 rf) (t0 t1 t2 : Int32) (A : AA) (cd pk : Int32) (p0 : Int32) (p1 : Int32) (hy0 : 0 ≤ p0.toInt ∧ p0.toInt ≤ 64) (hy1 : 0 ≤ p1.toInt ∧ p1.toInt ≤ 4) (hy2 : p0.toInt + p1.toInt ≤ 64) : Met l yX10_takeCells [Cond.code yX10_takeCells cX10_takeCells 4 none] ({ frames := 0, cells := 0, slots := 0, locals := 0 } : Room) (va_Pc [.ref h0, .int p0, .int p1] (fun U => MH E h0 rf t0 t1 t2 A cd pk U.heap ∧ KS E z0 U)) (va_Qv (fun (u : (Nat → Int32)) => D_X10_takeCells A cd pk p0 p1 (uA A 4 (u)) cd pk) (fun u t => MH E h0 rf t0 t1 t2 (uA A 4 (u)) cd pk t.heap) (fun q : Nat => G q ≠ 0)) 0 0 (fun q : Nat => G q ≠ 0) := by
  refine Met.ofW (cc := cX10_takeCells) (maxL := 4) (ret := none) (by decide) rfl ?_
  intro p e s m args below meth c s₁ B hml hv
  obtain ⟨rfl, hM, hK⟩ := hv
  have hx := B.exec
  have hb := B.bytes
  have hr := B.returns
  have hts : ∀ w ∈ TS, w.before ([.ref h0, .int p0, .int p1] : List Value).toArray s = true := fun w hw => hK.2.1 w hw _
  have hown : s.vm.findClass RX10 = some m.cls := findClass_of_methodNamed B.named
  have hlocks := B.notSynchronized
  have hS : va_S (fun q : Nat => G q ≠ 0) s.heap s.heap [] := va_S.rf
  have hAz : ∀ q, (fun q : Nat => G q ≠ 0) q → z0 ≤ q := hGz
  have hl := lv_entry ([.ref h0, .int p0, .int p1]) (n := 4) (Nat.le_of_ble_eq_true rfl)
  rw [lg_entry_eq]
  generalize (lg_sl ([.ref h0, .int p0, .int p1]) ++ List.replicate (4 - (lg_sl ([.ref h0, .int p0, .int p1])).length) Slot.unset).toArray = ls at hl ⊢
  have hl : lv_has ls 4 [(0, .ref h0), (1, .int p0), (2, .int p1)] := hl
  refine lv_iconst (v := 0) hx hb dX10_takeCells_0 (by decide) ?_
  refine lv_istore_n (lv' := [(3, .int 0), (0, .ref h0), (1, .int p0), (2, .int p1)]) hx hb dX10_takeCells_1 rfl hl (by decide) rfl (fun ls hl => ?_)
  refine lv_iload_n hx hb dX10_takeCells_2 rfl (lv_at hl 0 rfl) ?_
  refine lv_iload_n hx hb dX10_takeCells_3 rfl (lv_at hl 3 rfl) ?_
  refine lv_icmp_ge (tgt := 30) hx hb dX10_takeCells_4 (by decide) (fun c_1 => ?_) (fun c_1 => ?_)
  · simp only [lt_I, le_I, eq_I, i_0, i_1, i_2, i_3, i_4, i_5, i_6, i_7, i_8, i_10, i_12, i_16, i_20, i_23, i_24, i_31, i_32, i_63, i_64, i_m1, i_9, i_11, i_13, i_25, i_60, i_75, i_79, i_80, i_96, i_100] at c_1
    exact W.vret hx hb hr (fun t ht hW => ⟨⟨(A 4), rfl, (Or.inl ⟨c_1, rfl, rfl, rfl⟩), (by show MH E h0 rf t0 t1 t2 (uA A 4 (A 4)) cd pk t.heap; rw [ht]; exact hM.cge (funext fun j => (cgj j 4 rfl (fun a0 => (by simp only [uA_n a0])))))⟩, hS.F ht⟩) hS.2.2 dX10_takeCells_30
  · simp only [lt_I, le_I, eq_I, i_0, i_1, i_2, i_3, i_4, i_5, i_6, i_7, i_8, i_10, i_12, i_16, i_20, i_23, i_24, i_31, i_32, i_63, i_64, i_m1, i_9, i_11, i_13, i_25, i_60, i_75, i_79, i_80, i_96, i_100] at c_1
    refine lv_aload_n hx hb dX10_takeCells_7 rfl (lv_at hl 1 rfl) ?_
    refine va_get (D := DG E) (ci := 10) (v := .ref (rf 4)) (C := RX10) (T := TX10) (N := 49) hx hb hts iw_X10 hown hK.1 (va_one hM.1) 0 rfl rfl 4 (by decide) (hts _ fl_X10_7) (fun _ h9 => h9) rfl dX10_takeCells_8 ?_
    refine lv_iload_n hx hb dX10_takeCells_11 rfl (lv_at hl 2 rfl) ?_
    refine lv_iload_n hx hb dX10_takeCells_12 rfl (lv_at hl 0 rfl) ?_
    refine lv_iadd hx hb dX10_takeCells_13 ?_
    refine lv_topi (fun x_2 ex_2 => ?_)
    have fx_2 : x_2.toInt = p0.toInt + 0 := by have h9 := s_add (x := p0) (y := 0) (by rw [i_0]; omega) (by rw [i_0]; omega); rw [i_0] at h9; rw [ex_2]; exact h9
    refine lv_aload_n hx hb dX10_takeCells_14 rfl (lv_at hl 1 rfl) ?_
    refine va_get (D := DG E) (ci := 10) (v := .ref (rf 48)) (C := RX10) (T := TX10) (N := 49) hx hb hts iw_X10 hown hK.1 (va_one hM.1) 0 rfl rfl 48 (by decide) (hts _ fl_X10_140) (fun _ h9 => h9) rfl dX10_takeCells_15 ?_
    refine lv_bipush (v := 96) hx hb dX10_takeCells_18 (by decide) ?_
    refine lv_iload_n hx hb dX10_takeCells_20 rfl (lv_at hl 0 rfl) ?_
    refine lv_iadd hx hb dX10_takeCells_21 ?_
    refine W.eq (g2 := F0 m 22 ls [.int 96, .ref (rf 48), .int x_2, .ref (rf 4)]) (by rfl) ?_
    have ha_3 : va_at (DG E) vwCl (rf 48, .inl (E.2.2 0, 100, .inl (A 48))) _ := hM.2 48 (by decide) (by decide) (by decide)
    refine va_iald (D := DG E) hx hb hK.1 (va_one ha_3) 0 0 rfl rfl (show vp_in (96) 100 from vp_in_iff.mpr ⟨by decide, by decide⟩) dX10_takeCells_22 ?_
    refine W.eq (g2 := F0 m 23 ls [.int ((A 48) 96), .int x_2, .ref (rf 4)]) (by rfl) ?_
    have hi_4 : vp_in x_2 64 := vp_in_iff.mpr (by omega)
    have ha_5 : va_at (DG E) vwCl (rf 4, .inl (E.2.2 0, 64, .inl (A 4))) _ := hM.2 4 (by decide) (by decide) (by decide)
    obtain ⟨n_6, hn_6, en_6⟩ := s_nat (x := x_2) (by omega)
    refine rr_iast (D := DG E) hx hb hK.1 0 ha_5 hS (by show G (rf 4) ≠ 0; rw [hR.2 4 (by decide) (by decide) (by decide)]; decide) rfl hi_4 dX10_takeCells_23 (fun H locs hn ho hz hS => ?_)
    rw [en_6] at hn
    obtain ⟨g_5, eg_5⟩ : ∃ z : Nat → Int32, z = upd (A 4) n_6 ((A 48) 96) := ⟨_, rfl⟩
    have sg_5 : g_5 n_6 = ((A 48) 96) := by rw [eg_5]; exact upd_s
    have ng_5 : ∀ k, k ≠ n_6 → g_5 k = (A 4) k := fun k hk => by rw [eg_5]; exact upd_n hk
    have hn : va_at (DG E) vwCl (rf 4, .inl (E.2.2 0, 64, .inl g_5)) H := by rw [eg_5]; exact hn
    have hM : MH E h0 rf t0 t1 t2 (uA A 4 g_5) cd pk H := hM.w hR 4 (by decide) (by decide) (by decide) hn ho
    refine lv_iinc (v := 1) (lv' := [(3, .int 1), (0, .ref h0), (1, .int p0), (2, .int p1)]) hx hb dX10_takeCells_24 hl (k := 0) rfl (by decide) (by decide) rfl (fun ls hl => ?_)
    refine lv_goto (tgt := 2) hx hb dX10_takeCells_27 (by decide) ?_
    refine lv_iload_n hx hb dX10_takeCells_2 rfl (lv_at hl 0 rfl) ?_
    refine lv_iload_n hx hb dX10_takeCells_3 rfl (lv_at hl 3 rfl) ?_
    refine lv_icmp_ge (tgt := 30) hx hb dX10_takeCells_4 (by decide) (fun c_7 => ?_) (fun c_7 => ?_)
    · simp only [lt_I, le_I, eq_I, i_0, i_1, i_2, i_3, i_4, i_5, i_6, i_7, i_8, i_10, i_12, i_16, i_20, i_23, i_24, i_31, i_32, i_63, i_64, i_m1, i_9, i_11, i_13, i_25, i_60, i_75, i_79, i_80, i_96, i_100] at c_7
      exact W.vret hx hb hr (fun t ht hW => ⟨⟨g_5, rfl, (Or.inr (Or.inl ⟨c_1, x_2, ex_2, fx_2, n_6, hn_6, g_5, eg_5, c_7, rfl, rfl, rfl⟩)), (by show MH E h0 rf t0 t1 t2 (uA A 4 g_5) cd pk t.heap; rw [ht]; exact hM)⟩, hS.F ht⟩) hS.2.2 dX10_takeCells_30
    · simp only [lt_I, le_I, eq_I, i_0, i_1, i_2, i_3, i_4, i_5, i_6, i_7, i_8, i_10, i_12, i_16, i_20, i_23, i_24, i_31, i_32, i_63, i_64, i_m1, i_9, i_11, i_13, i_25, i_60, i_75, i_79, i_80, i_96, i_100] at c_7
      refine lv_aload_n hx hb dX10_takeCells_7 rfl (lv_at hl 1 rfl) ?_
      refine va_get (D := DG E) (ci := 10) (v := .ref (rf 4)) (C := RX10) (T := TX10) (N := 49) hx hb hts iw_X10 hown hK.1 (va_one hM.1) 0 rfl rfl 4 (by decide) (hts _ fl_X10_7) (fun _ h9 => h9) rfl dX10_takeCells_8 ?_
      refine lv_iload_n hx hb dX10_takeCells_11 rfl (lv_at hl 2 rfl) ?_
      refine lv_iload_n hx hb dX10_takeCells_12 rfl (lv_at hl 0 rfl) ?_
      refine lv_iadd hx hb dX10_takeCells_13 ?_
      refine lv_topi (fun x_8 ex_8 => ?_)
      have fx_8 : x_8.toInt = p0.toInt + 1 := by have h9 := s_add (x := p0) (y := 1) (by rw [i_1]; omega) (by rw [i_1]; omega); rw [i_1] at h9; rw [ex_8]; exact h9
      refine lv_aload_n hx hb dX10_takeCells_14 rfl (lv_at hl 1 rfl) ?_
      refine va_get (D := DG E) (ci := 10) (v := .ref (rf 48)) (C := RX10) (T := TX10) (N := 49) hx hb hts iw_X10 hown hK.1 (va_one hM.1) 0 rfl rfl 48 (by decide) (hts _ fl_X10_140) (fun _ h9 => h9) rfl dX10_takeCells_15 ?_
      refine lv_bipush (v := 96) hx hb dX10_takeCells_18 (by decide) ?_
      refine lv_iload_n hx hb dX10_takeCells_20 rfl (lv_at hl 0 rfl) ?_
      refine lv_iadd hx hb dX10_takeCells_21 ?_
      refine W.eq (g2 := F0 m 22 ls [.int 97, .ref (rf 48), .int x_8, .ref (rf 4)]) (by rfl) ?_
      have ha_9 : va_at (DG E) vwCl (rf 48, .inl (E.2.2 0, 100, .inl (A 48))) _ := hM.2 48 (by decide) (by decide) (by decide)
      refine va_iald (D := DG E) hx hb hK.1 (va_one ha_9) 0 0 rfl rfl (show vp_in (97) 100 from vp_in_iff.mpr ⟨by decide, by decide⟩) dX10_takeCells_22 ?_
      refine W.eq (g2 := F0 m 23 ls [.int ((A 48) 97), .int x_8, .ref (rf 4)]) (by rfl) ?_
      have hi_10 : vp_in x_8 64 := vp_in_iff.mpr (by omega)
      have ha_11 : va_at (DG E) vwCl (rf 4, .inl (E.2.2 0, 64, .inl g_5)) _ := hM.2 4 (by decide) (by decide) (by decide)
      obtain ⟨n_12, hn_12, en_12⟩ := s_nat (x := x_8) (by omega)
      refine rr_iast (D := DG E) hx hb hK.1 0 ha_11 hS (by show G (rf 4) ≠ 0; rw [hR.2 4 (by decide) (by decide) (by decide)]; decide) rfl hi_10 dX10_takeCells_23 (fun H locs hn ho hz hS => ?_)
      rw [en_12] at hn
      obtain ⟨g_11, eg_11⟩ : ∃ z : Nat → Int32, z = upd g_5 n_12 ((A 48) 97) := ⟨_, rfl⟩
      have sg_11 : g_11 n_12 = ((A 48) 97) := by rw [eg_11]; exact upd_s
      have ng_11 : ∀ k, k ≠ n_12 → g_11 k = g_5 k := fun k hk => by rw [eg_11]; exact upd_n hk
      have hn : va_at (DG E) vwCl (rf 4, .inl (E.2.2 0, 64, .inl g_11)) H := by rw [eg_11]; exact hn
      have hM : MH E h0 rf t0 t1 t2 (uA (uA A 4 g_5) 4 g_11) cd pk H := hM.w hR 4 (by decide) (by decide) (by decide) hn ho
      refine lv_iinc (v := 2) (lv' := [(3, .int 2), (0, .ref h0), (1, .int p0), (2, .int p1)]) hx hb dX10_takeCells_24 hl (k := 0) rfl (by decide) (by decide) rfl (fun ls hl => ?_)
      refine lv_goto (tgt := 2) hx hb dX10_takeCells_27 (by decide) ?_
      refine lv_iload_n hx hb dX10_takeCells_2 rfl (lv_at hl 0 rfl) ?_
      refine lv_iload_n hx hb dX10_takeCells_3 rfl (lv_at hl 3 rfl) ?_
      refine lv_icmp_ge (tgt := 30) hx hb dX10_takeCells_4 (by decide) (fun c_13 => ?_) (fun c_13 => ?_)
      · simp only [lt_I, le_I, eq_I, i_0, i_1, i_2, i_3, i_4, i_5, i_6, i_7, i_8, i_10, i_12, i_16, i_20, i_23, i_24, i_31, i_32, i_63, i_64, i_m1, i_9, i_11, i_13, i_25, i_60, i_75, i_79, i_80, i_96, i_100] at c_13
        exact W.vret hx hb hr (fun t ht hW => ⟨⟨g_11, rfl, (Or.inr (Or.inr (Or.inl ⟨c_1, x_2, ex_2, fx_2, n_6, hn_6, g_5, eg_5, c_7, x_8, ex_8, fx_8, n_12, hn_12, g_11, eg_11, c_13, rfl, rfl, rfl⟩))), (by show MH E h0 rf t0 t1 t2 (uA A 4 g_11) cd pk t.heap; rw [ht]; exact hM.cge (funext fun j => (cgj j 4 rfl (fun a0 => (by simp only [uA_n a0])))))⟩, hS.F ht⟩) hS.2.2 dX10_takeCells_30
      · simp only [lt_I, le_I, eq_I, i_0, i_1, i_2, i_3, i_4, i_5, i_6, i_7, i_8, i_10, i_12, i_16, i_20, i_23, i_24, i_31, i_32, i_63, i_64, i_m1, i_9, i_11, i_13, i_25, i_60, i_75, i_79, i_80, i_96, i_100] at c_13
        refine lv_aload_n hx hb dX10_takeCells_7 rfl (lv_at hl 1 rfl) ?_
        refine va_get (D := DG E) (ci := 10) (v := .ref (rf 4)) (C := RX10) (T := TX10) (N := 49) hx hb hts iw_X10 hown hK.1 (va_one hM.1) 0 rfl rfl 4 (by decide) (hts _ fl_X10_7) (fun _ h9 => h9) rfl dX10_takeCells_8 ?_
        refine lv_iload_n hx hb dX10_takeCells_11 rfl (lv_at hl 2 rfl) ?_
        refine lv_iload_n hx hb dX10_takeCells_12 rfl (lv_at hl 0 rfl) ?_
        refine lv_iadd hx hb dX10_takeCells_13 ?_
        refine lv_topi (fun x_14 ex_14 => ?_)
        have fx_14 : x_14.toInt = p0.toInt + 2 := by have h9 := s_add (x := p0) (y := 2) (by rw [i_2]; omega) (by rw [i_2]; omega); rw [i_2] at h9; rw [ex_14]; exact h9
        refine lv_aload_n hx hb dX10_takeCells_14 rfl (lv_at hl 1 rfl) ?_
        refine va_get (D := DG E) (ci := 10) (v := .ref (rf 48)) (C := RX10) (T := TX10) (N := 49) hx hb hts iw_X10 hown hK.1 (va_one hM.1) 0 rfl rfl 48 (by decide) (hts _ fl_X10_140) (fun _ h9 => h9) rfl dX10_takeCells_15 ?_
        refine lv_bipush (v := 96) hx hb dX10_takeCells_18 (by decide) ?_
        refine lv_iload_n hx hb dX10_takeCells_20 rfl (lv_at hl 0 rfl) ?_
        refine lv_iadd hx hb dX10_takeCells_21 ?_
        refine W.eq (g2 := F0 m 22 ls [.int 98, .ref (rf 48), .int x_14, .ref (rf 4)]) (by rfl) ?_
        have ha_15 : va_at (DG E) vwCl (rf 48, .inl (E.2.2 0, 100, .inl (A 48))) _ := hM.2 48 (by decide) (by decide) (by decide)
        refine va_iald (D := DG E) hx hb hK.1 (va_one ha_15) 0 0 rfl rfl (show vp_in (98) 100 from vp_in_iff.mpr ⟨by decide, by decide⟩) dX10_takeCells_22 ?_
        refine W.eq (g2 := F0 m 23 ls [.int ((A 48) 98), .int x_14, .ref (rf 4)]) (by rfl) ?_
        have hi_16 : vp_in x_14 64 := vp_in_iff.mpr (by omega)
        have ha_17 : va_at (DG E) vwCl (rf 4, .inl (E.2.2 0, 64, .inl g_11)) _ := hM.2 4 (by decide) (by decide) (by decide)
        obtain ⟨n_18, hn_18, en_18⟩ := s_nat (x := x_14) (by omega)
        refine rr_iast (D := DG E) hx hb hK.1 0 ha_17 hS (by show G (rf 4) ≠ 0; rw [hR.2 4 (by decide) (by decide) (by decide)]; decide) rfl hi_16 dX10_takeCells_23 (fun H locs hn ho hz hS => ?_)
        rw [en_18] at hn
        obtain ⟨g_17, eg_17⟩ : ∃ z : Nat → Int32, z = upd g_11 n_18 ((A 48) 98) := ⟨_, rfl⟩
        have sg_17 : g_17 n_18 = ((A 48) 98) := by rw [eg_17]; exact upd_s
        have ng_17 : ∀ k, k ≠ n_18 → g_17 k = g_11 k := fun k hk => by rw [eg_17]; exact upd_n hk
        have hn : va_at (DG E) vwCl (rf 4, .inl (E.2.2 0, 64, .inl g_17)) H := by rw [eg_17]; exact hn
        have hM : MH E h0 rf t0 t1 t2 (uA (uA (uA A 4 g_5) 4 g_11) 4 g_17) cd pk H := hM.w hR 4 (by decide) (by decide) (by decide) hn ho
        refine lv_iinc (v := 3) (lv' := [(3, .int 3), (0, .ref h0), (1, .int p0), (2, .int p1)]) hx hb dX10_takeCells_24 hl (k := 0) rfl (by decide) (by decide) rfl (fun ls hl => ?_)
        refine lv_goto (tgt := 2) hx hb dX10_takeCells_27 (by decide) ?_
        refine lv_iload_n hx hb dX10_takeCells_2 rfl (lv_at hl 0 rfl) ?_
        refine lv_iload_n hx hb dX10_takeCells_3 rfl (lv_at hl 3 rfl) ?_
        refine lv_icmp_ge (tgt := 30) hx hb dX10_takeCells_4 (by decide) (fun c_19 => ?_) (fun c_19 => ?_)
        · simp only [lt_I, le_I, eq_I, i_0, i_1, i_2, i_3, i_4, i_5, i_6, i_7, i_8, i_10, i_12, i_16, i_20, i_23, i_24, i_31, i_32, i_63, i_64, i_m1, i_9, i_11, i_13, i_25, i_60, i_75, i_79, i_80, i_96, i_100] at c_19
          exact W.vret hx hb hr (fun t ht hW => ⟨⟨g_17, rfl, (Or.inr (Or.inr (Or.inr (Or.inl ⟨c_1, x_2, ex_2, fx_2, n_6, hn_6, g_5, eg_5, c_7, x_8, ex_8, fx_8, n_12, hn_12, g_11, eg_11, c_13, x_14, ex_14, fx_14, n_18, hn_18, g_17, eg_17, c_19, rfl, rfl, rfl⟩)))), (by show MH E h0 rf t0 t1 t2 (uA A 4 g_17) cd pk t.heap; rw [ht]; exact hM.cge (funext fun j => (cgj j 4 rfl (fun a0 => (by simp only [uA_n a0])))))⟩, hS.F ht⟩) hS.2.2 dX10_takeCells_30
        · simp only [lt_I, le_I, eq_I, i_0, i_1, i_2, i_3, i_4, i_5, i_6, i_7, i_8, i_10, i_12, i_16, i_20, i_23, i_24, i_31, i_32, i_63, i_64, i_m1, i_9, i_11, i_13, i_25, i_60, i_75, i_79, i_80, i_96, i_100] at c_19
          refine lv_aload_n hx hb dX10_takeCells_7 rfl (lv_at hl 1 rfl) ?_
          refine va_get (D := DG E) (ci := 10) (v := .ref (rf 4)) (C := RX10) (T := TX10) (N := 49) hx hb hts iw_X10 hown hK.1 (va_one hM.1) 0 rfl rfl 4 (by decide) (hts _ fl_X10_7) (fun _ h9 => h9) rfl dX10_takeCells_8 ?_
          refine lv_iload_n hx hb dX10_takeCells_11 rfl (lv_at hl 2 rfl) ?_
          refine lv_iload_n hx hb dX10_takeCells_12 rfl (lv_at hl 0 rfl) ?_
          refine lv_iadd hx hb dX10_takeCells_13 ?_
          refine lv_topi (fun x_20 ex_20 => ?_)
          have fx_20 : x_20.toInt = p0.toInt + 3 := by have h9 := s_add (x := p0) (y := 3) (by rw [i_3]; omega) (by rw [i_3]; omega); rw [i_3] at h9; rw [ex_20]; exact h9
          refine lv_aload_n hx hb dX10_takeCells_14 rfl (lv_at hl 1 rfl) ?_
          refine va_get (D := DG E) (ci := 10) (v := .ref (rf 48)) (C := RX10) (T := TX10) (N := 49) hx hb hts iw_X10 hown hK.1 (va_one hM.1) 0 rfl rfl 48 (by decide) (hts _ fl_X10_140) (fun _ h9 => h9) rfl dX10_takeCells_15 ?_
          refine lv_bipush (v := 96) hx hb dX10_takeCells_18 (by decide) ?_
          refine lv_iload_n hx hb dX10_takeCells_20 rfl (lv_at hl 0 rfl) ?_
          refine lv_iadd hx hb dX10_takeCells_21 ?_
          refine W.eq (g2 := F0 m 22 ls [.int 99, .ref (rf 48), .int x_20, .ref (rf 4)]) (by rfl) ?_
          have ha_21 : va_at (DG E) vwCl (rf 48, .inl (E.2.2 0, 100, .inl (A 48))) _ := hM.2 48 (by decide) (by decide) (by decide)
          refine va_iald (D := DG E) hx hb hK.1 (va_one ha_21) 0 0 rfl rfl (show vp_in (99) 100 from vp_in_iff.mpr ⟨by decide, by decide⟩) dX10_takeCells_22 ?_
          refine W.eq (g2 := F0 m 23 ls [.int ((A 48) 99), .int x_20, .ref (rf 4)]) (by rfl) ?_
          have hi_22 : vp_in x_20 64 := vp_in_iff.mpr (by omega)
          have ha_23 : va_at (DG E) vwCl (rf 4, .inl (E.2.2 0, 64, .inl g_17)) _ := hM.2 4 (by decide) (by decide) (by decide)
          obtain ⟨n_24, hn_24, en_24⟩ := s_nat (x := x_20) (by omega)
          refine rr_iast (D := DG E) hx hb hK.1 0 ha_23 hS (by show G (rf 4) ≠ 0; rw [hR.2 4 (by decide) (by decide) (by decide)]; decide) rfl hi_22 dX10_takeCells_23 (fun H locs hn ho hz hS => ?_)
          rw [en_24] at hn
          obtain ⟨g_23, eg_23⟩ : ∃ z : Nat → Int32, z = upd g_17 n_24 ((A 48) 99) := ⟨_, rfl⟩
          have sg_23 : g_23 n_24 = ((A 48) 99) := by rw [eg_23]; exact upd_s
          have ng_23 : ∀ k, k ≠ n_24 → g_23 k = g_17 k := fun k hk => by rw [eg_23]; exact upd_n hk
          have hn : va_at (DG E) vwCl (rf 4, .inl (E.2.2 0, 64, .inl g_23)) H := by rw [eg_23]; exact hn
          have hM : MH E h0 rf t0 t1 t2 (uA (uA (uA (uA A 4 g_5) 4 g_11) 4 g_17) 4 g_23) cd pk H := hM.w hR 4 (by decide) (by decide) (by decide) hn ho
          refine lv_iinc (v := 4) (lv' := [(3, .int 4), (0, .ref h0), (1, .int p0), (2, .int p1)]) hx hb dX10_takeCells_24 hl (k := 0) rfl (by decide) (by decide) rfl (fun ls hl => ?_)
          refine lv_goto (tgt := 2) hx hb dX10_takeCells_27 (by decide) ?_
          refine lv_iload_n hx hb dX10_takeCells_2 rfl (lv_at hl 0 rfl) ?_
          refine lv_iload_n hx hb dX10_takeCells_3 rfl (lv_at hl 3 rfl) ?_
          refine lv_icmp_ge (tgt := 30) hx hb dX10_takeCells_4 (by decide) (fun c_25 => ?_) (fun c_25 => by exfalso; simp only [lt_I, le_I, eq_I, i_0, i_1, i_2, i_3, i_4, i_5, i_6, i_7, i_8, i_10, i_12, i_16, i_20, i_23, i_24, i_31, i_32, i_63, i_64, i_m1, i_9, i_11, i_13, i_25, i_60, i_75, i_79, i_80, i_96, i_100] at c_25; omega)
          simp only [lt_I, le_I, eq_I, i_0, i_1, i_2, i_3, i_4, i_5, i_6, i_7, i_8, i_10, i_12, i_16, i_20, i_23, i_24, i_31, i_32, i_63, i_64, i_m1, i_9, i_11, i_13, i_25, i_60, i_75, i_79, i_80, i_96, i_100] at c_25
          exact W.vret hx hb hr (fun t ht hW => ⟨⟨g_23, rfl, (Or.inr (Or.inr (Or.inr (Or.inr ⟨c_1, x_2, ex_2, fx_2, n_6, hn_6, g_5, eg_5, c_7, x_8, ex_8, fx_8, n_12, hn_12, g_11, eg_11, c_13, x_14, ex_14, fx_14, n_18, hn_18, g_17, eg_17, c_19, x_20, ex_20, fx_20, n_24, hn_24, g_23, eg_23, rfl, rfl, rfl⟩)))), (by show MH E h0 rf t0 t1 t2 (uA A 4 g_23) cd pk t.heap; rw [ht]; exact hM.cge (funext fun j => (cgj j 4 rfl (fun a0 => (by simp only [uA_n a0])))))⟩, hS.F ht⟩) hS.2.2 dX10_takeCells_30
theorem dX10_ack_0 : decode cX10_ack 0 = .ok (.aload_n 0, 1) := by decide +kernel
theorem dX10_ack_1 : decode cX10_ack 1 = .ok (.iload_n 1, 1) := by decide +kernel
theorem dX10_ack_2 : decode cX10_ack 2 = .ok (.iconst 5, 1) := by decide +kernel
theorem dX10_ack_3 : decode cX10_ack 3 = .ok (.iload_n 2, 1) := by decide +kernel
theorem dX10_ack_4 : decode cX10_ack 4 = .ok (.iconst (-1), 1) := by decide +kernel
theorem dX10_ack_5 : decode cX10_ack 5 = .ok (.iconst (-1), 1) := by decide +kernel
theorem dX10_ack_6 : decode cX10_ack 6 = .ok (.iconst 0, 1) := by decide +kernel
theorem dX10_ack_7 : decode cX10_ack 7 = .ok (.invokevirtual 199, 3) := by decide +kernel
theorem dX10_ack_10 : decode cX10_ack 10 = .ok (.istore_n 3, 1) := by decide +kernel
theorem dX10_ack_11 : decode cX10_ack 11 = .ok (.iload_n 3, 1) := by decide +kernel
theorem dX10_ack_12 : decode cX10_ack 12 = .ok (.ifCond .lt 10, 3) := by decide +kernel
theorem dX10_ack_15 : decode cX10_ack 15 = .ok (.aload_n 0, 1) := by decide +kernel
theorem dX10_ack_16 : decode cX10_ack 16 = .ok (.getfield 128, 3) := by decide +kernel
theorem dX10_ack_19 : decode cX10_ack 19 = .ok (.iload_n 3, 1) := by decide +kernel
theorem dX10_ack_20 : decode cX10_ack 20 = .ok (.iconst 0, 1) := by decide +kernel
theorem dX10_ack_21 : decode cX10_ack 21 = .ok (.iastore, 1) := by decide +kernel
theorem dX10_ack_22 : decode cX10_ack 22 = .ok (.return_, 1) := by decide +kernel
set_option maxHeartbeats 8000000 in
set_option maxRecDepth 100000 in
theorem u_X10_ack (l : Launch) (E : EE) (z0 : Nat) (G : Nat → Nat) (hGz : ∀ q, G q ≠ 0 → z0 ≤ q) (h0 : Nat) (rf : Nat → Nat) (hR : MG G h0 rf) (t0 t1 t2 : Int32) (A : AA) (cd pk : Int32) (p0 : Int32) (p1 : Int32) (hI7 : I7 (A 41) (A 42) (A 44) (A 45) (A 46)) (hy0 : 0 ≤ p0.toInt ∧ p0.toInt ≤ 3) (hy1 : 0 ≤ pk.toInt ∧ pk.toInt ≤ 24) : Met l yX10_ack [Cond.code yX10_ack cX10_ack 4 none] ({ frames := 2, cells := 0, slots := 0, locals := 47 } : Room) (va_Pc [.ref h0, .int p0, .int p1] (fun U => MH E h0 rf t0 t1 t2 A cd pk U.heap ∧ KS E z0 U)) (va_Qv (fun (u : (Nat → Int32) × (Nat → Int32) × (Nat → Int32) × (Nat → Int32) × (Nat → Int32) × (Nat → Int32) × (Nat → Int32) × Int32) => (I7 (u.1) (u.2.1) (u.2.2.2.1) (u.2.2.2.2.1) (u.2.2.2.2.2.1)) ∧ (0 ≤ (u.2.2.2.2.2.2.2).toInt ∧ (u.2.2.2.2.2.2.2).toInt ≤ 24) ∧ (((u.2.2.2.1) 24).toInt = ((A 44) 24).toInt ∧ ((u.2.2.2.2.2.1) 24).toInt = ((A 46) 24).toInt) ∧ (D_X10_ack A cd pk p0 p1 (uA (uA (uA (uA (uA (uA (uA A 41 (u.1)) 42 (u.2.1)) 43 (u.2.2.1)) 44 (u.2.2.2.1)) 45 (u.2.2.2.2.1)) 46 (u.2.2.2.2.2.1)) 47 (u.2.2.2.2.2.2.1)) cd (u.2.2.2.2.2.2.2))) (fun u t => MH E h0 rf t0 t1 t2 (uA (uA (uA (uA (uA (uA (uA A 41 (u.1)) 42 (u.2.1)) 43 (u.2.2.1)) 44 (u.2.2.2.1)) 45 (u.2.2.2.2.1)) 46 (u.2.2.2.2.2.1)) 47 (u.2.2.2.2.2.2.1)) cd (u.2.2.2.2.2.2.2) t.heap) (fun q : Nat => G q ≠ 0)) 0 0 (fun q : Nat => G q ≠ 0) := by
  refine Met.ofW (cc := cX10_ack) (maxL := 4) (ret := none) (by decide) rfl ?_
  intro p e s m args below meth c s₁ B hml hv
  obtain ⟨rfl, hM, hK⟩ := hv
  have hx := B.exec
  have hb := B.bytes
  have hr := B.returns
  have hts : ∀ w ∈ TS, w.before ([.ref h0, .int p0, .int p1] : List Value).toArray s = true := fun w hw => hK.2.1 w hw _
  have hown : s.vm.findClass RX10 = some m.cls := findClass_of_methodNamed B.named
  have hlocks := B.notSynchronized
  have hS : va_S (fun q : Nat => G q ≠ 0) s.heap s.heap [] := va_S.rf
  have hAz : ∀ q, (fun q : Nat => G q ≠ 0) q → z0 ≤ q := hGz
  have hl := lv_entry ([.ref h0, .int p0, .int p1]) (n := 4) (Nat.le_of_ble_eq_true rfl)
  rw [lg_entry_eq]
  generalize (lg_sl ([.ref h0, .int p0, .int p1]) ++ List.replicate (4 - (lg_sl ([.ref h0, .int p0, .int p1])).length) Slot.unset).toArray = ls at hl ⊢
  have hl : lv_has ls 4 [(0, .ref h0), (1, .int p0), (2, .int p1)] := hl
  refine lv_aload_n hx hb dX10_ack_0 rfl (lv_at hl 0 rfl) ?_
  refine lv_iload_n hx hb dX10_ack_1 rfl (lv_at hl 1 rfl) ?_
  refine lv_iconst (v := 5) hx hb dX10_ack_2 (by decide) ?_
  refine lv_iload_n hx hb dX10_ack_3 rfl (lv_at hl 2 rfl) ?_
  refine lv_iconst (v := (-1)) hx hb dX10_ack_4 (by decide) ?_
  refine lv_iconst (v := (-1)) hx hb dX10_ack_5 (by decide) ?_
  refine lv_iconst (v := 0) hx hb dX10_ack_6 (by decide) ?_
  refine va_calli (rnV (fun H => MH E h0 rf t0 t1 t2 A cd pk H) (As := [.int p0, .int 5, .int p1, .int (-1), .int (-1), .int 0]) (rest := []) ⟨hx, hb, hml, hown, hts⟩ (u_X10_emit l E z0 G hGz h0 rf hR t0 t1 t2 A cd pk p0 5 p1 (-1) (-1) 0 hI7 (show 0 ≤ p0.toInt ∧ p0.toInt ≤ 3 from by have := i_m1; have := i_0; have := i_5; first | decide | omega) (show 0 ≤ pk.toInt ∧ pk.toInt ≤ 24 from by have := i_m1; have := i_0; have := i_5; first | decide | omega) (show -1 ≤ (-1 : Int32).toInt ∧ (-1 : Int32).toInt ≤ 60 from by have := i_m1; have := i_0; have := i_5; first | decide | omega) (show 0 ≤ (5 : Int32).toInt from by have := i_m1; have := i_0; have := i_5; first | decide | omega) (show (5 : Int32).toInt < 1 ∨ 3 < (5 : Int32).toInt ∨ (0 ≤ (-1 : Int32).toInt ∧ (-1 : Int32).toInt ≤ 5) from by have := i_m1; have := i_0; have := i_5; first | decide | omega)) (cwV 6 hts (gdV ml_X10_199 im_X10_emit se_X10_X10_emit in_X10 co_X10_emit rfl) rfl rfl rfl (by decide +kernel) ⟨Nat.le_of_ble_eq_true rfl, Nat.le_of_ble_eq_true rfl⟩) hM (fun U hU hW => hK.go hW hS hAz hU) (va_recv hK.1 (va_one hM.1) (ci := 10) (q0 := 0) rfl rfl) rfl rfl hl.1 rfl (lv_room (Nat.le_of_ble_eq_true rfl)) dX10_ack_7 ⟨Nat.le_of_ble_eq_true rfl, Nat.le_of_ble_eq_true rfl⟩) hS (fun q _ h => h) (fun q h => h) (fun r_1 ur_1 t H locs ht hvm hwr_1 hB hz hk hS => ?_)
  have hM : MH E h0 rf t0 t1 t2 (uA (uA (uA (uA (uA (uA (uA A 41 (ur_1.1)) 42 (ur_1.2.1)) 43 (ur_1.2.2.1)) 44 (ur_1.2.2.2.1)) 45 (ur_1.2.2.2.2.1)) 46 (ur_1.2.2.2.2.2.1)) 47 (ur_1.2.2.2.2.2.2.1)) cd ur_1.2.2.2.2.2.2.2 H := by rw [ht] at hB; exact hB
  have hDr_1 : D_X10_emit A cd pk p0 (5 : Int32) p1 (-1 : Int32) (-1 : Int32) (0 : Int32) (uA (uA (uA (uA (uA (uA (uA A 41 (ur_1.1)) 42 (ur_1.2.1)) 43 (ur_1.2.2.1)) 44 (ur_1.2.2.2.1)) 45 (ur_1.2.2.2.2.1)) 46 (ur_1.2.2.2.2.2.1)) 47 (ur_1.2.2.2.2.2.2.1)) cd (ur_1.2.2.2.2.2.2.2) r_1 := hwr_1.2.2.2.2.2
  have hpr_1_0 : I7 (ur_1.1) (ur_1.2.1) (ur_1.2.2.2.1) (ur_1.2.2.2.2.1) (ur_1.2.2.2.2.2.1) := hwr_1.1
  have hpr_1_1 : 0 ≤ ur_1.2.2.2.2.2.2.2.toInt ∧ ur_1.2.2.2.2.2.2.2.toInt ≤ 24 := hwr_1.2.1
  have hpr_1_2 : -1 ≤ r_1.toInt ∧ r_1.toInt ≤ 23 := hwr_1.2.2.1
  have hpr_1_3 : ∀ n : Nat, (n : Int) = r_1.toInt → (ur_1.2.1) n = (5 : Int32) := hwr_1.2.2.2.1
  have hpr_1_4 : ((ur_1.2.2.2.1) 24).toInt = ((A 44) 24).toInt ∧ ((ur_1.2.2.2.2.2.1) 24).toInt = ((A 46) 24).toInt := hwr_1.2.2.2.2.1
  have := i_m1
  have := i_0
  have := i_5
  refine lv_istore_n (lv' := [(3, .int r_1), (0, .ref h0), (1, .int p0), (2, .int p1)]) hx hb dX10_ack_10 rfl hl (by decide) rfl (fun ls hl => ?_)
  refine lv_iload_n hx hb dX10_ack_11 rfl (lv_at hl 0 rfl) ?_
  refine lv_if_lt (tgt := 22) hx hb dX10_ack_12 (by decide) (fun c_2 => ?_) (fun c_2 => ?_)
  · simp only [lt_I, le_I, eq_I, i_0, i_1, i_2, i_3, i_4, i_5, i_6, i_7, i_8, i_10, i_12, i_16, i_20, i_23, i_24, i_31, i_32, i_63, i_64, i_m1, i_9, i_11, i_13, i_25, i_60, i_75, i_79, i_80, i_96, i_100] at c_2
    exact W.vret hx hb hr (fun t ht hW => ⟨⟨((ur_1.1), (ur_1.2.1), (ur_1.2.2.1), (ur_1.2.2.2.1), (ur_1.2.2.2.2.1), (ur_1.2.2.2.2.2.1), (ur_1.2.2.2.2.2.2.1), ur_1.2.2.2.2.2.2.2), rfl, ⟨hpr_1_0, (by show 0 ≤ ur_1.2.2.2.2.2.2.2.toInt ∧ ur_1.2.2.2.2.2.2.2.toInt ≤ 24; omega), (show ((ur_1.2.2.2.1) 24).toInt = ((A 44) 24).toInt ∧ ((ur_1.2.2.2.2.2.1) 24).toInt = ((A 46) 24).toInt from ⟨by omega, by omega⟩), (Or.inl ⟨ur_1, r_1, hDr_1, hpr_1_0, hpr_1_1, hpr_1_2, hpr_1_3, hpr_1_4, c_2, rfl, rfl, rfl⟩)⟩, (by show MH E h0 rf t0 t1 t2 (uA (uA (uA (uA (uA (uA (uA A 41 (ur_1.1)) 42 (ur_1.2.1)) 43 (ur_1.2.2.1)) 44 (ur_1.2.2.2.1)) 45 (ur_1.2.2.2.2.1)) 46 (ur_1.2.2.2.2.2.1)) 47 (ur_1.2.2.2.2.2.2.1)) cd ur_1.2.2.2.2.2.2.2 t.heap; rw [ht]; exact hM)⟩, hS.F ht⟩) hS.2.2 dX10_ack_22
  · simp only [lt_I, le_I, eq_I, i_0, i_1, i_2, i_3, i_4, i_5, i_6, i_7, i_8, i_10, i_12, i_16, i_20, i_23, i_24, i_31, i_32, i_63, i_64, i_m1, i_9, i_11, i_13, i_25, i_60, i_75, i_79, i_80, i_96, i_100] at c_2
    refine lv_aload_n hx hb dX10_ack_15 rfl (lv_at hl 1 rfl) ?_
    refine va_get (D := DG E) (ci := 10) (v := .ref (rf 44)) (C := RX10) (T := TX10) (N := 49) hx hb hts iw_X10 hown hK.1 (va_one hM.1) 0 rfl rfl 44 (by decide) (hts _ fl_X10_128) (fun _ h9 => h9) rfl dX10_ack_16 ?_
    refine lv_iload_n hx hb dX10_ack_19 rfl (lv_at hl 0 rfl) ?_
    refine lv_iconst (v := 0) hx hb dX10_ack_20 (by decide) ?_
    have hi_3 : vp_in r_1 25 := vp_in_iff.mpr (by omega)
    have ha_4 : va_at (DG E) vwCl (rf 44, .inl (E.2.2 0, 25, .inl (ur_1.2.2.2.1))) _ := hM.2 44 (by decide) (by decide) (by decide)
    obtain ⟨n_5, hn_5, en_5⟩ := s_nat (x := r_1) (by omega)
    refine rr_iast (D := DG E) hx hb hK.1 0 ha_4 hS (by show G (rf 44) ≠ 0; rw [hR.2 44 (by decide) (by decide) (by decide)]; decide) rfl hi_3 dX10_ack_21 (fun H locs hn ho hz hS => ?_)
    rw [en_5] at hn
    obtain ⟨g_4, eg_4⟩ : ∃ z : Nat → Int32, z = upd (ur_1.2.2.2.1) n_5 0 := ⟨_, rfl⟩
    have sg_4 : g_4 n_5 = 0 := by rw [eg_4]; exact upd_s
    have ng_4 : ∀ k, k ≠ n_5 → g_4 k = (ur_1.2.2.2.1) k := fun k hk => by rw [eg_4]; exact upd_n hk
    have hn : va_at (DG E) vwCl (rf 44, .inl (E.2.2 0, 25, .inl g_4)) H := by rw [eg_4]; exact hn
    have hM : MH E h0 rf t0 t1 t2 (uA (uA (uA (uA (uA (uA (uA (uA A 41 (ur_1.1)) 42 (ur_1.2.1)) 43 (ur_1.2.2.1)) 44 (ur_1.2.2.2.1)) 45 (ur_1.2.2.2.2.1)) 46 (ur_1.2.2.2.2.2.1)) 47 (ur_1.2.2.2.2.2.2.1)) 44 g_4) cd ur_1.2.2.2.2.2.2.2 H := hM.w hR 44 (by decide) (by decide) (by decide) hn ho
    have hI7_6 : I7 (ur_1.1) (ur_1.2.1) g_4 (ur_1.2.2.2.2.1) (ur_1.2.2.2.2.2.1) := by
      intro n9 hn9
      have h9 : 0 ≤ ((ur_1.1) n9).toInt ∧ ((ur_1.1) n9).toInt ≤ 3 ∧ 0 ≤ ((ur_1.2.2.2.1) n9).toInt ∧ ((ur_1.2.2.2.1) n9).toInt ≤ 12 ∧ (((ur_1.2.1) n9).toInt ≠ 0 ∧ ((ur_1.2.1) n9).toInt ≠ 1 ∧ ((ur_1.2.1) n9).toInt ≠ 4 ∨ ((ur_1.2.2.2.1) n9).toInt ≤ 4) ∧ (((ur_1.2.1) n9).toInt < 1 ∨ 3 < ((ur_1.2.1) n9).toInt ∨ (0 ≤ ((ur_1.2.2.2.2.1) n9).toInt ∧ ((ur_1.2.2.2.2.1) n9).toInt ≤ 5)) ∧ -1 ≤ ((ur_1.2.2.2.2.2.1) n9).toInt ∧ ((ur_1.2.2.2.2.2.1) n9).toInt ≤ 60 ∧ 0 ≤ ((ur_1.2.1) n9).toInt := hpr_1_0 n9 hn9
      show 0 ≤ ((ur_1.1) n9).toInt ∧ ((ur_1.1) n9).toInt ≤ 3 ∧ 0 ≤ (g_4 n9).toInt ∧ (g_4 n9).toInt ≤ 12 ∧ (((ur_1.2.1) n9).toInt ≠ 0 ∧ ((ur_1.2.1) n9).toInt ≠ 1 ∧ ((ur_1.2.1) n9).toInt ≠ 4 ∨ (g_4 n9).toInt ≤ 4) ∧ (((ur_1.2.1) n9).toInt < 1 ∨ 3 < ((ur_1.2.1) n9).toInt ∨ (0 ≤ ((ur_1.2.2.2.2.1) n9).toInt ∧ ((ur_1.2.2.2.2.1) n9).toInt ≤ 5)) ∧ -1 ≤ ((ur_1.2.2.2.2.2.1) n9).toInt ∧ ((ur_1.2.2.2.2.2.1) n9).toInt ≤ 60 ∧ 0 ≤ ((ur_1.2.1) n9).toInt
      by_cases ezn_5 : n9 = n_5
      · rw [ezn_5] at h9 ⊢
        rw [sg_4]
        have := i_0
        exact ⟨by first | exact h9.1 | omega, by first | exact h9.2.1 | omega, by first | exact h9.2.2.1 | omega, by first | exact h9.2.2.2.1 | omega, by first | exact h9.2.2.2.2.1 | omega, by first | exact h9.2.2.2.2.2.1 | omega, by first | exact h9.2.2.2.2.2.2.1 | omega, by first | exact h9.2.2.2.2.2.2.2.1 | omega, by first | exact h9.2.2.2.2.2.2.2.2 | omega⟩
      · rw [ng_4 n9 ezn_5]
        exact h9
    exact W.vret hx hb hr (fun t ht hW => ⟨⟨((ur_1.1), (ur_1.2.1), (ur_1.2.2.1), g_4, (ur_1.2.2.2.2.1), (ur_1.2.2.2.2.2.1), (ur_1.2.2.2.2.2.2.1), ur_1.2.2.2.2.2.2.2), rfl, ⟨hI7_6, (by show 0 ≤ ur_1.2.2.2.2.2.2.2.toInt ∧ ur_1.2.2.2.2.2.2.2.toInt ≤ 24; omega), (show (g_4 24).toInt = ((A 44) 24).toInt ∧ ((ur_1.2.2.2.2.2.1) 24).toInt = ((A 46) 24).toInt from ⟨by rw [ng_4 24 (by omega)]; omega, by omega⟩), (Or.inr ⟨ur_1, r_1, hDr_1, hpr_1_0, hpr_1_1, hpr_1_2, hpr_1_3, hpr_1_4, c_2, n_5, hn_5, g_4, eg_4, rfl, rfl, rfl⟩)⟩, (by show MH E h0 rf t0 t1 t2 (uA (uA (uA (uA (uA (uA (uA A 41 (ur_1.1)) 42 (ur_1.2.1)) 43 (ur_1.2.2.1)) 44 g_4) 45 (ur_1.2.2.2.2.1)) 46 (ur_1.2.2.2.2.2.1)) 47 (ur_1.2.2.2.2.2.2.1)) cd ur_1.2.2.2.2.2.2.2 t.heap; rw [ht]; exact hM.cge (funext fun j => (cgj j 47 rfl (fun a0 => (cgj j 46 rfl (fun a1 => (cgj j 45 rfl (fun a2 => (cgj j 44 rfl (fun a3 => (cgj j 43 rfl (fun a4 => (cgj j 42 rfl (fun a5 => (cgj j 41 rfl (fun a6 => (by simp only [uA_n a0, uA_n a1, uA_n a2, uA_n a3, uA_n a4, uA_n a5, uA_n a6])))))))))))))))))⟩, hS.F ht⟩) hS.2.2 dX10_ack_22
theorem dX10_replyOld_0 : decode cX10_replyOld 0 = .ok (.aload_n 0, 1) := by decide +kernel
theorem dX10_replyOld_1 : decode cX10_replyOld 1 = .ok (.iload_n 1, 1) := by decide +kernel
theorem dX10_replyOld_2 : decode cX10_replyOld 2 = .ok (.iconst 4, 1) := by decide +kernel
theorem dX10_replyOld_3 : decode cX10_replyOld 3 = .ok (.aload_n 0, 1) := by decide +kernel
theorem dX10_replyOld_4 : decode cX10_replyOld 4 = .ok (.getfield 125, 3) := by decide +kernel
theorem dX10_replyOld_7 : decode cX10_replyOld 7 = .ok (.bipush 24, 2) := by decide +kernel
theorem dX10_replyOld_9 : decode cX10_replyOld 9 = .ok (.iaload, 1) := by decide +kernel
theorem dX10_replyOld_10 : decode cX10_replyOld 10 = .ok (.iconst (-1), 1) := by decide +kernel
theorem dX10_replyOld_11 : decode cX10_replyOld 11 = .ok (.iconst (-1), 1) := by decide +kernel
theorem dX10_replyOld_12 : decode cX10_replyOld 12 = .ok (.iconst 0, 1) := by decide +kernel
theorem dX10_replyOld_13 : decode cX10_replyOld 13 = .ok (.invokevirtual 199, 3) := by decide +kernel
theorem dX10_replyOld_16 : decode cX10_replyOld 16 = .ok (.istore_n 3, 1) := by decide +kernel
theorem dX10_replyOld_17 : decode cX10_replyOld 17 = .ok (.iload_n 3, 1) := by decide +kernel
theorem dX10_replyOld_18 : decode cX10_replyOld 18 = .ok (.ifCond .ge 4, 3) := by decide +kernel
theorem dX10_replyOld_21 : decode cX10_replyOld 21 = .ok (.return_, 1) := by decide +kernel
theorem dX10_replyOld_22 : decode cX10_replyOld 22 = .ok (.aload_n 0, 1) := by decide +kernel
theorem dX10_replyOld_23 : decode cX10_replyOld 23 = .ok (.getfield 128, 3) := by decide +kernel
theorem dX10_replyOld_26 : decode cX10_replyOld 26 = .ok (.iload_n 3, 1) := by decide +kernel
theorem dX10_replyOld_27 : decode cX10_replyOld 27 = .ok (.iconst 1, 1) := by decide +kernel
theorem dX10_replyOld_28 : decode cX10_replyOld 28 = .ok (.iastore, 1) := by decide +kernel
theorem dX10_replyOld_29 : decode cX10_replyOld 29 = .ok (.aload_n 0, 1) := by decide +kernel
theorem dX10_replyOld_30 : decode cX10_replyOld 30 = .ok (.getfield 140, 3) := by decide +kernel
theorem dX10_replyOld_33 : decode cX10_replyOld 33 = .ok (.iconst 4, 1) := by decide +kernel
theorem dX10_replyOld_34 : decode cX10_replyOld 34 = .ok (.iload_n 3, 1) := by decide +kernel
theorem dX10_replyOld_35 : decode cX10_replyOld 35 = .ok (.imul, 1) := by decide +kernel
theorem dX10_replyOld_36 : decode cX10_replyOld 36 = .ok (.iload_n 2, 1) := by decide +kernel
theorem dX10_replyOld_37 : decode cX10_replyOld 37 = .ok (.iastore, 1) := by decide +kernel
theorem dX10_replyOld_38 : decode cX10_replyOld 38 = .ok (.return_, 1) := by decide +kernel
set_option maxHeartbeats 8000000 in
set_option maxRecDepth 100000 in
theorem u_X10_replyOld (l : Launch) (E : EE) (z0 : Nat) (G : Nat → Nat) (hGz : ∀ q, G q ≠ 0 → z0 ≤ q) (h0 : Nat) (rf : Nat → Nat) (hR : MG G h0 rf) (t0 t1 t2 : Int32) (A : AA) (cd pk : Int32) (p0 : Int32) (p1 : Int32) (hI7 : I7 (A 41) (A 42) (A 44) (A 45) (A 46)) (hy0 : 0 ≤ p0.toInt ∧ p0.toInt ≤ 3) (hy1 : 0 ≤ pk.toInt ∧ pk.toInt ≤ 24) : Met l yX10_replyOld [Cond.code yX10_replyOld cX10_replyOld 4 none] ({ frames := 2, cells := 0, slots := 0, locals := 47 } : Room) (va_Pc [.ref h0, .int p0, .int p1] (fun U => MH E h0 rf t0 t1 t2 A cd pk U.heap ∧ KS E z0 U)) (va_Qv (fun (u : (Nat → Int32) × (Nat → Int32) × (Nat → Int32) × (Nat → Int32) × (Nat → Int32) × (Nat → Int32) × (Nat → Int32) × (Nat → Int32) × Int32) => (I7 (u.1) (u.2.1) (u.2.2.2.1) (u.2.2.2.2.1) (u.2.2.2.2.2.1)) ∧ (0 ≤ (u.2.2.2.2.2.2.2.2).toInt ∧ (u.2.2.2.2.2.2.2.2).toInt ≤ 24) ∧ (((u.2.2.2.1) 24).toInt = ((A 44) 24).toInt ∧ ((u.2.2.2.2.2.1) 24).toInt = ((A 46) 24).toInt) ∧ (D_X10_replyOld A cd pk p0 p1 (uA (uA (uA (uA (uA (uA (uA (uA A 41 (u.1)) 42 (u.2.1)) 43 (u.2.2.1)) 44 (u.2.2.2.1)) 45 (u.2.2.2.2.1)) 46 (u.2.2.2.2.2.1)) 47 (u.2.2.2.2.2.2.1)) 48 (u.2.2.2.2.2.2.2.1)) cd (u.2.2.2.2.2.2.2.2))) (fun u t => MH E h0 rf t0 t1 t2 (uA (uA (uA (uA (uA (uA (uA (uA A 41 (u.1)) 42 (u.2.1)) 43 (u.2.2.1)) 44 (u.2.2.2.1)) 45 (u.2.2.2.2.1)) 46 (u.2.2.2.2.2.1)) 47 (u.2.2.2.2.2.2.1)) 48 (u.2.2.2.2.2.2.2.1)) cd (u.2.2.2.2.2.2.2.2) t.heap) (fun q : Nat => G q ≠ 0)) 0 0 (fun q : Nat => G q ≠ 0) := by
  refine Met.ofW (cc := cX10_replyOld) (maxL := 4) (ret := none) (by decide) rfl ?_
  intro p e s m args below meth c s₁ B hml hv
  obtain ⟨rfl, hM, hK⟩ := hv
  have hx := B.exec
  have hb := B.bytes
  have hr := B.returns
  have hts : ∀ w ∈ TS, w.before ([.ref h0, .int p0, .int p1] : List Value).toArray s = true := fun w hw => hK.2.1 w hw _
  have hown : s.vm.findClass RX10 = some m.cls := findClass_of_methodNamed B.named
  have hlocks := B.notSynchronized
  have hS : va_S (fun q : Nat => G q ≠ 0) s.heap s.heap [] := va_S.rf
  have hAz : ∀ q, (fun q : Nat => G q ≠ 0) q → z0 ≤ q := hGz
  have hl := lv_entry ([.ref h0, .int p0, .int p1]) (n := 4) (Nat.le_of_ble_eq_true rfl)
  rw [lg_entry_eq]
  generalize (lg_sl ([.ref h0, .int p0, .int p1]) ++ List.replicate (4 - (lg_sl ([.ref h0, .int p0, .int p1])).length) Slot.unset).toArray = ls at hl ⊢
  have hl : lv_has ls 4 [(0, .ref h0), (1, .int p0), (2, .int p1)] := hl
  refine lv_aload_n hx hb dX10_replyOld_0 rfl (lv_at hl 0 rfl) ?_
  refine lv_iload_n hx hb dX10_replyOld_1 rfl (lv_at hl 1 rfl) ?_
  refine lv_iconst (v := 4) hx hb dX10_replyOld_2 (by decide) ?_
  refine lv_aload_n hx hb dX10_replyOld_3 rfl (lv_at hl 0 rfl) ?_
  refine va_get (D := DG E) (ci := 10) (v := .ref (rf 43)) (C := RX10) (T := TX10) (N := 49) hx hb hts iw_X10 hown hK.1 (va_one hM.1) 0 rfl rfl 43 (by decide) (hts _ fl_X10_125) (fun _ h9 => h9) rfl dX10_replyOld_4 ?_
  refine lv_bipush (v := 24) hx hb dX10_replyOld_7 (by decide) ?_
  have ha_1 : va_at (DG E) vwCl (rf 43, .inl (E.2.2 0, 25, .inl (A 43))) _ := hM.2 43 (by decide) (by decide) (by decide)
  refine va_iald (D := DG E) hx hb hK.1 (va_one ha_1) 0 0 rfl rfl (show vp_in (24) 25 from vp_in_iff.mpr ⟨by decide, by decide⟩) dX10_replyOld_9 ?_
  refine W.eq (g2 := F0 m 10 ls [.int ((A 43) 24), .int 4, .int p0, .ref h0]) (by rfl) ?_
  refine lv_iconst (v := (-1)) hx hb dX10_replyOld_10 (by decide) ?_
  refine lv_iconst (v := (-1)) hx hb dX10_replyOld_11 (by decide) ?_
  refine lv_iconst (v := 0) hx hb dX10_replyOld_12 (by decide) ?_
  refine va_calli (rnV (fun H => MH E h0 rf t0 t1 t2 A cd pk H) (As := [.int p0, .int 4, .int ((A 43) 24), .int (-1), .int (-1), .int 0]) (rest := []) ⟨hx, hb, hml, hown, hts⟩ (u_X10_emit l E z0 G hGz h0 rf hR t0 t1 t2 A cd pk p0 4 ((A 43) 24) (-1) (-1) 0 hI7 (show 0 ≤ p0.toInt ∧ p0.toInt ≤ 3 from by have := i_m1; have := i_0; have := i_4; first | decide | omega) (show 0 ≤ pk.toInt ∧ pk.toInt ≤ 24 from by have := i_m1; have := i_0; have := i_4; first | decide | omega) (show -1 ≤ (-1 : Int32).toInt ∧ (-1 : Int32).toInt ≤ 60 from by have := i_m1; have := i_0; have := i_4; first | decide | omega) (show 0 ≤ (4 : Int32).toInt from by have := i_m1; have := i_0; have := i_4; first | decide | omega) (show (4 : Int32).toInt < 1 ∨ 3 < (4 : Int32).toInt ∨ (0 ≤ (-1 : Int32).toInt ∧ (-1 : Int32).toInt ≤ 5) from by have := i_m1; have := i_0; have := i_4; first | decide | omega)) (cwV 6 hts (gdV ml_X10_199 im_X10_emit se_X10_X10_emit in_X10 co_X10_emit rfl) rfl rfl rfl (by decide +kernel) ⟨Nat.le_of_ble_eq_true rfl, Nat.le_of_ble_eq_true rfl⟩) hM (fun U hU hW => hK.go hW hS hAz hU) (va_recv hK.1 (va_one hM.1) (ci := 10) (q0 := 0) rfl rfl) rfl rfl hl.1 rfl (lv_room (Nat.le_of_ble_eq_true rfl)) dX10_replyOld_13 ⟨Nat.le_of_ble_eq_true rfl, Nat.le_of_ble_eq_true rfl⟩) hS (fun q _ h => h) (fun q h => h) (fun r_2 ur_2 t H locs ht hvm hwr_2 hB hz hk hS => ?_)
  have hM : MH E h0 rf t0 t1 t2 (uA (uA (uA (uA (uA (uA (uA A 41 (ur_2.1)) 42 (ur_2.2.1)) 43 (ur_2.2.2.1)) 44 (ur_2.2.2.2.1)) 45 (ur_2.2.2.2.2.1)) 46 (ur_2.2.2.2.2.2.1)) 47 (ur_2.2.2.2.2.2.2.1)) cd ur_2.2.2.2.2.2.2.2 H := by rw [ht] at hB; exact hB
  have hDr_2 : D_X10_emit A cd pk p0 (4 : Int32) ((A 43) 24) (-1 : Int32) (-1 : Int32) (0 : Int32) (uA (uA (uA (uA (uA (uA (uA A 41 (ur_2.1)) 42 (ur_2.2.1)) 43 (ur_2.2.2.1)) 44 (ur_2.2.2.2.1)) 45 (ur_2.2.2.2.2.1)) 46 (ur_2.2.2.2.2.2.1)) 47 (ur_2.2.2.2.2.2.2.1)) cd (ur_2.2.2.2.2.2.2.2) r_2 := hwr_2.2.2.2.2.2
  have hpr_2_0 : I7 (ur_2.1) (ur_2.2.1) (ur_2.2.2.2.1) (ur_2.2.2.2.2.1) (ur_2.2.2.2.2.2.1) := hwr_2.1
  have hpr_2_1 : 0 ≤ ur_2.2.2.2.2.2.2.2.toInt ∧ ur_2.2.2.2.2.2.2.2.toInt ≤ 24 := hwr_2.2.1
  have hpr_2_2 : -1 ≤ r_2.toInt ∧ r_2.toInt ≤ 23 := hwr_2.2.2.1
  have hpr_2_3 : ∀ n : Nat, (n : Int) = r_2.toInt → (ur_2.2.1) n = (4 : Int32) := hwr_2.2.2.2.1
  have hpr_2_4 : ((ur_2.2.2.2.1) 24).toInt = ((A 44) 24).toInt ∧ ((ur_2.2.2.2.2.2.1) 24).toInt = ((A 46) 24).toInt := hwr_2.2.2.2.2.1
  have := i_m1
  have := i_0
  have := i_4
  refine lv_istore_n (lv' := [(3, .int r_2), (0, .ref h0), (1, .int p0), (2, .int p1)]) hx hb dX10_replyOld_16 rfl hl (by decide) rfl (fun ls hl => ?_)
  refine lv_iload_n hx hb dX10_replyOld_17 rfl (lv_at hl 0 rfl) ?_
  refine lv_if_ge (tgt := 22) hx hb dX10_replyOld_18 (by decide) (fun c_3 => ?_) (fun c_3 => ?_)
  · simp only [lt_I, le_I, eq_I, i_0, i_1, i_2, i_3, i_4, i_5, i_6, i_7, i_8, i_10, i_12, i_16, i_20, i_23, i_24, i_31, i_32, i_63, i_64, i_m1, i_9, i_11, i_13, i_25, i_60, i_75, i_79, i_80, i_96, i_100] at c_3
    refine lv_aload_n hx hb dX10_replyOld_22 rfl (lv_at hl 1 rfl) ?_
    refine va_get (D := DG E) (ci := 10) (v := .ref (rf 44)) (C := RX10) (T := TX10) (N := 49) hx hb hts iw_X10 hown hK.1 (va_one hM.1) 0 rfl rfl 44 (by decide) (hts _ fl_X10_128) (fun _ h9 => h9) rfl dX10_replyOld_23 ?_
    refine lv_iload_n hx hb dX10_replyOld_26 rfl (lv_at hl 0 rfl) ?_
    refine lv_iconst (v := 1) hx hb dX10_replyOld_27 (by decide) ?_
    have hi_4 : vp_in r_2 25 := vp_in_iff.mpr (by omega)
    have ha_5 : va_at (DG E) vwCl (rf 44, .inl (E.2.2 0, 25, .inl (ur_2.2.2.2.1))) _ := hM.2 44 (by decide) (by decide) (by decide)
    obtain ⟨n_6, hn_6, en_6⟩ := s_nat (x := r_2) (by omega)
    refine rr_iast (D := DG E) hx hb hK.1 0 ha_5 hS (by show G (rf 44) ≠ 0; rw [hR.2 44 (by decide) (by decide) (by decide)]; decide) rfl hi_4 dX10_replyOld_28 (fun H locs hn ho hz hS => ?_)
    rw [en_6] at hn
    obtain ⟨g_5, eg_5⟩ : ∃ z : Nat → Int32, z = upd (ur_2.2.2.2.1) n_6 1 := ⟨_, rfl⟩
    have sg_5 : g_5 n_6 = 1 := by rw [eg_5]; exact upd_s
    have ng_5 : ∀ k, k ≠ n_6 → g_5 k = (ur_2.2.2.2.1) k := fun k hk => by rw [eg_5]; exact upd_n hk
    have hn : va_at (DG E) vwCl (rf 44, .inl (E.2.2 0, 25, .inl g_5)) H := by rw [eg_5]; exact hn
    have hM : MH E h0 rf t0 t1 t2 (uA (uA (uA (uA (uA (uA (uA (uA A 41 (ur_2.1)) 42 (ur_2.2.1)) 43 (ur_2.2.2.1)) 44 (ur_2.2.2.2.1)) 45 (ur_2.2.2.2.2.1)) 46 (ur_2.2.2.2.2.2.1)) 47 (ur_2.2.2.2.2.2.2.1)) 44 g_5) cd ur_2.2.2.2.2.2.2.2 H := hM.w hR 44 (by decide) (by decide) (by decide) hn ho
    refine lv_aload_n hx hb dX10_replyOld_29 rfl (lv_at hl 1 rfl) ?_
    refine va_get (D := DG E) (ci := 10) (v := .ref (rf 48)) (C := RX10) (T := TX10) (N := 49) hx hb hts iw_X10 hown hK.1 (va_one hM.1) 0 rfl rfl 48 (by decide) (hts _ fl_X10_140) (fun _ h9 => h9) rfl dX10_replyOld_30 ?_
    refine lv_iconst (v := 4) hx hb dX10_replyOld_33 (by decide) ?_
    refine lv_iload_n hx hb dX10_replyOld_34 rfl (lv_at hl 0 rfl) ?_
    refine lv_imul hx hb dX10_replyOld_35 ?_
    refine lv_topi (fun x_7 ex_7 => ?_)
    have fx_7 : x_7.toInt = 4 * r_2.toInt := by rw [ex_7]; exact s_mulK i_4 (by omega) (by omega)
    refine lv_iload_n hx hb dX10_replyOld_36 rfl (lv_at hl 3 rfl) ?_
    have hi_8 : vp_in x_7 100 := vp_in_iff.mpr (by omega)
    have ha_9 : va_at (DG E) vwCl (rf 48, .inl (E.2.2 0, 100, .inl (A 48))) _ := hM.2 48 (by decide) (by decide) (by decide)
    obtain ⟨n_10, hn_10, en_10⟩ := s_nat (x := x_7) (by omega)
    refine rr_iast (D := DG E) hx hb hK.1 0 ha_9 hS (by show G (rf 48) ≠ 0; rw [hR.2 48 (by decide) (by decide) (by decide)]; decide) rfl hi_8 dX10_replyOld_37 (fun H locs hn ho hz hS => ?_)
    rw [en_10] at hn
    obtain ⟨g_9, eg_9⟩ : ∃ z : Nat → Int32, z = upd (A 48) n_10 p1 := ⟨_, rfl⟩
    have sg_9 : g_9 n_10 = p1 := by rw [eg_9]; exact upd_s
    have ng_9 : ∀ k, k ≠ n_10 → g_9 k = (A 48) k := fun k hk => by rw [eg_9]; exact upd_n hk
    have hn : va_at (DG E) vwCl (rf 48, .inl (E.2.2 0, 100, .inl g_9)) H := by rw [eg_9]; exact hn
    have hM : MH E h0 rf t0 t1 t2 (uA (uA (uA (uA (uA (uA (uA (uA (uA A 41 (ur_2.1)) 42 (ur_2.2.1)) 43 (ur_2.2.2.1)) 44 (ur_2.2.2.2.1)) 45 (ur_2.2.2.2.2.1)) 46 (ur_2.2.2.2.2.2.1)) 47 (ur_2.2.2.2.2.2.2.1)) 44 g_5) 48 g_9) cd ur_2.2.2.2.2.2.2.2 H := hM.w hR 48 (by decide) (by decide) (by decide) hn ho
    have hI7_11 : I7 (ur_2.1) (ur_2.2.1) g_5 (ur_2.2.2.2.2.1) (ur_2.2.2.2.2.2.1) := by
      intro n9 hn9
      have h9 : 0 ≤ ((ur_2.1) n9).toInt ∧ ((ur_2.1) n9).toInt ≤ 3 ∧ 0 ≤ ((ur_2.2.2.2.1) n9).toInt ∧ ((ur_2.2.2.2.1) n9).toInt ≤ 12 ∧ (((ur_2.2.1) n9).toInt ≠ 0 ∧ ((ur_2.2.1) n9).toInt ≠ 1 ∧ ((ur_2.2.1) n9).toInt ≠ 4 ∨ ((ur_2.2.2.2.1) n9).toInt ≤ 4) ∧ (((ur_2.2.1) n9).toInt < 1 ∨ 3 < ((ur_2.2.1) n9).toInt ∨ (0 ≤ ((ur_2.2.2.2.2.1) n9).toInt ∧ ((ur_2.2.2.2.2.1) n9).toInt ≤ 5)) ∧ -1 ≤ ((ur_2.2.2.2.2.2.1) n9).toInt ∧ ((ur_2.2.2.2.2.2.1) n9).toInt ≤ 60 ∧ 0 ≤ ((ur_2.2.1) n9).toInt := hpr_2_0 n9 hn9
      show 0 ≤ ((ur_2.1) n9).toInt ∧ ((ur_2.1) n9).toInt ≤ 3 ∧ 0 ≤ (g_5 n9).toInt ∧ (g_5 n9).toInt ≤ 12 ∧ (((ur_2.2.1) n9).toInt ≠ 0 ∧ ((ur_2.2.1) n9).toInt ≠ 1 ∧ ((ur_2.2.1) n9).toInt ≠ 4 ∨ (g_5 n9).toInt ≤ 4) ∧ (((ur_2.2.1) n9).toInt < 1 ∨ 3 < ((ur_2.2.1) n9).toInt ∨ (0 ≤ ((ur_2.2.2.2.2.1) n9).toInt ∧ ((ur_2.2.2.2.2.1) n9).toInt ≤ 5)) ∧ -1 ≤ ((ur_2.2.2.2.2.2.1) n9).toInt ∧ ((ur_2.2.2.2.2.2.1) n9).toInt ≤ 60 ∧ 0 ≤ ((ur_2.2.1) n9).toInt
      by_cases ezn_6 : n9 = n_6
      · rw [ezn_6] at h9 ⊢
        rw [sg_5]
        have := i_1
        exact ⟨by first | exact h9.1 | omega, by first | exact h9.2.1 | omega, by first | exact h9.2.2.1 | omega, by first | exact h9.2.2.2.1 | omega, by first | exact h9.2.2.2.2.1 | omega, by first | exact h9.2.2.2.2.2.1 | omega, by first | exact h9.2.2.2.2.2.2.1 | omega, by first | exact h9.2.2.2.2.2.2.2.1 | omega, by first | exact h9.2.2.2.2.2.2.2.2 | omega⟩
      · rw [ng_5 n9 ezn_6]
        exact h9
    exact W.vret hx hb hr (fun t ht hW => ⟨⟨((ur_2.1), (ur_2.2.1), (ur_2.2.2.1), g_5, (ur_2.2.2.2.2.1), (ur_2.2.2.2.2.2.1), (ur_2.2.2.2.2.2.2.1), g_9, ur_2.2.2.2.2.2.2.2), rfl, ⟨hI7_11, (by show 0 ≤ ur_2.2.2.2.2.2.2.2.toInt ∧ ur_2.2.2.2.2.2.2.2.toInt ≤ 24; omega), (show (g_5 24).toInt = ((A 44) 24).toInt ∧ ((ur_2.2.2.2.2.2.1) 24).toInt = ((A 46) 24).toInt from ⟨by rw [ng_5 24 (by omega)]; omega, by omega⟩), (Or.inl ⟨ur_2, r_2, hDr_2, hpr_2_0, hpr_2_1, hpr_2_2, hpr_2_3, hpr_2_4, c_3, n_6, hn_6, g_5, eg_5, x_7, ex_7, fx_7, n_10, hn_10, g_9, eg_9, rfl, rfl, rfl⟩)⟩, (by show MH E h0 rf t0 t1 t2 (uA (uA (uA (uA (uA (uA (uA (uA A 41 (ur_2.1)) 42 (ur_2.2.1)) 43 (ur_2.2.2.1)) 44 g_5) 45 (ur_2.2.2.2.2.1)) 46 (ur_2.2.2.2.2.2.1)) 47 (ur_2.2.2.2.2.2.2.1)) 48 g_9) cd ur_2.2.2.2.2.2.2.2 t.heap; rw [ht]; exact hM.cge (funext fun j => (cgj j 48 rfl (fun a0 => (cgj j 47 rfl (fun a1 => (cgj j 46 rfl (fun a2 => (cgj j 45 rfl (fun a3 => (cgj j 44 rfl (fun a4 => (cgj j 43 rfl (fun a5 => (cgj j 42 rfl (fun a6 => (cgj j 41 rfl (fun a7 => (by simp only [uA_n a0, uA_n a1, uA_n a2, uA_n a3, uA_n a4, uA_n a5, uA_n a6, uA_n a7])))))))))))))))))))⟩, hS.F ht⟩) hS.2.2 dX10_replyOld_38
  · simp only [lt_I, le_I, eq_I, i_0, i_1, i_2, i_3, i_4, i_5, i_6, i_7, i_8, i_10, i_12, i_16, i_20, i_23, i_24, i_31, i_32, i_63, i_64, i_m1, i_9, i_11, i_13, i_25, i_60, i_75, i_79, i_80, i_96, i_100] at c_3
    exact W.vret hx hb hr (fun t ht hW => ⟨⟨((ur_2.1), (ur_2.2.1), (ur_2.2.2.1), (ur_2.2.2.2.1), (ur_2.2.2.2.2.1), (ur_2.2.2.2.2.2.1), (ur_2.2.2.2.2.2.2.1), (A 48), ur_2.2.2.2.2.2.2.2), rfl, ⟨hpr_2_0, (by show 0 ≤ ur_2.2.2.2.2.2.2.2.toInt ∧ ur_2.2.2.2.2.2.2.2.toInt ≤ 24; omega), (show ((ur_2.2.2.2.1) 24).toInt = ((A 44) 24).toInt ∧ ((ur_2.2.2.2.2.2.1) 24).toInt = ((A 46) 24).toInt from ⟨by omega, by omega⟩), (Or.inr ⟨ur_2, r_2, hDr_2, hpr_2_0, hpr_2_1, hpr_2_2, hpr_2_3, hpr_2_4, c_3, rfl, rfl, rfl⟩)⟩, (by show MH E h0 rf t0 t1 t2 (uA (uA (uA (uA (uA (uA (uA (uA A 41 (ur_2.1)) 42 (ur_2.2.1)) 43 (ur_2.2.2.1)) 44 (ur_2.2.2.2.1)) 45 (ur_2.2.2.2.2.1)) 46 (ur_2.2.2.2.2.2.1)) 47 (ur_2.2.2.2.2.2.2.1)) 48 (A 48)) cd ur_2.2.2.2.2.2.2.2 t.heap; rw [ht]; exact hM.cge (funext fun j => (cgj j 48 rfl (fun a0 => (cgj j 47 rfl (fun a1 => (cgj j 46 rfl (fun a2 => (cgj j 45 rfl (fun a3 => (cgj j 44 rfl (fun a4 => (cgj j 43 rfl (fun a5 => (cgj j 42 rfl (fun a6 => (cgj j 41 rfl (fun a7 => (by simp only [uA_n a0, uA_n a1, uA_n a2, uA_n a3, uA_n a4, uA_n a5, uA_n a6, uA_n a7])))))))))))))))))))⟩, hS.F ht⟩) hS.2.2 dX10_replyOld_21
theorem gdX10_reads_0 : (decode cX10_reads 0 = .ok (.iconst 0, 1)) ∧ (decode cX10_reads 1 = .ok (.istore_n 2, 1)) ∧ (decode cX10_reads 2 = .ok (.iload_n 2, 1)) ∧ (decode cX10_reads 3 = .ok (.aload_n 0, 1)) ∧ (decode cX10_reads 4 = .ok (.getfield 128, 3)) ∧ (decode cX10_reads 7 = .ok (.bipush 24, 2)) ∧ (decode cX10_reads 9 = .ok (.iaload, 1)) ∧ (decode cX10_reads 10 = .ok (.if_icmp .ge 71, 3)) ∧ (decode cX10_reads 13 = .ok (.aload_n 0, 1)) ∧ (decode cX10_reads 14 = .ok (.iload_n 1, 1)) ∧ (decode cX10_reads 15 = .ok (.iconst 4, 1)) ∧ (decode cX10_reads 16 = .ok (.aload_n 0, 1)) ∧ (decode cX10_reads 17 = .ok (.getfield 125, 3)) ∧ (decode cX10_reads 20 = .ok (.bipush 24, 2)) ∧ (decode cX10_reads 22 = .ok (.iaload, 1)) ∧ (decode cX10_reads 23 = .ok (.iload_n 2, 1)) := by decide +kernel
theorem dX10_reads_0 : decode cX10_reads 0 = .ok (.iconst 0, 1) := gdX10_reads_0.1
theorem dX10_reads_1 : decode cX10_reads 1 = .ok (.istore_n 2, 1) := gdX10_reads_0.2.1
theorem dX10_reads_2 : decode cX10_reads 2 = .ok (.iload_n 2, 1) := gdX10_reads_0.2.2.1
theorem dX10_reads_3 : decode cX10_reads 3 = .ok (.aload_n 0, 1) := gdX10_reads_0.2.2.2.1
theorem dX10_reads_4 : decode cX10_reads 4 = .ok (.getfield 128, 3) := gdX10_reads_0.2.2.2.2.1
theorem dX10_reads_7 : decode cX10_reads 7 = .ok (.bipush 24, 2) := gdX10_reads_0.2.2.2.2.2.1
theorem dX10_reads_9 : decode cX10_reads 9 = .ok (.iaload, 1) := gdX10_reads_0.2.2.2.2.2.2.1
theorem dX10_reads_10 : decode cX10_reads 10 = .ok (.if_icmp .ge 71, 3) := gdX10_reads_0.2.2.2.2.2.2.2.1
theorem dX10_reads_13 : decode cX10_reads 13 = .ok (.aload_n 0, 1) := gdX10_reads_0.2.2.2.2.2.2.2.2.1
theorem dX10_reads_14 : decode cX10_reads 14 = .ok (.iload_n 1, 1) := gdX10_reads_0.2.2.2.2.2.2.2.2.2.1
theorem dX10_reads_15 : decode cX10_reads 15 = .ok (.iconst 4, 1) := gdX10_reads_0.2.2.2.2.2.2.2.2.2.2.1
theorem dX10_reads_16 : decode cX10_reads 16 = .ok (.aload_n 0, 1) := gdX10_reads_0.2.2.2.2.2.2.2.2.2.2.2.1
theorem dX10_reads_17 : decode cX10_reads 17 = .ok (.getfield 125, 3) := gdX10_reads_0.2.2.2.2.2.2.2.2.2.2.2.2.1
theorem dX10_reads_20 : decode cX10_reads 20 = .ok (.bipush 24, 2) := gdX10_reads_0.2.2.2.2.2.2.2.2.2.2.2.2.2.1
theorem dX10_reads_22 : decode cX10_reads 22 = .ok (.iaload, 1) := gdX10_reads_0.2.2.2.2.2.2.2.2.2.2.2.2.2.2.1
theorem dX10_reads_23 : decode cX10_reads 23 = .ok (.iload_n 2, 1) := gdX10_reads_0.2.2.2.2.2.2.2.2.2.2.2.2.2.2.2
theorem gdX10_reads_24 : (decode cX10_reads 24 = .ok (.iconst 4, 1)) ∧ (decode cX10_reads 25 = .ok (.idiv, 1)) ∧ (decode cX10_reads 26 = .ok (.iadd, 1)) ∧ (decode cX10_reads 27 = .ok (.bipush 64, 2)) ∧ (decode cX10_reads 29 = .ok (.irem, 1)) ∧ (decode cX10_reads 30 = .ok (.iconst (-1), 1)) ∧ (decode cX10_reads 31 = .ok (.iconst (-1), 1)) ∧ (decode cX10_reads 32 = .ok (.iconst 0, 1)) ∧ (decode cX10_reads 33 = .ok (.invokevirtual 199, 3)) ∧ (decode cX10_reads 36 = .ok (.istore_n 3, 1)) ∧ (decode cX10_reads 37 = .ok (.aload_n 0, 1)) ∧ (decode cX10_reads 38 = .ok (.getfield 128, 3)) ∧ (decode cX10_reads 41 = .ok (.bipush 24, 2)) ∧ (decode cX10_reads 43 = .ok (.iaload, 1)) ∧ (decode cX10_reads 44 = .ok (.iload_n 2, 1)) ∧ (decode cX10_reads 45 = .ok (.isub, 1)) := by decide +kernel
theorem dX10_reads_24 : decode cX10_reads 24 = .ok (.iconst 4, 1) := gdX10_reads_24.1
theorem dX10_reads_25 : decode cX10_reads 25 = .ok (.idiv, 1) := gdX10_reads_24.2.1
theorem dX10_reads_26 : decode cX10_reads 26 = .ok (.iadd, 1) := gdX10_reads_24.2.2.1
theorem dX10_reads_27 : decode cX10_reads 27 = .ok (.bipush 64, 2) := gdX10_reads_24.2.2.2.1
theorem dX10_reads_29 : decode cX10_reads 29 = .ok (.irem, 1) := gdX10_reads_24.2.2.2.2.1
theorem dX10_reads_30 : decode cX10_reads 30 = .ok (.iconst (-1), 1) := gdX10_reads_24.2.2.2.2.2.1
theorem dX10_reads_31 : decode cX10_reads 31 = .ok (.iconst (-1), 1) := gdX10_reads_24.2.2.2.2.2.2.1
theorem dX10_reads_32 : decode cX10_reads 32 = .ok (.iconst 0, 1) := gdX10_reads_24.2.2.2.2.2.2.2.1
theorem dX10_reads_33 : decode cX10_reads 33 = .ok (.invokevirtual 199, 3) := gdX10_reads_24.2.2.2.2.2.2.2.2.1
theorem dX10_reads_36 : decode cX10_reads 36 = .ok (.istore_n 3, 1) := gdX10_reads_24.2.2.2.2.2.2.2.2.2.1
theorem dX10_reads_37 : decode cX10_reads 37 = .ok (.aload_n 0, 1) := gdX10_reads_24.2.2.2.2.2.2.2.2.2.2.1
theorem dX10_reads_38 : decode cX10_reads 38 = .ok (.getfield 128, 3) := gdX10_reads_24.2.2.2.2.2.2.2.2.2.2.2.1
theorem dX10_reads_41 : decode cX10_reads 41 = .ok (.bipush 24, 2) := gdX10_reads_24.2.2.2.2.2.2.2.2.2.2.2.2.1
theorem dX10_reads_43 : decode cX10_reads 43 = .ok (.iaload, 1) := gdX10_reads_24.2.2.2.2.2.2.2.2.2.2.2.2.2.1
theorem dX10_reads_44 : decode cX10_reads 44 = .ok (.iload_n 2, 1) := gdX10_reads_24.2.2.2.2.2.2.2.2.2.2.2.2.2.2.1
theorem dX10_reads_45 : decode cX10_reads 45 = .ok (.isub, 1) := gdX10_reads_24.2.2.2.2.2.2.2.2.2.2.2.2.2.2.2
theorem gdX10_reads_46 : (decode cX10_reads 46 = .ok (.istore 4, 2)) ∧ (decode cX10_reads 48 = .ok (.aload_n 0, 1)) ∧ (decode cX10_reads 49 = .ok (.iload_n 3, 1)) ∧ (decode cX10_reads 50 = .ok (.iload_n 1, 1)) ∧ (decode cX10_reads 51 = .ok (.aload_n 0, 1)) ∧ (decode cX10_reads 52 = .ok (.getfield 134, 3)) ∧ (decode cX10_reads 55 = .ok (.bipush 24, 2)) ∧ (decode cX10_reads 57 = .ok (.iaload, 1)) ∧ (decode cX10_reads 58 = .ok (.iload_n 2, 1)) ∧ (decode cX10_reads 59 = .ok (.iadd, 1)) ∧ (decode cX10_reads 60 = .ok (.iload 4, 2)) ∧ (decode cX10_reads 62 = .ok (.iconst 4, 1)) ∧ (decode cX10_reads 63 = .ok (.if_icmp .ge 8, 3)) ∧ (decode cX10_reads 66 = .ok (.iload 4, 2)) ∧ (decode cX10_reads 68 = .ok (.goto 4, 3)) ∧ (decode cX10_reads 71 = .ok (.iconst 4, 1)) := by decide +kernel
theorem dX10_reads_46 : decode cX10_reads 46 = .ok (.istore 4, 2) := gdX10_reads_46.1
theorem dX10_reads_48 : decode cX10_reads 48 = .ok (.aload_n 0, 1) := gdX10_reads_46.2.1
theorem dX10_reads_49 : decode cX10_reads 49 = .ok (.iload_n 3, 1) := gdX10_reads_46.2.2.1
theorem dX10_reads_50 : decode cX10_reads 50 = .ok (.iload_n 1, 1) := gdX10_reads_46.2.2.2.1
theorem dX10_reads_51 : decode cX10_reads 51 = .ok (.aload_n 0, 1) := gdX10_reads_46.2.2.2.2.1
theorem dX10_reads_52 : decode cX10_reads 52 = .ok (.getfield 134, 3) := gdX10_reads_46.2.2.2.2.2.1
theorem dX10_reads_55 : decode cX10_reads 55 = .ok (.bipush 24, 2) := gdX10_reads_46.2.2.2.2.2.2.1
theorem dX10_reads_57 : decode cX10_reads 57 = .ok (.iaload, 1) := gdX10_reads_46.2.2.2.2.2.2.2.1
theorem dX10_reads_58 : decode cX10_reads 58 = .ok (.iload_n 2, 1) := gdX10_reads_46.2.2.2.2.2.2.2.2.1
theorem dX10_reads_59 : decode cX10_reads 59 = .ok (.iadd, 1) := gdX10_reads_46.2.2.2.2.2.2.2.2.2.1
theorem dX10_reads_60 : decode cX10_reads 60 = .ok (.iload 4, 2) := gdX10_reads_46.2.2.2.2.2.2.2.2.2.2.1
theorem dX10_reads_62 : decode cX10_reads 62 = .ok (.iconst 4, 1) := gdX10_reads_46.2.2.2.2.2.2.2.2.2.2.2.1
theorem dX10_reads_63 : decode cX10_reads 63 = .ok (.if_icmp .ge 8, 3) := gdX10_reads_46.2.2.2.2.2.2.2.2.2.2.2.2.1
theorem dX10_reads_66 : decode cX10_reads 66 = .ok (.iload 4, 2) := gdX10_reads_46.2.2.2.2.2.2.2.2.2.2.2.2.2.1
theorem dX10_reads_68 : decode cX10_reads 68 = .ok (.goto 4, 3) := gdX10_reads_46.2.2.2.2.2.2.2.2.2.2.2.2.2.2.1
theorem dX10_reads_71 : decode cX10_reads 71 = .ok (.iconst 4, 1) := gdX10_reads_46.2.2.2.2.2.2.2.2.2.2.2.2.2.2.2
theorem gdX10_reads_72 : (decode cX10_reads 72 = .ok (.invokevirtual 203, 3)) ∧ (decode cX10_reads 75 = .ok (.iinc 2 4, 3)) ∧ (decode cX10_reads 78 = .ok (.goto (-76), 3)) ∧ (decode cX10_reads 81 = .ok (.return_, 1)) := by decide +kernel
theorem dX10_reads_72 : decode cX10_reads 72 = .ok (.invokevirtual 203, 3) := gdX10_reads_72.1
theorem dX10_reads_75 : decode cX10_reads 75 = .ok (.iinc 2 4, 3) := gdX10_reads_72.2.1
theorem dX10_reads_78 : decode cX10_reads 78 = .ok (.goto (-76), 3) := gdX10_reads_72.2.2.1
theorem dX10_reads_81 : decode cX10_reads 81 = .ok (.return_, 1) := gdX10_reads_72.2.2.2
set_option maxHeartbeats 8000000 in
set_option maxRecDepth 100000 in
theorem u_X10_reads (l : Launch) (E : EE) (z0 : Nat) (G : Nat → Nat) (hGz : ∀ q, G q ≠ 0 → z0 ≤ q) (h0 : Nat) (rf : Nat → Nat) (hR : MG G h0 rf) (t0 t1 t2 : Int32) (A : AA) (cd pk : Int32) (p0 : Int32) (hI7 : I7 (A 41) (A 42) (A 44) (A 45) (A 46)) (hy0 : 0 ≤ p0.toInt ∧ p0.toInt ≤ 3) (hy1 : 0 ≤ pk.toInt ∧ pk.toInt ≤ 24) (hy2 : 0 ≤ ((A 46) 24).toInt ∧ ((A 46) 24).toInt + ((A 44) 24).toInt ≤ 32) : Met l yX10_reads [Cond.code yX10_reads cX10_reads 5 none] ({ frames := 2, cells := 0, slots := 0, locals := 47 } : Room) (va_Pc [.ref h0, .int p0] (fun U => MH E h0 rf t0 t1 t2 A cd pk U.heap ∧ KS E z0 U)) (va_Qv (fun (u : (Nat → Int32) × (Nat → Int32) × (Nat → Int32) × (Nat → Int32) × (Nat → Int32) × (Nat → Int32) × (Nat → Int32) × (Nat → Int32) × Int32) => (I7 (u.1) (u.2.1) (u.2.2.2.1) (u.2.2.2.2.1) (u.2.2.2.2.2.1)) ∧ (0 ≤ (u.2.2.2.2.2.2.2.2).toInt ∧ (u.2.2.2.2.2.2.2.2).toInt ≤ 24) ∧ (D_X10_reads A cd pk p0 (uA (uA (uA (uA (uA (uA (uA (uA A 41 (u.1)) 42 (u.2.1)) 43 (u.2.2.1)) 44 (u.2.2.2.1)) 45 (u.2.2.2.2.1)) 46 (u.2.2.2.2.2.1)) 47 (u.2.2.2.2.2.2.1)) 48 (u.2.2.2.2.2.2.2.1)) cd (u.2.2.2.2.2.2.2.2))) (fun u t => MH E h0 rf t0 t1 t2 (uA (uA (uA (uA (uA (uA (uA (uA A 41 (u.1)) 42 (u.2.1)) 43 (u.2.2.1)) 44 (u.2.2.2.1)) 45 (u.2.2.2.2.1)) 46 (u.2.2.2.2.2.1)) 47 (u.2.2.2.2.2.2.1)) 48 (u.2.2.2.2.2.2.2.1)) cd (u.2.2.2.2.2.2.2.2) t.heap) (fun q : Nat => G q ≠ 0)) 0 0 (fun q : Nat => G q ≠ 0) := by
  refine Met.ofW (cc := cX10_reads) (maxL := 5) (ret := none) (by decide) rfl ?_
  intro p e s m args below meth c s₁ B hml hv
  obtain ⟨rfl, hM, hK⟩ := hv
  have hx := B.exec
  have hb := B.bytes
  have hr := B.returns
  have hts : ∀ w ∈ TS, w.before ([.ref h0, .int p0] : List Value).toArray s = true := fun w hw => hK.2.1 w hw _
  have hown : s.vm.findClass RX10 = some m.cls := findClass_of_methodNamed B.named
  have hlocks := B.notSynchronized
  have hS : va_S (fun q : Nat => G q ≠ 0) s.heap s.heap [] := va_S.rf
  have hAz : ∀ q, (fun q : Nat => G q ≠ 0) q → z0 ≤ q := hGz
  have hl := lv_entry ([.ref h0, .int p0]) (n := 5) (Nat.le_of_ble_eq_true rfl)
  rw [lg_entry_eq]
  generalize (lg_sl ([.ref h0, .int p0]) ++ List.replicate (5 - (lg_sl ([.ref h0, .int p0])).length) Slot.unset).toArray = ls at hl ⊢
  have hl : lv_has ls 5 [(0, .ref h0), (1, .int p0)] := hl
  refine lv_iconst (v := 0) hx hb dX10_reads_0 (by decide) ?_
  refine lv_istore_n (lv' := [(2, .int 0), (0, .ref h0), (1, .int p0)]) hx hb dX10_reads_1 rfl hl (by decide) rfl (fun ls hl => ?_)
  refine lv_iload_n hx hb dX10_reads_2 rfl (lv_at hl 0 rfl) ?_
  refine lv_aload_n hx hb dX10_reads_3 rfl (lv_at hl 1 rfl) ?_
  refine va_get (D := DG E) (ci := 10) (v := .ref (rf 44)) (C := RX10) (T := TX10) (N := 49) hx hb hts iw_X10 hown hK.1 (va_one hM.1) 0 rfl rfl 44 (by decide) (hts _ fl_X10_128) (fun _ h9 => h9) rfl dX10_reads_4 ?_
  refine lv_bipush (v := 24) hx hb dX10_reads_7 (by decide) ?_
  have ha_1 : va_at (DG E) vwCl (rf 44, .inl (E.2.2 0, 25, .inl (A 44))) _ := hM.2 44 (by decide) (by decide) (by decide)
  refine va_iald (D := DG E) hx hb hK.1 (va_one ha_1) 0 0 rfl rfl (show vp_in (24) 25 from vp_in_iff.mpr ⟨by decide, by decide⟩) dX10_reads_9 ?_
  refine W.eq (g2 := F0 m 10 ls [.int ((A 44) 24), .int 0]) (by rfl) ?_
  have q_2 : 0 ≤ ((A 44) 24).toInt := (hI7 24 (by decide)).2.2.1
  have q_3 : ((A 44) 24).toInt ≤ 12 := (hI7 24 (by decide)).2.2.2.1
  refine lv_icmp_ge (tgt := 81) hx hb dX10_reads_10 (by decide) (fun c_4 => ?_) (fun c_4 => ?_)
  · simp only [lt_I, le_I, eq_I, i_0, i_1, i_2, i_3, i_4, i_5, i_6, i_7, i_8, i_10, i_12, i_16, i_20, i_23, i_24, i_31, i_32, i_63, i_64, i_m1, i_9, i_11, i_13, i_25, i_60, i_75, i_79, i_80, i_96, i_100] at c_4
    exact W.vret hx hb hr (fun t ht hW => ⟨⟨((A 41), (A 42), (A 43), (A 44), (A 45), (A 46), (A 47), (A 48), pk), rfl, ⟨hI7, (by show 0 ≤ pk.toInt ∧ pk.toInt ≤ 24; omega), (Or.inl ⟨c_4, rfl, rfl, rfl⟩)⟩, (by show MH E h0 rf t0 t1 t2 (uA (uA (uA (uA (uA (uA (uA (uA A 41 (A 41)) 42 (A 42)) 43 (A 43)) 44 (A 44)) 45 (A 45)) 46 (A 46)) 47 (A 47)) 48 (A 48)) cd pk t.heap; rw [ht]; exact hM.cge (funext fun j => (cgj j 48 rfl (fun a0 => (cgj j 47 rfl (fun a1 => (cgj j 46 rfl (fun a2 => (cgj j 45 rfl (fun a3 => (cgj j 44 rfl (fun a4 => (cgj j 43 rfl (fun a5 => (cgj j 42 rfl (fun a6 => (cgj j 41 rfl (fun a7 => (by simp only [uA_n a0, uA_n a1, uA_n a2, uA_n a3, uA_n a4, uA_n a5, uA_n a6, uA_n a7])))))))))))))))))))⟩, hS.F ht⟩) hS.2.2 dX10_reads_81
  · simp only [lt_I, le_I, eq_I, i_0, i_1, i_2, i_3, i_4, i_5, i_6, i_7, i_8, i_10, i_12, i_16, i_20, i_23, i_24, i_31, i_32, i_63, i_64, i_m1, i_9, i_11, i_13, i_25, i_60, i_75, i_79, i_80, i_96, i_100] at c_4
    refine lv_aload_n hx hb dX10_reads_13 rfl (lv_at hl 1 rfl) ?_
    refine lv_iload_n hx hb dX10_reads_14 rfl (lv_at hl 2 rfl) ?_
    refine lv_iconst (v := 4) hx hb dX10_reads_15 (by decide) ?_
    refine lv_aload_n hx hb dX10_reads_16 rfl (lv_at hl 1 rfl) ?_
    refine va_get (D := DG E) (ci := 10) (v := .ref (rf 43)) (C := RX10) (T := TX10) (N := 49) hx hb hts iw_X10 hown hK.1 (va_one hM.1) 0 rfl rfl 43 (by decide) (hts _ fl_X10_125) (fun _ h9 => h9) rfl dX10_reads_17 ?_
    refine lv_bipush (v := 24) hx hb dX10_reads_20 (by decide) ?_
    have ha_5 : va_at (DG E) vwCl (rf 43, .inl (E.2.2 0, 25, .inl (A 43))) _ := hM.2 43 (by decide) (by decide) (by decide)
    refine va_iald (D := DG E) hx hb hK.1 (va_one ha_5) 0 0 rfl rfl (show vp_in (24) 25 from vp_in_iff.mpr ⟨by decide, by decide⟩) dX10_reads_22 ?_
    refine W.eq (g2 := F0 m 23 ls [.int ((A 43) 24), .int 4, .int p0, .ref h0]) (by rfl) ?_
    refine lv_iload_n hx hb dX10_reads_23 rfl (lv_at hl 0 rfl) ?_
    refine lv_iconst (v := 4) hx hb dX10_reads_24 (by decide) ?_
    refine lv_idiv hx hb dX10_reads_25 (by decide) ?_
    refine W.eq (g2 := F0 m 26 ls [.int 0, .int ((A 43) 24), .int 4, .int p0, .ref h0]) (by rfl) ?_
    refine lv_iadd hx hb dX10_reads_26 ?_
    refine lv_topi (fun x_6 ex_6 => ?_)
    refine lv_bipush (v := 64) hx hb dX10_reads_27 (by decide) ?_
    refine lv_irem hx hb dX10_reads_29 (by decide) ?_
    refine lv_topi (fun x_7 ex_7 => ?_)
    refine lv_iconst (v := (-1)) hx hb dX10_reads_30 (by decide) ?_
    refine lv_iconst (v := (-1)) hx hb dX10_reads_31 (by decide) ?_
    refine lv_iconst (v := 0) hx hb dX10_reads_32 (by decide) ?_
    refine va_calli (rnV (fun H => MH E h0 rf t0 t1 t2 A cd pk H) (As := [.int p0, .int 4, .int x_7, .int (-1), .int (-1), .int 0]) (rest := []) ⟨hx, hb, hml, hown, hts⟩ (u_X10_emit l E z0 G hGz h0 rf hR t0 t1 t2 A cd pk p0 4 x_7 (-1) (-1) 0 hI7 (show 0 ≤ p0.toInt ∧ p0.toInt ≤ 3 from by have := i_m1; have := i_0; have := i_4; first | decide | omega) (show 0 ≤ pk.toInt ∧ pk.toInt ≤ 24 from by have := i_m1; have := i_0; have := i_4; first | decide | omega) (show -1 ≤ (-1 : Int32).toInt ∧ (-1 : Int32).toInt ≤ 60 from by have := i_m1; have := i_0; have := i_4; first | decide | omega) (show 0 ≤ (4 : Int32).toInt from by have := i_m1; have := i_0; have := i_4; first | decide | omega) (show (4 : Int32).toInt < 1 ∨ 3 < (4 : Int32).toInt ∨ (0 ≤ (-1 : Int32).toInt ∧ (-1 : Int32).toInt ≤ 5) from by have := i_m1; have := i_0; have := i_4; first | decide | omega)) (cwV 6 hts (gdV ml_X10_199 im_X10_emit se_X10_X10_emit in_X10 co_X10_emit rfl) rfl rfl rfl (by decide +kernel) ⟨Nat.le_of_ble_eq_true rfl, Nat.le_of_ble_eq_true rfl⟩) hM (fun U hU hW => hK.go hW hS hAz hU) (va_recv hK.1 (va_one hM.1) (ci := 10) (q0 := 0) rfl rfl) rfl rfl hl.1 rfl (lv_room (Nat.le_of_ble_eq_true rfl)) dX10_reads_33 ⟨Nat.le_of_ble_eq_true rfl, Nat.le_of_ble_eq_true rfl⟩) hS (fun q _ h => h) (fun q h => h) (fun r_8 ur_8 t H locs ht hvm hwr_8 hB hz hk hS => ?_)
    have hM : MH E h0 rf t0 t1 t2 (uA (uA (uA (uA (uA (uA (uA A 41 (ur_8.1)) 42 (ur_8.2.1)) 43 (ur_8.2.2.1)) 44 (ur_8.2.2.2.1)) 45 (ur_8.2.2.2.2.1)) 46 (ur_8.2.2.2.2.2.1)) 47 (ur_8.2.2.2.2.2.2.1)) cd ur_8.2.2.2.2.2.2.2 H := by rw [ht] at hB; exact hB
    have hDr_8 : D_X10_emit A cd pk p0 (4 : Int32) x_7 (-1 : Int32) (-1 : Int32) (0 : Int32) (uA (uA (uA (uA (uA (uA (uA A 41 (ur_8.1)) 42 (ur_8.2.1)) 43 (ur_8.2.2.1)) 44 (ur_8.2.2.2.1)) 45 (ur_8.2.2.2.2.1)) 46 (ur_8.2.2.2.2.2.1)) 47 (ur_8.2.2.2.2.2.2.1)) cd (ur_8.2.2.2.2.2.2.2) r_8 := hwr_8.2.2.2.2.2
    have hpr_8_0 : I7 (ur_8.1) (ur_8.2.1) (ur_8.2.2.2.1) (ur_8.2.2.2.2.1) (ur_8.2.2.2.2.2.1) := hwr_8.1
    have hpr_8_1 : 0 ≤ ur_8.2.2.2.2.2.2.2.toInt ∧ ur_8.2.2.2.2.2.2.2.toInt ≤ 24 := hwr_8.2.1
    have hpr_8_2 : -1 ≤ r_8.toInt ∧ r_8.toInt ≤ 23 := hwr_8.2.2.1
    have hpr_8_3 : ∀ n : Nat, (n : Int) = r_8.toInt → (ur_8.2.1) n = (4 : Int32) := hwr_8.2.2.2.1
    have hpr_8_4 : ((ur_8.2.2.2.1) 24).toInt = ((A 44) 24).toInt ∧ ((ur_8.2.2.2.2.2.1) 24).toInt = ((A 46) 24).toInt := hwr_8.2.2.2.2.1
    have := i_m1
    have := i_0
    have := i_4
    refine lv_istore_n (lv' := [(3, .int r_8), (2, .int 0), (0, .ref h0), (1, .int p0)]) hx hb dX10_reads_36 rfl hl (by decide) rfl (fun ls hl => ?_)
    refine lv_aload_n hx hb dX10_reads_37 rfl (lv_at hl 2 rfl) ?_
    refine va_get (D := DG E) (ci := 10) (v := .ref (rf 44)) (C := RX10) (T := TX10) (N := 49) hx hb hts iw_X10 hown hK.1 (va_one hM.1) 0 rfl rfl 44 (by decide) (hts _ fl_X10_128) (fun _ h9 => h9) rfl dX10_reads_38 ?_
    refine lv_bipush (v := 24) hx hb dX10_reads_41 (by decide) ?_
    have ha_9 : va_at (DG E) vwCl (rf 44, .inl (E.2.2 0, 25, .inl (ur_8.2.2.2.1))) _ := hM.2 44 (by decide) (by decide) (by decide)
    refine va_iald (D := DG E) hx hb hK.1 (va_one ha_9) 0 0 rfl rfl (show vp_in (24) 25 from vp_in_iff.mpr ⟨by decide, by decide⟩) dX10_reads_43 ?_
    refine W.eq (g2 := F0 m 44 ls [.int ((ur_8.2.2.2.1) 24)]) (by rfl) ?_
    have q_10 : 0 ≤ ((ur_8.2.2.2.1) 24).toInt := (hpr_8_0 24 (by decide)).2.2.1
    have q_11 : ((ur_8.2.2.2.1) 24).toInt ≤ 12 := (hpr_8_0 24 (by decide)).2.2.2.1
    refine lv_iload_n hx hb dX10_reads_44 rfl (lv_at hl 1 rfl) ?_
    refine lv_isub hx hb dX10_reads_45 ?_
    refine lv_topi (fun x_12 ex_12 => ?_)
    have fx_12 : x_12.toInt = ((ur_8.2.2.2.1) 24).toInt - 0 := by have h9 := s_sub (x := ((ur_8.2.2.2.1) 24)) (y := 0) (by rw [i_0]; omega) (by rw [i_0]; omega); rw [i_0] at h9; rw [ex_12]; exact h9
    refine lv_istore (lv' := [(4, .int x_12), (3, .int r_8), (2, .int 0), (0, .ref h0), (1, .int p0)]) hx hb dX10_reads_46 hl (by decide) rfl (fun ls hl => ?_)
    refine lv_aload_n hx hb dX10_reads_48 rfl (lv_at hl 3 rfl) ?_
    refine lv_iload_n hx hb dX10_reads_49 rfl (lv_at hl 1 rfl) ?_
    refine lv_iload_n hx hb dX10_reads_50 rfl (lv_at hl 4 rfl) ?_
    refine lv_aload_n hx hb dX10_reads_51 rfl (lv_at hl 3 rfl) ?_
    refine va_get (D := DG E) (ci := 10) (v := .ref (rf 46)) (C := RX10) (T := TX10) (N := 49) hx hb hts iw_X10 hown hK.1 (va_one hM.1) 0 rfl rfl 46 (by decide) (hts _ fl_X10_134) (fun _ h9 => h9) rfl dX10_reads_52 ?_
    refine lv_bipush (v := 24) hx hb dX10_reads_55 (by decide) ?_
    have ha_13 : va_at (DG E) vwCl (rf 46, .inl (E.2.2 0, 25, .inl (ur_8.2.2.2.2.2.1))) _ := hM.2 46 (by decide) (by decide) (by decide)
    refine va_iald (D := DG E) hx hb hK.1 (va_one ha_13) 0 0 rfl rfl (show vp_in (24) 25 from vp_in_iff.mpr ⟨by decide, by decide⟩) dX10_reads_57 ?_
    refine W.eq (g2 := F0 m 58 ls [.int ((ur_8.2.2.2.2.2.1) 24), .int p0, .int r_8, .ref h0]) (by rfl) ?_
    have q_14 : -1 ≤ ((ur_8.2.2.2.2.2.1) 24).toInt := (hpr_8_0 24 (by decide)).2.2.2.2.2.2.1
    have q_15 : ((ur_8.2.2.2.2.2.1) 24).toInt ≤ 60 := (hpr_8_0 24 (by decide)).2.2.2.2.2.2.2.1
    refine lv_iload_n hx hb dX10_reads_58 rfl (lv_at hl 2 rfl) ?_
    refine lv_iadd hx hb dX10_reads_59 ?_
    refine lv_topi (fun x_16 ex_16 => ?_)
    have fx_16 : x_16.toInt = ((ur_8.2.2.2.2.2.1) 24).toInt + 0 := by have h9 := s_add (x := ((ur_8.2.2.2.2.2.1) 24)) (y := 0) (by rw [i_0]; omega) (by rw [i_0]; omega); rw [i_0] at h9; rw [ex_16]; exact h9
    refine lv_iload hx hb dX10_reads_60 (lv_at hl 0 rfl) ?_
    refine lv_iconst (v := 4) hx hb dX10_reads_62 (by decide) ?_
    refine W.jv (P := fun v_17 : Int32 => (0 ≤ v_17.toInt ∧ v_17.toInt ≤ 4 ∧ v_17.toInt ≤ x_12.toInt) ∧ HID (((4 ≤ x_12.toInt) ∧ v_17 = 4) ∨ ((¬ 4 ≤ x_12.toInt) ∧ v_17 = x_12))) (f := fun v_17 => F0 m 72 ls ([.int v_17, .int x_16, .int p0, .int r_8, .ref h0])) (fun v_17 hv_17 => ?_) (fun key_17 => ?_)
    · have hv_17_0 : 0 ≤ v_17.toInt ∧ v_17.toInt ≤ 4 ∧ v_17.toInt ≤ x_12.toInt := hv_17.1
      refine va_callv (rnV (fun H => MH E h0 rf t0 t1 t2 (uA (uA (uA (uA (uA (uA (uA A 41 (ur_8.1)) 42 (ur_8.2.1)) 43 (ur_8.2.2.1)) 44 (ur_8.2.2.2.1)) 45 (ur_8.2.2.2.2.1)) 46 (ur_8.2.2.2.2.2.1)) 47 (ur_8.2.2.2.2.2.2.1)) cd ur_8.2.2.2.2.2.2.2 H) (As := [.int r_8, .int p0, .int x_16, .int v_17]) (rest := []) ⟨hx, hb, hml, hown, hts⟩ (u_X10_load l E z0 G hGz h0 rf hR t0 t1 t2 (uA (uA (uA (uA (uA (uA (uA A 41 (ur_8.1)) 42 (ur_8.2.1)) 43 (ur_8.2.2.1)) 44 (ur_8.2.2.2.1)) 45 (ur_8.2.2.2.2.1)) 46 (ur_8.2.2.2.2.2.1)) 47 (ur_8.2.2.2.2.2.2.1)) cd ur_8.2.2.2.2.2.2.2 r_8 p0 x_16 v_17 hpr_8_0 (show -1 ≤ r_8.toInt ∧ r_8.toInt ≤ 23 from by first | decide | omega) (show 0 ≤ p0.toInt ∧ p0.toInt ≤ 3 from by first | decide | omega) (show 0 ≤ x_16.toInt ∧ x_16.toInt ≤ 32 from by first | decide | omega) (show 0 ≤ v_17.toInt ∧ v_17.toInt ≤ 4 from by first | decide | omega) (show x_16.toInt + v_17.toInt ≤ 32 from by first | decide | omega)) (cwV 4 hts (gdV ml_X10_203 im_X10_load se_X10_X10_load in_X10 co_X10_load rfl) rfl rfl rfl (by decide +kernel) ⟨Nat.le_of_ble_eq_true rfl, Nat.le_of_ble_eq_true rfl⟩) hM (fun U hU hW => hK.go hW hS hAz hU) (va_recv hK.1 (va_one hM.1) (ci := 10) (q0 := 0) rfl rfl) rfl rfl hl.1 rfl (lv_room (Nat.le_of_ble_eq_true rfl)) dX10_reads_72 ⟨Nat.le_of_ble_eq_true rfl, Nat.le_of_ble_eq_true rfl⟩) hS (fun q _ h => h) (fun q h => h) (fun ur_19 t H locs ht hvm hwr_19 hB hz hk hS => ?_)
      have hM : MH E h0 rf t0 t1 t2 (uA (uA (uA (uA (uA (uA (uA (uA (uA A 41 (ur_8.1)) 42 (ur_8.2.1)) 43 (ur_8.2.2.1)) 44 (ur_8.2.2.2.1)) 45 (ur_8.2.2.2.2.1)) 46 (ur_8.2.2.2.2.2.1)) 47 (ur_8.2.2.2.2.2.2.1)) 44 (ur_19.1)) 48 (ur_19.2)) cd ur_8.2.2.2.2.2.2.2 H := by rw [ht] at hB; exact hB
      have hDr_19 : D_X10_load (uA (uA (uA (uA (uA (uA (uA A 41 (ur_8.1)) 42 (ur_8.2.1)) 43 (ur_8.2.2.1)) 44 (ur_8.2.2.2.1)) 45 (ur_8.2.2.2.2.1)) 46 (ur_8.2.2.2.2.2.1)) 47 (ur_8.2.2.2.2.2.2.1)) cd (ur_8.2.2.2.2.2.2.2) r_8 p0 x_16 v_17 (uA (uA (uA (uA (uA (uA (uA (uA (uA A 41 (ur_8.1)) 42 (ur_8.2.1)) 43 (ur_8.2.2.1)) 44 (ur_8.2.2.2.1)) 45 (ur_8.2.2.2.2.1)) 46 (ur_8.2.2.2.2.2.1)) 47 (ur_8.2.2.2.2.2.2.1)) 44 (ur_19.1)) 48 (ur_19.2)) cd (ur_8.2.2.2.2.2.2.2) := hwr_19.2.2
      have hpr_19_0 : I7 (ur_8.1) (ur_8.2.1) (ur_19.1) (ur_8.2.2.2.2.1) (ur_8.2.2.2.2.2.1) := hwr_19.1
      have hpr_19_1 : ((ur_19.1) 24).toInt = ((ur_8.2.2.2.1) 24).toInt ∧ ((ur_8.2.2.2.2.2.1) 24).toInt = ((ur_8.2.2.2.2.2.1) 24).toInt := hwr_19.2.1
      refine lv_iinc (v := 4) (lv' := [(2, .int 4), (4, .int x_12), (3, .int r_8), (0, .ref h0), (1, .int p0)]) hx hb dX10_reads_75 hl (k := 2) rfl (by decide) (by decide) rfl (fun ls hl => ?_)
      refine lv_goto (tgt := 2) hx hb dX10_reads_78 (by decide) ?_
      refine lv_iload_n hx hb dX10_reads_2 rfl (lv_at hl 0 rfl) ?_
      refine lv_aload_n hx hb dX10_reads_3 rfl (lv_at hl 3 rfl) ?_
      refine va_get (D := DG E) (ci := 10) (v := .ref (rf 44)) (C := RX10) (T := TX10) (N := 49) hx hb hts iw_X10 hown hK.1 (va_one hM.1) 0 rfl rfl 44 (by decide) (hts _ fl_X10_128) (fun _ h9 => h9) rfl dX10_reads_4 ?_
      refine lv_bipush (v := 24) hx hb dX10_reads_7 (by decide) ?_
      have ha_20 : va_at (DG E) vwCl (rf 44, .inl (E.2.2 0, 25, .inl (ur_19.1))) _ := hM.2 44 (by decide) (by decide) (by decide)
      refine va_iald (D := DG E) hx hb hK.1 (va_one ha_20) 0 0 rfl rfl (show vp_in (24) 25 from vp_in_iff.mpr ⟨by decide, by decide⟩) dX10_reads_9 ?_
      refine W.eq (g2 := F0 m 10 ls [.int ((ur_19.1) 24), .int 4]) (by rfl) ?_
      have q_21 : 0 ≤ ((ur_19.1) 24).toInt := (hpr_19_0 24 (by decide)).2.2.1
      have q_22 : ((ur_19.1) 24).toInt ≤ 12 := (hpr_19_0 24 (by decide)).2.2.2.1
      refine lv_icmp_ge (tgt := 81) hx hb dX10_reads_10 (by decide) (fun c_23 => ?_) (fun c_23 => ?_)
      · simp only [lt_I, le_I, eq_I, i_0, i_1, i_2, i_3, i_4, i_5, i_6, i_7, i_8, i_10, i_12, i_16, i_20, i_23, i_24, i_31, i_32, i_63, i_64, i_m1, i_9, i_11, i_13, i_25, i_60, i_75, i_79, i_80, i_96, i_100] at c_23
        exact W.vret hx hb hr (fun t ht hW => ⟨⟨((ur_8.1), (ur_8.2.1), (ur_8.2.2.1), (ur_19.1), (ur_8.2.2.2.2.1), (ur_8.2.2.2.2.2.1), (ur_8.2.2.2.2.2.2.1), (ur_19.2), ur_8.2.2.2.2.2.2.2), rfl, ⟨hpr_19_0, (by show 0 ≤ ur_8.2.2.2.2.2.2.2.toInt ∧ ur_8.2.2.2.2.2.2.2.toInt ≤ 24; omega), (Or.inr ⟨c_4, x_6, ex_6, x_7, ex_7, ur_8, r_8, hDr_8, hpr_8_0, hpr_8_1, hpr_8_2, hpr_8_3, hpr_8_4, x_12, ex_12, fx_12, x_16, ex_16, fx_16, v_17, hv_17.2, ur_19, hDr_19, hpr_19_0, hpr_19_1, (Or.inl ⟨c_23, rfl, rfl, rfl⟩)⟩)⟩, (by show MH E h0 rf t0 t1 t2 (uA (uA (uA (uA (uA (uA (uA (uA A 41 (ur_8.1)) 42 (ur_8.2.1)) 43 (ur_8.2.2.1)) 44 (ur_19.1)) 45 (ur_8.2.2.2.2.1)) 46 (ur_8.2.2.2.2.2.1)) 47 (ur_8.2.2.2.2.2.2.1)) 48 (ur_19.2)) cd ur_8.2.2.2.2.2.2.2 t.heap; rw [ht]; exact hM.cge (funext fun j => (cgj j 48 rfl (fun a0 => (cgj j 47 rfl (fun a1 => (cgj j 46 rfl (fun a2 => (cgj j 45 rfl (fun a3 => (cgj j 44 rfl (fun a4 => (cgj j 43 rfl (fun a5 => (cgj j 42 rfl (fun a6 => (cgj j 41 rfl (fun a7 => (by simp only [uA_n a0, uA_n a1, uA_n a2, uA_n a3, uA_n a4, uA_n a5, uA_n a6, uA_n a7])))))))))))))))))))⟩, hS.F ht⟩) hS.2.2 dX10_reads_81
      · simp only [lt_I, le_I, eq_I, i_0, i_1, i_2, i_3, i_4, i_5, i_6, i_7, i_8, i_10, i_12, i_16, i_20, i_23, i_24, i_31, i_32, i_63, i_64, i_m1, i_9, i_11, i_13, i_25, i_60, i_75, i_79, i_80, i_96, i_100] at c_23
        refine lv_aload_n hx hb dX10_reads_13 rfl (lv_at hl 3 rfl) ?_
        refine lv_iload_n hx hb dX10_reads_14 rfl (lv_at hl 4 rfl) ?_
        refine lv_iconst (v := 4) hx hb dX10_reads_15 (by decide) ?_
        refine lv_aload_n hx hb dX10_reads_16 rfl (lv_at hl 3 rfl) ?_
        refine va_get (D := DG E) (ci := 10) (v := .ref (rf 43)) (C := RX10) (T := TX10) (N := 49) hx hb hts iw_X10 hown hK.1 (va_one hM.1) 0 rfl rfl 43 (by decide) (hts _ fl_X10_125) (fun _ h9 => h9) rfl dX10_reads_17 ?_
        refine lv_bipush (v := 24) hx hb dX10_reads_20 (by decide) ?_
        have ha_24 : va_at (DG E) vwCl (rf 43, .inl (E.2.2 0, 25, .inl (ur_8.2.2.1))) _ := hM.2 43 (by decide) (by decide) (by decide)
        refine va_iald (D := DG E) hx hb hK.1 (va_one ha_24) 0 0 rfl rfl (show vp_in (24) 25 from vp_in_iff.mpr ⟨by decide, by decide⟩) dX10_reads_22 ?_
        refine W.eq (g2 := F0 m 23 ls [.int ((ur_8.2.2.1) 24), .int 4, .int p0, .ref h0]) (by rfl) ?_
        refine lv_iload_n hx hb dX10_reads_23 rfl (lv_at hl 0 rfl) ?_
        refine lv_iconst (v := 4) hx hb dX10_reads_24 (by decide) ?_
        refine lv_idiv hx hb dX10_reads_25 (by decide) ?_
        refine W.eq (g2 := F0 m 26 ls [.int 1, .int ((ur_8.2.2.1) 24), .int 4, .int p0, .ref h0]) (by rfl) ?_
        refine lv_iadd hx hb dX10_reads_26 ?_
        refine lv_topi (fun x_25 ex_25 => ?_)
        refine lv_bipush (v := 64) hx hb dX10_reads_27 (by decide) ?_
        refine lv_irem hx hb dX10_reads_29 (by decide) ?_
        refine lv_topi (fun x_26 ex_26 => ?_)
        refine lv_iconst (v := (-1)) hx hb dX10_reads_30 (by decide) ?_
        refine lv_iconst (v := (-1)) hx hb dX10_reads_31 (by decide) ?_
        refine lv_iconst (v := 0) hx hb dX10_reads_32 (by decide) ?_
        refine va_calli (rnV (fun H => MH E h0 rf t0 t1 t2 (uA (uA (uA (uA (uA (uA (uA (uA (uA A 41 (ur_8.1)) 42 (ur_8.2.1)) 43 (ur_8.2.2.1)) 44 (ur_8.2.2.2.1)) 45 (ur_8.2.2.2.2.1)) 46 (ur_8.2.2.2.2.2.1)) 47 (ur_8.2.2.2.2.2.2.1)) 44 (ur_19.1)) 48 (ur_19.2)) cd ur_8.2.2.2.2.2.2.2 H) (As := [.int p0, .int 4, .int x_26, .int (-1), .int (-1), .int 0]) (rest := []) ⟨hx, hb, hml, hown, hts⟩ (u_X10_emit l E z0 G hGz h0 rf hR t0 t1 t2 (uA (uA (uA (uA (uA (uA (uA (uA (uA A 41 (ur_8.1)) 42 (ur_8.2.1)) 43 (ur_8.2.2.1)) 44 (ur_8.2.2.2.1)) 45 (ur_8.2.2.2.2.1)) 46 (ur_8.2.2.2.2.2.1)) 47 (ur_8.2.2.2.2.2.2.1)) 44 (ur_19.1)) 48 (ur_19.2)) cd ur_8.2.2.2.2.2.2.2 p0 4 x_26 (-1) (-1) 0 hpr_19_0 (show 0 ≤ p0.toInt ∧ p0.toInt ≤ 3 from by have := i_m1; have := i_0; have := i_4; first | decide | omega) (show 0 ≤ ur_8.2.2.2.2.2.2.2.toInt ∧ ur_8.2.2.2.2.2.2.2.toInt ≤ 24 from by have := i_m1; have := i_0; have := i_4; first | decide | omega) (show -1 ≤ (-1 : Int32).toInt ∧ (-1 : Int32).toInt ≤ 60 from by have := i_m1; have := i_0; have := i_4; first | decide | omega) (show 0 ≤ (4 : Int32).toInt from by have := i_m1; have := i_0; have := i_4; first | decide | omega) (show (4 : Int32).toInt < 1 ∨ 3 < (4 : Int32).toInt ∨ (0 ≤ (-1 : Int32).toInt ∧ (-1 : Int32).toInt ≤ 5) from by have := i_m1; have := i_0; have := i_4; first | decide | omega)) (cwV 6 hts (gdV ml_X10_199 im_X10_emit se_X10_X10_emit in_X10 co_X10_emit rfl) rfl rfl rfl (by decide +kernel) ⟨Nat.le_of_ble_eq_true rfl, Nat.le_of_ble_eq_true rfl⟩) hM (fun U hU hW => hK.go hW hS hAz hU) (va_recv hK.1 (va_one hM.1) (ci := 10) (q0 := 0) rfl rfl) rfl rfl hl.1 rfl (lv_room (Nat.le_of_ble_eq_true rfl)) dX10_reads_33 ⟨Nat.le_of_ble_eq_true rfl, Nat.le_of_ble_eq_true rfl⟩) hS (fun q _ h => h) (fun q h => h) (fun r_27 ur_27 t H locs ht hvm hwr_27 hB hz hk hS => ?_)
        have hM : MH E h0 rf t0 t1 t2 (uA (uA (uA (uA (uA (uA (uA (uA (uA (uA (uA (uA (uA (uA (uA (uA A 41 (ur_8.1)) 42 (ur_8.2.1)) 43 (ur_8.2.2.1)) 44 (ur_8.2.2.2.1)) 45 (ur_8.2.2.2.2.1)) 46 (ur_8.2.2.2.2.2.1)) 47 (ur_8.2.2.2.2.2.2.1)) 44 (ur_19.1)) 48 (ur_19.2)) 41 (ur_27.1)) 42 (ur_27.2.1)) 43 (ur_27.2.2.1)) 44 (ur_27.2.2.2.1)) 45 (ur_27.2.2.2.2.1)) 46 (ur_27.2.2.2.2.2.1)) 47 (ur_27.2.2.2.2.2.2.1)) cd ur_27.2.2.2.2.2.2.2 H := by rw [ht] at hB; exact hB
        have hDr_27 : D_X10_emit (uA (uA (uA (uA (uA (uA (uA (uA (uA A 41 (ur_8.1)) 42 (ur_8.2.1)) 43 (ur_8.2.2.1)) 44 (ur_8.2.2.2.1)) 45 (ur_8.2.2.2.2.1)) 46 (ur_8.2.2.2.2.2.1)) 47 (ur_8.2.2.2.2.2.2.1)) 44 (ur_19.1)) 48 (ur_19.2)) cd (ur_8.2.2.2.2.2.2.2) p0 (4 : Int32) x_26 (-1 : Int32) (-1 : Int32) (0 : Int32) (uA (uA (uA (uA (uA (uA (uA (uA (uA (uA (uA (uA (uA (uA (uA (uA A 41 (ur_8.1)) 42 (ur_8.2.1)) 43 (ur_8.2.2.1)) 44 (ur_8.2.2.2.1)) 45 (ur_8.2.2.2.2.1)) 46 (ur_8.2.2.2.2.2.1)) 47 (ur_8.2.2.2.2.2.2.1)) 44 (ur_19.1)) 48 (ur_19.2)) 41 (ur_27.1)) 42 (ur_27.2.1)) 43 (ur_27.2.2.1)) 44 (ur_27.2.2.2.1)) 45 (ur_27.2.2.2.2.1)) 46 (ur_27.2.2.2.2.2.1)) 47 (ur_27.2.2.2.2.2.2.1)) cd (ur_27.2.2.2.2.2.2.2) r_27 := hwr_27.2.2.2.2.2
        have hpr_27_0 : I7 (ur_27.1) (ur_27.2.1) (ur_27.2.2.2.1) (ur_27.2.2.2.2.1) (ur_27.2.2.2.2.2.1) := hwr_27.1
        have hpr_27_1 : 0 ≤ ur_27.2.2.2.2.2.2.2.toInt ∧ ur_27.2.2.2.2.2.2.2.toInt ≤ 24 := hwr_27.2.1
        have hpr_27_2 : -1 ≤ r_27.toInt ∧ r_27.toInt ≤ 23 := hwr_27.2.2.1
        have hpr_27_3 : ∀ n : Nat, (n : Int) = r_27.toInt → (ur_27.2.1) n = (4 : Int32) := hwr_27.2.2.2.1
        have hpr_27_4 : ((ur_27.2.2.2.1) 24).toInt = ((ur_19.1) 24).toInt ∧ ((ur_27.2.2.2.2.2.1) 24).toInt = ((ur_8.2.2.2.2.2.1) 24).toInt := hwr_27.2.2.2.2.1
        refine lv_istore_n (lv' := [(3, .int r_27), (2, .int 4), (4, .int x_12), (0, .ref h0), (1, .int p0)]) hx hb dX10_reads_36 rfl hl (by decide) rfl (fun ls hl => ?_)
        refine lv_aload_n hx hb dX10_reads_37 rfl (lv_at hl 3 rfl) ?_
        refine va_get (D := DG E) (ci := 10) (v := .ref (rf 44)) (C := RX10) (T := TX10) (N := 49) hx hb hts iw_X10 hown hK.1 (va_one hM.1) 0 rfl rfl 44 (by decide) (hts _ fl_X10_128) (fun _ h9 => h9) rfl dX10_reads_38 ?_
        refine lv_bipush (v := 24) hx hb dX10_reads_41 (by decide) ?_
        have ha_28 : va_at (DG E) vwCl (rf 44, .inl (E.2.2 0, 25, .inl (ur_27.2.2.2.1))) _ := hM.2 44 (by decide) (by decide) (by decide)
        refine va_iald (D := DG E) hx hb hK.1 (va_one ha_28) 0 0 rfl rfl (show vp_in (24) 25 from vp_in_iff.mpr ⟨by decide, by decide⟩) dX10_reads_43 ?_
        refine W.eq (g2 := F0 m 44 ls [.int ((ur_27.2.2.2.1) 24)]) (by rfl) ?_
        have q_29 : 0 ≤ ((ur_27.2.2.2.1) 24).toInt := (hpr_27_0 24 (by decide)).2.2.1
        have q_30 : ((ur_27.2.2.2.1) 24).toInt ≤ 12 := (hpr_27_0 24 (by decide)).2.2.2.1
        refine lv_iload_n hx hb dX10_reads_44 rfl (lv_at hl 1 rfl) ?_
        refine lv_isub hx hb dX10_reads_45 ?_
        refine lv_topi (fun x_31 ex_31 => ?_)
        have fx_31 : x_31.toInt = ((ur_27.2.2.2.1) 24).toInt - 4 := by have h9 := s_sub (x := ((ur_27.2.2.2.1) 24)) (y := 4) (by rw [i_4]; omega) (by rw [i_4]; omega); rw [i_4] at h9; rw [ex_31]; exact h9
        refine lv_istore (lv' := [(4, .int x_31), (3, .int r_27), (2, .int 4), (0, .ref h0), (1, .int p0)]) hx hb dX10_reads_46 hl (by decide) rfl (fun ls hl => ?_)
        refine lv_aload_n hx hb dX10_reads_48 rfl (lv_at hl 3 rfl) ?_
        refine lv_iload_n hx hb dX10_reads_49 rfl (lv_at hl 1 rfl) ?_
        refine lv_iload_n hx hb dX10_reads_50 rfl (lv_at hl 4 rfl) ?_
        refine lv_aload_n hx hb dX10_reads_51 rfl (lv_at hl 3 rfl) ?_
        refine va_get (D := DG E) (ci := 10) (v := .ref (rf 46)) (C := RX10) (T := TX10) (N := 49) hx hb hts iw_X10 hown hK.1 (va_one hM.1) 0 rfl rfl 46 (by decide) (hts _ fl_X10_134) (fun _ h9 => h9) rfl dX10_reads_52 ?_
        refine lv_bipush (v := 24) hx hb dX10_reads_55 (by decide) ?_
        have ha_32 : va_at (DG E) vwCl (rf 46, .inl (E.2.2 0, 25, .inl (ur_27.2.2.2.2.2.1))) _ := hM.2 46 (by decide) (by decide) (by decide)
        refine va_iald (D := DG E) hx hb hK.1 (va_one ha_32) 0 0 rfl rfl (show vp_in (24) 25 from vp_in_iff.mpr ⟨by decide, by decide⟩) dX10_reads_57 ?_
        refine W.eq (g2 := F0 m 58 ls [.int ((ur_27.2.2.2.2.2.1) 24), .int p0, .int r_27, .ref h0]) (by rfl) ?_
        have q_33 : -1 ≤ ((ur_27.2.2.2.2.2.1) 24).toInt := (hpr_27_0 24 (by decide)).2.2.2.2.2.2.1
        have q_34 : ((ur_27.2.2.2.2.2.1) 24).toInt ≤ 60 := (hpr_27_0 24 (by decide)).2.2.2.2.2.2.2.1
        refine lv_iload_n hx hb dX10_reads_58 rfl (lv_at hl 2 rfl) ?_
        refine lv_iadd hx hb dX10_reads_59 ?_
        refine lv_topi (fun x_35 ex_35 => ?_)
        have fx_35 : x_35.toInt = ((ur_27.2.2.2.2.2.1) 24).toInt + 4 := by have h9 := s_add (x := ((ur_27.2.2.2.2.2.1) 24)) (y := 4) (by rw [i_4]; omega) (by rw [i_4]; omega); rw [i_4] at h9; rw [ex_35]; exact h9
        refine lv_iload hx hb dX10_reads_60 (lv_at hl 0 rfl) ?_
        refine lv_iconst (v := 4) hx hb dX10_reads_62 (by decide) ?_
        refine lv_icmp_ge (tgt := 71) hx hb dX10_reads_63 (by decide) (fun c_36 => ?_) (fun c_36 => ?_)
        · simp only [lt_I, le_I, eq_I, i_0, i_1, i_2, i_3, i_4, i_5, i_6, i_7, i_8, i_10, i_12, i_16, i_20, i_23, i_24, i_31, i_32, i_63, i_64, i_m1, i_9, i_11, i_13, i_25, i_60, i_75, i_79, i_80, i_96, i_100] at c_36
          refine lv_iconst (v := 4) hx hb dX10_reads_71 (by decide) ?_
          refine va_callv (rnV (fun H => MH E h0 rf t0 t1 t2 (uA (uA (uA (uA (uA (uA (uA (uA (uA (uA (uA (uA (uA (uA (uA (uA A 41 (ur_8.1)) 42 (ur_8.2.1)) 43 (ur_8.2.2.1)) 44 (ur_8.2.2.2.1)) 45 (ur_8.2.2.2.2.1)) 46 (ur_8.2.2.2.2.2.1)) 47 (ur_8.2.2.2.2.2.2.1)) 44 (ur_19.1)) 48 (ur_19.2)) 41 (ur_27.1)) 42 (ur_27.2.1)) 43 (ur_27.2.2.1)) 44 (ur_27.2.2.2.1)) 45 (ur_27.2.2.2.2.1)) 46 (ur_27.2.2.2.2.2.1)) 47 (ur_27.2.2.2.2.2.2.1)) cd ur_27.2.2.2.2.2.2.2 H) (As := [.int r_27, .int p0, .int x_35, .int 4]) (rest := []) ⟨hx, hb, hml, hown, hts⟩ (u_X10_load l E z0 G hGz h0 rf hR t0 t1 t2 (uA (uA (uA (uA (uA (uA (uA (uA (uA (uA (uA (uA (uA (uA (uA (uA A 41 (ur_8.1)) 42 (ur_8.2.1)) 43 (ur_8.2.2.1)) 44 (ur_8.2.2.2.1)) 45 (ur_8.2.2.2.2.1)) 46 (ur_8.2.2.2.2.2.1)) 47 (ur_8.2.2.2.2.2.2.1)) 44 (ur_19.1)) 48 (ur_19.2)) 41 (ur_27.1)) 42 (ur_27.2.1)) 43 (ur_27.2.2.1)) 44 (ur_27.2.2.2.1)) 45 (ur_27.2.2.2.2.1)) 46 (ur_27.2.2.2.2.2.1)) 47 (ur_27.2.2.2.2.2.2.1)) cd ur_27.2.2.2.2.2.2.2 r_27 p0 x_35 4 hpr_27_0 (show -1 ≤ r_27.toInt ∧ r_27.toInt ≤ 23 from by have := i_4; first | decide | omega) (show 0 ≤ p0.toInt ∧ p0.toInt ≤ 3 from by have := i_4; first | decide | omega) (show 0 ≤ x_35.toInt ∧ x_35.toInt ≤ 32 from by have := i_4; first | decide | omega) (show 0 ≤ (4 : Int32).toInt ∧ (4 : Int32).toInt ≤ 4 from by have := i_4; first | decide | omega) (show x_35.toInt + (4 : Int32).toInt ≤ 32 from by have := i_4; first | decide | omega)) (cwV 4 hts (gdV ml_X10_203 im_X10_load se_X10_X10_load in_X10 co_X10_load rfl) rfl rfl rfl (by decide +kernel) ⟨Nat.le_of_ble_eq_true rfl, Nat.le_of_ble_eq_true rfl⟩) hM (fun U hU hW => hK.go hW hS hAz hU) (va_recv hK.1 (va_one hM.1) (ci := 10) (q0 := 0) rfl rfl) rfl rfl hl.1 rfl (lv_room (Nat.le_of_ble_eq_true rfl)) dX10_reads_72 ⟨Nat.le_of_ble_eq_true rfl, Nat.le_of_ble_eq_true rfl⟩) hS (fun q _ h => h) (fun q h => h) (fun ur_37 t H locs ht hvm hwr_37 hB hz hk hS => ?_)
          have hM : MH E h0 rf t0 t1 t2 (uA (uA (uA (uA (uA (uA (uA (uA (uA (uA (uA (uA (uA (uA (uA (uA (uA (uA A 41 (ur_8.1)) 42 (ur_8.2.1)) 43 (ur_8.2.2.1)) 44 (ur_8.2.2.2.1)) 45 (ur_8.2.2.2.2.1)) 46 (ur_8.2.2.2.2.2.1)) 47 (ur_8.2.2.2.2.2.2.1)) 44 (ur_19.1)) 48 (ur_19.2)) 41 (ur_27.1)) 42 (ur_27.2.1)) 43 (ur_27.2.2.1)) 44 (ur_27.2.2.2.1)) 45 (ur_27.2.2.2.2.1)) 46 (ur_27.2.2.2.2.2.1)) 47 (ur_27.2.2.2.2.2.2.1)) 44 (ur_37.1)) 48 (ur_37.2)) cd ur_27.2.2.2.2.2.2.2 H := by rw [ht] at hB; exact hB
          have hDr_37 : D_X10_load (uA (uA (uA (uA (uA (uA (uA (uA (uA (uA (uA (uA (uA (uA (uA (uA A 41 (ur_8.1)) 42 (ur_8.2.1)) 43 (ur_8.2.2.1)) 44 (ur_8.2.2.2.1)) 45 (ur_8.2.2.2.2.1)) 46 (ur_8.2.2.2.2.2.1)) 47 (ur_8.2.2.2.2.2.2.1)) 44 (ur_19.1)) 48 (ur_19.2)) 41 (ur_27.1)) 42 (ur_27.2.1)) 43 (ur_27.2.2.1)) 44 (ur_27.2.2.2.1)) 45 (ur_27.2.2.2.2.1)) 46 (ur_27.2.2.2.2.2.1)) 47 (ur_27.2.2.2.2.2.2.1)) cd (ur_27.2.2.2.2.2.2.2) r_27 p0 x_35 (4 : Int32) (uA (uA (uA (uA (uA (uA (uA (uA (uA (uA (uA (uA (uA (uA (uA (uA (uA (uA A 41 (ur_8.1)) 42 (ur_8.2.1)) 43 (ur_8.2.2.1)) 44 (ur_8.2.2.2.1)) 45 (ur_8.2.2.2.2.1)) 46 (ur_8.2.2.2.2.2.1)) 47 (ur_8.2.2.2.2.2.2.1)) 44 (ur_19.1)) 48 (ur_19.2)) 41 (ur_27.1)) 42 (ur_27.2.1)) 43 (ur_27.2.2.1)) 44 (ur_27.2.2.2.1)) 45 (ur_27.2.2.2.2.1)) 46 (ur_27.2.2.2.2.2.1)) 47 (ur_27.2.2.2.2.2.2.1)) 44 (ur_37.1)) 48 (ur_37.2)) cd (ur_27.2.2.2.2.2.2.2) := hwr_37.2.2
          have hpr_37_0 : I7 (ur_27.1) (ur_27.2.1) (ur_37.1) (ur_27.2.2.2.2.1) (ur_27.2.2.2.2.2.1) := hwr_37.1
          have hpr_37_1 : ((ur_37.1) 24).toInt = ((ur_27.2.2.2.1) 24).toInt ∧ ((ur_27.2.2.2.2.2.1) 24).toInt = ((ur_27.2.2.2.2.2.1) 24).toInt := hwr_37.2.1
          refine lv_iinc (v := 8) (lv' := [(2, .int 8), (4, .int x_31), (3, .int r_27), (0, .ref h0), (1, .int p0)]) hx hb dX10_reads_75 hl (k := 2) rfl (by decide) (by decide) rfl (fun ls hl => ?_)
          refine lv_goto (tgt := 2) hx hb dX10_reads_78 (by decide) ?_
          refine lv_iload_n hx hb dX10_reads_2 rfl (lv_at hl 0 rfl) ?_
          refine lv_aload_n hx hb dX10_reads_3 rfl (lv_at hl 3 rfl) ?_
          refine va_get (D := DG E) (ci := 10) (v := .ref (rf 44)) (C := RX10) (T := TX10) (N := 49) hx hb hts iw_X10 hown hK.1 (va_one hM.1) 0 rfl rfl 44 (by decide) (hts _ fl_X10_128) (fun _ h9 => h9) rfl dX10_reads_4 ?_
          refine lv_bipush (v := 24) hx hb dX10_reads_7 (by decide) ?_
          have ha_38 : va_at (DG E) vwCl (rf 44, .inl (E.2.2 0, 25, .inl (ur_37.1))) _ := hM.2 44 (by decide) (by decide) (by decide)
          refine va_iald (D := DG E) hx hb hK.1 (va_one ha_38) 0 0 rfl rfl (show vp_in (24) 25 from vp_in_iff.mpr ⟨by decide, by decide⟩) dX10_reads_9 ?_
          refine W.eq (g2 := F0 m 10 ls [.int ((ur_37.1) 24), .int 8]) (by rfl) ?_
          have q_39 : 0 ≤ ((ur_37.1) 24).toInt := (hpr_37_0 24 (by decide)).2.2.1
          have q_40 : ((ur_37.1) 24).toInt ≤ 12 := (hpr_37_0 24 (by decide)).2.2.2.1
          refine lv_icmp_ge (tgt := 81) hx hb dX10_reads_10 (by decide) (fun c_41 => ?_) (fun c_41 => ?_)
          · simp only [lt_I, le_I, eq_I, i_0, i_1, i_2, i_3, i_4, i_5, i_6, i_7, i_8, i_10, i_12, i_16, i_20, i_23, i_24, i_31, i_32, i_63, i_64, i_m1, i_9, i_11, i_13, i_25, i_60, i_75, i_79, i_80, i_96, i_100] at c_41
            exact W.vret hx hb hr (fun t ht hW => ⟨⟨((ur_27.1), (ur_27.2.1), (ur_27.2.2.1), (ur_37.1), (ur_27.2.2.2.2.1), (ur_27.2.2.2.2.2.1), (ur_27.2.2.2.2.2.2.1), (ur_37.2), ur_27.2.2.2.2.2.2.2), rfl, ⟨hpr_37_0, (by show 0 ≤ ur_27.2.2.2.2.2.2.2.toInt ∧ ur_27.2.2.2.2.2.2.2.toInt ≤ 24; omega), (Or.inr ⟨c_4, x_6, ex_6, x_7, ex_7, ur_8, r_8, hDr_8, hpr_8_0, hpr_8_1, hpr_8_2, hpr_8_3, hpr_8_4, x_12, ex_12, fx_12, x_16, ex_16, fx_16, v_17, hv_17.2, ur_19, hDr_19, hpr_19_0, hpr_19_1, (Or.inr ⟨c_23, x_25, ex_25, x_26, ex_26, ur_27, r_27, hDr_27, hpr_27_0, hpr_27_1, hpr_27_2, hpr_27_3, hpr_27_4, x_31, ex_31, fx_31, x_35, ex_35, fx_35, (Or.inl ⟨c_36, ur_37, hDr_37, hpr_37_0, hpr_37_1, (Or.inl ⟨c_41, rfl, rfl, rfl⟩)⟩)⟩)⟩)⟩, (by show MH E h0 rf t0 t1 t2 (uA (uA (uA (uA (uA (uA (uA (uA A 41 (ur_27.1)) 42 (ur_27.2.1)) 43 (ur_27.2.2.1)) 44 (ur_37.1)) 45 (ur_27.2.2.2.2.1)) 46 (ur_27.2.2.2.2.2.1)) 47 (ur_27.2.2.2.2.2.2.1)) 48 (ur_37.2)) cd ur_27.2.2.2.2.2.2.2 t.heap; rw [ht]; exact hM.cge (funext fun j => (cgj j 48 rfl (fun a0 => (cgj j 47 rfl (fun a1 => (cgj j 46 rfl (fun a2 => (cgj j 45 rfl (fun a3 => (cgj j 44 rfl (fun a4 => (cgj j 43 rfl (fun a5 => (cgj j 42 rfl (fun a6 => (cgj j 41 rfl (fun a7 => (by simp only [uA_n a0, uA_n a1, uA_n a2, uA_n a3, uA_n a4, uA_n a5, uA_n a6, uA_n a7])))))))))))))))))))⟩, hS.F ht⟩) hS.2.2 dX10_reads_81
          · simp only [lt_I, le_I, eq_I, i_0, i_1, i_2, i_3, i_4, i_5, i_6, i_7, i_8, i_10, i_12, i_16, i_20, i_23, i_24, i_31, i_32, i_63, i_64, i_m1, i_9, i_11, i_13, i_25, i_60, i_75, i_79, i_80, i_96, i_100] at c_41
            refine lv_aload_n hx hb dX10_reads_13 rfl (lv_at hl 3 rfl) ?_
            refine lv_iload_n hx hb dX10_reads_14 rfl (lv_at hl 4 rfl) ?_
            refine lv_iconst (v := 4) hx hb dX10_reads_15 (by decide) ?_
            refine lv_aload_n hx hb dX10_reads_16 rfl (lv_at hl 3 rfl) ?_
            refine va_get (D := DG E) (ci := 10) (v := .ref (rf 43)) (C := RX10) (T := TX10) (N := 49) hx hb hts iw_X10 hown hK.1 (va_one hM.1) 0 rfl rfl 43 (by decide) (hts _ fl_X10_125) (fun _ h9 => h9) rfl dX10_reads_17 ?_
            refine lv_bipush (v := 24) hx hb dX10_reads_20 (by decide) ?_
            have ha_42 : va_at (DG E) vwCl (rf 43, .inl (E.2.2 0, 25, .inl (ur_27.2.2.1))) _ := hM.2 43 (by decide) (by decide) (by decide)
            refine va_iald (D := DG E) hx hb hK.1 (va_one ha_42) 0 0 rfl rfl (show vp_in (24) 25 from vp_in_iff.mpr ⟨by decide, by decide⟩) dX10_reads_22 ?_
            refine W.eq (g2 := F0 m 23 ls [.int ((ur_27.2.2.1) 24), .int 4, .int p0, .ref h0]) (by rfl) ?_
            refine lv_iload_n hx hb dX10_reads_23 rfl (lv_at hl 0 rfl) ?_
            refine lv_iconst (v := 4) hx hb dX10_reads_24 (by decide) ?_
            refine lv_idiv hx hb dX10_reads_25 (by decide) ?_
            refine W.eq (g2 := F0 m 26 ls [.int 2, .int ((ur_27.2.2.1) 24), .int 4, .int p0, .ref h0]) (by rfl) ?_
            refine lv_iadd hx hb dX10_reads_26 ?_
            refine lv_topi (fun x_43 ex_43 => ?_)
            refine lv_bipush (v := 64) hx hb dX10_reads_27 (by decide) ?_
            refine lv_irem hx hb dX10_reads_29 (by decide) ?_
            refine lv_topi (fun x_44 ex_44 => ?_)
            refine lv_iconst (v := (-1)) hx hb dX10_reads_30 (by decide) ?_
            refine lv_iconst (v := (-1)) hx hb dX10_reads_31 (by decide) ?_
            refine lv_iconst (v := 0) hx hb dX10_reads_32 (by decide) ?_
            refine va_calli (rnV (fun H => MH E h0 rf t0 t1 t2 (uA (uA (uA (uA (uA (uA (uA (uA (uA (uA (uA (uA (uA (uA (uA (uA (uA (uA A 41 (ur_8.1)) 42 (ur_8.2.1)) 43 (ur_8.2.2.1)) 44 (ur_8.2.2.2.1)) 45 (ur_8.2.2.2.2.1)) 46 (ur_8.2.2.2.2.2.1)) 47 (ur_8.2.2.2.2.2.2.1)) 44 (ur_19.1)) 48 (ur_19.2)) 41 (ur_27.1)) 42 (ur_27.2.1)) 43 (ur_27.2.2.1)) 44 (ur_27.2.2.2.1)) 45 (ur_27.2.2.2.2.1)) 46 (ur_27.2.2.2.2.2.1)) 47 (ur_27.2.2.2.2.2.2.1)) 44 (ur_37.1)) 48 (ur_37.2)) cd ur_27.2.2.2.2.2.2.2 H) (As := [.int p0, .int 4, .int x_44, .int (-1), .int (-1), .int 0]) (rest := []) ⟨hx, hb, hml, hown, hts⟩ (u_X10_emit l E z0 G hGz h0 rf hR t0 t1 t2 (uA (uA (uA (uA (uA (uA (uA (uA (uA (uA (uA (uA (uA (uA (uA (uA (uA (uA A 41 (ur_8.1)) 42 (ur_8.2.1)) 43 (ur_8.2.2.1)) 44 (ur_8.2.2.2.1)) 45 (ur_8.2.2.2.2.1)) 46 (ur_8.2.2.2.2.2.1)) 47 (ur_8.2.2.2.2.2.2.1)) 44 (ur_19.1)) 48 (ur_19.2)) 41 (ur_27.1)) 42 (ur_27.2.1)) 43 (ur_27.2.2.1)) 44 (ur_27.2.2.2.1)) 45 (ur_27.2.2.2.2.1)) 46 (ur_27.2.2.2.2.2.1)) 47 (ur_27.2.2.2.2.2.2.1)) 44 (ur_37.1)) 48 (ur_37.2)) cd ur_27.2.2.2.2.2.2.2 p0 4 x_44 (-1) (-1) 0 hpr_37_0 (show 0 ≤ p0.toInt ∧ p0.toInt ≤ 3 from by have := i_m1; have := i_0; have := i_4; first | decide | omega) (show 0 ≤ ur_27.2.2.2.2.2.2.2.toInt ∧ ur_27.2.2.2.2.2.2.2.toInt ≤ 24 from by have := i_m1; have := i_0; have := i_4; first | decide | omega) (show -1 ≤ (-1 : Int32).toInt ∧ (-1 : Int32).toInt ≤ 60 from by have := i_m1; have := i_0; have := i_4; first | decide | omega) (show 0 ≤ (4 : Int32).toInt from by have := i_m1; have := i_0; have := i_4; first | decide | omega) (show (4 : Int32).toInt < 1 ∨ 3 < (4 : Int32).toInt ∨ (0 ≤ (-1 : Int32).toInt ∧ (-1 : Int32).toInt ≤ 5) from by have := i_m1; have := i_0; have := i_4; first | decide | omega)) (cwV 6 hts (gdV ml_X10_199 im_X10_emit se_X10_X10_emit in_X10 co_X10_emit rfl) rfl rfl rfl (by decide +kernel) ⟨Nat.le_of_ble_eq_true rfl, Nat.le_of_ble_eq_true rfl⟩) hM (fun U hU hW => hK.go hW hS hAz hU) (va_recv hK.1 (va_one hM.1) (ci := 10) (q0 := 0) rfl rfl) rfl rfl hl.1 rfl (lv_room (Nat.le_of_ble_eq_true rfl)) dX10_reads_33 ⟨Nat.le_of_ble_eq_true rfl, Nat.le_of_ble_eq_true rfl⟩) hS (fun q _ h => h) (fun q h => h) (fun r_45 ur_45 t H locs ht hvm hwr_45 hB hz hk hS => ?_)
            have hM : MH E h0 rf t0 t1 t2 (uA (uA (uA (uA (uA (uA (uA (uA (uA (uA (uA (uA (uA (uA (uA (uA (uA (uA (uA (uA (uA (uA (uA (uA (uA A 41 (ur_8.1)) 42 (ur_8.2.1)) 43 (ur_8.2.2.1)) 44 (ur_8.2.2.2.1)) 45 (ur_8.2.2.2.2.1)) 46 (ur_8.2.2.2.2.2.1)) 47 (ur_8.2.2.2.2.2.2.1)) 44 (ur_19.1)) 48 (ur_19.2)) 41 (ur_27.1)) 42 (ur_27.2.1)) 43 (ur_27.2.2.1)) 44 (ur_27.2.2.2.1)) 45 (ur_27.2.2.2.2.1)) 46 (ur_27.2.2.2.2.2.1)) 47 (ur_27.2.2.2.2.2.2.1)) 44 (ur_37.1)) 48 (ur_37.2)) 41 (ur_45.1)) 42 (ur_45.2.1)) 43 (ur_45.2.2.1)) 44 (ur_45.2.2.2.1)) 45 (ur_45.2.2.2.2.1)) 46 (ur_45.2.2.2.2.2.1)) 47 (ur_45.2.2.2.2.2.2.1)) cd ur_45.2.2.2.2.2.2.2 H := by rw [ht] at hB; exact hB
            have hDr_45 : D_X10_emit (uA (uA (uA (uA (uA (uA (uA (uA (uA (uA (uA (uA (uA (uA (uA (uA (uA (uA A 41 (ur_8.1)) 42 (ur_8.2.1)) 43 (ur_8.2.2.1)) 44 (ur_8.2.2.2.1)) 45 (ur_8.2.2.2.2.1)) 46 (ur_8.2.2.2.2.2.1)) 47 (ur_8.2.2.2.2.2.2.1)) 44 (ur_19.1)) 48 (ur_19.2)) 41 (ur_27.1)) 42 (ur_27.2.1)) 43 (ur_27.2.2.1)) 44 (ur_27.2.2.2.1)) 45 (ur_27.2.2.2.2.1)) 46 (ur_27.2.2.2.2.2.1)) 47 (ur_27.2.2.2.2.2.2.1)) 44 (ur_37.1)) 48 (ur_37.2)) cd (ur_27.2.2.2.2.2.2.2) p0 (4 : Int32) x_44 (-1 : Int32) (-1 : Int32) (0 : Int32) (uA (uA (uA (uA (uA (uA (uA (uA (uA (uA (uA (uA (uA (uA (uA (uA (uA (uA (uA (uA (uA (uA (uA (uA (uA A 41 (ur_8.1)) 42 (ur_8.2.1)) 43 (ur_8.2.2.1)) 44 (ur_8.2.2.2.1)) 45 (ur_8.2.2.2.2.1)) 46 (ur_8.2.2.2.2.2.1)) 47 (ur_8.2.2.2.2.2.2.1)) 44 (ur_19.1)) 48 (ur_19.2)) 41 (ur_27.1)) 42 (ur_27.2.1)) 43 (ur_27.2.2.1)) 44 (ur_27.2.2.2.1)) 45 (ur_27.2.2.2.2.1)) 46 (ur_27.2.2.2.2.2.1)) 47 (ur_27.2.2.2.2.2.2.1)) 44 (ur_37.1)) 48 (ur_37.2)) 41 (ur_45.1)) 42 (ur_45.2.1)) 43 (ur_45.2.2.1)) 44 (ur_45.2.2.2.1)) 45 (ur_45.2.2.2.2.1)) 46 (ur_45.2.2.2.2.2.1)) 47 (ur_45.2.2.2.2.2.2.1)) cd (ur_45.2.2.2.2.2.2.2) r_45 := hwr_45.2.2.2.2.2
            have hpr_45_0 : I7 (ur_45.1) (ur_45.2.1) (ur_45.2.2.2.1) (ur_45.2.2.2.2.1) (ur_45.2.2.2.2.2.1) := hwr_45.1
            have hpr_45_1 : 0 ≤ ur_45.2.2.2.2.2.2.2.toInt ∧ ur_45.2.2.2.2.2.2.2.toInt ≤ 24 := hwr_45.2.1
            have hpr_45_2 : -1 ≤ r_45.toInt ∧ r_45.toInt ≤ 23 := hwr_45.2.2.1
            have hpr_45_3 : ∀ n : Nat, (n : Int) = r_45.toInt → (ur_45.2.1) n = (4 : Int32) := hwr_45.2.2.2.1
            have hpr_45_4 : ((ur_45.2.2.2.1) 24).toInt = ((ur_37.1) 24).toInt ∧ ((ur_45.2.2.2.2.2.1) 24).toInt = ((ur_27.2.2.2.2.2.1) 24).toInt := hwr_45.2.2.2.2.1
            refine lv_istore_n (lv' := [(3, .int r_45), (2, .int 8), (4, .int x_31), (0, .ref h0), (1, .int p0)]) hx hb dX10_reads_36 rfl hl (by decide) rfl (fun ls hl => ?_)
            refine lv_aload_n hx hb dX10_reads_37 rfl (lv_at hl 3 rfl) ?_
            refine va_get (D := DG E) (ci := 10) (v := .ref (rf 44)) (C := RX10) (T := TX10) (N := 49) hx hb hts iw_X10 hown hK.1 (va_one hM.1) 0 rfl rfl 44 (by decide) (hts _ fl_X10_128) (fun _ h9 => h9) rfl dX10_reads_38 ?_
            refine lv_bipush (v := 24) hx hb dX10_reads_41 (by decide) ?_
            have ha_46 : va_at (DG E) vwCl (rf 44, .inl (E.2.2 0, 25, .inl (ur_45.2.2.2.1))) _ := hM.2 44 (by decide) (by decide) (by decide)
            refine va_iald (D := DG E) hx hb hK.1 (va_one ha_46) 0 0 rfl rfl (show vp_in (24) 25 from vp_in_iff.mpr ⟨by decide, by decide⟩) dX10_reads_43 ?_
            refine W.eq (g2 := F0 m 44 ls [.int ((ur_45.2.2.2.1) 24)]) (by rfl) ?_
            have q_47 : 0 ≤ ((ur_45.2.2.2.1) 24).toInt := (hpr_45_0 24 (by decide)).2.2.1
            have q_48 : ((ur_45.2.2.2.1) 24).toInt ≤ 12 := (hpr_45_0 24 (by decide)).2.2.2.1
            refine lv_iload_n hx hb dX10_reads_44 rfl (lv_at hl 1 rfl) ?_
            refine lv_isub hx hb dX10_reads_45 ?_
            refine lv_topi (fun x_49 ex_49 => ?_)
            have fx_49 : x_49.toInt = ((ur_45.2.2.2.1) 24).toInt - 8 := by have h9 := s_sub (x := ((ur_45.2.2.2.1) 24)) (y := 8) (by rw [i_8]; omega) (by rw [i_8]; omega); rw [i_8] at h9; rw [ex_49]; exact h9
            refine lv_istore (lv' := [(4, .int x_49), (3, .int r_45), (2, .int 8), (0, .ref h0), (1, .int p0)]) hx hb dX10_reads_46 hl (by decide) rfl (fun ls hl => ?_)
            refine lv_aload_n hx hb dX10_reads_48 rfl (lv_at hl 3 rfl) ?_
            refine lv_iload_n hx hb dX10_reads_49 rfl (lv_at hl 1 rfl) ?_
            refine lv_iload_n hx hb dX10_reads_50 rfl (lv_at hl 4 rfl) ?_
            refine lv_aload_n hx hb dX10_reads_51 rfl (lv_at hl 3 rfl) ?_
            refine va_get (D := DG E) (ci := 10) (v := .ref (rf 46)) (C := RX10) (T := TX10) (N := 49) hx hb hts iw_X10 hown hK.1 (va_one hM.1) 0 rfl rfl 46 (by decide) (hts _ fl_X10_134) (fun _ h9 => h9) rfl dX10_reads_52 ?_
            refine lv_bipush (v := 24) hx hb dX10_reads_55 (by decide) ?_
            have ha_50 : va_at (DG E) vwCl (rf 46, .inl (E.2.2 0, 25, .inl (ur_45.2.2.2.2.2.1))) _ := hM.2 46 (by decide) (by decide) (by decide)
            refine va_iald (D := DG E) hx hb hK.1 (va_one ha_50) 0 0 rfl rfl (show vp_in (24) 25 from vp_in_iff.mpr ⟨by decide, by decide⟩) dX10_reads_57 ?_
            refine W.eq (g2 := F0 m 58 ls [.int ((ur_45.2.2.2.2.2.1) 24), .int p0, .int r_45, .ref h0]) (by rfl) ?_
            have q_51 : -1 ≤ ((ur_45.2.2.2.2.2.1) 24).toInt := (hpr_45_0 24 (by decide)).2.2.2.2.2.2.1
            have q_52 : ((ur_45.2.2.2.2.2.1) 24).toInt ≤ 60 := (hpr_45_0 24 (by decide)).2.2.2.2.2.2.2.1
            refine lv_iload_n hx hb dX10_reads_58 rfl (lv_at hl 2 rfl) ?_
            refine lv_iadd hx hb dX10_reads_59 ?_
            refine lv_topi (fun x_53 ex_53 => ?_)
            have fx_53 : x_53.toInt = ((ur_45.2.2.2.2.2.1) 24).toInt + 8 := by have h9 := s_add (x := ((ur_45.2.2.2.2.2.1) 24)) (y := 8) (by rw [i_8]; omega) (by rw [i_8]; omega); rw [i_8] at h9; rw [ex_53]; exact h9
            refine lv_iload hx hb dX10_reads_60 (lv_at hl 0 rfl) ?_
            refine lv_iconst (v := 4) hx hb dX10_reads_62 (by decide) ?_
            refine lv_icmp_ge (tgt := 71) hx hb dX10_reads_63 (by decide) (fun c_54 => ?_) (fun c_54 => ?_)
            · simp only [lt_I, le_I, eq_I, i_0, i_1, i_2, i_3, i_4, i_5, i_6, i_7, i_8, i_10, i_12, i_16, i_20, i_23, i_24, i_31, i_32, i_63, i_64, i_m1, i_9, i_11, i_13, i_25, i_60, i_75, i_79, i_80, i_96, i_100] at c_54
              refine lv_iconst (v := 4) hx hb dX10_reads_71 (by decide) ?_
              refine va_callv (rnV (fun H => MH E h0 rf t0 t1 t2 (uA (uA (uA (uA (uA (uA (uA (uA (uA (uA (uA (uA (uA (uA (uA (uA (uA (uA (uA (uA (uA (uA (uA (uA (uA A 41 (ur_8.1)) 42 (ur_8.2.1)) 43 (ur_8.2.2.1)) 44 (ur_8.2.2.2.1)) 45 (ur_8.2.2.2.2.1)) 46 (ur_8.2.2.2.2.2.1)) 47 (ur_8.2.2.2.2.2.2.1)) 44 (ur_19.1)) 48 (ur_19.2)) 41 (ur_27.1)) 42 (ur_27.2.1)) 43 (ur_27.2.2.1)) 44 (ur_27.2.2.2.1)) 45 (ur_27.2.2.2.2.1)) 46 (ur_27.2.2.2.2.2.1)) 47 (ur_27.2.2.2.2.2.2.1)) 44 (ur_37.1)) 48 (ur_37.2)) 41 (ur_45.1)) 42 (ur_45.2.1)) 43 (ur_45.2.2.1)) 44 (ur_45.2.2.2.1)) 45 (ur_45.2.2.2.2.1)) 46 (ur_45.2.2.2.2.2.1)) 47 (ur_45.2.2.2.2.2.2.1)) cd ur_45.2.2.2.2.2.2.2 H) (As := [.int r_45, .int p0, .int x_53, .int 4]) (rest := []) ⟨hx, hb, hml, hown, hts⟩ (u_X10_load l E z0 G hGz h0 rf hR t0 t1 t2 (uA (uA (uA (uA (uA (uA (uA (uA (uA (uA (uA (uA (uA (uA (uA (uA (uA (uA (uA (uA (uA (uA (uA (uA (uA A 41 (ur_8.1)) 42 (ur_8.2.1)) 43 (ur_8.2.2.1)) 44 (ur_8.2.2.2.1)) 45 (ur_8.2.2.2.2.1)) 46 (ur_8.2.2.2.2.2.1)) 47 (ur_8.2.2.2.2.2.2.1)) 44 (ur_19.1)) 48 (ur_19.2)) 41 (ur_27.1)) 42 (ur_27.2.1)) 43 (ur_27.2.2.1)) 44 (ur_27.2.2.2.1)) 45 (ur_27.2.2.2.2.1)) 46 (ur_27.2.2.2.2.2.1)) 47 (ur_27.2.2.2.2.2.2.1)) 44 (ur_37.1)) 48 (ur_37.2)) 41 (ur_45.1)) 42 (ur_45.2.1)) 43 (ur_45.2.2.1)) 44 (ur_45.2.2.2.1)) 45 (ur_45.2.2.2.2.1)) 46 (ur_45.2.2.2.2.2.1)) 47 (ur_45.2.2.2.2.2.2.1)) cd ur_45.2.2.2.2.2.2.2 r_45 p0 x_53 4 hpr_45_0 (show -1 ≤ r_45.toInt ∧ r_45.toInt ≤ 23 from by have := i_4; first | decide | omega) (show 0 ≤ p0.toInt ∧ p0.toInt ≤ 3 from by have := i_4; first | decide | omega) (show 0 ≤ x_53.toInt ∧ x_53.toInt ≤ 32 from by have := i_4; first | decide | omega) (show 0 ≤ (4 : Int32).toInt ∧ (4 : Int32).toInt ≤ 4 from by have := i_4; first | decide | omega) (show x_53.toInt + (4 : Int32).toInt ≤ 32 from by have := i_4; first | decide | omega)) (cwV 4 hts (gdV ml_X10_203 im_X10_load se_X10_X10_load in_X10 co_X10_load rfl) rfl rfl rfl (by decide +kernel) ⟨Nat.le_of_ble_eq_true rfl, Nat.le_of_ble_eq_true rfl⟩) hM (fun U hU hW => hK.go hW hS hAz hU) (va_recv hK.1 (va_one hM.1) (ci := 10) (q0 := 0) rfl rfl) rfl rfl hl.1 rfl (lv_room (Nat.le_of_ble_eq_true rfl)) dX10_reads_72 ⟨Nat.le_of_ble_eq_true rfl, Nat.le_of_ble_eq_true rfl⟩) hS (fun q _ h => h) (fun q h => h) (fun ur_55 t H locs ht hvm hwr_55 hB hz hk hS => ?_)
              have hM : MH E h0 rf t0 t1 t2 (uA (uA (uA (uA (uA (uA (uA (uA (uA (uA (uA (uA (uA (uA (uA (uA (uA (uA (uA (uA (uA (uA (uA (uA (uA (uA (uA A 41 (ur_8.1)) 42 (ur_8.2.1)) 43 (ur_8.2.2.1)) 44 (ur_8.2.2.2.1)) 45 (ur_8.2.2.2.2.1)) 46 (ur_8.2.2.2.2.2.1)) 47 (ur_8.2.2.2.2.2.2.1)) 44 (ur_19.1)) 48 (ur_19.2)) 41 (ur_27.1)) 42 (ur_27.2.1)) 43 (ur_27.2.2.1)) 44 (ur_27.2.2.2.1)) 45 (ur_27.2.2.2.2.1)) 46 (ur_27.2.2.2.2.2.1)) 47 (ur_27.2.2.2.2.2.2.1)) 44 (ur_37.1)) 48 (ur_37.2)) 41 (ur_45.1)) 42 (ur_45.2.1)) 43 (ur_45.2.2.1)) 44 (ur_45.2.2.2.1)) 45 (ur_45.2.2.2.2.1)) 46 (ur_45.2.2.2.2.2.1)) 47 (ur_45.2.2.2.2.2.2.1)) 44 (ur_55.1)) 48 (ur_55.2)) cd ur_45.2.2.2.2.2.2.2 H := by rw [ht] at hB; exact hB
              have hDr_55 : D_X10_load (uA (uA (uA (uA (uA (uA (uA (uA (uA (uA (uA (uA (uA (uA (uA (uA (uA (uA (uA (uA (uA (uA (uA (uA (uA A 41 (ur_8.1)) 42 (ur_8.2.1)) 43 (ur_8.2.2.1)) 44 (ur_8.2.2.2.1)) 45 (ur_8.2.2.2.2.1)) 46 (ur_8.2.2.2.2.2.1)) 47 (ur_8.2.2.2.2.2.2.1)) 44 (ur_19.1)) 48 (ur_19.2)) 41 (ur_27.1)) 42 (ur_27.2.1)) 43 (ur_27.2.2.1)) 44 (ur_27.2.2.2.1)) 45 (ur_27.2.2.2.2.1)) 46 (ur_27.2.2.2.2.2.1)) 47 (ur_27.2.2.2.2.2.2.1)) 44 (ur_37.1)) 48 (ur_37.2)) 41 (ur_45.1)) 42 (ur_45.2.1)) 43 (ur_45.2.2.1)) 44 (ur_45.2.2.2.1)) 45 (ur_45.2.2.2.2.1)) 46 (ur_45.2.2.2.2.2.1)) 47 (ur_45.2.2.2.2.2.2.1)) cd (ur_45.2.2.2.2.2.2.2) r_45 p0 x_53 (4 : Int32) (uA (uA (uA (uA (uA (uA (uA (uA (uA (uA (uA (uA (uA (uA (uA (uA (uA (uA (uA (uA (uA (uA (uA (uA (uA (uA (uA A 41 (ur_8.1)) 42 (ur_8.2.1)) 43 (ur_8.2.2.1)) 44 (ur_8.2.2.2.1)) 45 (ur_8.2.2.2.2.1)) 46 (ur_8.2.2.2.2.2.1)) 47 (ur_8.2.2.2.2.2.2.1)) 44 (ur_19.1)) 48 (ur_19.2)) 41 (ur_27.1)) 42 (ur_27.2.1)) 43 (ur_27.2.2.1)) 44 (ur_27.2.2.2.1)) 45 (ur_27.2.2.2.2.1)) 46 (ur_27.2.2.2.2.2.1)) 47 (ur_27.2.2.2.2.2.2.1)) 44 (ur_37.1)) 48 (ur_37.2)) 41 (ur_45.1)) 42 (ur_45.2.1)) 43 (ur_45.2.2.1)) 44 (ur_45.2.2.2.1)) 45 (ur_45.2.2.2.2.1)) 46 (ur_45.2.2.2.2.2.1)) 47 (ur_45.2.2.2.2.2.2.1)) 44 (ur_55.1)) 48 (ur_55.2)) cd (ur_45.2.2.2.2.2.2.2) := hwr_55.2.2
              have hpr_55_0 : I7 (ur_45.1) (ur_45.2.1) (ur_55.1) (ur_45.2.2.2.2.1) (ur_45.2.2.2.2.2.1) := hwr_55.1
              have hpr_55_1 : ((ur_55.1) 24).toInt = ((ur_45.2.2.2.1) 24).toInt ∧ ((ur_45.2.2.2.2.2.1) 24).toInt = ((ur_45.2.2.2.2.2.1) 24).toInt := hwr_55.2.1
              refine lv_iinc (v := 12) (lv' := [(2, .int 12), (4, .int x_49), (3, .int r_45), (0, .ref h0), (1, .int p0)]) hx hb dX10_reads_75 hl (k := 2) rfl (by decide) (by decide) rfl (fun ls hl => ?_)
              refine lv_goto (tgt := 2) hx hb dX10_reads_78 (by decide) ?_
              refine lv_iload_n hx hb dX10_reads_2 rfl (lv_at hl 0 rfl) ?_
              refine lv_aload_n hx hb dX10_reads_3 rfl (lv_at hl 3 rfl) ?_
              refine va_get (D := DG E) (ci := 10) (v := .ref (rf 44)) (C := RX10) (T := TX10) (N := 49) hx hb hts iw_X10 hown hK.1 (va_one hM.1) 0 rfl rfl 44 (by decide) (hts _ fl_X10_128) (fun _ h9 => h9) rfl dX10_reads_4 ?_
              refine lv_bipush (v := 24) hx hb dX10_reads_7 (by decide) ?_
              have ha_56 : va_at (DG E) vwCl (rf 44, .inl (E.2.2 0, 25, .inl (ur_55.1))) _ := hM.2 44 (by decide) (by decide) (by decide)
              refine va_iald (D := DG E) hx hb hK.1 (va_one ha_56) 0 0 rfl rfl (show vp_in (24) 25 from vp_in_iff.mpr ⟨by decide, by decide⟩) dX10_reads_9 ?_
              refine W.eq (g2 := F0 m 10 ls [.int ((ur_55.1) 24), .int 12]) (by rfl) ?_
              have q_57 : 0 ≤ ((ur_55.1) 24).toInt := (hpr_55_0 24 (by decide)).2.2.1
              have q_58 : ((ur_55.1) 24).toInt ≤ 12 := (hpr_55_0 24 (by decide)).2.2.2.1
              refine lv_icmp_ge (tgt := 81) hx hb dX10_reads_10 (by decide) (fun c_59 => ?_) (fun c_59 => by exfalso; simp only [lt_I, le_I, eq_I, i_0, i_1, i_2, i_3, i_4, i_5, i_6, i_7, i_8, i_10, i_12, i_16, i_20, i_23, i_24, i_31, i_32, i_63, i_64, i_m1, i_9, i_11, i_13, i_25, i_60, i_75, i_79, i_80, i_96, i_100] at c_59; omega)
              simp only [lt_I, le_I, eq_I, i_0, i_1, i_2, i_3, i_4, i_5, i_6, i_7, i_8, i_10, i_12, i_16, i_20, i_23, i_24, i_31, i_32, i_63, i_64, i_m1, i_9, i_11, i_13, i_25, i_60, i_75, i_79, i_80, i_96, i_100] at c_59
              exact W.vret hx hb hr (fun t ht hW => ⟨⟨((ur_45.1), (ur_45.2.1), (ur_45.2.2.1), (ur_55.1), (ur_45.2.2.2.2.1), (ur_45.2.2.2.2.2.1), (ur_45.2.2.2.2.2.2.1), (ur_55.2), ur_45.2.2.2.2.2.2.2), rfl, ⟨hpr_55_0, (by show 0 ≤ ur_45.2.2.2.2.2.2.2.toInt ∧ ur_45.2.2.2.2.2.2.2.toInt ≤ 24; omega), (Or.inr ⟨c_4, x_6, ex_6, x_7, ex_7, ur_8, r_8, hDr_8, hpr_8_0, hpr_8_1, hpr_8_2, hpr_8_3, hpr_8_4, x_12, ex_12, fx_12, x_16, ex_16, fx_16, v_17, hv_17.2, ur_19, hDr_19, hpr_19_0, hpr_19_1, (Or.inr ⟨c_23, x_25, ex_25, x_26, ex_26, ur_27, r_27, hDr_27, hpr_27_0, hpr_27_1, hpr_27_2, hpr_27_3, hpr_27_4, x_31, ex_31, fx_31, x_35, ex_35, fx_35, (Or.inl ⟨c_36, ur_37, hDr_37, hpr_37_0, hpr_37_1, (Or.inr ⟨c_41, x_43, ex_43, x_44, ex_44, ur_45, r_45, hDr_45, hpr_45_0, hpr_45_1, hpr_45_2, hpr_45_3, hpr_45_4, x_49, ex_49, fx_49, x_53, ex_53, fx_53, (Or.inl ⟨c_54, ur_55, hDr_55, hpr_55_0, hpr_55_1, rfl, rfl, rfl⟩)⟩)⟩)⟩)⟩)⟩, (by show MH E h0 rf t0 t1 t2 (uA (uA (uA (uA (uA (uA (uA (uA A 41 (ur_45.1)) 42 (ur_45.2.1)) 43 (ur_45.2.2.1)) 44 (ur_55.1)) 45 (ur_45.2.2.2.2.1)) 46 (ur_45.2.2.2.2.2.1)) 47 (ur_45.2.2.2.2.2.2.1)) 48 (ur_55.2)) cd ur_45.2.2.2.2.2.2.2 t.heap; rw [ht]; exact hM.cge (funext fun j => (cgj j 48 rfl (fun a0 => (cgj j 47 rfl (fun a1 => (cgj j 46 rfl (fun a2 => (cgj j 45 rfl (fun a3 => (cgj j 44 rfl (fun a4 => (cgj j 43 rfl (fun a5 => (cgj j 42 rfl (fun a6 => (cgj j 41 rfl (fun a7 => (by simp only [uA_n a0, uA_n a1, uA_n a2, uA_n a3, uA_n a4, uA_n a5, uA_n a6, uA_n a7])))))))))))))))))))⟩, hS.F ht⟩) hS.2.2 dX10_reads_81
            · simp only [lt_I, le_I, eq_I, i_0, i_1, i_2, i_3, i_4, i_5, i_6, i_7, i_8, i_10, i_12, i_16, i_20, i_23, i_24, i_31, i_32, i_63, i_64, i_m1, i_9, i_11, i_13, i_25, i_60, i_75, i_79, i_80, i_96, i_100] at c_54
              refine lv_iload hx hb dX10_reads_66 (lv_at hl 0 rfl) ?_
              refine lv_goto (tgt := 72) hx hb dX10_reads_68 (by decide) ?_
              refine va_callv (rnV (fun H => MH E h0 rf t0 t1 t2 (uA (uA (uA (uA (uA (uA (uA (uA (uA (uA (uA (uA (uA (uA (uA (uA (uA (uA (uA (uA (uA (uA (uA (uA (uA A 41 (ur_8.1)) 42 (ur_8.2.1)) 43 (ur_8.2.2.1)) 44 (ur_8.2.2.2.1)) 45 (ur_8.2.2.2.2.1)) 46 (ur_8.2.2.2.2.2.1)) 47 (ur_8.2.2.2.2.2.2.1)) 44 (ur_19.1)) 48 (ur_19.2)) 41 (ur_27.1)) 42 (ur_27.2.1)) 43 (ur_27.2.2.1)) 44 (ur_27.2.2.2.1)) 45 (ur_27.2.2.2.2.1)) 46 (ur_27.2.2.2.2.2.1)) 47 (ur_27.2.2.2.2.2.2.1)) 44 (ur_37.1)) 48 (ur_37.2)) 41 (ur_45.1)) 42 (ur_45.2.1)) 43 (ur_45.2.2.1)) 44 (ur_45.2.2.2.1)) 45 (ur_45.2.2.2.2.1)) 46 (ur_45.2.2.2.2.2.1)) 47 (ur_45.2.2.2.2.2.2.1)) cd ur_45.2.2.2.2.2.2.2 H) (As := [.int r_45, .int p0, .int x_53, .int x_49]) (rest := []) ⟨hx, hb, hml, hown, hts⟩ (u_X10_load l E z0 G hGz h0 rf hR t0 t1 t2 (uA (uA (uA (uA (uA (uA (uA (uA (uA (uA (uA (uA (uA (uA (uA (uA (uA (uA (uA (uA (uA (uA (uA (uA (uA A 41 (ur_8.1)) 42 (ur_8.2.1)) 43 (ur_8.2.2.1)) 44 (ur_8.2.2.2.1)) 45 (ur_8.2.2.2.2.1)) 46 (ur_8.2.2.2.2.2.1)) 47 (ur_8.2.2.2.2.2.2.1)) 44 (ur_19.1)) 48 (ur_19.2)) 41 (ur_27.1)) 42 (ur_27.2.1)) 43 (ur_27.2.2.1)) 44 (ur_27.2.2.2.1)) 45 (ur_27.2.2.2.2.1)) 46 (ur_27.2.2.2.2.2.1)) 47 (ur_27.2.2.2.2.2.2.1)) 44 (ur_37.1)) 48 (ur_37.2)) 41 (ur_45.1)) 42 (ur_45.2.1)) 43 (ur_45.2.2.1)) 44 (ur_45.2.2.2.1)) 45 (ur_45.2.2.2.2.1)) 46 (ur_45.2.2.2.2.2.1)) 47 (ur_45.2.2.2.2.2.2.1)) cd ur_45.2.2.2.2.2.2.2 r_45 p0 x_53 x_49 hpr_45_0 (show -1 ≤ r_45.toInt ∧ r_45.toInt ≤ 23 from by first | decide | omega) (show 0 ≤ p0.toInt ∧ p0.toInt ≤ 3 from by first | decide | omega) (show 0 ≤ x_53.toInt ∧ x_53.toInt ≤ 32 from by first | decide | omega) (show 0 ≤ x_49.toInt ∧ x_49.toInt ≤ 4 from by first | decide | omega) (show x_53.toInt + x_49.toInt ≤ 32 from by first | decide | omega)) (cwV 4 hts (gdV ml_X10_203 im_X10_load se_X10_X10_load in_X10 co_X10_load rfl) rfl rfl rfl (by decide +kernel) ⟨Nat.le_of_ble_eq_true rfl, Nat.le_of_ble_eq_true rfl⟩) hM (fun U hU hW => hK.go hW hS hAz hU) (va_recv hK.1 (va_one hM.1) (ci := 10) (q0 := 0) rfl rfl) rfl rfl hl.1 rfl (lv_room (Nat.le_of_ble_eq_true rfl)) dX10_reads_72 ⟨Nat.le_of_ble_eq_true rfl, Nat.le_of_ble_eq_true rfl⟩) hS (fun q _ h => h) (fun q h => h) (fun ur_60 t H locs ht hvm hwr_60 hB hz hk hS => ?_)
              have hM : MH E h0 rf t0 t1 t2 (uA (uA (uA (uA (uA (uA (uA (uA (uA (uA (uA (uA (uA (uA (uA (uA (uA (uA (uA (uA (uA (uA (uA (uA (uA (uA (uA A 41 (ur_8.1)) 42 (ur_8.2.1)) 43 (ur_8.2.2.1)) 44 (ur_8.2.2.2.1)) 45 (ur_8.2.2.2.2.1)) 46 (ur_8.2.2.2.2.2.1)) 47 (ur_8.2.2.2.2.2.2.1)) 44 (ur_19.1)) 48 (ur_19.2)) 41 (ur_27.1)) 42 (ur_27.2.1)) 43 (ur_27.2.2.1)) 44 (ur_27.2.2.2.1)) 45 (ur_27.2.2.2.2.1)) 46 (ur_27.2.2.2.2.2.1)) 47 (ur_27.2.2.2.2.2.2.1)) 44 (ur_37.1)) 48 (ur_37.2)) 41 (ur_45.1)) 42 (ur_45.2.1)) 43 (ur_45.2.2.1)) 44 (ur_45.2.2.2.1)) 45 (ur_45.2.2.2.2.1)) 46 (ur_45.2.2.2.2.2.1)) 47 (ur_45.2.2.2.2.2.2.1)) 44 (ur_60.1)) 48 (ur_60.2)) cd ur_45.2.2.2.2.2.2.2 H := by rw [ht] at hB; exact hB
              have hDr_60 : D_X10_load (uA (uA (uA (uA (uA (uA (uA (uA (uA (uA (uA (uA (uA (uA (uA (uA (uA (uA (uA (uA (uA (uA (uA (uA (uA A 41 (ur_8.1)) 42 (ur_8.2.1)) 43 (ur_8.2.2.1)) 44 (ur_8.2.2.2.1)) 45 (ur_8.2.2.2.2.1)) 46 (ur_8.2.2.2.2.2.1)) 47 (ur_8.2.2.2.2.2.2.1)) 44 (ur_19.1)) 48 (ur_19.2)) 41 (ur_27.1)) 42 (ur_27.2.1)) 43 (ur_27.2.2.1)) 44 (ur_27.2.2.2.1)) 45 (ur_27.2.2.2.2.1)) 46 (ur_27.2.2.2.2.2.1)) 47 (ur_27.2.2.2.2.2.2.1)) 44 (ur_37.1)) 48 (ur_37.2)) 41 (ur_45.1)) 42 (ur_45.2.1)) 43 (ur_45.2.2.1)) 44 (ur_45.2.2.2.1)) 45 (ur_45.2.2.2.2.1)) 46 (ur_45.2.2.2.2.2.1)) 47 (ur_45.2.2.2.2.2.2.1)) cd (ur_45.2.2.2.2.2.2.2) r_45 p0 x_53 x_49 (uA (uA (uA (uA (uA (uA (uA (uA (uA (uA (uA (uA (uA (uA (uA (uA (uA (uA (uA (uA (uA (uA (uA (uA (uA (uA (uA A 41 (ur_8.1)) 42 (ur_8.2.1)) 43 (ur_8.2.2.1)) 44 (ur_8.2.2.2.1)) 45 (ur_8.2.2.2.2.1)) 46 (ur_8.2.2.2.2.2.1)) 47 (ur_8.2.2.2.2.2.2.1)) 44 (ur_19.1)) 48 (ur_19.2)) 41 (ur_27.1)) 42 (ur_27.2.1)) 43 (ur_27.2.2.1)) 44 (ur_27.2.2.2.1)) 45 (ur_27.2.2.2.2.1)) 46 (ur_27.2.2.2.2.2.1)) 47 (ur_27.2.2.2.2.2.2.1)) 44 (ur_37.1)) 48 (ur_37.2)) 41 (ur_45.1)) 42 (ur_45.2.1)) 43 (ur_45.2.2.1)) 44 (ur_45.2.2.2.1)) 45 (ur_45.2.2.2.2.1)) 46 (ur_45.2.2.2.2.2.1)) 47 (ur_45.2.2.2.2.2.2.1)) 44 (ur_60.1)) 48 (ur_60.2)) cd (ur_45.2.2.2.2.2.2.2) := hwr_60.2.2
              have hpr_60_0 : I7 (ur_45.1) (ur_45.2.1) (ur_60.1) (ur_45.2.2.2.2.1) (ur_45.2.2.2.2.2.1) := hwr_60.1
              have hpr_60_1 : ((ur_60.1) 24).toInt = ((ur_45.2.2.2.1) 24).toInt ∧ ((ur_45.2.2.2.2.2.1) 24).toInt = ((ur_45.2.2.2.2.2.1) 24).toInt := hwr_60.2.1
              refine lv_iinc (v := 12) (lv' := [(2, .int 12), (4, .int x_49), (3, .int r_45), (0, .ref h0), (1, .int p0)]) hx hb dX10_reads_75 hl (k := 2) rfl (by decide) (by decide) rfl (fun ls hl => ?_)
              refine lv_goto (tgt := 2) hx hb dX10_reads_78 (by decide) ?_
              refine lv_iload_n hx hb dX10_reads_2 rfl (lv_at hl 0 rfl) ?_
              refine lv_aload_n hx hb dX10_reads_3 rfl (lv_at hl 3 rfl) ?_
              refine va_get (D := DG E) (ci := 10) (v := .ref (rf 44)) (C := RX10) (T := TX10) (N := 49) hx hb hts iw_X10 hown hK.1 (va_one hM.1) 0 rfl rfl 44 (by decide) (hts _ fl_X10_128) (fun _ h9 => h9) rfl dX10_reads_4 ?_
              refine lv_bipush (v := 24) hx hb dX10_reads_7 (by decide) ?_
              have ha_61 : va_at (DG E) vwCl (rf 44, .inl (E.2.2 0, 25, .inl (ur_60.1))) _ := hM.2 44 (by decide) (by decide) (by decide)
              refine va_iald (D := DG E) hx hb hK.1 (va_one ha_61) 0 0 rfl rfl (show vp_in (24) 25 from vp_in_iff.mpr ⟨by decide, by decide⟩) dX10_reads_9 ?_
              refine W.eq (g2 := F0 m 10 ls [.int ((ur_60.1) 24), .int 12]) (by rfl) ?_
              have q_62 : 0 ≤ ((ur_60.1) 24).toInt := (hpr_60_0 24 (by decide)).2.2.1
              have q_63 : ((ur_60.1) 24).toInt ≤ 12 := (hpr_60_0 24 (by decide)).2.2.2.1
              refine lv_icmp_ge (tgt := 81) hx hb dX10_reads_10 (by decide) (fun c_64 => ?_) (fun c_64 => by exfalso; simp only [lt_I, le_I, eq_I, i_0, i_1, i_2, i_3, i_4, i_5, i_6, i_7, i_8, i_10, i_12, i_16, i_20, i_23, i_24, i_31, i_32, i_63, i_64, i_m1, i_9, i_11, i_13, i_25, i_60, i_75, i_79, i_80, i_96, i_100] at c_64; omega)
              simp only [lt_I, le_I, eq_I, i_0, i_1, i_2, i_3, i_4, i_5, i_6, i_7, i_8, i_10, i_12, i_16, i_20, i_23, i_24, i_31, i_32, i_63, i_64, i_m1, i_9, i_11, i_13, i_25, i_60, i_75, i_79, i_80, i_96, i_100] at c_64
              exact W.vret hx hb hr (fun t ht hW => ⟨⟨((ur_45.1), (ur_45.2.1), (ur_45.2.2.1), (ur_60.1), (ur_45.2.2.2.2.1), (ur_45.2.2.2.2.2.1), (ur_45.2.2.2.2.2.2.1), (ur_60.2), ur_45.2.2.2.2.2.2.2), rfl, ⟨hpr_60_0, (by show 0 ≤ ur_45.2.2.2.2.2.2.2.toInt ∧ ur_45.2.2.2.2.2.2.2.toInt ≤ 24; omega), (Or.inr ⟨c_4, x_6, ex_6, x_7, ex_7, ur_8, r_8, hDr_8, hpr_8_0, hpr_8_1, hpr_8_2, hpr_8_3, hpr_8_4, x_12, ex_12, fx_12, x_16, ex_16, fx_16, v_17, hv_17.2, ur_19, hDr_19, hpr_19_0, hpr_19_1, (Or.inr ⟨c_23, x_25, ex_25, x_26, ex_26, ur_27, r_27, hDr_27, hpr_27_0, hpr_27_1, hpr_27_2, hpr_27_3, hpr_27_4, x_31, ex_31, fx_31, x_35, ex_35, fx_35, (Or.inl ⟨c_36, ur_37, hDr_37, hpr_37_0, hpr_37_1, (Or.inr ⟨c_41, x_43, ex_43, x_44, ex_44, ur_45, r_45, hDr_45, hpr_45_0, hpr_45_1, hpr_45_2, hpr_45_3, hpr_45_4, x_49, ex_49, fx_49, x_53, ex_53, fx_53, (Or.inr ⟨c_54, ur_60, hDr_60, hpr_60_0, hpr_60_1, rfl, rfl, rfl⟩)⟩)⟩)⟩)⟩)⟩, (by show MH E h0 rf t0 t1 t2 (uA (uA (uA (uA (uA (uA (uA (uA A 41 (ur_45.1)) 42 (ur_45.2.1)) 43 (ur_45.2.2.1)) 44 (ur_60.1)) 45 (ur_45.2.2.2.2.1)) 46 (ur_45.2.2.2.2.2.1)) 47 (ur_45.2.2.2.2.2.2.1)) 48 (ur_60.2)) cd ur_45.2.2.2.2.2.2.2 t.heap; rw [ht]; exact hM.cge (funext fun j => (cgj j 48 rfl (fun a0 => (cgj j 47 rfl (fun a1 => (cgj j 46 rfl (fun a2 => (cgj j 45 rfl (fun a3 => (cgj j 44 rfl (fun a4 => (cgj j 43 rfl (fun a5 => (cgj j 42 rfl (fun a6 => (cgj j 41 rfl (fun a7 => (by simp only [uA_n a0, uA_n a1, uA_n a2, uA_n a3, uA_n a4, uA_n a5, uA_n a6, uA_n a7])))))))))))))))))))⟩, hS.F ht⟩) hS.2.2 dX10_reads_81
        · simp only [lt_I, le_I, eq_I, i_0, i_1, i_2, i_3, i_4, i_5, i_6, i_7, i_8, i_10, i_12, i_16, i_20, i_23, i_24, i_31, i_32, i_63, i_64, i_m1, i_9, i_11, i_13, i_25, i_60, i_75, i_79, i_80, i_96, i_100] at c_36
          refine lv_iload hx hb dX10_reads_66 (lv_at hl 0 rfl) ?_
          refine lv_goto (tgt := 72) hx hb dX10_reads_68 (by decide) ?_
          refine va_callv (rnV (fun H => MH E h0 rf t0 t1 t2 (uA (uA (uA (uA (uA (uA (uA (uA (uA (uA (uA (uA (uA (uA (uA (uA A 41 (ur_8.1)) 42 (ur_8.2.1)) 43 (ur_8.2.2.1)) 44 (ur_8.2.2.2.1)) 45 (ur_8.2.2.2.2.1)) 46 (ur_8.2.2.2.2.2.1)) 47 (ur_8.2.2.2.2.2.2.1)) 44 (ur_19.1)) 48 (ur_19.2)) 41 (ur_27.1)) 42 (ur_27.2.1)) 43 (ur_27.2.2.1)) 44 (ur_27.2.2.2.1)) 45 (ur_27.2.2.2.2.1)) 46 (ur_27.2.2.2.2.2.1)) 47 (ur_27.2.2.2.2.2.2.1)) cd ur_27.2.2.2.2.2.2.2 H) (As := [.int r_27, .int p0, .int x_35, .int x_31]) (rest := []) ⟨hx, hb, hml, hown, hts⟩ (u_X10_load l E z0 G hGz h0 rf hR t0 t1 t2 (uA (uA (uA (uA (uA (uA (uA (uA (uA (uA (uA (uA (uA (uA (uA (uA A 41 (ur_8.1)) 42 (ur_8.2.1)) 43 (ur_8.2.2.1)) 44 (ur_8.2.2.2.1)) 45 (ur_8.2.2.2.2.1)) 46 (ur_8.2.2.2.2.2.1)) 47 (ur_8.2.2.2.2.2.2.1)) 44 (ur_19.1)) 48 (ur_19.2)) 41 (ur_27.1)) 42 (ur_27.2.1)) 43 (ur_27.2.2.1)) 44 (ur_27.2.2.2.1)) 45 (ur_27.2.2.2.2.1)) 46 (ur_27.2.2.2.2.2.1)) 47 (ur_27.2.2.2.2.2.2.1)) cd ur_27.2.2.2.2.2.2.2 r_27 p0 x_35 x_31 hpr_27_0 (show -1 ≤ r_27.toInt ∧ r_27.toInt ≤ 23 from by first | decide | omega) (show 0 ≤ p0.toInt ∧ p0.toInt ≤ 3 from by first | decide | omega) (show 0 ≤ x_35.toInt ∧ x_35.toInt ≤ 32 from by first | decide | omega) (show 0 ≤ x_31.toInt ∧ x_31.toInt ≤ 4 from by first | decide | omega) (show x_35.toInt + x_31.toInt ≤ 32 from by first | decide | omega)) (cwV 4 hts (gdV ml_X10_203 im_X10_load se_X10_X10_load in_X10 co_X10_load rfl) rfl rfl rfl (by decide +kernel) ⟨Nat.le_of_ble_eq_true rfl, Nat.le_of_ble_eq_true rfl⟩) hM (fun U hU hW => hK.go hW hS hAz hU) (va_recv hK.1 (va_one hM.1) (ci := 10) (q0 := 0) rfl rfl) rfl rfl hl.1 rfl (lv_room (Nat.le_of_ble_eq_true rfl)) dX10_reads_72 ⟨Nat.le_of_ble_eq_true rfl, Nat.le_of_ble_eq_true rfl⟩) hS (fun q _ h => h) (fun q h => h) (fun ur_65 t H locs ht hvm hwr_65 hB hz hk hS => ?_)
          have hM : MH E h0 rf t0 t1 t2 (uA (uA (uA (uA (uA (uA (uA (uA (uA (uA (uA (uA (uA (uA (uA (uA (uA (uA A 41 (ur_8.1)) 42 (ur_8.2.1)) 43 (ur_8.2.2.1)) 44 (ur_8.2.2.2.1)) 45 (ur_8.2.2.2.2.1)) 46 (ur_8.2.2.2.2.2.1)) 47 (ur_8.2.2.2.2.2.2.1)) 44 (ur_19.1)) 48 (ur_19.2)) 41 (ur_27.1)) 42 (ur_27.2.1)) 43 (ur_27.2.2.1)) 44 (ur_27.2.2.2.1)) 45 (ur_27.2.2.2.2.1)) 46 (ur_27.2.2.2.2.2.1)) 47 (ur_27.2.2.2.2.2.2.1)) 44 (ur_65.1)) 48 (ur_65.2)) cd ur_27.2.2.2.2.2.2.2 H := by rw [ht] at hB; exact hB
          have hDr_65 : D_X10_load (uA (uA (uA (uA (uA (uA (uA (uA (uA (uA (uA (uA (uA (uA (uA (uA A 41 (ur_8.1)) 42 (ur_8.2.1)) 43 (ur_8.2.2.1)) 44 (ur_8.2.2.2.1)) 45 (ur_8.2.2.2.2.1)) 46 (ur_8.2.2.2.2.2.1)) 47 (ur_8.2.2.2.2.2.2.1)) 44 (ur_19.1)) 48 (ur_19.2)) 41 (ur_27.1)) 42 (ur_27.2.1)) 43 (ur_27.2.2.1)) 44 (ur_27.2.2.2.1)) 45 (ur_27.2.2.2.2.1)) 46 (ur_27.2.2.2.2.2.1)) 47 (ur_27.2.2.2.2.2.2.1)) cd (ur_27.2.2.2.2.2.2.2) r_27 p0 x_35 x_31 (uA (uA (uA (uA (uA (uA (uA (uA (uA (uA (uA (uA (uA (uA (uA (uA (uA (uA A 41 (ur_8.1)) 42 (ur_8.2.1)) 43 (ur_8.2.2.1)) 44 (ur_8.2.2.2.1)) 45 (ur_8.2.2.2.2.1)) 46 (ur_8.2.2.2.2.2.1)) 47 (ur_8.2.2.2.2.2.2.1)) 44 (ur_19.1)) 48 (ur_19.2)) 41 (ur_27.1)) 42 (ur_27.2.1)) 43 (ur_27.2.2.1)) 44 (ur_27.2.2.2.1)) 45 (ur_27.2.2.2.2.1)) 46 (ur_27.2.2.2.2.2.1)) 47 (ur_27.2.2.2.2.2.2.1)) 44 (ur_65.1)) 48 (ur_65.2)) cd (ur_27.2.2.2.2.2.2.2) := hwr_65.2.2
          have hpr_65_0 : I7 (ur_27.1) (ur_27.2.1) (ur_65.1) (ur_27.2.2.2.2.1) (ur_27.2.2.2.2.2.1) := hwr_65.1
          have hpr_65_1 : ((ur_65.1) 24).toInt = ((ur_27.2.2.2.1) 24).toInt ∧ ((ur_27.2.2.2.2.2.1) 24).toInt = ((ur_27.2.2.2.2.2.1) 24).toInt := hwr_65.2.1
          refine lv_iinc (v := 8) (lv' := [(2, .int 8), (4, .int x_31), (3, .int r_27), (0, .ref h0), (1, .int p0)]) hx hb dX10_reads_75 hl (k := 2) rfl (by decide) (by decide) rfl (fun ls hl => ?_)
          refine lv_goto (tgt := 2) hx hb dX10_reads_78 (by decide) ?_
          refine lv_iload_n hx hb dX10_reads_2 rfl (lv_at hl 0 rfl) ?_
          refine lv_aload_n hx hb dX10_reads_3 rfl (lv_at hl 3 rfl) ?_
          refine va_get (D := DG E) (ci := 10) (v := .ref (rf 44)) (C := RX10) (T := TX10) (N := 49) hx hb hts iw_X10 hown hK.1 (va_one hM.1) 0 rfl rfl 44 (by decide) (hts _ fl_X10_128) (fun _ h9 => h9) rfl dX10_reads_4 ?_
          refine lv_bipush (v := 24) hx hb dX10_reads_7 (by decide) ?_
          have ha_66 : va_at (DG E) vwCl (rf 44, .inl (E.2.2 0, 25, .inl (ur_65.1))) _ := hM.2 44 (by decide) (by decide) (by decide)
          refine va_iald (D := DG E) hx hb hK.1 (va_one ha_66) 0 0 rfl rfl (show vp_in (24) 25 from vp_in_iff.mpr ⟨by decide, by decide⟩) dX10_reads_9 ?_
          refine W.eq (g2 := F0 m 10 ls [.int ((ur_65.1) 24), .int 8]) (by rfl) ?_
          have q_67 : 0 ≤ ((ur_65.1) 24).toInt := (hpr_65_0 24 (by decide)).2.2.1
          have q_68 : ((ur_65.1) 24).toInt ≤ 12 := (hpr_65_0 24 (by decide)).2.2.2.1
          refine lv_icmp_ge (tgt := 81) hx hb dX10_reads_10 (by decide) (fun c_69 => ?_) (fun c_69 => ?_)
          · simp only [lt_I, le_I, eq_I, i_0, i_1, i_2, i_3, i_4, i_5, i_6, i_7, i_8, i_10, i_12, i_16, i_20, i_23, i_24, i_31, i_32, i_63, i_64, i_m1, i_9, i_11, i_13, i_25, i_60, i_75, i_79, i_80, i_96, i_100] at c_69
            exact W.vret hx hb hr (fun t ht hW => ⟨⟨((ur_27.1), (ur_27.2.1), (ur_27.2.2.1), (ur_65.1), (ur_27.2.2.2.2.1), (ur_27.2.2.2.2.2.1), (ur_27.2.2.2.2.2.2.1), (ur_65.2), ur_27.2.2.2.2.2.2.2), rfl, ⟨hpr_65_0, (by show 0 ≤ ur_27.2.2.2.2.2.2.2.toInt ∧ ur_27.2.2.2.2.2.2.2.toInt ≤ 24; omega), (Or.inr ⟨c_4, x_6, ex_6, x_7, ex_7, ur_8, r_8, hDr_8, hpr_8_0, hpr_8_1, hpr_8_2, hpr_8_3, hpr_8_4, x_12, ex_12, fx_12, x_16, ex_16, fx_16, v_17, hv_17.2, ur_19, hDr_19, hpr_19_0, hpr_19_1, (Or.inr ⟨c_23, x_25, ex_25, x_26, ex_26, ur_27, r_27, hDr_27, hpr_27_0, hpr_27_1, hpr_27_2, hpr_27_3, hpr_27_4, x_31, ex_31, fx_31, x_35, ex_35, fx_35, (Or.inr ⟨c_36, ur_65, hDr_65, hpr_65_0, hpr_65_1, (Or.inl ⟨c_69, rfl, rfl, rfl⟩)⟩)⟩)⟩)⟩, (by show MH E h0 rf t0 t1 t2 (uA (uA (uA (uA (uA (uA (uA (uA A 41 (ur_27.1)) 42 (ur_27.2.1)) 43 (ur_27.2.2.1)) 44 (ur_65.1)) 45 (ur_27.2.2.2.2.1)) 46 (ur_27.2.2.2.2.2.1)) 47 (ur_27.2.2.2.2.2.2.1)) 48 (ur_65.2)) cd ur_27.2.2.2.2.2.2.2 t.heap; rw [ht]; exact hM.cge (funext fun j => (cgj j 48 rfl (fun a0 => (cgj j 47 rfl (fun a1 => (cgj j 46 rfl (fun a2 => (cgj j 45 rfl (fun a3 => (cgj j 44 rfl (fun a4 => (cgj j 43 rfl (fun a5 => (cgj j 42 rfl (fun a6 => (cgj j 41 rfl (fun a7 => (by simp only [uA_n a0, uA_n a1, uA_n a2, uA_n a3, uA_n a4, uA_n a5, uA_n a6, uA_n a7])))))))))))))))))))⟩, hS.F ht⟩) hS.2.2 dX10_reads_81
          · simp only [lt_I, le_I, eq_I, i_0, i_1, i_2, i_3, i_4, i_5, i_6, i_7, i_8, i_10, i_12, i_16, i_20, i_23, i_24, i_31, i_32, i_63, i_64, i_m1, i_9, i_11, i_13, i_25, i_60, i_75, i_79, i_80, i_96, i_100] at c_69
            refine lv_aload_n hx hb dX10_reads_13 rfl (lv_at hl 3 rfl) ?_
            refine lv_iload_n hx hb dX10_reads_14 rfl (lv_at hl 4 rfl) ?_
            refine lv_iconst (v := 4) hx hb dX10_reads_15 (by decide) ?_
            refine lv_aload_n hx hb dX10_reads_16 rfl (lv_at hl 3 rfl) ?_
            refine va_get (D := DG E) (ci := 10) (v := .ref (rf 43)) (C := RX10) (T := TX10) (N := 49) hx hb hts iw_X10 hown hK.1 (va_one hM.1) 0 rfl rfl 43 (by decide) (hts _ fl_X10_125) (fun _ h9 => h9) rfl dX10_reads_17 ?_
            refine lv_bipush (v := 24) hx hb dX10_reads_20 (by decide) ?_
            have ha_70 : va_at (DG E) vwCl (rf 43, .inl (E.2.2 0, 25, .inl (ur_27.2.2.1))) _ := hM.2 43 (by decide) (by decide) (by decide)
            refine va_iald (D := DG E) hx hb hK.1 (va_one ha_70) 0 0 rfl rfl (show vp_in (24) 25 from vp_in_iff.mpr ⟨by decide, by decide⟩) dX10_reads_22 ?_
            refine W.eq (g2 := F0 m 23 ls [.int ((ur_27.2.2.1) 24), .int 4, .int p0, .ref h0]) (by rfl) ?_
            refine lv_iload_n hx hb dX10_reads_23 rfl (lv_at hl 0 rfl) ?_
            refine lv_iconst (v := 4) hx hb dX10_reads_24 (by decide) ?_
            refine lv_idiv hx hb dX10_reads_25 (by decide) ?_
            refine W.eq (g2 := F0 m 26 ls [.int 2, .int ((ur_27.2.2.1) 24), .int 4, .int p0, .ref h0]) (by rfl) ?_
            refine lv_iadd hx hb dX10_reads_26 ?_
            refine lv_topi (fun x_71 ex_71 => ?_)
            refine lv_bipush (v := 64) hx hb dX10_reads_27 (by decide) ?_
            refine lv_irem hx hb dX10_reads_29 (by decide) ?_
            refine lv_topi (fun x_72 ex_72 => ?_)
            refine lv_iconst (v := (-1)) hx hb dX10_reads_30 (by decide) ?_
            refine lv_iconst (v := (-1)) hx hb dX10_reads_31 (by decide) ?_
            refine lv_iconst (v := 0) hx hb dX10_reads_32 (by decide) ?_
            refine va_calli (rnV (fun H => MH E h0 rf t0 t1 t2 (uA (uA (uA (uA (uA (uA (uA (uA (uA (uA (uA (uA (uA (uA (uA (uA (uA (uA A 41 (ur_8.1)) 42 (ur_8.2.1)) 43 (ur_8.2.2.1)) 44 (ur_8.2.2.2.1)) 45 (ur_8.2.2.2.2.1)) 46 (ur_8.2.2.2.2.2.1)) 47 (ur_8.2.2.2.2.2.2.1)) 44 (ur_19.1)) 48 (ur_19.2)) 41 (ur_27.1)) 42 (ur_27.2.1)) 43 (ur_27.2.2.1)) 44 (ur_27.2.2.2.1)) 45 (ur_27.2.2.2.2.1)) 46 (ur_27.2.2.2.2.2.1)) 47 (ur_27.2.2.2.2.2.2.1)) 44 (ur_65.1)) 48 (ur_65.2)) cd ur_27.2.2.2.2.2.2.2 H) (As := [.int p0, .int 4, .int x_72, .int (-1), .int (-1), .int 0]) (rest := []) ⟨hx, hb, hml, hown, hts⟩ (u_X10_emit l E z0 G hGz h0 rf hR t0 t1 t2 (uA (uA (uA (uA (uA (uA (uA (uA (uA (uA (uA (uA (uA (uA (uA (uA (uA (uA A 41 (ur_8.1)) 42 (ur_8.2.1)) 43 (ur_8.2.2.1)) 44 (ur_8.2.2.2.1)) 45 (ur_8.2.2.2.2.1)) 46 (ur_8.2.2.2.2.2.1)) 47 (ur_8.2.2.2.2.2.2.1)) 44 (ur_19.1)) 48 (ur_19.2)) 41 (ur_27.1)) 42 (ur_27.2.1)) 43 (ur_27.2.2.1)) 44 (ur_27.2.2.2.1)) 45 (ur_27.2.2.2.2.1)) 46 (ur_27.2.2.2.2.2.1)) 47 (ur_27.2.2.2.2.2.2.1)) 44 (ur_65.1)) 48 (ur_65.2)) cd ur_27.2.2.2.2.2.2.2 p0 4 x_72 (-1) (-1) 0 hpr_65_0 (show 0 ≤ p0.toInt ∧ p0.toInt ≤ 3 from by have := i_m1; have := i_0; have := i_4; first | decide | omega) (show 0 ≤ ur_27.2.2.2.2.2.2.2.toInt ∧ ur_27.2.2.2.2.2.2.2.toInt ≤ 24 from by have := i_m1; have := i_0; have := i_4; first | decide | omega) (show -1 ≤ (-1 : Int32).toInt ∧ (-1 : Int32).toInt ≤ 60 from by have := i_m1; have := i_0; have := i_4; first | decide | omega) (show 0 ≤ (4 : Int32).toInt from by have := i_m1; have := i_0; have := i_4; first | decide | omega) (show (4 : Int32).toInt < 1 ∨ 3 < (4 : Int32).toInt ∨ (0 ≤ (-1 : Int32).toInt ∧ (-1 : Int32).toInt ≤ 5) from by have := i_m1; have := i_0; have := i_4; first | decide | omega)) (cwV 6 hts (gdV ml_X10_199 im_X10_emit se_X10_X10_emit in_X10 co_X10_emit rfl) rfl rfl rfl (by decide +kernel) ⟨Nat.le_of_ble_eq_true rfl, Nat.le_of_ble_eq_true rfl⟩) hM (fun U hU hW => hK.go hW hS hAz hU) (va_recv hK.1 (va_one hM.1) (ci := 10) (q0 := 0) rfl rfl) rfl rfl hl.1 rfl (lv_room (Nat.le_of_ble_eq_true rfl)) dX10_reads_33 ⟨Nat.le_of_ble_eq_true rfl, Nat.le_of_ble_eq_true rfl⟩) hS (fun q _ h => h) (fun q h => h) (fun r_73 ur_73 t H locs ht hvm hwr_73 hB hz hk hS => ?_)
            have hM : MH E h0 rf t0 t1 t2 (uA (uA (uA (uA (uA (uA (uA (uA (uA (uA (uA (uA (uA (uA (uA (uA (uA (uA (uA (uA (uA (uA (uA (uA (uA A 41 (ur_8.1)) 42 (ur_8.2.1)) 43 (ur_8.2.2.1)) 44 (ur_8.2.2.2.1)) 45 (ur_8.2.2.2.2.1)) 46 (ur_8.2.2.2.2.2.1)) 47 (ur_8.2.2.2.2.2.2.1)) 44 (ur_19.1)) 48 (ur_19.2)) 41 (ur_27.1)) 42 (ur_27.2.1)) 43 (ur_27.2.2.1)) 44 (ur_27.2.2.2.1)) 45 (ur_27.2.2.2.2.1)) 46 (ur_27.2.2.2.2.2.1)) 47 (ur_27.2.2.2.2.2.2.1)) 44 (ur_65.1)) 48 (ur_65.2)) 41 (ur_73.1)) 42 (ur_73.2.1)) 43 (ur_73.2.2.1)) 44 (ur_73.2.2.2.1)) 45 (ur_73.2.2.2.2.1)) 46 (ur_73.2.2.2.2.2.1)) 47 (ur_73.2.2.2.2.2.2.1)) cd ur_73.2.2.2.2.2.2.2 H := by rw [ht] at hB; exact hB
            have hDr_73 : D_X10_emit (uA (uA (uA (uA (uA (uA (uA (uA (uA (uA (uA (uA (uA (uA (uA (uA (uA (uA A 41 (ur_8.1)) 42 (ur_8.2.1)) 43 (ur_8.2.2.1)) 44 (ur_8.2.2.2.1)) 45 (ur_8.2.2.2.2.1)) 46 (ur_8.2.2.2.2.2.1)) 47 (ur_8.2.2.2.2.2.2.1)) 44 (ur_19.1)) 48 (ur_19.2)) 41 (ur_27.1)) 42 (ur_27.2.1)) 43 (ur_27.2.2.1)) 44 (ur_27.2.2.2.1)) 45 (ur_27.2.2.2.2.1)) 46 (ur_27.2.2.2.2.2.1)) 47 (ur_27.2.2.2.2.2.2.1)) 44 (ur_65.1)) 48 (ur_65.2)) cd (ur_27.2.2.2.2.2.2.2) p0 (4 : Int32) x_72 (-1 : Int32) (-1 : Int32) (0 : Int32) (uA (uA (uA (uA (uA (uA (uA (uA (uA (uA (uA (uA (uA (uA (uA (uA (uA (uA (uA (uA (uA (uA (uA (uA (uA A 41 (ur_8.1)) 42 (ur_8.2.1)) 43 (ur_8.2.2.1)) 44 (ur_8.2.2.2.1)) 45 (ur_8.2.2.2.2.1)) 46 (ur_8.2.2.2.2.2.1)) 47 (ur_8.2.2.2.2.2.2.1)) 44 (ur_19.1)) 48 (ur_19.2)) 41 (ur_27.1)) 42 (ur_27.2.1)) 43 (ur_27.2.2.1)) 44 (ur_27.2.2.2.1)) 45 (ur_27.2.2.2.2.1)) 46 (ur_27.2.2.2.2.2.1)) 47 (ur_27.2.2.2.2.2.2.1)) 44 (ur_65.1)) 48 (ur_65.2)) 41 (ur_73.1)) 42 (ur_73.2.1)) 43 (ur_73.2.2.1)) 44 (ur_73.2.2.2.1)) 45 (ur_73.2.2.2.2.1)) 46 (ur_73.2.2.2.2.2.1)) 47 (ur_73.2.2.2.2.2.2.1)) cd (ur_73.2.2.2.2.2.2.2) r_73 := hwr_73.2.2.2.2.2
            have hpr_73_0 : I7 (ur_73.1) (ur_73.2.1) (ur_73.2.2.2.1) (ur_73.2.2.2.2.1) (ur_73.2.2.2.2.2.1) := hwr_73.1
            have hpr_73_1 : 0 ≤ ur_73.2.2.2.2.2.2.2.toInt ∧ ur_73.2.2.2.2.2.2.2.toInt ≤ 24 := hwr_73.2.1
            have hpr_73_2 : -1 ≤ r_73.toInt ∧ r_73.toInt ≤ 23 := hwr_73.2.2.1
            have hpr_73_3 : ∀ n : Nat, (n : Int) = r_73.toInt → (ur_73.2.1) n = (4 : Int32) := hwr_73.2.2.2.1
            have hpr_73_4 : ((ur_73.2.2.2.1) 24).toInt = ((ur_65.1) 24).toInt ∧ ((ur_73.2.2.2.2.2.1) 24).toInt = ((ur_27.2.2.2.2.2.1) 24).toInt := hwr_73.2.2.2.2.1
            refine lv_istore_n (lv' := [(3, .int r_73), (2, .int 8), (4, .int x_31), (0, .ref h0), (1, .int p0)]) hx hb dX10_reads_36 rfl hl (by decide) rfl (fun ls hl => ?_)
            refine lv_aload_n hx hb dX10_reads_37 rfl (lv_at hl 3 rfl) ?_
            refine va_get (D := DG E) (ci := 10) (v := .ref (rf 44)) (C := RX10) (T := TX10) (N := 49) hx hb hts iw_X10 hown hK.1 (va_one hM.1) 0 rfl rfl 44 (by decide) (hts _ fl_X10_128) (fun _ h9 => h9) rfl dX10_reads_38 ?_
            refine lv_bipush (v := 24) hx hb dX10_reads_41 (by decide) ?_
            have ha_74 : va_at (DG E) vwCl (rf 44, .inl (E.2.2 0, 25, .inl (ur_73.2.2.2.1))) _ := hM.2 44 (by decide) (by decide) (by decide)
            refine va_iald (D := DG E) hx hb hK.1 (va_one ha_74) 0 0 rfl rfl (show vp_in (24) 25 from vp_in_iff.mpr ⟨by decide, by decide⟩) dX10_reads_43 ?_
            refine W.eq (g2 := F0 m 44 ls [.int ((ur_73.2.2.2.1) 24)]) (by rfl) ?_
            have q_75 : 0 ≤ ((ur_73.2.2.2.1) 24).toInt := (hpr_73_0 24 (by decide)).2.2.1
            have q_76 : ((ur_73.2.2.2.1) 24).toInt ≤ 12 := (hpr_73_0 24 (by decide)).2.2.2.1
            refine lv_iload_n hx hb dX10_reads_44 rfl (lv_at hl 1 rfl) ?_
            refine lv_isub hx hb dX10_reads_45 ?_
            refine lv_topi (fun x_77 ex_77 => ?_)
            have fx_77 : x_77.toInt = ((ur_73.2.2.2.1) 24).toInt - 8 := by have h9 := s_sub (x := ((ur_73.2.2.2.1) 24)) (y := 8) (by rw [i_8]; omega) (by rw [i_8]; omega); rw [i_8] at h9; rw [ex_77]; exact h9
            refine lv_istore (lv' := [(4, .int x_77), (3, .int r_73), (2, .int 8), (0, .ref h0), (1, .int p0)]) hx hb dX10_reads_46 hl (by decide) rfl (fun ls hl => ?_)
            refine lv_aload_n hx hb dX10_reads_48 rfl (lv_at hl 3 rfl) ?_
            refine lv_iload_n hx hb dX10_reads_49 rfl (lv_at hl 1 rfl) ?_
            refine lv_iload_n hx hb dX10_reads_50 rfl (lv_at hl 4 rfl) ?_
            refine lv_aload_n hx hb dX10_reads_51 rfl (lv_at hl 3 rfl) ?_
            refine va_get (D := DG E) (ci := 10) (v := .ref (rf 46)) (C := RX10) (T := TX10) (N := 49) hx hb hts iw_X10 hown hK.1 (va_one hM.1) 0 rfl rfl 46 (by decide) (hts _ fl_X10_134) (fun _ h9 => h9) rfl dX10_reads_52 ?_
            refine lv_bipush (v := 24) hx hb dX10_reads_55 (by decide) ?_
            have ha_78 : va_at (DG E) vwCl (rf 46, .inl (E.2.2 0, 25, .inl (ur_73.2.2.2.2.2.1))) _ := hM.2 46 (by decide) (by decide) (by decide)
            refine va_iald (D := DG E) hx hb hK.1 (va_one ha_78) 0 0 rfl rfl (show vp_in (24) 25 from vp_in_iff.mpr ⟨by decide, by decide⟩) dX10_reads_57 ?_
            refine W.eq (g2 := F0 m 58 ls [.int ((ur_73.2.2.2.2.2.1) 24), .int p0, .int r_73, .ref h0]) (by rfl) ?_
            have q_79 : -1 ≤ ((ur_73.2.2.2.2.2.1) 24).toInt := (hpr_73_0 24 (by decide)).2.2.2.2.2.2.1
            have q_80 : ((ur_73.2.2.2.2.2.1) 24).toInt ≤ 60 := (hpr_73_0 24 (by decide)).2.2.2.2.2.2.2.1
            refine lv_iload_n hx hb dX10_reads_58 rfl (lv_at hl 2 rfl) ?_
            refine lv_iadd hx hb dX10_reads_59 ?_
            refine lv_topi (fun x_81 ex_81 => ?_)
            have fx_81 : x_81.toInt = ((ur_73.2.2.2.2.2.1) 24).toInt + 8 := by have h9 := s_add (x := ((ur_73.2.2.2.2.2.1) 24)) (y := 8) (by rw [i_8]; omega) (by rw [i_8]; omega); rw [i_8] at h9; rw [ex_81]; exact h9
            refine lv_iload hx hb dX10_reads_60 (lv_at hl 0 rfl) ?_
            refine lv_iconst (v := 4) hx hb dX10_reads_62 (by decide) ?_
            refine lv_icmp_ge (tgt := 71) hx hb dX10_reads_63 (by decide) (fun c_82 => ?_) (fun c_82 => ?_)
            · simp only [lt_I, le_I, eq_I, i_0, i_1, i_2, i_3, i_4, i_5, i_6, i_7, i_8, i_10, i_12, i_16, i_20, i_23, i_24, i_31, i_32, i_63, i_64, i_m1, i_9, i_11, i_13, i_25, i_60, i_75, i_79, i_80, i_96, i_100] at c_82
              refine lv_iconst (v := 4) hx hb dX10_reads_71 (by decide) ?_
              refine va_callv (rnV (fun H => MH E h0 rf t0 t1 t2 (uA (uA (uA (uA (uA (uA (uA (uA (uA (uA (uA (uA (uA (uA (uA (uA (uA (uA (uA (uA (uA (uA (uA (uA (uA A 41 (ur_8.1)) 42 (ur_8.2.1)) 43 (ur_8.2.2.1)) 44 (ur_8.2.2.2.1)) 45 (ur_8.2.2.2.2.1)) 46 (ur_8.2.2.2.2.2.1)) 47 (ur_8.2.2.2.2.2.2.1)) 44 (ur_19.1)) 48 (ur_19.2)) 41 (ur_27.1)) 42 (ur_27.2.1)) 43 (ur_27.2.2.1)) 44 (ur_27.2.2.2.1)) 45 (ur_27.2.2.2.2.1)) 46 (ur_27.2.2.2.2.2.1)) 47 (ur_27.2.2.2.2.2.2.1)) 44 (ur_65.1)) 48 (ur_65.2)) 41 (ur_73.1)) 42 (ur_73.2.1)) 43 (ur_73.2.2.1)) 44 (ur_73.2.2.2.1)) 45 (ur_73.2.2.2.2.1)) 46 (ur_73.2.2.2.2.2.1)) 47 (ur_73.2.2.2.2.2.2.1)) cd ur_73.2.2.2.2.2.2.2 H) (As := [.int r_73, .int p0, .int x_81, .int 4]) (rest := []) ⟨hx, hb, hml, hown, hts⟩ (u_X10_load l E z0 G hGz h0 rf hR t0 t1 t2 (uA (uA (uA (uA (uA (uA (uA (uA (uA (uA (uA (uA (uA (uA (uA (uA (uA (uA (uA (uA (uA (uA (uA (uA (uA A 41 (ur_8.1)) 42 (ur_8.2.1)) 43 (ur_8.2.2.1)) 44 (ur_8.2.2.2.1)) 45 (ur_8.2.2.2.2.1)) 46 (ur_8.2.2.2.2.2.1)) 47 (ur_8.2.2.2.2.2.2.1)) 44 (ur_19.1)) 48 (ur_19.2)) 41 (ur_27.1)) 42 (ur_27.2.1)) 43 (ur_27.2.2.1)) 44 (ur_27.2.2.2.1)) 45 (ur_27.2.2.2.2.1)) 46 (ur_27.2.2.2.2.2.1)) 47 (ur_27.2.2.2.2.2.2.1)) 44 (ur_65.1)) 48 (ur_65.2)) 41 (ur_73.1)) 42 (ur_73.2.1)) 43 (ur_73.2.2.1)) 44 (ur_73.2.2.2.1)) 45 (ur_73.2.2.2.2.1)) 46 (ur_73.2.2.2.2.2.1)) 47 (ur_73.2.2.2.2.2.2.1)) cd ur_73.2.2.2.2.2.2.2 r_73 p0 x_81 4 hpr_73_0 (show -1 ≤ r_73.toInt ∧ r_73.toInt ≤ 23 from by have := i_4; first | decide | omega) (show 0 ≤ p0.toInt ∧ p0.toInt ≤ 3 from by have := i_4; first | decide | omega) (show 0 ≤ x_81.toInt ∧ x_81.toInt ≤ 32 from by have := i_4; first | decide | omega) (show 0 ≤ (4 : Int32).toInt ∧ (4 : Int32).toInt ≤ 4 from by have := i_4; first | decide | omega) (show x_81.toInt + (4 : Int32).toInt ≤ 32 from by have := i_4; first | decide | omega)) (cwV 4 hts (gdV ml_X10_203 im_X10_load se_X10_X10_load in_X10 co_X10_load rfl) rfl rfl rfl (by decide +kernel) ⟨Nat.le_of_ble_eq_true rfl, Nat.le_of_ble_eq_true rfl⟩) hM (fun U hU hW => hK.go hW hS hAz hU) (va_recv hK.1 (va_one hM.1) (ci := 10) (q0 := 0) rfl rfl) rfl rfl hl.1 rfl (lv_room (Nat.le_of_ble_eq_true rfl)) dX10_reads_72 ⟨Nat.le_of_ble_eq_true rfl, Nat.le_of_ble_eq_true rfl⟩) hS (fun q _ h => h) (fun q h => h) (fun ur_83 t H locs ht hvm hwr_83 hB hz hk hS => ?_)
              have hM : MH E h0 rf t0 t1 t2 (uA (uA (uA (uA (uA (uA (uA (uA (uA (uA (uA (uA (uA (uA (uA (uA (uA (uA (uA (uA (uA (uA (uA (uA (uA (uA (uA A 41 (ur_8.1)) 42 (ur_8.2.1)) 43 (ur_8.2.2.1)) 44 (ur_8.2.2.2.1)) 45 (ur_8.2.2.2.2.1)) 46 (ur_8.2.2.2.2.2.1)) 47 (ur_8.2.2.2.2.2.2.1)) 44 (ur_19.1)) 48 (ur_19.2)) 41 (ur_27.1)) 42 (ur_27.2.1)) 43 (ur_27.2.2.1)) 44 (ur_27.2.2.2.1)) 45 (ur_27.2.2.2.2.1)) 46 (ur_27.2.2.2.2.2.1)) 47 (ur_27.2.2.2.2.2.2.1)) 44 (ur_65.1)) 48 (ur_65.2)) 41 (ur_73.1)) 42 (ur_73.2.1)) 43 (ur_73.2.2.1)) 44 (ur_73.2.2.2.1)) 45 (ur_73.2.2.2.2.1)) 46 (ur_73.2.2.2.2.2.1)) 47 (ur_73.2.2.2.2.2.2.1)) 44 (ur_83.1)) 48 (ur_83.2)) cd ur_73.2.2.2.2.2.2.2 H := by rw [ht] at hB; exact hB
              have hDr_83 : D_X10_load (uA (uA (uA (uA (uA (uA (uA (uA (uA (uA (uA (uA (uA (uA (uA (uA (uA (uA (uA (uA (uA (uA (uA (uA (uA A 41 (ur_8.1)) 42 (ur_8.2.1)) 43 (ur_8.2.2.1)) 44 (ur_8.2.2.2.1)) 45 (ur_8.2.2.2.2.1)) 46 (ur_8.2.2.2.2.2.1)) 47 (ur_8.2.2.2.2.2.2.1)) 44 (ur_19.1)) 48 (ur_19.2)) 41 (ur_27.1)) 42 (ur_27.2.1)) 43 (ur_27.2.2.1)) 44 (ur_27.2.2.2.1)) 45 (ur_27.2.2.2.2.1)) 46 (ur_27.2.2.2.2.2.1)) 47 (ur_27.2.2.2.2.2.2.1)) 44 (ur_65.1)) 48 (ur_65.2)) 41 (ur_73.1)) 42 (ur_73.2.1)) 43 (ur_73.2.2.1)) 44 (ur_73.2.2.2.1)) 45 (ur_73.2.2.2.2.1)) 46 (ur_73.2.2.2.2.2.1)) 47 (ur_73.2.2.2.2.2.2.1)) cd (ur_73.2.2.2.2.2.2.2) r_73 p0 x_81 (4 : Int32) (uA (uA (uA (uA (uA (uA (uA (uA (uA (uA (uA (uA (uA (uA (uA (uA (uA (uA (uA (uA (uA (uA (uA (uA (uA (uA (uA A 41 (ur_8.1)) 42 (ur_8.2.1)) 43 (ur_8.2.2.1)) 44 (ur_8.2.2.2.1)) 45 (ur_8.2.2.2.2.1)) 46 (ur_8.2.2.2.2.2.1)) 47 (ur_8.2.2.2.2.2.2.1)) 44 (ur_19.1)) 48 (ur_19.2)) 41 (ur_27.1)) 42 (ur_27.2.1)) 43 (ur_27.2.2.1)) 44 (ur_27.2.2.2.1)) 45 (ur_27.2.2.2.2.1)) 46 (ur_27.2.2.2.2.2.1)) 47 (ur_27.2.2.2.2.2.2.1)) 44 (ur_65.1)) 48 (ur_65.2)) 41 (ur_73.1)) 42 (ur_73.2.1)) 43 (ur_73.2.2.1)) 44 (ur_73.2.2.2.1)) 45 (ur_73.2.2.2.2.1)) 46 (ur_73.2.2.2.2.2.1)) 47 (ur_73.2.2.2.2.2.2.1)) 44 (ur_83.1)) 48 (ur_83.2)) cd (ur_73.2.2.2.2.2.2.2) := hwr_83.2.2
              have hpr_83_0 : I7 (ur_73.1) (ur_73.2.1) (ur_83.1) (ur_73.2.2.2.2.1) (ur_73.2.2.2.2.2.1) := hwr_83.1
              have hpr_83_1 : ((ur_83.1) 24).toInt = ((ur_73.2.2.2.1) 24).toInt ∧ ((ur_73.2.2.2.2.2.1) 24).toInt = ((ur_73.2.2.2.2.2.1) 24).toInt := hwr_83.2.1
              refine lv_iinc (v := 12) (lv' := [(2, .int 12), (4, .int x_77), (3, .int r_73), (0, .ref h0), (1, .int p0)]) hx hb dX10_reads_75 hl (k := 2) rfl (by decide) (by decide) rfl (fun ls hl => ?_)
              refine lv_goto (tgt := 2) hx hb dX10_reads_78 (by decide) ?_
              refine lv_iload_n hx hb dX10_reads_2 rfl (lv_at hl 0 rfl) ?_
              refine lv_aload_n hx hb dX10_reads_3 rfl (lv_at hl 3 rfl) ?_
              refine va_get (D := DG E) (ci := 10) (v := .ref (rf 44)) (C := RX10) (T := TX10) (N := 49) hx hb hts iw_X10 hown hK.1 (va_one hM.1) 0 rfl rfl 44 (by decide) (hts _ fl_X10_128) (fun _ h9 => h9) rfl dX10_reads_4 ?_
              refine lv_bipush (v := 24) hx hb dX10_reads_7 (by decide) ?_
              have ha_84 : va_at (DG E) vwCl (rf 44, .inl (E.2.2 0, 25, .inl (ur_83.1))) _ := hM.2 44 (by decide) (by decide) (by decide)
              refine va_iald (D := DG E) hx hb hK.1 (va_one ha_84) 0 0 rfl rfl (show vp_in (24) 25 from vp_in_iff.mpr ⟨by decide, by decide⟩) dX10_reads_9 ?_
              refine W.eq (g2 := F0 m 10 ls [.int ((ur_83.1) 24), .int 12]) (by rfl) ?_
              have q_85 : 0 ≤ ((ur_83.1) 24).toInt := (hpr_83_0 24 (by decide)).2.2.1
              have q_86 : ((ur_83.1) 24).toInt ≤ 12 := (hpr_83_0 24 (by decide)).2.2.2.1
              refine lv_icmp_ge (tgt := 81) hx hb dX10_reads_10 (by decide) (fun c_87 => ?_) (fun c_87 => by exfalso; simp only [lt_I, le_I, eq_I, i_0, i_1, i_2, i_3, i_4, i_5, i_6, i_7, i_8, i_10, i_12, i_16, i_20, i_23, i_24, i_31, i_32, i_63, i_64, i_m1, i_9, i_11, i_13, i_25, i_60, i_75, i_79, i_80, i_96, i_100] at c_87; omega)
              simp only [lt_I, le_I, eq_I, i_0, i_1, i_2, i_3, i_4, i_5, i_6, i_7, i_8, i_10, i_12, i_16, i_20, i_23, i_24, i_31, i_32, i_63, i_64, i_m1, i_9, i_11, i_13, i_25, i_60, i_75, i_79, i_80, i_96, i_100] at c_87
              exact W.vret hx hb hr (fun t ht hW => ⟨⟨((ur_73.1), (ur_73.2.1), (ur_73.2.2.1), (ur_83.1), (ur_73.2.2.2.2.1), (ur_73.2.2.2.2.2.1), (ur_73.2.2.2.2.2.2.1), (ur_83.2), ur_73.2.2.2.2.2.2.2), rfl, ⟨hpr_83_0, (by show 0 ≤ ur_73.2.2.2.2.2.2.2.toInt ∧ ur_73.2.2.2.2.2.2.2.toInt ≤ 24; omega), (Or.inr ⟨c_4, x_6, ex_6, x_7, ex_7, ur_8, r_8, hDr_8, hpr_8_0, hpr_8_1, hpr_8_2, hpr_8_3, hpr_8_4, x_12, ex_12, fx_12, x_16, ex_16, fx_16, v_17, hv_17.2, ur_19, hDr_19, hpr_19_0, hpr_19_1, (Or.inr ⟨c_23, x_25, ex_25, x_26, ex_26, ur_27, r_27, hDr_27, hpr_27_0, hpr_27_1, hpr_27_2, hpr_27_3, hpr_27_4, x_31, ex_31, fx_31, x_35, ex_35, fx_35, (Or.inr ⟨c_36, ur_65, hDr_65, hpr_65_0, hpr_65_1, (Or.inr ⟨c_69, x_71, ex_71, x_72, ex_72, ur_73, r_73, hDr_73, hpr_73_0, hpr_73_1, hpr_73_2, hpr_73_3, hpr_73_4, x_77, ex_77, fx_77, x_81, ex_81, fx_81, (Or.inl ⟨c_82, ur_83, hDr_83, hpr_83_0, hpr_83_1, rfl, rfl, rfl⟩)⟩)⟩)⟩)⟩)⟩, (by show MH E h0 rf t0 t1 t2 (uA (uA (uA (uA (uA (uA (uA (uA A 41 (ur_73.1)) 42 (ur_73.2.1)) 43 (ur_73.2.2.1)) 44 (ur_83.1)) 45 (ur_73.2.2.2.2.1)) 46 (ur_73.2.2.2.2.2.1)) 47 (ur_73.2.2.2.2.2.2.1)) 48 (ur_83.2)) cd ur_73.2.2.2.2.2.2.2 t.heap; rw [ht]; exact hM.cge (funext fun j => (cgj j 48 rfl (fun a0 => (cgj j 47 rfl (fun a1 => (cgj j 46 rfl (fun a2 => (cgj j 45 rfl (fun a3 => (cgj j 44 rfl (fun a4 => (cgj j 43 rfl (fun a5 => (cgj j 42 rfl (fun a6 => (cgj j 41 rfl (fun a7 => (by simp only [uA_n a0, uA_n a1, uA_n a2, uA_n a3, uA_n a4, uA_n a5, uA_n a6, uA_n a7])))))))))))))))))))⟩, hS.F ht⟩) hS.2.2 dX10_reads_81
            · simp only [lt_I, le_I, eq_I, i_0, i_1, i_2, i_3, i_4, i_5, i_6, i_7, i_8, i_10, i_12, i_16, i_20, i_23, i_24, i_31, i_32, i_63, i_64, i_m1, i_9, i_11, i_13, i_25, i_60, i_75, i_79, i_80, i_96, i_100] at c_82
              refine lv_iload hx hb dX10_reads_66 (lv_at hl 0 rfl) ?_
              refine lv_goto (tgt := 72) hx hb dX10_reads_68 (by decide) ?_
              refine va_callv (rnV (fun H => MH E h0 rf t0 t1 t2 (uA (uA (uA (uA (uA (uA (uA (uA (uA (uA (uA (uA (uA (uA (uA (uA (uA (uA (uA (uA (uA (uA (uA (uA (uA A 41 (ur_8.1)) 42 (ur_8.2.1)) 43 (ur_8.2.2.1)) 44 (ur_8.2.2.2.1)) 45 (ur_8.2.2.2.2.1)) 46 (ur_8.2.2.2.2.2.1)) 47 (ur_8.2.2.2.2.2.2.1)) 44 (ur_19.1)) 48 (ur_19.2)) 41 (ur_27.1)) 42 (ur_27.2.1)) 43 (ur_27.2.2.1)) 44 (ur_27.2.2.2.1)) 45 (ur_27.2.2.2.2.1)) 46 (ur_27.2.2.2.2.2.1)) 47 (ur_27.2.2.2.2.2.2.1)) 44 (ur_65.1)) 48 (ur_65.2)) 41 (ur_73.1)) 42 (ur_73.2.1)) 43 (ur_73.2.2.1)) 44 (ur_73.2.2.2.1)) 45 (ur_73.2.2.2.2.1)) 46 (ur_73.2.2.2.2.2.1)) 47 (ur_73.2.2.2.2.2.2.1)) cd ur_73.2.2.2.2.2.2.2 H) (As := [.int r_73, .int p0, .int x_81, .int x_77]) (rest := []) ⟨hx, hb, hml, hown, hts⟩ (u_X10_load l E z0 G hGz h0 rf hR t0 t1 t2 (uA (uA (uA (uA (uA (uA (uA (uA (uA (uA (uA (uA (uA (uA (uA (uA (uA (uA (uA (uA (uA (uA (uA (uA (uA A 41 (ur_8.1)) 42 (ur_8.2.1)) 43 (ur_8.2.2.1)) 44 (ur_8.2.2.2.1)) 45 (ur_8.2.2.2.2.1)) 46 (ur_8.2.2.2.2.2.1)) 47 (ur_8.2.2.2.2.2.2.1)) 44 (ur_19.1)) 48 (ur_19.2)) 41 (ur_27.1)) 42 (ur_27.2.1)) 43 (ur_27.2.2.1)) 44 (ur_27.2.2.2.1)) 45 (ur_27.2.2.2.2.1)) 46 (ur_27.2.2.2.2.2.1)) 47 (ur_27.2.2.2.2.2.2.1)) 44 (ur_65.1)) 48 (ur_65.2)) 41 (ur_73.1)) 42 (ur_73.2.1)) 43 (ur_73.2.2.1)) 44 (ur_73.2.2.2.1)) 45 (ur_73.2.2.2.2.1)) 46 (ur_73.2.2.2.2.2.1)) 47 (ur_73.2.2.2.2.2.2.1)) cd ur_73.2.2.2.2.2.2.2 r_73 p0 x_81 x_77 hpr_73_0 (show -1 ≤ r_73.toInt ∧ r_73.toInt ≤ 23 from by first | decide | omega) (show 0 ≤ p0.toInt ∧ p0.toInt ≤ 3 from by first | decide | omega) (show 0 ≤ x_81.toInt ∧ x_81.toInt ≤ 32 from by first | decide | omega) (show 0 ≤ x_77.toInt ∧ x_77.toInt ≤ 4 from by first | decide | omega) (show x_81.toInt + x_77.toInt ≤ 32 from by first | decide | omega)) (cwV 4 hts (gdV ml_X10_203 im_X10_load se_X10_X10_load in_X10 co_X10_load rfl) rfl rfl rfl (by decide +kernel) ⟨Nat.le_of_ble_eq_true rfl, Nat.le_of_ble_eq_true rfl⟩) hM (fun U hU hW => hK.go hW hS hAz hU) (va_recv hK.1 (va_one hM.1) (ci := 10) (q0 := 0) rfl rfl) rfl rfl hl.1 rfl (lv_room (Nat.le_of_ble_eq_true rfl)) dX10_reads_72 ⟨Nat.le_of_ble_eq_true rfl, Nat.le_of_ble_eq_true rfl⟩) hS (fun q _ h => h) (fun q h => h) (fun ur_88 t H locs ht hvm hwr_88 hB hz hk hS => ?_)
              have hM : MH E h0 rf t0 t1 t2 (uA (uA (uA (uA (uA (uA (uA (uA (uA (uA (uA (uA (uA (uA (uA (uA (uA (uA (uA (uA (uA (uA (uA (uA (uA (uA (uA A 41 (ur_8.1)) 42 (ur_8.2.1)) 43 (ur_8.2.2.1)) 44 (ur_8.2.2.2.1)) 45 (ur_8.2.2.2.2.1)) 46 (ur_8.2.2.2.2.2.1)) 47 (ur_8.2.2.2.2.2.2.1)) 44 (ur_19.1)) 48 (ur_19.2)) 41 (ur_27.1)) 42 (ur_27.2.1)) 43 (ur_27.2.2.1)) 44 (ur_27.2.2.2.1)) 45 (ur_27.2.2.2.2.1)) 46 (ur_27.2.2.2.2.2.1)) 47 (ur_27.2.2.2.2.2.2.1)) 44 (ur_65.1)) 48 (ur_65.2)) 41 (ur_73.1)) 42 (ur_73.2.1)) 43 (ur_73.2.2.1)) 44 (ur_73.2.2.2.1)) 45 (ur_73.2.2.2.2.1)) 46 (ur_73.2.2.2.2.2.1)) 47 (ur_73.2.2.2.2.2.2.1)) 44 (ur_88.1)) 48 (ur_88.2)) cd ur_73.2.2.2.2.2.2.2 H := by rw [ht] at hB; exact hB
              have hDr_88 : D_X10_load (uA (uA (uA (uA (uA (uA (uA (uA (uA (uA (uA (uA (uA (uA (uA (uA (uA (uA (uA (uA (uA (uA (uA (uA (uA A 41 (ur_8.1)) 42 (ur_8.2.1)) 43 (ur_8.2.2.1)) 44 (ur_8.2.2.2.1)) 45 (ur_8.2.2.2.2.1)) 46 (ur_8.2.2.2.2.2.1)) 47 (ur_8.2.2.2.2.2.2.1)) 44 (ur_19.1)) 48 (ur_19.2)) 41 (ur_27.1)) 42 (ur_27.2.1)) 43 (ur_27.2.2.1)) 44 (ur_27.2.2.2.1)) 45 (ur_27.2.2.2.2.1)) 46 (ur_27.2.2.2.2.2.1)) 47 (ur_27.2.2.2.2.2.2.1)) 44 (ur_65.1)) 48 (ur_65.2)) 41 (ur_73.1)) 42 (ur_73.2.1)) 43 (ur_73.2.2.1)) 44 (ur_73.2.2.2.1)) 45 (ur_73.2.2.2.2.1)) 46 (ur_73.2.2.2.2.2.1)) 47 (ur_73.2.2.2.2.2.2.1)) cd (ur_73.2.2.2.2.2.2.2) r_73 p0 x_81 x_77 (uA (uA (uA (uA (uA (uA (uA (uA (uA (uA (uA (uA (uA (uA (uA (uA (uA (uA (uA (uA (uA (uA (uA (uA (uA (uA (uA A 41 (ur_8.1)) 42 (ur_8.2.1)) 43 (ur_8.2.2.1)) 44 (ur_8.2.2.2.1)) 45 (ur_8.2.2.2.2.1)) 46 (ur_8.2.2.2.2.2.1)) 47 (ur_8.2.2.2.2.2.2.1)) 44 (ur_19.1)) 48 (ur_19.2)) 41 (ur_27.1)) 42 (ur_27.2.1)) 43 (ur_27.2.2.1)) 44 (ur_27.2.2.2.1)) 45 (ur_27.2.2.2.2.1)) 46 (ur_27.2.2.2.2.2.1)) 47 (ur_27.2.2.2.2.2.2.1)) 44 (ur_65.1)) 48 (ur_65.2)) 41 (ur_73.1)) 42 (ur_73.2.1)) 43 (ur_73.2.2.1)) 44 (ur_73.2.2.2.1)) 45 (ur_73.2.2.2.2.1)) 46 (ur_73.2.2.2.2.2.1)) 47 (ur_73.2.2.2.2.2.2.1)) 44 (ur_88.1)) 48 (ur_88.2)) cd (ur_73.2.2.2.2.2.2.2) := hwr_88.2.2
              have hpr_88_0 : I7 (ur_73.1) (ur_73.2.1) (ur_88.1) (ur_73.2.2.2.2.1) (ur_73.2.2.2.2.2.1) := hwr_88.1
              have hpr_88_1 : ((ur_88.1) 24).toInt = ((ur_73.2.2.2.1) 24).toInt ∧ ((ur_73.2.2.2.2.2.1) 24).toInt = ((ur_73.2.2.2.2.2.1) 24).toInt := hwr_88.2.1
              refine lv_iinc (v := 12) (lv' := [(2, .int 12), (4, .int x_77), (3, .int r_73), (0, .ref h0), (1, .int p0)]) hx hb dX10_reads_75 hl (k := 2) rfl (by decide) (by decide) rfl (fun ls hl => ?_)
              refine lv_goto (tgt := 2) hx hb dX10_reads_78 (by decide) ?_
              refine lv_iload_n hx hb dX10_reads_2 rfl (lv_at hl 0 rfl) ?_
              refine lv_aload_n hx hb dX10_reads_3 rfl (lv_at hl 3 rfl) ?_
              refine va_get (D := DG E) (ci := 10) (v := .ref (rf 44)) (C := RX10) (T := TX10) (N := 49) hx hb hts iw_X10 hown hK.1 (va_one hM.1) 0 rfl rfl 44 (by decide) (hts _ fl_X10_128) (fun _ h9 => h9) rfl dX10_reads_4 ?_
              refine lv_bipush (v := 24) hx hb dX10_reads_7 (by decide) ?_
              have ha_89 : va_at (DG E) vwCl (rf 44, .inl (E.2.2 0, 25, .inl (ur_88.1))) _ := hM.2 44 (by decide) (by decide) (by decide)
              refine va_iald (D := DG E) hx hb hK.1 (va_one ha_89) 0 0 rfl rfl (show vp_in (24) 25 from vp_in_iff.mpr ⟨by decide, by decide⟩) dX10_reads_9 ?_
              refine W.eq (g2 := F0 m 10 ls [.int ((ur_88.1) 24), .int 12]) (by rfl) ?_
              have q_90 : 0 ≤ ((ur_88.1) 24).toInt := (hpr_88_0 24 (by decide)).2.2.1
              have q_91 : ((ur_88.1) 24).toInt ≤ 12 := (hpr_88_0 24 (by decide)).2.2.2.1
              refine lv_icmp_ge (tgt := 81) hx hb dX10_reads_10 (by decide) (fun c_92 => ?_) (fun c_92 => by exfalso; simp only [lt_I, le_I, eq_I, i_0, i_1, i_2, i_3, i_4, i_5, i_6, i_7, i_8, i_10, i_12, i_16, i_20, i_23, i_24, i_31, i_32, i_63, i_64, i_m1, i_9, i_11, i_13, i_25, i_60, i_75, i_79, i_80, i_96, i_100] at c_92; omega)
              simp only [lt_I, le_I, eq_I, i_0, i_1, i_2, i_3, i_4, i_5, i_6, i_7, i_8, i_10, i_12, i_16, i_20, i_23, i_24, i_31, i_32, i_63, i_64, i_m1, i_9, i_11, i_13, i_25, i_60, i_75, i_79, i_80, i_96, i_100] at c_92
              exact W.vret hx hb hr (fun t ht hW => ⟨⟨((ur_73.1), (ur_73.2.1), (ur_73.2.2.1), (ur_88.1), (ur_73.2.2.2.2.1), (ur_73.2.2.2.2.2.1), (ur_73.2.2.2.2.2.2.1), (ur_88.2), ur_73.2.2.2.2.2.2.2), rfl, ⟨hpr_88_0, (by show 0 ≤ ur_73.2.2.2.2.2.2.2.toInt ∧ ur_73.2.2.2.2.2.2.2.toInt ≤ 24; omega), (Or.inr ⟨c_4, x_6, ex_6, x_7, ex_7, ur_8, r_8, hDr_8, hpr_8_0, hpr_8_1, hpr_8_2, hpr_8_3, hpr_8_4, x_12, ex_12, fx_12, x_16, ex_16, fx_16, v_17, hv_17.2, ur_19, hDr_19, hpr_19_0, hpr_19_1, (Or.inr ⟨c_23, x_25, ex_25, x_26, ex_26, ur_27, r_27, hDr_27, hpr_27_0, hpr_27_1, hpr_27_2, hpr_27_3, hpr_27_4, x_31, ex_31, fx_31, x_35, ex_35, fx_35, (Or.inr ⟨c_36, ur_65, hDr_65, hpr_65_0, hpr_65_1, (Or.inr ⟨c_69, x_71, ex_71, x_72, ex_72, ur_73, r_73, hDr_73, hpr_73_0, hpr_73_1, hpr_73_2, hpr_73_3, hpr_73_4, x_77, ex_77, fx_77, x_81, ex_81, fx_81, (Or.inr ⟨c_82, ur_88, hDr_88, hpr_88_0, hpr_88_1, rfl, rfl, rfl⟩)⟩)⟩)⟩)⟩)⟩, (by show MH E h0 rf t0 t1 t2 (uA (uA (uA (uA (uA (uA (uA (uA A 41 (ur_73.1)) 42 (ur_73.2.1)) 43 (ur_73.2.2.1)) 44 (ur_88.1)) 45 (ur_73.2.2.2.2.1)) 46 (ur_73.2.2.2.2.2.1)) 47 (ur_73.2.2.2.2.2.2.1)) 48 (ur_88.2)) cd ur_73.2.2.2.2.2.2.2 t.heap; rw [ht]; exact hM.cge (funext fun j => (cgj j 48 rfl (fun a0 => (cgj j 47 rfl (fun a1 => (cgj j 46 rfl (fun a2 => (cgj j 45 rfl (fun a3 => (cgj j 44 rfl (fun a4 => (cgj j 43 rfl (fun a5 => (cgj j 42 rfl (fun a6 => (cgj j 41 rfl (fun a7 => (by simp only [uA_n a0, uA_n a1, uA_n a2, uA_n a3, uA_n a4, uA_n a5, uA_n a6, uA_n a7])))))))))))))))))))⟩, hS.F ht⟩) hS.2.2 dX10_reads_81
    · refine lv_icmp_ge (tgt := 71) hx hb dX10_reads_63 (by decide) (fun c_18 => ?_) (fun c_18 => ?_)
      · simp only [lt_I, le_I, eq_I, i_0, i_1, i_2, i_3, i_4, i_5, i_6, i_7, i_8, i_10, i_12, i_16, i_20, i_23, i_24, i_31, i_32, i_63, i_64, i_m1, i_9, i_11, i_13, i_25, i_60, i_75, i_79, i_80, i_96, i_100] at c_18
        refine lv_iconst (v := 4) hx hb dX10_reads_71 (by decide) ?_
        exact key_17 4 ⟨(by have := i_4; first | decide | omega), (Or.inl ⟨c_18, rfl⟩)⟩
      · simp only [lt_I, le_I, eq_I, i_0, i_1, i_2, i_3, i_4, i_5, i_6, i_7, i_8, i_10, i_12, i_16, i_20, i_23, i_24, i_31, i_32, i_63, i_64, i_m1, i_9, i_11, i_13, i_25, i_60, i_75, i_79, i_80, i_96, i_100] at c_18
        refine lv_iload hx hb dX10_reads_66 (lv_at hl 0 rfl) ?_
        refine lv_goto (tgt := 72) hx hb dX10_reads_68 (by decide) ?_
        exact key_17 x_12 ⟨(by first | decide | omega), (Or.inr ⟨c_18, rfl⟩)⟩
theorem dX10_drop_0 : decode cX10_drop 0 = .ok (.aload_n 0, 1) := by decide +kernel
theorem dX10_drop_1 : decode cX10_drop 1 = .ok (.dup, 1) := by decide +kernel
theorem dX10_drop_2 : decode cX10_drop 2 = .ok (.getfield 164, 3) := by decide +kernel
theorem dX10_drop_5 : decode cX10_drop 5 = .ok (.iconst 1, 1) := by decide +kernel
theorem dX10_drop_6 : decode cX10_drop 6 = .ok (.isub, 1) := by decide +kernel
theorem dX10_drop_7 : decode cX10_drop 7 = .ok (.putfield 164, 3) := by decide +kernel
theorem dX10_drop_10 : decode cX10_drop 10 = .ok (.iload_n 1, 1) := by decide +kernel
theorem dX10_drop_11 : decode cX10_drop 11 = .ok (.istore_n 2, 1) := by decide +kernel
theorem dX10_drop_12 : decode cX10_drop 12 = .ok (.iload_n 2, 1) := by decide +kernel
theorem dX10_drop_13 : decode cX10_drop 13 = .ok (.aload_n 0, 1) := by decide +kernel
theorem dX10_drop_14 : decode cX10_drop 14 = .ok (.getfield 164, 3) := by decide +kernel
theorem dX10_drop_17 : decode cX10_drop 17 = .ok (.if_icmp .ge 17, 3) := by decide +kernel
theorem dX10_drop_20 : decode cX10_drop 20 = .ok (.aload_n 0, 1) := by decide +kernel
theorem dX10_drop_21 : decode cX10_drop 21 = .ok (.iload_n 2, 1) := by decide +kernel
theorem dX10_drop_22 : decode cX10_drop 22 = .ok (.iconst 1, 1) := by decide +kernel
theorem dX10_drop_23 : decode cX10_drop 23 = .ok (.iadd, 1) := by decide +kernel
theorem dX10_drop_24 : decode cX10_drop 24 = .ok (.iload_n 2, 1) := by decide +kernel
theorem dX10_drop_25 : decode cX10_drop 25 = .ok (.invokevirtual 170, 3) := by decide +kernel
theorem dX10_drop_28 : decode cX10_drop 28 = .ok (.iinc 2 1, 3) := by decide +kernel
theorem dX10_drop_31 : decode cX10_drop 31 = .ok (.goto (-19), 3) := by decide +kernel
theorem dX10_drop_34 : decode cX10_drop 34 = .ok (.return_, 1) := by decide +kernel
set_option maxHeartbeats 8000000 in
set_option maxRecDepth 100000 in
theorem u_X10_drop (l : Launch) (E : EE) (z0 : Nat) (G : Nat → Nat) (hGz : ∀ q, G q ≠ 0 → z0 ≤ q) (h0 : Nat) (rf : Nat → Nat) (hR : MG G h0 rf) (t0 t1 t2 : Int32) (A : AA) (cd pk : Int32) (p0 : Int32) (hI7 : I7 (A 41) (A 42) (A 44) (A 45) (A 46)) (hy0 : 0 ≤ p0.toInt ∧ p0.toInt ≤ 23) (hy1 : 0 ≤ pk.toInt ∧ pk.toInt ≤ 24) (hy2 : p0.toInt < pk.toInt) : Met l yX10_drop [Cond.code yX10_drop cX10_drop 3 none] ({ frames := 1, cells := 0, slots := 0, locals := 23 } : Room) (va_Pc [.ref h0, .int p0] (fun U => MH E h0 rf t0 t1 t2 A cd pk U.heap ∧ KS E z0 U)) (va_Qv (fun (u : (Nat → Int32) × (Nat → Int32) × (Nat → Int32) × (Nat → Int32) × (Nat → Int32) × (Nat → Int32) × (Nat → Int32) × (Nat → Int32) × Int32) => (I7 (u.1) (u.2.1) (u.2.2.2.1) (u.2.2.2.2.1) (u.2.2.2.2.2.1)) ∧ (0 ≤ (u.2.2.2.2.2.2.2.2).toInt ∧ (u.2.2.2.2.2.2.2.2).toInt ≤ 24) ∧ (D_X10_drop A cd pk p0 (uA (uA (uA (uA (uA (uA (uA (uA A 41 (u.1)) 42 (u.2.1)) 43 (u.2.2.1)) 44 (u.2.2.2.1)) 45 (u.2.2.2.2.1)) 46 (u.2.2.2.2.2.1)) 47 (u.2.2.2.2.2.2.1)) 48 (u.2.2.2.2.2.2.2.1)) cd (u.2.2.2.2.2.2.2.2))) (fun u t => MH E h0 rf t0 t1 t2 (uA (uA (uA (uA (uA (uA (uA (uA A 41 (u.1)) 42 (u.2.1)) 43 (u.2.2.1)) 44 (u.2.2.2.1)) 45 (u.2.2.2.2.1)) 46 (u.2.2.2.2.2.1)) 47 (u.2.2.2.2.2.2.1)) 48 (u.2.2.2.2.2.2.2.1)) cd (u.2.2.2.2.2.2.2.2) t.heap) (fun q : Nat => G q ≠ 0)) 0 0 (fun q : Nat => G q ≠ 0) := by
  refine Met.ofW (cc := cX10_drop) (maxL := 3) (ret := none) (by decide) rfl ?_
  intro p e s m args below meth c s₁ B hml hv
  obtain ⟨rfl, hM, hK⟩ := hv
  have hx := B.exec
  have hb := B.bytes
  have hr := B.returns
  have hts : ∀ w ∈ TS, w.before ([.ref h0, .int p0] : List Value).toArray s = true := fun w hw => hK.2.1 w hw _
  have hown : s.vm.findClass RX10 = some m.cls := findClass_of_methodNamed B.named
  have hlocks := B.notSynchronized
  have hS : va_S (fun q : Nat => G q ≠ 0) s.heap s.heap [] := va_S.rf
  have hAz : ∀ q, (fun q : Nat => G q ≠ 0) q → z0 ≤ q := hGz
  have hl := lv_entry ([.ref h0, .int p0]) (n := 3) (Nat.le_of_ble_eq_true rfl)
  rw [lg_entry_eq]
  generalize (lg_sl ([.ref h0, .int p0]) ++ List.replicate (3 - (lg_sl ([.ref h0, .int p0])).length) Slot.unset).toArray = ls at hl ⊢
  have hl : lv_has ls 3 [(0, .ref h0), (1, .int p0)] := hl
  obtain ⟨n_1, hn_1, en_1⟩ := s_nat (x := p0) (by omega)
  refine lv_aload_n hx hb dX10_drop_0 rfl (lv_at hl 0 rfl) ?_
  refine lv_dup hx hb dX10_drop_1 rfl ?_
  refine va_get (D := DG E) (ci := 10) (v := .int pk) (C := RX10) (T := TX10) (N := 49) hx hb hts iw_X10 hown hK.1 (va_one hM.1) 0 rfl rfl 40 (by decide) (hts _ fl_X10_164) (fun _ h9 => h9) rfl dX10_drop_2 ?_
  refine lv_iconst (v := 1) hx hb dX10_drop_5 (by decide) ?_
  refine lv_isub hx hb dX10_drop_6 ?_
  refine lv_topi (fun x_2 ex_2 => ?_)
  have fx_2 : x_2.toInt = pk.toInt - 1 := by have h9 := s_sub (x := pk) (y := 1) (by rw [i_1]; omega) (by rw [i_1]; omega); rw [i_1] at h9; rw [ex_2]; exact h9
  refine rr_put (D := DG E) (ci := 10) (v := .int x_2) (ty := .int) (C := RX10) (T := TX10) (N := 49) hx hb hts iw_X10 tyX10 tyX10_ok nmX10 hown hK.1 hM.1 hS (by show G h0 ≠ 0; rw [hR.1]; decide) rfl 40 (by decide) (hts _ fl_X10_164) (fun _ h9 => h9) rfl (by decide +kernel) rfl rfl (Nat.le_of_ble_eq_true rfl) dX10_drop_7 (fun H locs hn ho hz hS => ?_)
  rw [mfs_set40] at hn
  have hM : MH E h0 rf t0 t1 t2 A cd x_2 H := hM.sc hR hn ho
  refine lv_iload_n hx hb dX10_drop_10 rfl (lv_at hl 1 rfl) ?_
  refine lv_istore_n (lv' := [(2, .int p0), (0, .ref h0), (1, .int p0)]) hx hb dX10_drop_11 rfl hl (by decide) rfl (fun ls hl => ?_)
  have hX_4 : ∃ b : Nat, (b : Int) = p0.toInt ∧ n_1 < b + 1 ∧ Sh (A 41) (A 41) n_1 b ∧ Sh (A 42) (A 42) n_1 b ∧ Sh (A 43) (A 43) n_1 b ∧ Sh (A 44) (A 44) n_1 b ∧ Sh (A 45) (A 45) n_1 b ∧ Sh (A 46) (A 46) n_1 b ∧ Sh (A 47) (A 47) n_1 b ∧ Sh4 (A 48) (A 48) n_1 b := ⟨n_1, by omega, by omega, Sh.z, Sh.z, Sh.z, Sh.z, Sh.z, Sh.z, Sh.z, Sh4.z⟩
  refine lp_nat (fun n H locs ls => ∃ (ix_3 : Int32) (u_3 : (Nat → Int32) × (Nat → Int32) × (Nat → Int32) × (Nat → Int32) × (Nat → Int32) × (Nat → Int32) × (Nat → Int32) × (Nat → Int32)), (0 ≤ ix_3.toInt ∧ ix_3.toInt ≤ x_2.toInt) ∧ (x_2.toInt + 1 - ix_3.toInt).toNat = n ∧ MH E h0 rf t0 t1 t2 (uA (uA (uA (uA (uA (uA (uA (uA A 41 (u_3.1)) 42 (u_3.2.1)) 43 (u_3.2.2.1)) 44 (u_3.2.2.2.1)) 45 (u_3.2.2.2.2.1)) 46 (u_3.2.2.2.2.2.1)) 47 (u_3.2.2.2.2.2.2.1)) 48 (u_3.2.2.2.2.2.2.2)) cd x_2 H ∧ (I7 (u_3.1) (u_3.2.1) (u_3.2.2.2.1) (u_3.2.2.2.2.1) (u_3.2.2.2.2.2.1)) ∧ (∃ b : Nat, (b : Int) = ix_3.toInt ∧ n_1 < b + 1 ∧ Sh (A 41) (u_3.1) n_1 b ∧ Sh (A 42) (u_3.2.1) n_1 b ∧ Sh (A 43) (u_3.2.2.1) n_1 b ∧ Sh (A 44) (u_3.2.2.2.1) n_1 b ∧ Sh (A 45) (u_3.2.2.2.2.1) n_1 b ∧ Sh (A 46) (u_3.2.2.2.2.2.1) n_1 b ∧ Sh (A 47) (u_3.2.2.2.2.2.2.1) n_1 b ∧ Sh4 (A 48) (u_3.2.2.2.2.2.2.2) n_1 b) ∧ va_S (fun q : Nat => G q ≠ 0) s.heap H locs ∧ lv_has ls 3 [(2, .int ix_3), (0, .ref h0), (1, .int p0)]) (fun n_3 H locs ls ih_3 hI => ?_) ⟨p0, ((A 41), (A 42), (A 43), (A 44), (A 45), (A 46), (A 47), (A 48)), (by first | omega | decide), rfl, (by show MH E h0 rf t0 t1 t2 (uA (uA (uA (uA (uA (uA (uA (uA A 41 (A 41)) 42 (A 42)) 43 (A 43)) 44 (A 44)) 45 (A 45)) 46 (A 46)) 47 (A 47)) 48 (A 48)) cd x_2 _; exact hM.cge (funext fun j => (cgj j 48 rfl (fun a0 => (cgj j 47 rfl (fun a1 => (cgj j 46 rfl (fun a2 => (cgj j 45 rfl (fun a3 => (cgj j 44 rfl (fun a4 => (cgj j 43 rfl (fun a5 => (cgj j 42 rfl (fun a6 => (cgj j 41 rfl (fun a7 => (by simp only [uA_n a0, uA_n a1, uA_n a2, uA_n a3, uA_n a4, uA_n a5, uA_n a6, uA_n a7]))))))))))))))))))), hI7, hX_4, hS, hl⟩
  obtain ⟨ix_3, u_3, hb_3, hn_3, hM, hI7_3, hx_3, hS, hl⟩ := hI
  refine lv_iload_n hx hb dX10_drop_12 rfl (lv_at hl 0 rfl) ?_
  refine lv_aload_n hx hb dX10_drop_13 rfl (lv_at hl 1 rfl) ?_
  refine va_get (D := DG E) (ci := 10) (v := .int x_2) (C := RX10) (T := TX10) (N := 49) hx hb hts iw_X10 hown hK.1 (va_one hM.1) 0 rfl rfl 40 (by decide) (hts _ fl_X10_164) (fun _ h9 => h9) rfl dX10_drop_14 ?_
  refine lv_icmp_ge (tgt := 34) hx hb dX10_drop_17 (by decide) (fun c_5 => ?_) (fun c_5 => ?_)
  · simp only [lt_I, le_I, eq_I, i_0, i_1, i_2, i_3, i_4, i_5, i_6, i_7, i_8, i_10, i_12, i_16, i_20, i_23, i_24, i_31, i_32, i_63, i_64, i_m1, i_9, i_11, i_13, i_25, i_60, i_75, i_79, i_80, i_96, i_100] at c_5
    exact W.vret hx hb hr (fun t ht hW => ⟨⟨((u_3.1), (u_3.2.1), (u_3.2.2.1), (u_3.2.2.2.1), (u_3.2.2.2.2.1), (u_3.2.2.2.2.2.1), (u_3.2.2.2.2.2.2.1), (u_3.2.2.2.2.2.2.2), x_2), rfl, ⟨hI7_3, (by show 0 ≤ x_2.toInt ∧ x_2.toInt ≤ 24; omega), ⟨n_1, hn_1, x_2, ex_2, fx_2, ix_3, u_3, hb_3, hI7_3, hx_3, c_5, rfl, rfl, rfl⟩⟩, (by show MH E h0 rf t0 t1 t2 (uA (uA (uA (uA (uA (uA (uA (uA A 41 (u_3.1)) 42 (u_3.2.1)) 43 (u_3.2.2.1)) 44 (u_3.2.2.2.1)) 45 (u_3.2.2.2.2.1)) 46 (u_3.2.2.2.2.2.1)) 47 (u_3.2.2.2.2.2.2.1)) 48 (u_3.2.2.2.2.2.2.2)) cd x_2 t.heap; rw [ht]; exact hM)⟩, hS.F ht⟩) hS.2.2 dX10_drop_34
  · simp only [lt_I, le_I, eq_I, i_0, i_1, i_2, i_3, i_4, i_5, i_6, i_7, i_8, i_10, i_12, i_16, i_20, i_23, i_24, i_31, i_32, i_63, i_64, i_m1, i_9, i_11, i_13, i_25, i_60, i_75, i_79, i_80, i_96, i_100] at c_5
    refine lv_aload_n hx hb dX10_drop_20 rfl (lv_at hl 1 rfl) ?_
    refine lv_iload_n hx hb dX10_drop_21 rfl (lv_at hl 0 rfl) ?_
    refine lv_iconst (v := 1) hx hb dX10_drop_22 (by decide) ?_
    refine lv_iadd hx hb dX10_drop_23 ?_
    refine lv_topi (fun x_6 ex_6 => ?_)
    have fx_6 : x_6.toInt = ix_3.toInt + 1 := by have h9 := s_add (x := ix_3) (y := 1) (by rw [i_1]; omega) (by rw [i_1]; omega); rw [i_1] at h9; rw [ex_6]; exact h9
    refine lv_iload_n hx hb dX10_drop_24 rfl (lv_at hl 0 rfl) ?_
    refine va_callv (rnV (fun H => MH E h0 rf t0 t1 t2 (uA (uA (uA (uA (uA (uA (uA (uA A 41 (u_3.1)) 42 (u_3.2.1)) 43 (u_3.2.2.1)) 44 (u_3.2.2.2.1)) 45 (u_3.2.2.2.2.1)) 46 (u_3.2.2.2.2.2.1)) 47 (u_3.2.2.2.2.2.2.1)) 48 (u_3.2.2.2.2.2.2.2)) cd x_2 H) (As := [.int x_6, .int ix_3]) (rest := []) ⟨hx, hb, hml, hown, hts⟩ (u_X10_move1 l E z0 G hGz h0 rf hR t0 t1 t2 (uA (uA (uA (uA (uA (uA (uA (uA A 41 (u_3.1)) 42 (u_3.2.1)) 43 (u_3.2.2.1)) 44 (u_3.2.2.2.1)) 45 (u_3.2.2.2.2.1)) 46 (u_3.2.2.2.2.2.1)) 47 (u_3.2.2.2.2.2.2.1)) 48 (u_3.2.2.2.2.2.2.2)) cd x_2 x_6 ix_3 hI7_3 (show 0 ≤ x_6.toInt ∧ x_6.toInt ≤ 24 from by first | decide | omega) (show 0 ≤ ix_3.toInt ∧ ix_3.toInt ≤ 24 from by first | decide | omega)) (cwV 2 hts (gdV ml_X10_170 im_X10_move1 se_X10_X10_move1 in_X10 co_X10_move1 rfl) rfl rfl rfl (by decide +kernel) ⟨Nat.le_of_ble_eq_true rfl, Nat.le_of_ble_eq_true rfl⟩) hM (fun U hU hW => hK.go hW hS hAz hU) (va_recv hK.1 (va_one hM.1) (ci := 10) (q0 := 0) rfl rfl) rfl rfl hl.1 rfl (lv_room (Nat.le_of_ble_eq_true rfl)) dX10_drop_25 ⟨Nat.le_of_ble_eq_true rfl, Nat.le_of_ble_eq_true rfl⟩) hS (fun q _ h => h) (fun q h => h) (fun ur_7 t H locs ht hvm hwr_7 hB hz hk hS => ?_)
    have hM : MH E h0 rf t0 t1 t2 (uA (uA (uA (uA (uA (uA (uA (uA (uA (uA (uA (uA (uA (uA (uA (uA A 41 (u_3.1)) 42 (u_3.2.1)) 43 (u_3.2.2.1)) 44 (u_3.2.2.2.1)) 45 (u_3.2.2.2.2.1)) 46 (u_3.2.2.2.2.2.1)) 47 (u_3.2.2.2.2.2.2.1)) 48 (u_3.2.2.2.2.2.2.2)) 41 (ur_7.1)) 42 (ur_7.2.1)) 43 (ur_7.2.2.1)) 44 (ur_7.2.2.2.1)) 45 (ur_7.2.2.2.2.1)) 46 (ur_7.2.2.2.2.2.1)) 47 (ur_7.2.2.2.2.2.2.1)) 48 (ur_7.2.2.2.2.2.2.2)) cd x_2 H := by rw [ht] at hB; exact hB
    have hDr_7 : D_X10_move1 (uA (uA (uA (uA (uA (uA (uA (uA A 41 (u_3.1)) 42 (u_3.2.1)) 43 (u_3.2.2.1)) 44 (u_3.2.2.2.1)) 45 (u_3.2.2.2.2.1)) 46 (u_3.2.2.2.2.2.1)) 47 (u_3.2.2.2.2.2.2.1)) 48 (u_3.2.2.2.2.2.2.2)) cd x_2 x_6 ix_3 (uA (uA (uA (uA (uA (uA (uA (uA (uA (uA (uA (uA (uA (uA (uA (uA A 41 (u_3.1)) 42 (u_3.2.1)) 43 (u_3.2.2.1)) 44 (u_3.2.2.2.1)) 45 (u_3.2.2.2.2.1)) 46 (u_3.2.2.2.2.2.1)) 47 (u_3.2.2.2.2.2.2.1)) 48 (u_3.2.2.2.2.2.2.2)) 41 (ur_7.1)) 42 (ur_7.2.1)) 43 (ur_7.2.2.1)) 44 (ur_7.2.2.2.1)) 45 (ur_7.2.2.2.2.1)) 46 (ur_7.2.2.2.2.2.1)) 47 (ur_7.2.2.2.2.2.2.1)) 48 (ur_7.2.2.2.2.2.2.2)) cd x_2 := hwr_7.2
    have hpr_7_0 : I7 (ur_7.1) (ur_7.2.1) (ur_7.2.2.2.1) (ur_7.2.2.2.2.1) (ur_7.2.2.2.2.2.1) := hwr_7.1
    obtain ⟨x_8, ex_8⟩ : ∃ z : Int32, ix_3 + Int32.ofInt 1 = z := ⟨_, rfl⟩
    have fx_8 : x_8.toInt = ix_3.toInt + 1 := by have h9 := s_add (x := ix_3) (y := 1) (by rw [i_1]; omega) (by rw [i_1]; omega); rw [i_1] at h9; rw [← ex_8]; exact h9
    refine lv_iinc (v := x_8) (lv' := [(2, .int x_8), (0, .ref h0), (1, .int p0)]) hx hb dX10_drop_28 hl (k := 0) rfl ex_8 (by decide) rfl (fun ls hl => ?_)
    refine lv_goto (tgt := 12) hx hb dX10_drop_31 (by decide) ?_
    obtain ⟨b9, hb9, hn9, t41, t42, t43, t44, t45, t46, t47, t48⟩ := hx_3
    obtain ⟨m41, m42, m43, m44, m45, m46, m47, m48⟩ := mv1 hDr_7 (n0 := b9 + 1) (n1 := b9) (by omega) (by omega) (by omega)
    have hX_9 : ∃ b : Nat, (b : Int) = x_8.toInt ∧ n_1 < b + 1 ∧ Sh (A 41) (ur_7.1) n_1 b ∧ Sh (A 42) (ur_7.2.1) n_1 b ∧ Sh (A 43) (ur_7.2.2.1) n_1 b ∧ Sh (A 44) (ur_7.2.2.2.1) n_1 b ∧ Sh (A 45) (ur_7.2.2.2.2.1) n_1 b ∧ Sh (A 46) (ur_7.2.2.2.2.2.1) n_1 b ∧ Sh (A 47) (ur_7.2.2.2.2.2.2.1) n_1 b ∧ Sh4 (A 48) (ur_7.2.2.2.2.2.2.2) n_1 b := ⟨b9 + 1, by omega, by omega, t41.u (by omega) m41, t42.u (by omega) m42, t43.u (by omega) m43, t44.u (by omega) m44, t45.u (by omega) m45, t46.u (by omega) m46, t47.u (by omega) m47, t48.u (by omega) m48⟩
    exact ih_3 _ (by omega) _ _ _ ⟨x_8, ((ur_7.1), (ur_7.2.1), (ur_7.2.2.1), (ur_7.2.2.2.1), (ur_7.2.2.2.2.1), (ur_7.2.2.2.2.2.1), (ur_7.2.2.2.2.2.2.1), (ur_7.2.2.2.2.2.2.2)), (by first | omega | decide), rfl, (by show MH E h0 rf t0 t1 t2 (uA (uA (uA (uA (uA (uA (uA (uA A 41 (ur_7.1)) 42 (ur_7.2.1)) 43 (ur_7.2.2.1)) 44 (ur_7.2.2.2.1)) 45 (ur_7.2.2.2.2.1)) 46 (ur_7.2.2.2.2.2.1)) 47 (ur_7.2.2.2.2.2.2.1)) 48 (ur_7.2.2.2.2.2.2.2)) cd x_2 _; exact hM.cge (funext fun j => (cgj j 48 rfl (fun a0 => (cgj j 47 rfl (fun a1 => (cgj j 46 rfl (fun a2 => (cgj j 45 rfl (fun a3 => (cgj j 44 rfl (fun a4 => (cgj j 43 rfl (fun a5 => (cgj j 42 rfl (fun a6 => (cgj j 41 rfl (fun a7 => (by simp only [uA_n a0, uA_n a1, uA_n a2, uA_n a3, uA_n a4, uA_n a5, uA_n a6, uA_n a7]))))))))))))))))))), hpr_7_0, hX_9, hS, hl⟩
end
section
theorem dX10_numbersOf_0 : decode cX10_numbersOf 0 = .ok (.aload_n 0, 1) := by decide +kernel
theorem dX10_numbersOf_1 : decode cX10_numbersOf 1 = .ok (.getfield 71, 3) := by decide +kernel
theorem dX10_numbersOf_4 : decode cX10_numbersOf 4 = .ok (.iload_n 1, 1) := by decide +kernel
theorem dX10_numbersOf_5 : decode cX10_numbersOf 5 = .ok (.iaload, 1) := by decide +kernel
theorem dX10_numbersOf_6 : decode cX10_numbersOf 6 = .ok (.iconst 3, 1) := by decide +kernel
theorem dX10_numbersOf_7 : decode cX10_numbersOf 7 = .ok (.iadd, 1) := by decide +kernel
theorem dX10_numbersOf_8 : decode cX10_numbersOf 8 = .ok (.iconst 4, 1) := by decide +kernel
theorem dX10_numbersOf_9 : decode cX10_numbersOf 9 = .ok (.idiv, 1) := by decide +kernel
theorem dX10_numbersOf_10 : decode cX10_numbersOf 10 = .ok (.ireturn, 1) := by decide +kernel
set_option maxHeartbeats 8000000 in
set_option maxRecDepth 100000 in
theorem u_X10_numbersOf (l : Launch) (E : EE) (z0 : Nat) (G : Nat → Nat) (hGz : ∀ q, G q ≠ 0 → z0 ≤ q) (h0 : Nat) (rf : Nat → Nat) (hR : MG G h0 rf) (t0 t1 t2 : Int32) (A : AA) (cd pk : Int32) (p0 : Int32) (hI6 : I6 (A 22) (A 23) (A 24) (A 25) (A 26)) (hy0 : 0 ≤ p0.toInt ∧ p0.toInt ≤ 15) : Met l yX10_numbersOf [Cond.code yX10_numbersOf cX10_numbersOf 2 (some .int)] ({ frames := 0, cells := 0, slots := 0, locals := 0 } : Room) (va_Pc [.ref h0, .int p0] (fun U => MH E h0 rf t0 t1 t2 A cd pk U.heap ∧ KS E z0 U)) (va_Qi (fun (r : Int32) (u : Unit) => (0 ≤ r.toInt ∧ r.toInt ≤ 3) ∧ (∀ n : Nat, (n : Int) = p0.toInt → r.toInt = NB (A 24) n) ∧ (D_X10_numbersOf A cd pk p0 r)) (fun u t => True) (fun _ : Nat => False)) 0 0 (fun _ : Nat => False) := by
  refine Met.ofW (cc := cX10_numbersOf) (maxL := 2) (ret := (some .int)) (by decide) rfl ?_
  intro p e s m args below meth c s₁ B hml hv
  obtain ⟨rfl, hM, hK⟩ := hv
  have hx := B.exec
  have hb := B.bytes
  have hr := B.returns
  have hts : ∀ w ∈ TS, w.before ([.ref h0, .int p0] : List Value).toArray s = true := fun w hw => hK.2.1 w hw _
  have hown : s.vm.findClass RX10 = some m.cls := findClass_of_methodNamed B.named
  have hlocks := B.notSynchronized
  have hS : va_S (fun _ : Nat => False) s.heap s.heap [] := va_S.rf
  have hAz : ∀ q, (fun _ : Nat => False) q → z0 ≤ q := fun _ h => h.elim
  have hl := lv_entry ([.ref h0, .int p0]) (n := 2) (Nat.le_of_ble_eq_true rfl)
  rw [lg_entry_eq]
  generalize (lg_sl ([.ref h0, .int p0]) ++ List.replicate (2 - (lg_sl ([.ref h0, .int p0])).length) Slot.unset).toArray = ls at hl ⊢
  have hl : lv_has ls 2 [(0, .ref h0), (1, .int p0)] := hl
  refine lv_aload_n hx hb dX10_numbersOf_0 rfl (lv_at hl 0 rfl) ?_
  refine va_get (D := DG E) (ci := 10) (v := .ref (rf 24)) (C := RX10) (T := TX10) (N := 49) hx hb hts iw_X10 hown hK.1 (va_one hM.1) 0 rfl rfl 24 (by decide) (hts _ fl_X10_71) (fun _ h9 => h9) rfl dX10_numbersOf_1 ?_
  refine lv_iload_n hx hb dX10_numbersOf_4 rfl (lv_at hl 1 rfl) ?_
  have hi_1 : vp_in p0 16 := vp_in_iff.mpr (by omega)
  have ha_2 : va_at (DG E) vwCl (rf 24, .inl (E.2.2 0, 16, .inl (A 24))) _ := hM.2 24 (by decide) (by decide) (by decide)
  obtain ⟨n_3, hn_3, en_3⟩ := s_nat (x := p0) (by omega)
  refine va_iald (D := DG E) hx hb hK.1 (va_one ha_2) 0 0 rfl rfl hi_1 dX10_numbersOf_5 ?_
  refine W.eq (g2 := F0 m 6 ls [.int ((A 24) n_3)]) (by rw [en_3]) ?_
  have hk_4 : n_3 < 16 := by omega
  have q_5 : 0 ≤ ((A 24) n_3).toInt := (hI6 n_3 hk_4).2.2.2.1
  have q_6 : ((A 24) n_3).toInt ≤ 12 := (hI6 n_3 hk_4).2.2.2.2.1
  have q_7 : ((A 23) n_3).toInt + ((A 24) n_3).toInt ≤ 32 := (hI6 n_3 hk_4).2.2.2.2.2.1
  refine lv_iconst (v := 3) hx hb dX10_numbersOf_6 (by decide) ?_
  refine lv_iadd hx hb dX10_numbersOf_7 ?_
  refine lv_topi (fun x_8 ex_8 => ?_)
  have fx_8 : x_8.toInt = ((A 24) n_3).toInt + 3 := by have h9 := s_add (x := ((A 24) n_3)) (y := 3) (by rw [i_3]; omega) (by rw [i_3]; omega); rw [i_3] at h9; rw [ex_8]; exact h9
  refine lv_iconst (v := 4) hx hb dX10_numbersOf_8 (by decide) ?_
  refine lv_idiv hx hb dX10_numbersOf_9 (by decide) ?_
  refine lv_topi (fun x_9 ex_9 => ?_)
  have fx_9 : x_9.toInt = x_8.toInt / 4 := by have h9 := s_div (x := x_8) 4 (by decide) (by decide) (by omega); rw [ex_9]; exact h9
  exact W.iret (v := x_9) hx hb hr (fun t ht hW => ⟨⟨x_9, (), rfl, ⟨(by show 0 ≤ x_9.toInt ∧ x_9.toInt ≤ 3; omega), (show ∀ n : Nat, (n : Int) = p0.toInt → x_9.toInt = NB (A 24) n from (fun n hn => by
        obtain rfl : n_3 = n := by omega
        unfold NB; omega)), ⟨n_3, hn_3, x_8, ex_8, fx_8, x_9, ex_9, fx_9, rfl⟩⟩, trivial⟩, hS.F ht⟩) hS.2.2 dX10_numbersOf_10
theorem dX10_hasCells_0 : decode cX10_hasCells 0 = .ok (.aload_n 0, 1) := by decide +kernel
theorem dX10_hasCells_1 : decode cX10_hasCells 1 = .ok (.getfield 65, 3) := by decide +kernel
theorem dX10_hasCells_4 : decode cX10_hasCells 4 = .ok (.iload_n 1, 1) := by decide +kernel
theorem dX10_hasCells_5 : decode cX10_hasCells 5 = .ok (.iaload, 1) := by decide +kernel
theorem dX10_hasCells_6 : decode cX10_hasCells 6 = .ok (.iconst 2, 1) := by decide +kernel
theorem dX10_hasCells_7 : decode cX10_hasCells 7 = .ok (.if_icmp .lt 7, 3) := by decide +kernel
theorem dX10_hasCells_10 : decode cX10_hasCells 10 = .ok (.iconst 1, 1) := by decide +kernel
theorem dX10_hasCells_11 : decode cX10_hasCells 11 = .ok (.goto 4, 3) := by decide +kernel
theorem dX10_hasCells_14 : decode cX10_hasCells 14 = .ok (.iconst 0, 1) := by decide +kernel
theorem dX10_hasCells_15 : decode cX10_hasCells 15 = .ok (.ireturn, 1) := by decide +kernel
set_option maxHeartbeats 8000000 in
set_option maxRecDepth 100000 in
theorem u_X10_hasCells (l : Launch) (E : EE) (z0 : Nat) (G : Nat → Nat) (hGz : ∀ q, G q ≠ 0 → z0 ≤ q) (h0 : Nat) (rf : Nat → Nat) (hR : MG G h0 rf) (t0 t1 t2 : Int32) (A : AA) (cd pk : Int32) (p0 : Int32) (hI6 : I6 (A 22) (A 23) (A 24) (A 25) (A 26)) (hy0 : 0 ≤ p0.toInt ∧ p0.toInt ≤ 15) : Met l yX10_hasCells [Cond.code yX10_hasCells cX10_hasCells 2 (some .boolean)] ({ frames := 0, cells := 0, slots := 0, locals := 0 } : Room) (va_Pc [.ref h0, .int p0] (fun U => MH E h0 rf t0 t1 t2 A cd pk U.heap ∧ KS E z0 U)) (va_Qi (fun (r : Int32) (u : Unit) => (r = 0 ∨ r = 1) ∧ (D_X10_hasCells A cd pk p0 r)) (fun u t => True) (fun _ : Nat => False)) 0 0 (fun _ : Nat => False) := by
  refine Met.ofW (cc := cX10_hasCells) (maxL := 2) (ret := (some .boolean)) (by decide) rfl ?_
  intro p e s m args below meth c s₁ B hml hv
  obtain ⟨rfl, hM, hK⟩ := hv
  have hx := B.exec
  have hb := B.bytes
  have hr := B.returns
  have hts : ∀ w ∈ TS, w.before ([.ref h0, .int p0] : List Value).toArray s = true := fun w hw => hK.2.1 w hw _
  have hown : s.vm.findClass RX10 = some m.cls := findClass_of_methodNamed B.named
  have hlocks := B.notSynchronized
  have hS : va_S (fun _ : Nat => False) s.heap s.heap [] := va_S.rf
  have hAz : ∀ q, (fun _ : Nat => False) q → z0 ≤ q := fun _ h => h.elim
  have hl := lv_entry ([.ref h0, .int p0]) (n := 2) (Nat.le_of_ble_eq_true rfl)
  rw [lg_entry_eq]
  generalize (lg_sl ([.ref h0, .int p0]) ++ List.replicate (2 - (lg_sl ([.ref h0, .int p0])).length) Slot.unset).toArray = ls at hl ⊢
  have hl : lv_has ls 2 [(0, .ref h0), (1, .int p0)] := hl
  refine lv_aload_n hx hb dX10_hasCells_0 rfl (lv_at hl 0 rfl) ?_
  refine va_get (D := DG E) (ci := 10) (v := .ref (rf 22)) (C := RX10) (T := TX10) (N := 49) hx hb hts iw_X10 hown hK.1 (va_one hM.1) 0 rfl rfl 22 (by decide) (hts _ fl_X10_65) (fun _ h9 => h9) rfl dX10_hasCells_1 ?_
  refine lv_iload_n hx hb dX10_hasCells_4 rfl (lv_at hl 1 rfl) ?_
  have hi_1 : vp_in p0 16 := vp_in_iff.mpr (by omega)
  have ha_2 : va_at (DG E) vwCl (rf 22, .inl (E.2.2 0, 16, .inl (A 22))) _ := hM.2 22 (by decide) (by decide) (by decide)
  obtain ⟨n_3, hn_3, en_3⟩ := s_nat (x := p0) (by omega)
  refine va_iald (D := DG E) hx hb hK.1 (va_one ha_2) 0 0 rfl rfl hi_1 dX10_hasCells_5 ?_
  refine W.eq (g2 := F0 m 6 ls [.int ((A 22) n_3)]) (by rw [en_3]) ?_
  have hk_4 : n_3 < 16 := by omega
  have q_5 : 0 ≤ ((A 22) n_3).toInt := (hI6 n_3 hk_4).1
  have q_6 : ((A 22) n_3).toInt ≤ 3 := (hI6 n_3 hk_4).2.1
  refine lv_iconst (v := 2) hx hb dX10_hasCells_6 (by decide) ?_
  refine lv_icmp_lt (tgt := 14) hx hb dX10_hasCells_7 (by decide) (fun c_7 => ?_) (fun c_7 => ?_)
  · simp only [lt_I, le_I, eq_I, i_0, i_1, i_2, i_3, i_4, i_5, i_6, i_7, i_8, i_10, i_12, i_16, i_20, i_23, i_24, i_31, i_32, i_63, i_64, i_m1, i_9, i_11, i_13, i_25, i_60, i_75, i_79, i_80, i_96, i_100] at c_7
    refine lv_iconst (v := 0) hx hb dX10_hasCells_14 (by decide) ?_
    exact W.zret (v := 0) (ty := .boolean) hx hb hr rfl (fun t ht hW => ⟨⟨0, (), rfl, ⟨(by decide), (Or.inl ⟨n_3, hn_3, c_7, rfl⟩)⟩, trivial⟩, hS.F ht⟩) hS.2.2 dX10_hasCells_15
  · simp only [lt_I, le_I, eq_I, i_0, i_1, i_2, i_3, i_4, i_5, i_6, i_7, i_8, i_10, i_12, i_16, i_20, i_23, i_24, i_31, i_32, i_63, i_64, i_m1, i_9, i_11, i_13, i_25, i_60, i_75, i_79, i_80, i_96, i_100] at c_7
    refine lv_iconst (v := 1) hx hb dX10_hasCells_10 (by decide) ?_
    refine lv_goto (tgt := 15) hx hb dX10_hasCells_11 (by decide) ?_
    exact W.zret (v := 1) (ty := .boolean) hx hb hr rfl (fun t ht hW => ⟨⟨1, (), rfl, ⟨(by decide), (Or.inr ⟨n_3, hn_3, c_7, rfl⟩)⟩, trivial⟩, hS.F ht⟩) hS.2.2 dX10_hasCells_15
theorem dX10_requestOf_0 : decode cX10_requestOf 0 = .ok (.iconst 4, 1) := by decide +kernel
theorem dX10_requestOf_1 : decode cX10_requestOf 1 = .ok (.iload_n 1, 1) := by decide +kernel
theorem dX10_requestOf_2 : decode cX10_requestOf 2 = .ok (.imul, 1) := by decide +kernel
theorem dX10_requestOf_3 : decode cX10_requestOf 3 = .ok (.istore_n 3, 1) := by decide +kernel
theorem dX10_requestOf_4 : decode cX10_requestOf 4 = .ok (.iload_n 3, 1) := by decide +kernel
theorem dX10_requestOf_5 : decode cX10_requestOf 5 = .ok (.iconst 4, 1) := by decide +kernel
theorem dX10_requestOf_6 : decode cX10_requestOf 6 = .ok (.iload_n 1, 1) := by decide +kernel
theorem dX10_requestOf_7 : decode cX10_requestOf 7 = .ok (.imul, 1) := by decide +kernel
theorem dX10_requestOf_8 : decode cX10_requestOf 8 = .ok (.iconst 3, 1) := by decide +kernel
theorem dX10_requestOf_9 : decode cX10_requestOf 9 = .ok (.iadd, 1) := by decide +kernel
theorem dX10_requestOf_10 : decode cX10_requestOf 10 = .ok (.if_icmp .ge 27, 3) := by decide +kernel
theorem dX10_requestOf_13 : decode cX10_requestOf 13 = .ok (.aload_n 0, 1) := by decide +kernel
theorem dX10_requestOf_14 : decode cX10_requestOf 14 = .ok (.getfield 86, 3) := by decide +kernel
theorem dX10_requestOf_17 : decode cX10_requestOf 17 = .ok (.iload_n 3, 1) := by decide +kernel
theorem dX10_requestOf_18 : decode cX10_requestOf 18 = .ok (.iaload, 1) := by decide +kernel
theorem dX10_requestOf_19 : decode cX10_requestOf 19 = .ok (.iload_n 2, 1) := by decide +kernel
theorem dX10_requestOf_20 : decode cX10_requestOf 20 = .ok (.invokestatic 174, 3) := by decide +kernel
theorem dX10_requestOf_23 : decode cX10_requestOf 23 = .ok (.aload_n 0, 1) := by decide +kernel
theorem dX10_requestOf_24 : decode cX10_requestOf 24 = .ok (.iload_n 3, 1) := by decide +kernel
theorem dX10_requestOf_25 : decode cX10_requestOf 25 = .ok (.invokevirtual 178, 3) := by decide +kernel
theorem dX10_requestOf_28 : decode cX10_requestOf 28 = .ok (.if_icmp .lt 9, 3) := by decide +kernel
theorem dX10_requestOf_31 : decode cX10_requestOf 31 = .ok (.iinc 3 1, 3) := by decide +kernel
theorem dX10_requestOf_34 : decode cX10_requestOf 34 = .ok (.goto (-30), 3) := by decide +kernel
theorem dX10_requestOf_37 : decode cX10_requestOf 37 = .ok (.iload_n 3, 1) := by decide +kernel
theorem dX10_requestOf_38 : decode cX10_requestOf 38 = .ok (.ireturn, 1) := by decide +kernel
set_option maxHeartbeats 8000000 in
set_option maxRecDepth 100000 in
theorem u_X10_requestOf (l : Launch) (E : EE) (z0 : Nat) (G : Nat → Nat) (hGz : ∀ q, G q ≠ 0 → z0 ≤ q) (h0 : Nat) (rf : Nat → Nat) (hR : MG G h0 rf) (t0 t1 t2 : Int32) (A : AA) (cd pk : Int32) (p0 : Int32) (p1 : Int32) (hI6 : I6 (A 22) (A 23) (A 24) (A 25) (A 26)) (hy0 : 0 ≤ p0.toInt ∧ p0.toInt ≤ 3) : Met l yX10_requestOf [Cond.code yX10_requestOf cX10_requestOf 4 (some .int)] ({ frames := 1, cells := 0, slots := 0, locals := 21 } : Room) (va_Pc [.ref h0, .int p0, .int p1] (fun U => MH E h0 rf t0 t1 t2 A cd pk U.heap ∧ KS E z0 U)) (va_Qi (fun (r : Int32) (u : Unit) => (0 ≤ r.toInt ∧ r.toInt ≤ 15) ∧ (∀ n : Nat, (n : Int) = p0.toInt → RO (A 29) (A 24) n p1 r.toInt)) (fun u t => True) (fun _ : Nat => False)) 0 0 (fun _ : Nat => False) := by
  refine Met.ofW (cc := cX10_requestOf) (maxL := 4) (ret := (some .int)) (by decide) rfl ?_
  intro p e s m args below meth c s₁ B hml hv
  obtain ⟨rfl, hM, hK⟩ := hv
  have hx := B.exec
  have hb := B.bytes
  have hr := B.returns
  have hts : ∀ w ∈ TS, w.before ([.ref h0, .int p0, .int p1] : List Value).toArray s = true := fun w hw => hK.2.1 w hw _
  have hown : s.vm.findClass RX10 = some m.cls := findClass_of_methodNamed B.named
  have hlocks := B.notSynchronized
  have hS : va_S (fun _ : Nat => False) s.heap s.heap [] := va_S.rf
  have hAz : ∀ q, (fun _ : Nat => False) q → z0 ≤ q := fun _ h => h.elim
  have hl := lv_entry ([.ref h0, .int p0, .int p1]) (n := 4) (Nat.le_of_ble_eq_true rfl)
  rw [lg_entry_eq]
  generalize (lg_sl ([.ref h0, .int p0, .int p1]) ++ List.replicate (4 - (lg_sl ([.ref h0, .int p0, .int p1])).length) Slot.unset).toArray = ls at hl ⊢
  have hl : lv_has ls 4 [(0, .ref h0), (1, .int p0), (2, .int p1)] := hl
  obtain ⟨n_1, hn_1, en_1⟩ := s_nat (x := p0) (by omega)
  refine lv_iconst (v := 4) hx hb dX10_requestOf_0 (by decide) ?_
  refine lv_iload_n hx hb dX10_requestOf_1 rfl (lv_at hl 1 rfl) ?_
  refine lv_imul hx hb dX10_requestOf_2 ?_
  refine lv_topi (fun x_2 ex_2 => ?_)
  have fx_2 : x_2.toInt = 4 * p0.toInt := by rw [ex_2]; exact s_mulK i_4 (by omega) (by omega)
  refine lv_istore_n (lv' := [(3, .int x_2), (0, .ref h0), (1, .int p0), (2, .int p1)]) hx hb dX10_requestOf_3 rfl hl (by decide) rfl (fun ls hl => ?_)
  refine lv_iload_n hx hb dX10_requestOf_4 rfl (lv_at hl 0 rfl) ?_
  refine lv_iconst (v := 4) hx hb dX10_requestOf_5 (by decide) ?_
  refine lv_iload_n hx hb dX10_requestOf_6 rfl (lv_at hl 2 rfl) ?_
  refine lv_imul hx hb dX10_requestOf_7 ?_
  refine W.eq (g2 := F0 m 8 ls [.int x_2, .int x_2]) (by rw [ex_2]) ?_
  refine lv_iconst (v := 3) hx hb dX10_requestOf_8 (by decide) ?_
  refine lv_iadd hx hb dX10_requestOf_9 ?_
  refine lv_topi (fun x_3 ex_3 => ?_)
  have fx_3 : x_3.toInt = x_2.toInt + 3 := by have h9 := s_add (x := x_2) (y := 3) (by rw [i_3]; omega) (by rw [i_3]; omega); rw [i_3] at h9; rw [ex_3]; exact h9
  refine lv_icmp_ge (tgt := 37) hx hb dX10_requestOf_10 (by decide) (fun c_4 => by exfalso; simp only [lt_I, le_I, eq_I, i_0, i_1, i_2, i_3, i_4, i_5, i_6, i_7, i_8, i_10, i_12, i_16, i_20, i_23, i_24, i_31, i_32, i_63, i_64, i_m1, i_9, i_11, i_13, i_25, i_60, i_75, i_79, i_80, i_96, i_100] at c_4; omega) (fun c_4 => ?_)
  simp only [lt_I, le_I, eq_I, i_0, i_1, i_2, i_3, i_4, i_5, i_6, i_7, i_8, i_10, i_12, i_16, i_20, i_23, i_24, i_31, i_32, i_63, i_64, i_m1, i_9, i_11, i_13, i_25, i_60, i_75, i_79, i_80, i_96, i_100] at c_4
  refine lv_aload_n hx hb dX10_requestOf_13 rfl (lv_at hl 1 rfl) ?_
  refine va_get (D := DG E) (ci := 10) (v := .ref (rf 29)) (C := RX10) (T := TX10) (N := 49) hx hb hts iw_X10 hown hK.1 (va_one hM.1) 0 rfl rfl 29 (by decide) (hts _ fl_X10_86) (fun _ h9 => h9) rfl dX10_requestOf_14 ?_
  refine lv_iload_n hx hb dX10_requestOf_17 rfl (lv_at hl 0 rfl) ?_
  have hi_5 : vp_in x_2 16 := vp_in_iff.mpr (by omega)
  have ha_6 : va_at (DG E) vwCl (rf 29, .inl (E.2.2 0, 16, .inl (A 29))) _ := hM.2 29 (by decide) (by decide) (by decide)
  obtain ⟨n_7, hn_7, en_7⟩ := s_nat (x := x_2) (by omega)
  refine va_iald (D := DG E) hx hb hK.1 (va_one ha_6) 0 0 rfl rfl hi_5 dX10_requestOf_18 ?_
  refine W.eq (g2 := F0 m 19 ls [.int ((A 29) n_7)]) (by rw [en_7]) ?_
  refine lv_iload_n hx hb dX10_requestOf_19 rfl (lv_at hl 3 rfl) ?_
  refine W.callR (W.runS (As := [.int ((A 29) n_7), .int p1]) (rest := []) ⟨hx, hb, hml, hown, hts⟩ (c_X10_far l (((A 29) n_7)) p1) (cwS 2 hts (gdS ml_X10_174 st_X10_far in_X10 co_X10_far rfl) rfl rfl rfl (by decide +kernel) ⟨Nat.le_of_ble_eq_true rfl, Nat.le_of_ble_eq_true rfl⟩) preEq rfl rfl hl.1 rfl (lv_room (Nat.le_of_ble_eq_true rfl)) dX10_requestOf_20 ⟨Nat.le_of_ble_eq_true rfl, Nat.le_of_ble_eq_true rfl⟩) ?_
  refine W.eq (g2 := F0 m 23 ls [.int (((p1 - ((A 29) n_7)) + 64) - ((p1 - ((A 29) n_7)) + 64) / 64 * 64)]) (by rfl) ?_
  refine lv_topi (fun x_8 ex_8 => ?_)
  have kx_8 : x_8.toInt = (farI ((A 29) n_7) p1).toInt := by rw [ex_8]; rfl
  refine lv_aload_n hx hb dX10_requestOf_23 rfl (lv_at hl 1 rfl) ?_
  refine lv_iload_n hx hb dX10_requestOf_24 rfl (lv_at hl 0 rfl) ?_
  refine va_calli (rnV (fun H => MH E h0 rf t0 t1 t2 A cd pk H) (As := [.int x_2]) (rest := [.int x_8]) ⟨hx, hb, hml, hown, hts⟩ (u_X10_numbersOf l E z0 G hGz h0 rf hR t0 t1 t2 A cd pk x_2 hI6 (show 0 ≤ x_2.toInt ∧ x_2.toInt ≤ 15 from by first | decide | omega)) (cwV 1 hts (gdV ml_X10_178 im_X10_numbersOf se_X10_X10_numbersOf in_X10 co_X10_numbersOf rfl) rfl rfl rfl (by decide +kernel) ⟨Nat.le_of_ble_eq_true rfl, Nat.le_of_ble_eq_true rfl⟩) hM (fun U hU hW => hK.go hW hS hAz hU) (va_recv hK.1 (va_one hM.1) (ci := 10) (q0 := 0) rfl rfl) rfl rfl hl.1 rfl (lv_room (Nat.le_of_ble_eq_true rfl)) dX10_requestOf_25 ⟨Nat.le_of_ble_eq_true rfl, Nat.le_of_ble_eq_true rfl⟩) hS (fun q _ h => h.elim) (fun q h => h.elim) (fun r_9 ur_9 t H locs ht hvm hwr_9 hB hz hk hS => ?_)
  have hM := hM.kept (fun q hq => hk q hq (fun h => h))
  have hDr_9 : D_X10_numbersOf A cd pk x_2 r_9 := hwr_9.2.2
  have hpr_9_0 : 0 ≤ r_9.toInt ∧ r_9.toInt ≤ 3 := hwr_9.1
  have hpr_9_1 : ∀ n : Nat, (n : Int) = x_2.toInt → r_9.toInt = NB (A 24) n := hwr_9.2.1
  have iahpr_9_1 := hpr_9_1 n_7 (by omega)
  have ro0 : (r_9.toInt = NB (A 24) n_7) ∧ (x_8.toInt = (farI ((A 29) n_7) p1).toInt) := ⟨iahpr_9_1, kx_8⟩
  refine lv_icmp_lt (tgt := 37) hx hb dX10_requestOf_28 (by decide) (fun c_11 => ?_) (fun c_11 => ?_)
  · simp only [lt_I, le_I, eq_I, i_0, i_1, i_2, i_3, i_4, i_5, i_6, i_7, i_8, i_10, i_12, i_16, i_20, i_23, i_24, i_31, i_32, i_63, i_64, i_m1, i_9, i_11, i_13, i_25, i_60, i_75, i_79, i_80, i_96, i_100] at c_11
    refine lv_iload_n hx hb dX10_requestOf_37 rfl (lv_at hl 0 rfl) ?_
    exact W.iret (v := x_2) hx hb hr (fun t ht hW => ⟨⟨x_2, (), rfl, ⟨(by show 0 ≤ x_2.toInt ∧ x_2.toInt ≤ 15; omega), (show ∀ n : Nat, (n : Int) = p0.toInt → RO (A 29) (A 24) n p1 x_2.toInt from (fun n hn => by
        obtain rfl : n_1 = n := by omega
        refine ⟨0, by decide, by omega, fun j hj => ?_, ?_⟩
        · exact absurd hj (by omega)
        · right; rw [show 4 * n_1 + 0 = n_7 by omega]; omega))⟩, trivial⟩, hS.F ht⟩) hS.2.2 dX10_requestOf_38
  · simp only [lt_I, le_I, eq_I, i_0, i_1, i_2, i_3, i_4, i_5, i_6, i_7, i_8, i_10, i_12, i_16, i_20, i_23, i_24, i_31, i_32, i_63, i_64, i_m1, i_9, i_11, i_13, i_25, i_60, i_75, i_79, i_80, i_96, i_100] at c_11
    obtain ⟨x_12, ex_12⟩ : ∃ z : Int32, x_2 + Int32.ofInt 1 = z := ⟨_, rfl⟩
    have fx_12 : x_12.toInt = x_2.toInt + 1 := by have h9 := s_add (x := x_2) (y := 1) (by rw [i_1]; omega) (by rw [i_1]; omega); rw [i_1] at h9; rw [← ex_12]; exact h9
    refine lv_iinc (v := x_12) (lv' := [(3, .int x_12), (0, .ref h0), (1, .int p0), (2, .int p1)]) hx hb dX10_requestOf_31 hl (k := 0) rfl ex_12 (by decide) rfl (fun ls hl => ?_)
    refine lv_goto (tgt := 4) hx hb dX10_requestOf_34 (by decide) ?_
    refine lv_iload_n hx hb dX10_requestOf_4 rfl (lv_at hl 0 rfl) ?_
    refine lv_iconst (v := 4) hx hb dX10_requestOf_5 (by decide) ?_
    refine lv_iload_n hx hb dX10_requestOf_6 rfl (lv_at hl 2 rfl) ?_
    refine lv_imul hx hb dX10_requestOf_7 ?_
    refine W.eq (g2 := F0 m 8 ls [.int x_2, .int x_12]) (by rw [ex_2]) ?_
    refine lv_iconst (v := 3) hx hb dX10_requestOf_8 (by decide) ?_
    refine lv_iadd hx hb dX10_requestOf_9 ?_
    refine W.eq (g2 := F0 m 10 ls [.int x_3, .int x_12]) (by rw [ex_3]) ?_
    refine lv_icmp_ge (tgt := 37) hx hb dX10_requestOf_10 (by decide) (fun c_13 => by exfalso; simp only [lt_I, le_I, eq_I, i_0, i_1, i_2, i_3, i_4, i_5, i_6, i_7, i_8, i_10, i_12, i_16, i_20, i_23, i_24, i_31, i_32, i_63, i_64, i_m1, i_9, i_11, i_13, i_25, i_60, i_75, i_79, i_80, i_96, i_100] at c_13; omega) (fun c_13 => ?_)
    simp only [lt_I, le_I, eq_I, i_0, i_1, i_2, i_3, i_4, i_5, i_6, i_7, i_8, i_10, i_12, i_16, i_20, i_23, i_24, i_31, i_32, i_63, i_64, i_m1, i_9, i_11, i_13, i_25, i_60, i_75, i_79, i_80, i_96, i_100] at c_13
    refine lv_aload_n hx hb dX10_requestOf_13 rfl (lv_at hl 1 rfl) ?_
    refine va_get (D := DG E) (ci := 10) (v := .ref (rf 29)) (C := RX10) (T := TX10) (N := 49) hx hb hts iw_X10 hown hK.1 (va_one hM.1) 0 rfl rfl 29 (by decide) (hts _ fl_X10_86) (fun _ h9 => h9) rfl dX10_requestOf_14 ?_
    refine lv_iload_n hx hb dX10_requestOf_17 rfl (lv_at hl 0 rfl) ?_
    have hi_14 : vp_in x_12 16 := vp_in_iff.mpr (by omega)
    have ha_15 : va_at (DG E) vwCl (rf 29, .inl (E.2.2 0, 16, .inl (A 29))) _ := hM.2 29 (by decide) (by decide) (by decide)
    obtain ⟨n_16, hn_16, en_16⟩ := s_nat (x := x_12) (by omega)
    refine va_iald (D := DG E) hx hb hK.1 (va_one ha_15) 0 0 rfl rfl hi_14 dX10_requestOf_18 ?_
    refine W.eq (g2 := F0 m 19 ls [.int ((A 29) n_16)]) (by rw [en_16]) ?_
    refine lv_iload_n hx hb dX10_requestOf_19 rfl (lv_at hl 3 rfl) ?_
    refine W.callR (W.runS (As := [.int ((A 29) n_16), .int p1]) (rest := []) ⟨hx, hb, hml, hown, hts⟩ (c_X10_far l (((A 29) n_16)) p1) (cwS 2 hts (gdS ml_X10_174 st_X10_far in_X10 co_X10_far rfl) rfl rfl rfl (by decide +kernel) ⟨Nat.le_of_ble_eq_true rfl, Nat.le_of_ble_eq_true rfl⟩) preEq rfl rfl hl.1 rfl (lv_room (Nat.le_of_ble_eq_true rfl)) dX10_requestOf_20 ⟨Nat.le_of_ble_eq_true rfl, Nat.le_of_ble_eq_true rfl⟩) ?_
    refine W.eq (g2 := F0 m 23 ls [.int (((p1 - ((A 29) n_16)) + 64) - ((p1 - ((A 29) n_16)) + 64) / 64 * 64)]) (by rfl) ?_
    refine lv_topi (fun x_17 ex_17 => ?_)
    have kx_17 : x_17.toInt = (farI ((A 29) n_16) p1).toInt := by rw [ex_17]; rfl
    refine lv_aload_n hx hb dX10_requestOf_23 rfl (lv_at hl 1 rfl) ?_
    refine lv_iload_n hx hb dX10_requestOf_24 rfl (lv_at hl 0 rfl) ?_
    refine va_calli (rnV (fun H => MH E h0 rf t0 t1 t2 A cd pk H) (As := [.int x_12]) (rest := [.int x_17]) ⟨hx, hb, hml, hown, hts⟩ (u_X10_numbersOf l E z0 G hGz h0 rf hR t0 t1 t2 A cd pk x_12 hI6 (show 0 ≤ x_12.toInt ∧ x_12.toInt ≤ 15 from by first | decide | omega)) (cwV 1 hts (gdV ml_X10_178 im_X10_numbersOf se_X10_X10_numbersOf in_X10 co_X10_numbersOf rfl) rfl rfl rfl (by decide +kernel) ⟨Nat.le_of_ble_eq_true rfl, Nat.le_of_ble_eq_true rfl⟩) hM (fun U hU hW => hK.go hW hS hAz hU) (va_recv hK.1 (va_one hM.1) (ci := 10) (q0 := 0) rfl rfl) rfl rfl hl.1 rfl (lv_room (Nat.le_of_ble_eq_true rfl)) dX10_requestOf_25 ⟨Nat.le_of_ble_eq_true rfl, Nat.le_of_ble_eq_true rfl⟩) hS (fun q _ h => h.elim) (fun q h => h.elim) (fun r_18 ur_18 t H locs ht hvm hwr_18 hB hz hk hS => ?_)
    have hM := hM.kept (fun q hq => hk q hq (fun h => h))
    have hDr_18 : D_X10_numbersOf A cd pk x_12 r_18 := hwr_18.2.2
    have hpr_18_0 : 0 ≤ r_18.toInt ∧ r_18.toInt ≤ 3 := hwr_18.1
    have hpr_18_1 : ∀ n : Nat, (n : Int) = x_12.toInt → r_18.toInt = NB (A 24) n := hwr_18.2.1
    have iahpr_18_1 := hpr_18_1 n_16 (by omega)
    have ro1 : (r_18.toInt = NB (A 24) n_16) ∧ (x_17.toInt = (farI ((A 29) n_16) p1).toInt) := ⟨iahpr_18_1, kx_17⟩
    refine lv_icmp_lt (tgt := 37) hx hb dX10_requestOf_28 (by decide) (fun c_20 => ?_) (fun c_20 => ?_)
    · simp only [lt_I, le_I, eq_I, i_0, i_1, i_2, i_3, i_4, i_5, i_6, i_7, i_8, i_10, i_12, i_16, i_20, i_23, i_24, i_31, i_32, i_63, i_64, i_m1, i_9, i_11, i_13, i_25, i_60, i_75, i_79, i_80, i_96, i_100] at c_20
      refine lv_iload_n hx hb dX10_requestOf_37 rfl (lv_at hl 0 rfl) ?_
      exact W.iret (v := x_12) hx hb hr (fun t ht hW => ⟨⟨x_12, (), rfl, ⟨(by show 0 ≤ x_12.toInt ∧ x_12.toInt ≤ 15; omega), (show ∀ n : Nat, (n : Int) = p0.toInt → RO (A 29) (A 24) n p1 x_12.toInt from (fun n hn => by
        obtain rfl : n_1 = n := by omega
        refine ⟨1, by decide, by omega, fun j hj => ?_, ?_⟩
        · rcases (show j = 0 by omega) with rfl
          rw [show 4 * n_1 + 0 = n_7 by omega]; omega
        · right; rw [show 4 * n_1 + 1 = n_16 by omega]; omega))⟩, trivial⟩, hS.F ht⟩) hS.2.2 dX10_requestOf_38
    · simp only [lt_I, le_I, eq_I, i_0, i_1, i_2, i_3, i_4, i_5, i_6, i_7, i_8, i_10, i_12, i_16, i_20, i_23, i_24, i_31, i_32, i_63, i_64, i_m1, i_9, i_11, i_13, i_25, i_60, i_75, i_79, i_80, i_96, i_100] at c_20
      obtain ⟨x_21, ex_21⟩ : ∃ z : Int32, x_12 + Int32.ofInt 1 = z := ⟨_, rfl⟩
      have fx_21 : x_21.toInt = x_12.toInt + 1 := by have h9 := s_add (x := x_12) (y := 1) (by rw [i_1]; omega) (by rw [i_1]; omega); rw [i_1] at h9; rw [← ex_21]; exact h9
      refine lv_iinc (v := x_21) (lv' := [(3, .int x_21), (0, .ref h0), (1, .int p0), (2, .int p1)]) hx hb dX10_requestOf_31 hl (k := 0) rfl ex_21 (by decide) rfl (fun ls hl => ?_)
      refine lv_goto (tgt := 4) hx hb dX10_requestOf_34 (by decide) ?_
      refine lv_iload_n hx hb dX10_requestOf_4 rfl (lv_at hl 0 rfl) ?_
      refine lv_iconst (v := 4) hx hb dX10_requestOf_5 (by decide) ?_
      refine lv_iload_n hx hb dX10_requestOf_6 rfl (lv_at hl 2 rfl) ?_
      refine lv_imul hx hb dX10_requestOf_7 ?_
      refine W.eq (g2 := F0 m 8 ls [.int x_2, .int x_21]) (by rw [ex_2]) ?_
      refine lv_iconst (v := 3) hx hb dX10_requestOf_8 (by decide) ?_
      refine lv_iadd hx hb dX10_requestOf_9 ?_
      refine W.eq (g2 := F0 m 10 ls [.int x_3, .int x_21]) (by rw [ex_3]) ?_
      refine lv_icmp_ge (tgt := 37) hx hb dX10_requestOf_10 (by decide) (fun c_22 => by exfalso; simp only [lt_I, le_I, eq_I, i_0, i_1, i_2, i_3, i_4, i_5, i_6, i_7, i_8, i_10, i_12, i_16, i_20, i_23, i_24, i_31, i_32, i_63, i_64, i_m1, i_9, i_11, i_13, i_25, i_60, i_75, i_79, i_80, i_96, i_100] at c_22; omega) (fun c_22 => ?_)
      simp only [lt_I, le_I, eq_I, i_0, i_1, i_2, i_3, i_4, i_5, i_6, i_7, i_8, i_10, i_12, i_16, i_20, i_23, i_24, i_31, i_32, i_63, i_64, i_m1, i_9, i_11, i_13, i_25, i_60, i_75, i_79, i_80, i_96, i_100] at c_22
      refine lv_aload_n hx hb dX10_requestOf_13 rfl (lv_at hl 1 rfl) ?_
      refine va_get (D := DG E) (ci := 10) (v := .ref (rf 29)) (C := RX10) (T := TX10) (N := 49) hx hb hts iw_X10 hown hK.1 (va_one hM.1) 0 rfl rfl 29 (by decide) (hts _ fl_X10_86) (fun _ h9 => h9) rfl dX10_requestOf_14 ?_
      refine lv_iload_n hx hb dX10_requestOf_17 rfl (lv_at hl 0 rfl) ?_
      have hi_23 : vp_in x_21 16 := vp_in_iff.mpr (by omega)
      have ha_24 : va_at (DG E) vwCl (rf 29, .inl (E.2.2 0, 16, .inl (A 29))) _ := hM.2 29 (by decide) (by decide) (by decide)
      obtain ⟨n_25, hn_25, en_25⟩ := s_nat (x := x_21) (by omega)
      refine va_iald (D := DG E) hx hb hK.1 (va_one ha_24) 0 0 rfl rfl hi_23 dX10_requestOf_18 ?_
      refine W.eq (g2 := F0 m 19 ls [.int ((A 29) n_25)]) (by rw [en_25]) ?_
      refine lv_iload_n hx hb dX10_requestOf_19 rfl (lv_at hl 3 rfl) ?_
      refine W.callR (W.runS (As := [.int ((A 29) n_25), .int p1]) (rest := []) ⟨hx, hb, hml, hown, hts⟩ (c_X10_far l (((A 29) n_25)) p1) (cwS 2 hts (gdS ml_X10_174 st_X10_far in_X10 co_X10_far rfl) rfl rfl rfl (by decide +kernel) ⟨Nat.le_of_ble_eq_true rfl, Nat.le_of_ble_eq_true rfl⟩) preEq rfl rfl hl.1 rfl (lv_room (Nat.le_of_ble_eq_true rfl)) dX10_requestOf_20 ⟨Nat.le_of_ble_eq_true rfl, Nat.le_of_ble_eq_true rfl⟩) ?_
      refine W.eq (g2 := F0 m 23 ls [.int (((p1 - ((A 29) n_25)) + 64) - ((p1 - ((A 29) n_25)) + 64) / 64 * 64)]) (by rfl) ?_
      refine lv_topi (fun x_26 ex_26 => ?_)
      have kx_26 : x_26.toInt = (farI ((A 29) n_25) p1).toInt := by rw [ex_26]; rfl
      refine lv_aload_n hx hb dX10_requestOf_23 rfl (lv_at hl 1 rfl) ?_
      refine lv_iload_n hx hb dX10_requestOf_24 rfl (lv_at hl 0 rfl) ?_
      refine va_calli (rnV (fun H => MH E h0 rf t0 t1 t2 A cd pk H) (As := [.int x_21]) (rest := [.int x_26]) ⟨hx, hb, hml, hown, hts⟩ (u_X10_numbersOf l E z0 G hGz h0 rf hR t0 t1 t2 A cd pk x_21 hI6 (show 0 ≤ x_21.toInt ∧ x_21.toInt ≤ 15 from by first | decide | omega)) (cwV 1 hts (gdV ml_X10_178 im_X10_numbersOf se_X10_X10_numbersOf in_X10 co_X10_numbersOf rfl) rfl rfl rfl (by decide +kernel) ⟨Nat.le_of_ble_eq_true rfl, Nat.le_of_ble_eq_true rfl⟩) hM (fun U hU hW => hK.go hW hS hAz hU) (va_recv hK.1 (va_one hM.1) (ci := 10) (q0 := 0) rfl rfl) rfl rfl hl.1 rfl (lv_room (Nat.le_of_ble_eq_true rfl)) dX10_requestOf_25 ⟨Nat.le_of_ble_eq_true rfl, Nat.le_of_ble_eq_true rfl⟩) hS (fun q _ h => h.elim) (fun q h => h.elim) (fun r_27 ur_27 t H locs ht hvm hwr_27 hB hz hk hS => ?_)
      have hM := hM.kept (fun q hq => hk q hq (fun h => h))
      have hDr_27 : D_X10_numbersOf A cd pk x_21 r_27 := hwr_27.2.2
      have hpr_27_0 : 0 ≤ r_27.toInt ∧ r_27.toInt ≤ 3 := hwr_27.1
      have hpr_27_1 : ∀ n : Nat, (n : Int) = x_21.toInt → r_27.toInt = NB (A 24) n := hwr_27.2.1
      have iahpr_27_1 := hpr_27_1 n_25 (by omega)
      have ro2 : (r_27.toInt = NB (A 24) n_25) ∧ (x_26.toInt = (farI ((A 29) n_25) p1).toInt) := ⟨iahpr_27_1, kx_26⟩
      refine lv_icmp_lt (tgt := 37) hx hb dX10_requestOf_28 (by decide) (fun c_29 => ?_) (fun c_29 => ?_)
      · simp only [lt_I, le_I, eq_I, i_0, i_1, i_2, i_3, i_4, i_5, i_6, i_7, i_8, i_10, i_12, i_16, i_20, i_23, i_24, i_31, i_32, i_63, i_64, i_m1, i_9, i_11, i_13, i_25, i_60, i_75, i_79, i_80, i_96, i_100] at c_29
        refine lv_iload_n hx hb dX10_requestOf_37 rfl (lv_at hl 0 rfl) ?_
        exact W.iret (v := x_21) hx hb hr (fun t ht hW => ⟨⟨x_21, (), rfl, ⟨(by show 0 ≤ x_21.toInt ∧ x_21.toInt ≤ 15; omega), (show ∀ n : Nat, (n : Int) = p0.toInt → RO (A 29) (A 24) n p1 x_21.toInt from (fun n hn => by
        obtain rfl : n_1 = n := by omega
        refine ⟨2, by decide, by omega, fun j hj => ?_, ?_⟩
        · rcases (show j = 0 ∨ j = 1 by omega) with rfl | rfl
          · rw [show 4 * n_1 + 0 = n_7 by omega]; omega
          · rw [show 4 * n_1 + 1 = n_16 by omega]; omega
        · right; rw [show 4 * n_1 + 2 = n_25 by omega]; omega))⟩, trivial⟩, hS.F ht⟩) hS.2.2 dX10_requestOf_38
      · simp only [lt_I, le_I, eq_I, i_0, i_1, i_2, i_3, i_4, i_5, i_6, i_7, i_8, i_10, i_12, i_16, i_20, i_23, i_24, i_31, i_32, i_63, i_64, i_m1, i_9, i_11, i_13, i_25, i_60, i_75, i_79, i_80, i_96, i_100] at c_29
        obtain ⟨x_30, ex_30⟩ : ∃ z : Int32, x_21 + Int32.ofInt 1 = z := ⟨_, rfl⟩
        have fx_30 : x_30.toInt = x_21.toInt + 1 := by have h9 := s_add (x := x_21) (y := 1) (by rw [i_1]; omega) (by rw [i_1]; omega); rw [i_1] at h9; rw [← ex_30]; exact h9
        refine lv_iinc (v := x_30) (lv' := [(3, .int x_30), (0, .ref h0), (1, .int p0), (2, .int p1)]) hx hb dX10_requestOf_31 hl (k := 0) rfl ex_30 (by decide) rfl (fun ls hl => ?_)
        refine lv_goto (tgt := 4) hx hb dX10_requestOf_34 (by decide) ?_
        refine lv_iload_n hx hb dX10_requestOf_4 rfl (lv_at hl 0 rfl) ?_
        refine lv_iconst (v := 4) hx hb dX10_requestOf_5 (by decide) ?_
        refine lv_iload_n hx hb dX10_requestOf_6 rfl (lv_at hl 2 rfl) ?_
        refine lv_imul hx hb dX10_requestOf_7 ?_
        refine W.eq (g2 := F0 m 8 ls [.int x_2, .int x_30]) (by rw [ex_2]) ?_
        refine lv_iconst (v := 3) hx hb dX10_requestOf_8 (by decide) ?_
        refine lv_iadd hx hb dX10_requestOf_9 ?_
        refine W.eq (g2 := F0 m 10 ls [.int x_3, .int x_30]) (by rw [ex_3]) ?_
        refine lv_icmp_ge (tgt := 37) hx hb dX10_requestOf_10 (by decide) (fun c_31 => ?_) (fun c_31 => by exfalso; simp only [lt_I, le_I, eq_I, i_0, i_1, i_2, i_3, i_4, i_5, i_6, i_7, i_8, i_10, i_12, i_16, i_20, i_23, i_24, i_31, i_32, i_63, i_64, i_m1, i_9, i_11, i_13, i_25, i_60, i_75, i_79, i_80, i_96, i_100] at c_31; omega)
        simp only [lt_I, le_I, eq_I, i_0, i_1, i_2, i_3, i_4, i_5, i_6, i_7, i_8, i_10, i_12, i_16, i_20, i_23, i_24, i_31, i_32, i_63, i_64, i_m1, i_9, i_11, i_13, i_25, i_60, i_75, i_79, i_80, i_96, i_100] at c_31
        refine lv_iload_n hx hb dX10_requestOf_37 rfl (lv_at hl 0 rfl) ?_
        exact W.iret (v := x_30) hx hb hr (fun t ht hW => ⟨⟨x_30, (), rfl, ⟨(by show 0 ≤ x_30.toInt ∧ x_30.toInt ≤ 15; omega), (show ∀ n : Nat, (n : Int) = p0.toInt → RO (A 29) (A 24) n p1 x_30.toInt from (fun n hn => by
        obtain rfl : n_1 = n := by omega
        refine ⟨3, by decide, by omega, fun j hj => ?_, ?_⟩
        · rcases (show j = 0 ∨ j = 1 ∨ j = 2 by omega) with rfl | rfl | rfl
          · rw [show 4 * n_1 + 0 = n_7 by omega]; omega
          · rw [show 4 * n_1 + 1 = n_16 by omega]; omega
          · rw [show 4 * n_1 + 2 = n_25 by omega]; omega
        · exact Or.inl rfl))⟩, trivial⟩, hS.F ht⟩) hS.2.2 dX10_requestOf_38
theorem gdX10_post_0 : (decode cX10_post 0 = .ok (.iconst 4, 1)) ∧ (decode cX10_post 1 = .ok (.iload_n 1, 1)) ∧ (decode cX10_post 2 = .ok (.imul, 1)) ∧ (decode cX10_post 3 = .ok (.aload_n 0, 1)) ∧ (decode cX10_post 4 = .ok (.getfield 59, 3)) ∧ (decode cX10_post 7 = .ok (.iload_n 1, 1)) ∧ (decode cX10_post 8 = .ok (.iaload, 1)) ∧ (decode cX10_post 9 = .ok (.iadd, 1)) ∧ (decode cX10_post 10 = .ok (.istore 8, 2)) ∧ (decode cX10_post 12 = .ok (.aload_n 0, 1)) ∧ (decode cX10_post 13 = .ok (.getfield 65, 3)) ∧ (decode cX10_post 16 = .ok (.iload 8, 2)) ∧ (decode cX10_post 18 = .ok (.iload_n 2, 1)) ∧ (decode cX10_post 19 = .ok (.iastore, 1)) ∧ (decode cX10_post 20 = .ok (.aload_n 0, 1)) ∧ (decode cX10_post 21 = .ok (.getfield 68, 3)) := by decide +kernel
theorem dX10_post_0 : decode cX10_post 0 = .ok (.iconst 4, 1) := gdX10_post_0.1
theorem dX10_post_1 : decode cX10_post 1 = .ok (.iload_n 1, 1) := gdX10_post_0.2.1
theorem dX10_post_2 : decode cX10_post 2 = .ok (.imul, 1) := gdX10_post_0.2.2.1
theorem dX10_post_3 : decode cX10_post 3 = .ok (.aload_n 0, 1) := gdX10_post_0.2.2.2.1
theorem dX10_post_4 : decode cX10_post 4 = .ok (.getfield 59, 3) := gdX10_post_0.2.2.2.2.1
theorem dX10_post_7 : decode cX10_post 7 = .ok (.iload_n 1, 1) := gdX10_post_0.2.2.2.2.2.1
theorem dX10_post_8 : decode cX10_post 8 = .ok (.iaload, 1) := gdX10_post_0.2.2.2.2.2.2.1
theorem dX10_post_9 : decode cX10_post 9 = .ok (.iadd, 1) := gdX10_post_0.2.2.2.2.2.2.2.1
theorem dX10_post_10 : decode cX10_post 10 = .ok (.istore 8, 2) := gdX10_post_0.2.2.2.2.2.2.2.2.1
theorem dX10_post_12 : decode cX10_post 12 = .ok (.aload_n 0, 1) := gdX10_post_0.2.2.2.2.2.2.2.2.2.1
theorem dX10_post_13 : decode cX10_post 13 = .ok (.getfield 65, 3) := gdX10_post_0.2.2.2.2.2.2.2.2.2.2.1
theorem dX10_post_16 : decode cX10_post 16 = .ok (.iload 8, 2) := gdX10_post_0.2.2.2.2.2.2.2.2.2.2.2.1
theorem dX10_post_18 : decode cX10_post 18 = .ok (.iload_n 2, 1) := gdX10_post_0.2.2.2.2.2.2.2.2.2.2.2.2.1
theorem dX10_post_19 : decode cX10_post 19 = .ok (.iastore, 1) := gdX10_post_0.2.2.2.2.2.2.2.2.2.2.2.2.2.1
theorem dX10_post_20 : decode cX10_post 20 = .ok (.aload_n 0, 1) := gdX10_post_0.2.2.2.2.2.2.2.2.2.2.2.2.2.2.1
theorem dX10_post_21 : decode cX10_post 21 = .ok (.getfield 68, 3) := gdX10_post_0.2.2.2.2.2.2.2.2.2.2.2.2.2.2.2
theorem gdX10_post_24 : (decode cX10_post 24 = .ok (.iload 8, 2)) ∧ (decode cX10_post 26 = .ok (.iload_n 3, 1)) ∧ (decode cX10_post 27 = .ok (.iastore, 1)) ∧ (decode cX10_post 28 = .ok (.aload_n 0, 1)) ∧ (decode cX10_post 29 = .ok (.getfield 71, 3)) ∧ (decode cX10_post 32 = .ok (.iload 8, 2)) ∧ (decode cX10_post 34 = .ok (.iload 4, 2)) ∧ (decode cX10_post 36 = .ok (.iastore, 1)) ∧ (decode cX10_post 37 = .ok (.aload_n 0, 1)) ∧ (decode cX10_post 38 = .ok (.getfield 74, 3)) ∧ (decode cX10_post 41 = .ok (.iload 8, 2)) ∧ (decode cX10_post 43 = .ok (.iload 5, 2)) ∧ (decode cX10_post 45 = .ok (.iastore, 1)) ∧ (decode cX10_post 46 = .ok (.aload_n 0, 1)) ∧ (decode cX10_post 47 = .ok (.getfield 77, 3)) ∧ (decode cX10_post 50 = .ok (.iload 8, 2)) := by decide +kernel
theorem dX10_post_24 : decode cX10_post 24 = .ok (.iload 8, 2) := gdX10_post_24.1
theorem dX10_post_26 : decode cX10_post 26 = .ok (.iload_n 3, 1) := gdX10_post_24.2.1
theorem dX10_post_27 : decode cX10_post 27 = .ok (.iastore, 1) := gdX10_post_24.2.2.1
theorem dX10_post_28 : decode cX10_post 28 = .ok (.aload_n 0, 1) := gdX10_post_24.2.2.2.1
theorem dX10_post_29 : decode cX10_post 29 = .ok (.getfield 71, 3) := gdX10_post_24.2.2.2.2.1
theorem dX10_post_32 : decode cX10_post 32 = .ok (.iload 8, 2) := gdX10_post_24.2.2.2.2.2.1
theorem dX10_post_34 : decode cX10_post 34 = .ok (.iload 4, 2) := gdX10_post_24.2.2.2.2.2.2.1
theorem dX10_post_36 : decode cX10_post 36 = .ok (.iastore, 1) := gdX10_post_24.2.2.2.2.2.2.2.1
theorem dX10_post_37 : decode cX10_post 37 = .ok (.aload_n 0, 1) := gdX10_post_24.2.2.2.2.2.2.2.2.1
theorem dX10_post_38 : decode cX10_post 38 = .ok (.getfield 74, 3) := gdX10_post_24.2.2.2.2.2.2.2.2.2.1
theorem dX10_post_41 : decode cX10_post 41 = .ok (.iload 8, 2) := gdX10_post_24.2.2.2.2.2.2.2.2.2.2.1
theorem dX10_post_43 : decode cX10_post 43 = .ok (.iload 5, 2) := gdX10_post_24.2.2.2.2.2.2.2.2.2.2.2.1
theorem dX10_post_45 : decode cX10_post 45 = .ok (.iastore, 1) := gdX10_post_24.2.2.2.2.2.2.2.2.2.2.2.2.1
theorem dX10_post_46 : decode cX10_post 46 = .ok (.aload_n 0, 1) := gdX10_post_24.2.2.2.2.2.2.2.2.2.2.2.2.2.1
theorem dX10_post_47 : decode cX10_post 47 = .ok (.getfield 77, 3) := gdX10_post_24.2.2.2.2.2.2.2.2.2.2.2.2.2.2.1
theorem dX10_post_50 : decode cX10_post 50 = .ok (.iload 8, 2) := gdX10_post_24.2.2.2.2.2.2.2.2.2.2.2.2.2.2.2
theorem gdX10_post_52 : (decode cX10_post 52 = .ok (.iload 6, 2)) ∧ (decode cX10_post 54 = .ok (.iastore, 1)) ∧ (decode cX10_post 55 = .ok (.aload_n 0, 1)) ∧ (decode cX10_post 56 = .ok (.getfield 80, 3)) ∧ (decode cX10_post 59 = .ok (.iload 8, 2)) ∧ (decode cX10_post 61 = .ok (.iload 7, 2)) ∧ (decode cX10_post 63 = .ok (.iastore, 1)) ∧ (decode cX10_post 64 = .ok (.aload_n 0, 1)) ∧ (decode cX10_post 65 = .ok (.getfield 83, 3)) ∧ (decode cX10_post 68 = .ok (.iload 8, 2)) ∧ (decode cX10_post 70 = .ok (.aload_n 0, 1)) ∧ (decode cX10_post 71 = .ok (.getfield 62, 3)) ∧ (decode cX10_post 74 = .ok (.iload_n 1, 1)) ∧ (decode cX10_post 75 = .ok (.iaload, 1)) ∧ (decode cX10_post 76 = .ok (.iastore, 1)) ∧ (decode cX10_post 77 = .ok (.aload_n 0, 1)) := by decide +kernel
theorem dX10_post_52 : decode cX10_post 52 = .ok (.iload 6, 2) := gdX10_post_52.1
theorem dX10_post_54 : decode cX10_post 54 = .ok (.iastore, 1) := gdX10_post_52.2.1
theorem dX10_post_55 : decode cX10_post 55 = .ok (.aload_n 0, 1) := gdX10_post_52.2.2.1
theorem dX10_post_56 : decode cX10_post 56 = .ok (.getfield 80, 3) := gdX10_post_52.2.2.2.1
theorem dX10_post_59 : decode cX10_post 59 = .ok (.iload 8, 2) := gdX10_post_52.2.2.2.2.1
theorem dX10_post_61 : decode cX10_post 61 = .ok (.iload 7, 2) := gdX10_post_52.2.2.2.2.2.1
theorem dX10_post_63 : decode cX10_post 63 = .ok (.iastore, 1) := gdX10_post_52.2.2.2.2.2.2.1
theorem dX10_post_64 : decode cX10_post 64 = .ok (.aload_n 0, 1) := gdX10_post_52.2.2.2.2.2.2.2.1
theorem dX10_post_65 : decode cX10_post 65 = .ok (.getfield 83, 3) := gdX10_post_52.2.2.2.2.2.2.2.2.1
theorem dX10_post_68 : decode cX10_post 68 = .ok (.iload 8, 2) := gdX10_post_52.2.2.2.2.2.2.2.2.2.1
theorem dX10_post_70 : decode cX10_post 70 = .ok (.aload_n 0, 1) := gdX10_post_52.2.2.2.2.2.2.2.2.2.2.1
theorem dX10_post_71 : decode cX10_post 71 = .ok (.getfield 62, 3) := gdX10_post_52.2.2.2.2.2.2.2.2.2.2.2.1
theorem dX10_post_74 : decode cX10_post 74 = .ok (.iload_n 1, 1) := gdX10_post_52.2.2.2.2.2.2.2.2.2.2.2.2.1
theorem dX10_post_75 : decode cX10_post 75 = .ok (.iaload, 1) := gdX10_post_52.2.2.2.2.2.2.2.2.2.2.2.2.2.1
theorem dX10_post_76 : decode cX10_post 76 = .ok (.iastore, 1) := gdX10_post_52.2.2.2.2.2.2.2.2.2.2.2.2.2.2.1
theorem dX10_post_77 : decode cX10_post 77 = .ok (.aload_n 0, 1) := gdX10_post_52.2.2.2.2.2.2.2.2.2.2.2.2.2.2.2
theorem gdX10_post_78 : (decode cX10_post 78 = .ok (.getfield 86, 3)) ∧ (decode cX10_post 81 = .ok (.iload 8, 2)) ∧ (decode cX10_post 83 = .ok (.aload_n 0, 1)) ∧ (decode cX10_post 84 = .ok (.getfield 31, 3)) ∧ (decode cX10_post 87 = .ok (.iload_n 1, 1)) ∧ (decode cX10_post 88 = .ok (.iaload, 1)) ∧ (decode cX10_post 89 = .ok (.iastore, 1)) ∧ (decode cX10_post 90 = .ok (.aload_n 0, 1)) ∧ (decode cX10_post 91 = .ok (.getfield 31, 3)) ∧ (decode cX10_post 94 = .ok (.iload_n 1, 1)) ∧ (decode cX10_post 95 = .ok (.aload_n 0, 1)) ∧ (decode cX10_post 96 = .ok (.getfield 31, 3)) ∧ (decode cX10_post 99 = .ok (.iload_n 1, 1)) ∧ (decode cX10_post 100 = .ok (.iaload, 1)) ∧ (decode cX10_post 101 = .ok (.aload_n 0, 1)) ∧ (decode cX10_post 102 = .ok (.iload 8, 2)) := by decide +kernel
theorem dX10_post_78 : decode cX10_post 78 = .ok (.getfield 86, 3) := gdX10_post_78.1
theorem dX10_post_81 : decode cX10_post 81 = .ok (.iload 8, 2) := gdX10_post_78.2.1
theorem dX10_post_83 : decode cX10_post 83 = .ok (.aload_n 0, 1) := gdX10_post_78.2.2.1
theorem dX10_post_84 : decode cX10_post 84 = .ok (.getfield 31, 3) := gdX10_post_78.2.2.2.1
theorem dX10_post_87 : decode cX10_post 87 = .ok (.iload_n 1, 1) := gdX10_post_78.2.2.2.2.1
theorem dX10_post_88 : decode cX10_post 88 = .ok (.iaload, 1) := gdX10_post_78.2.2.2.2.2.1
theorem dX10_post_89 : decode cX10_post 89 = .ok (.iastore, 1) := gdX10_post_78.2.2.2.2.2.2.1
theorem dX10_post_90 : decode cX10_post 90 = .ok (.aload_n 0, 1) := gdX10_post_78.2.2.2.2.2.2.2.1
theorem dX10_post_91 : decode cX10_post 91 = .ok (.getfield 31, 3) := gdX10_post_78.2.2.2.2.2.2.2.2.1
theorem dX10_post_94 : decode cX10_post 94 = .ok (.iload_n 1, 1) := gdX10_post_78.2.2.2.2.2.2.2.2.2.1
theorem dX10_post_95 : decode cX10_post 95 = .ok (.aload_n 0, 1) := gdX10_post_78.2.2.2.2.2.2.2.2.2.2.1
theorem dX10_post_96 : decode cX10_post 96 = .ok (.getfield 31, 3) := gdX10_post_78.2.2.2.2.2.2.2.2.2.2.2.1
theorem dX10_post_99 : decode cX10_post 99 = .ok (.iload_n 1, 1) := gdX10_post_78.2.2.2.2.2.2.2.2.2.2.2.2.1
theorem dX10_post_100 : decode cX10_post 100 = .ok (.iaload, 1) := gdX10_post_78.2.2.2.2.2.2.2.2.2.2.2.2.2.1
theorem dX10_post_101 : decode cX10_post 101 = .ok (.aload_n 0, 1) := gdX10_post_78.2.2.2.2.2.2.2.2.2.2.2.2.2.2.1
theorem dX10_post_102 : decode cX10_post 102 = .ok (.iload 8, 2) := gdX10_post_78.2.2.2.2.2.2.2.2.2.2.2.2.2.2.2
theorem gdX10_post_104 : (decode cX10_post 104 = .ok (.invokevirtual 178, 3)) ∧ (decode cX10_post 107 = .ok (.iadd, 1)) ∧ (decode cX10_post 108 = .ok (.bipush 64, 2)) ∧ (decode cX10_post 110 = .ok (.irem, 1)) ∧ (decode cX10_post 111 = .ok (.iastore, 1)) ∧ (decode cX10_post 112 = .ok (.aload_n 0, 1)) ∧ (decode cX10_post 113 = .ok (.getfield 59, 3)) ∧ (decode cX10_post 116 = .ok (.iload_n 1, 1)) ∧ (decode cX10_post 117 = .ok (.dup2, 1)) ∧ (decode cX10_post 118 = .ok (.iaload, 1)) ∧ (decode cX10_post 119 = .ok (.iconst 1, 1)) ∧ (decode cX10_post 120 = .ok (.iadd, 1)) ∧ (decode cX10_post 121 = .ok (.iastore, 1)) ∧ (decode cX10_post 122 = .ok (.aload_n 0, 1)) ∧ (decode cX10_post 123 = .ok (.getfield 62, 3)) ∧ (decode cX10_post 126 = .ok (.iload_n 1, 1)) := by decide +kernel
theorem dX10_post_104 : decode cX10_post 104 = .ok (.invokevirtual 178, 3) := gdX10_post_104.1
theorem dX10_post_107 : decode cX10_post 107 = .ok (.iadd, 1) := gdX10_post_104.2.1
theorem dX10_post_108 : decode cX10_post 108 = .ok (.bipush 64, 2) := gdX10_post_104.2.2.1
theorem dX10_post_110 : decode cX10_post 110 = .ok (.irem, 1) := gdX10_post_104.2.2.2.1
theorem dX10_post_111 : decode cX10_post 111 = .ok (.iastore, 1) := gdX10_post_104.2.2.2.2.1
theorem dX10_post_112 : decode cX10_post 112 = .ok (.aload_n 0, 1) := gdX10_post_104.2.2.2.2.2.1
theorem dX10_post_113 : decode cX10_post 113 = .ok (.getfield 59, 3) := gdX10_post_104.2.2.2.2.2.2.1
theorem dX10_post_116 : decode cX10_post 116 = .ok (.iload_n 1, 1) := gdX10_post_104.2.2.2.2.2.2.2.1
theorem dX10_post_117 : decode cX10_post 117 = .ok (.dup2, 1) := gdX10_post_104.2.2.2.2.2.2.2.2.1
theorem dX10_post_118 : decode cX10_post 118 = .ok (.iaload, 1) := gdX10_post_104.2.2.2.2.2.2.2.2.2.1
theorem dX10_post_119 : decode cX10_post 119 = .ok (.iconst 1, 1) := gdX10_post_104.2.2.2.2.2.2.2.2.2.2.1
theorem dX10_post_120 : decode cX10_post 120 = .ok (.iadd, 1) := gdX10_post_104.2.2.2.2.2.2.2.2.2.2.2.1
theorem dX10_post_121 : decode cX10_post 121 = .ok (.iastore, 1) := gdX10_post_104.2.2.2.2.2.2.2.2.2.2.2.2.1
theorem dX10_post_122 : decode cX10_post 122 = .ok (.aload_n 0, 1) := gdX10_post_104.2.2.2.2.2.2.2.2.2.2.2.2.2.1
theorem dX10_post_123 : decode cX10_post 123 = .ok (.getfield 62, 3) := gdX10_post_104.2.2.2.2.2.2.2.2.2.2.2.2.2.2.1
theorem dX10_post_126 : decode cX10_post 126 = .ok (.iload_n 1, 1) := gdX10_post_104.2.2.2.2.2.2.2.2.2.2.2.2.2.2.2
theorem gdX10_post_127 : (decode cX10_post 127 = .ok (.dup2, 1)) ∧ (decode cX10_post 128 = .ok (.iaload, 1)) ∧ (decode cX10_post 129 = .ok (.iconst 1, 1)) ∧ (decode cX10_post 130 = .ok (.iadd, 1)) ∧ (decode cX10_post 131 = .ok (.iastore, 1)) ∧ (decode cX10_post 132 = .ok (.aload_n 0, 1)) ∧ (decode cX10_post 133 = .ok (.getfield 62, 3)) ∧ (decode cX10_post 136 = .ok (.iload_n 1, 1)) ∧ (decode cX10_post 137 = .ok (.iaload, 1)) ∧ (decode cX10_post 138 = .ok (.iconst 1, 1)) ∧ (decode cX10_post 139 = .ok (.isub, 1)) ∧ (decode cX10_post 140 = .ok (.ireturn, 1)) := by decide +kernel
theorem dX10_post_127 : decode cX10_post 127 = .ok (.dup2, 1) := gdX10_post_127.1
theorem dX10_post_128 : decode cX10_post 128 = .ok (.iaload, 1) := gdX10_post_127.2.1
theorem dX10_post_129 : decode cX10_post 129 = .ok (.iconst 1, 1) := gdX10_post_127.2.2.1
theorem dX10_post_130 : decode cX10_post 130 = .ok (.iadd, 1) := gdX10_post_127.2.2.2.1
theorem dX10_post_131 : decode cX10_post 131 = .ok (.iastore, 1) := gdX10_post_127.2.2.2.2.1
theorem dX10_post_132 : decode cX10_post 132 = .ok (.aload_n 0, 1) := gdX10_post_127.2.2.2.2.2.1
theorem dX10_post_133 : decode cX10_post 133 = .ok (.getfield 62, 3) := gdX10_post_127.2.2.2.2.2.2.1
theorem dX10_post_136 : decode cX10_post 136 = .ok (.iload_n 1, 1) := gdX10_post_127.2.2.2.2.2.2.2.1
theorem dX10_post_137 : decode cX10_post 137 = .ok (.iaload, 1) := gdX10_post_127.2.2.2.2.2.2.2.2.1
theorem dX10_post_138 : decode cX10_post 138 = .ok (.iconst 1, 1) := gdX10_post_127.2.2.2.2.2.2.2.2.2.1
theorem dX10_post_139 : decode cX10_post 139 = .ok (.isub, 1) := gdX10_post_127.2.2.2.2.2.2.2.2.2.2.1
theorem dX10_post_140 : decode cX10_post 140 = .ok (.ireturn, 1) := gdX10_post_127.2.2.2.2.2.2.2.2.2.2.2
set_option maxHeartbeats 8000000 in
set_option maxRecDepth 100000 in
theorem u_X10_post (l : Launch) (E : EE) (z0 : Nat) (G : Nat → Nat) (hGz : ∀ q, G q ≠ 0 → z0 ≤ q) (h0 : Nat) (rf : Nat → Nat) (hR : MG G h0 rf) (t0 t1 t2 : Int32) (A : AA) (cd pk : Int32) (p0 : Int32) (p1 : Int32) (p2 : Int32) (p3 : Int32) (p4 : Int32) (p5 : Int32) (p6 : Int32) (hI4 : I4 (A 10) (A 20) (A 29) (A 24) (A 11) (A 12) (A 13)) (hI6 : I6 (A 22) (A 23) (A 24) (A 25) (A 26)) (hI8 : I8 (A 20) (A 30) (A 37) (A 36)) (hy0 : 0 ≤ p0.toInt ∧ p0.toInt ≤ 3) (hy1 : 0 ≤ p1.toInt ∧ p1.toInt ≤ 3) (hy2 : 0 ≤ p2.toInt ∧ p2.toInt ≤ 32) (hy3 : 1 ≤ p3.toInt ∧ p3.toInt ≤ 12) (hy4 : p2.toInt + p3.toInt ≤ 32) (hy5 : p1.toInt = 0 ∨ (0 ≤ p4.toInt ∧ p4.toInt ≤ 5)) (hy6 : -1 ≤ p5.toInt ∧ p5.toInt ≤ 31) (hy7 : ∀ n : Nat, (n : Int) = p0.toInt → ((A 10) n).toInt = 1 ∧ ((A 20) n).toInt ≠ 4) : Met l yX10_post [Cond.code yX10_post cX10_post 9 (some .int)] ({ frames := 1, cells := 0, slots := 0, locals := 21 } : Room) (va_Pc [.ref h0, .int p0, .int p1, .int p2, .int p3, .int p4, .int p5, .int p6] (fun U => MH E h0 rf t0 t1 t2 A cd pk U.heap ∧ KS E z0 U)) (va_Qi (fun (r : Int32) (u : (Nat → Int32) × (Nat → Int32) × (Nat → Int32) × (Nat → Int32) × (Nat → Int32) × (Nat → Int32) × (Nat → Int32) × (Nat → Int32) × (Nat → Int32) × (Nat → Int32) × (Nat → Int32)) => (I4 (A 10) (u.2.1) (u.2.2.2.2.2.2.2.2.2.2) (u.2.2.2.2.2.1) (u.1) (A 12) (A 13)) ∧ (I6 (u.2.2.2.1) (u.2.2.2.2.1) (u.2.2.2.2.2.1) (u.2.2.2.2.2.2.1) (u.2.2.2.2.2.2.2.1)) ∧ (I8 (u.2.1) (A 30) (A 37) (A 36)) ∧ (D_X10_post A cd pk p0 p1 p2 p3 p4 p5 p6 (uA (uA (uA (uA (uA (uA (uA (uA (uA (uA (uA A 11 (u.1)) 20 (u.2.1)) 21 (u.2.2.1)) 22 (u.2.2.2.1)) 23 (u.2.2.2.2.1)) 24 (u.2.2.2.2.2.1)) 25 (u.2.2.2.2.2.2.1)) 26 (u.2.2.2.2.2.2.2.1)) 27 (u.2.2.2.2.2.2.2.2.1)) 28 (u.2.2.2.2.2.2.2.2.2.1)) 29 (u.2.2.2.2.2.2.2.2.2.2)) cd pk r)) (fun u t => MH E h0 rf t0 t1 t2 (uA (uA (uA (uA (uA (uA (uA (uA (uA (uA (uA A 11 (u.1)) 20 (u.2.1)) 21 (u.2.2.1)) 22 (u.2.2.2.1)) 23 (u.2.2.2.2.1)) 24 (u.2.2.2.2.2.1)) 25 (u.2.2.2.2.2.2.1)) 26 (u.2.2.2.2.2.2.2.1)) 27 (u.2.2.2.2.2.2.2.2.1)) 28 (u.2.2.2.2.2.2.2.2.2.1)) 29 (u.2.2.2.2.2.2.2.2.2.2)) cd pk t.heap) (fun q : Nat => G q ≠ 0)) 0 0 (fun q : Nat => G q ≠ 0) := by
  refine Met.ofW (cc := cX10_post) (maxL := 9) (ret := (some .int)) (by decide) rfl ?_
  intro p e s m args below meth c s₁ B hml hv
  obtain ⟨rfl, hM, hK⟩ := hv
  have hx := B.exec
  have hb := B.bytes
  have hr := B.returns
  have hts : ∀ w ∈ TS, w.before ([.ref h0, .int p0, .int p1, .int p2, .int p3, .int p4, .int p5, .int p6] : List Value).toArray s = true := fun w hw => hK.2.1 w hw _
  have hown : s.vm.findClass RX10 = some m.cls := findClass_of_methodNamed B.named
  have hlocks := B.notSynchronized
  have hS : va_S (fun q : Nat => G q ≠ 0) s.heap s.heap [] := va_S.rf
  have hAz : ∀ q, (fun q : Nat => G q ≠ 0) q → z0 ≤ q := hGz
  have hl := lv_entry ([.ref h0, .int p0, .int p1, .int p2, .int p3, .int p4, .int p5, .int p6]) (n := 9) (Nat.le_of_ble_eq_true rfl)
  rw [lg_entry_eq]
  generalize (lg_sl ([.ref h0, .int p0, .int p1, .int p2, .int p3, .int p4, .int p5, .int p6]) ++ List.replicate (9 - (lg_sl ([.ref h0, .int p0, .int p1, .int p2, .int p3, .int p4, .int p5, .int p6])).length) Slot.unset).toArray = ls at hl ⊢
  have hl : lv_has ls 9 [(0, .ref h0), (1, .int p0), (2, .int p1), (3, .int p2), (4, .int p3), (5, .int p4), (6, .int p5), (7, .int p6)] := hl
  obtain ⟨n_1, hn_1, en_1⟩ := s_nat (x := p0) (by omega)
  obtain ⟨hst0, hrq0⟩ := hy7 n_1 (by omega)
  have rg0 := ((hI4 n_1 (by omega)).1 hst0).rng
  refine lv_iconst (v := 4) hx hb dX10_post_0 (by decide) ?_
  refine lv_iload_n hx hb dX10_post_1 rfl (lv_at hl 1 rfl) ?_
  refine lv_imul hx hb dX10_post_2 ?_
  refine lv_topi (fun x_2 ex_2 => ?_)
  have fx_2 : x_2.toInt = 4 * p0.toInt := by rw [ex_2]; exact s_mulK i_4 (by omega) (by omega)
  refine lv_aload_n hx hb dX10_post_3 rfl (lv_at hl 0 rfl) ?_
  refine va_get (D := DG E) (ci := 10) (v := .ref (rf 20)) (C := RX10) (T := TX10) (N := 49) hx hb hts iw_X10 hown hK.1 (va_one hM.1) 0 rfl rfl 20 (by decide) (hts _ fl_X10_59) (fun _ h9 => h9) rfl dX10_post_4 ?_
  refine lv_iload_n hx hb dX10_post_7 rfl (lv_at hl 1 rfl) ?_
  have hi_3 : vp_in p0 4 := vp_in_iff.mpr (by omega)
  have ha_4 : va_at (DG E) vwCl (rf 20, .inl (E.2.2 0, 4, .inl (A 20))) _ := hM.2 20 (by decide) (by decide) (by decide)
  refine va_iald (D := DG E) hx hb hK.1 (va_one ha_4) 0 0 rfl rfl hi_3 dX10_post_8 ?_
  refine W.eq (g2 := F0 m 9 ls [.int ((A 20) n_1), .int x_2]) (by rw [en_1]) ?_
  have hk_5 : n_1 < 4 := by omega
  have q_6 : 0 ≤ ((A 20) n_1).toInt := (hI8 n_1 hk_5).1
  have q_7 : ((A 20) n_1).toInt ≤ 4 := (hI8 n_1 hk_5).2.1
  refine lv_iadd hx hb dX10_post_9 ?_
  refine lv_topi (fun x_8 ex_8 => ?_)
  have fx_8 : x_8.toInt = x_2.toInt + ((A 20) n_1).toInt := by have h9 := s_add (x := x_2) (y := ((A 20) n_1)) (by omega) (by omega); rw [ex_8]; exact h9
  refine lv_istore (lv' := [(8, .int x_8), (0, .ref h0), (1, .int p0), (2, .int p1), (3, .int p2), (4, .int p3), (5, .int p4), (6, .int p5), (7, .int p6)]) hx hb dX10_post_10 hl (by decide) rfl (fun ls hl => ?_)
  refine lv_aload_n hx hb dX10_post_12 rfl (lv_at hl 1 rfl) ?_
  refine va_get (D := DG E) (ci := 10) (v := .ref (rf 22)) (C := RX10) (T := TX10) (N := 49) hx hb hts iw_X10 hown hK.1 (va_one hM.1) 0 rfl rfl 22 (by decide) (hts _ fl_X10_65) (fun _ h9 => h9) rfl dX10_post_13 ?_
  refine lv_iload hx hb dX10_post_16 (lv_at hl 0 rfl) ?_
  refine lv_iload_n hx hb dX10_post_18 rfl (lv_at hl 3 rfl) ?_
  have hi_9 : vp_in x_8 16 := vp_in_iff.mpr (by omega)
  have ha_10 : va_at (DG E) vwCl (rf 22, .inl (E.2.2 0, 16, .inl (A 22))) _ := hM.2 22 (by decide) (by decide) (by decide)
  obtain ⟨n_11, hn_11, en_11⟩ := s_nat (x := x_8) (by omega)
  refine rr_iast (D := DG E) hx hb hK.1 0 ha_10 hS (by show G (rf 22) ≠ 0; rw [hR.2 22 (by decide) (by decide) (by decide)]; decide) rfl hi_9 dX10_post_19 (fun H locs hn ho hz hS => ?_)
  rw [en_11] at hn
  obtain ⟨g_10, eg_10⟩ : ∃ z : Nat → Int32, z = upd (A 22) n_11 p1 := ⟨_, rfl⟩
  have sg_10 : g_10 n_11 = p1 := by rw [eg_10]; exact upd_s
  have ng_10 : ∀ k, k ≠ n_11 → g_10 k = (A 22) k := fun k hk => by rw [eg_10]; exact upd_n hk
  have hn : va_at (DG E) vwCl (rf 22, .inl (E.2.2 0, 16, .inl g_10)) H := by rw [eg_10]; exact hn
  have hM : MH E h0 rf t0 t1 t2 (uA A 22 g_10) cd pk H := hM.w hR 22 (by decide) (by decide) (by decide) hn ho
  refine lv_aload_n hx hb dX10_post_20 rfl (lv_at hl 1 rfl) ?_
  refine va_get (D := DG E) (ci := 10) (v := .ref (rf 23)) (C := RX10) (T := TX10) (N := 49) hx hb hts iw_X10 hown hK.1 (va_one hM.1) 0 rfl rfl 23 (by decide) (hts _ fl_X10_68) (fun _ h9 => h9) rfl dX10_post_21 ?_
  refine lv_iload hx hb dX10_post_24 (lv_at hl 0 rfl) ?_
  refine lv_iload_n hx hb dX10_post_26 rfl (lv_at hl 4 rfl) ?_
  have ha_12 : va_at (DG E) vwCl (rf 23, .inl (E.2.2 0, 16, .inl (A 23))) _ := hM.2 23 (by decide) (by decide) (by decide)
  refine rr_iast (D := DG E) hx hb hK.1 0 ha_12 hS (by show G (rf 23) ≠ 0; rw [hR.2 23 (by decide) (by decide) (by decide)]; decide) rfl hi_9 dX10_post_27 (fun H locs hn ho hz hS => ?_)
  rw [en_11] at hn
  obtain ⟨g_12, eg_12⟩ : ∃ z : Nat → Int32, z = upd (A 23) n_11 p2 := ⟨_, rfl⟩
  have sg_12 : g_12 n_11 = p2 := by rw [eg_12]; exact upd_s
  have ng_12 : ∀ k, k ≠ n_11 → g_12 k = (A 23) k := fun k hk => by rw [eg_12]; exact upd_n hk
  have hn : va_at (DG E) vwCl (rf 23, .inl (E.2.2 0, 16, .inl g_12)) H := by rw [eg_12]; exact hn
  have hM : MH E h0 rf t0 t1 t2 (uA (uA A 22 g_10) 23 g_12) cd pk H := hM.w hR 23 (by decide) (by decide) (by decide) hn ho
  refine lv_aload_n hx hb dX10_post_28 rfl (lv_at hl 1 rfl) ?_
  refine va_get (D := DG E) (ci := 10) (v := .ref (rf 24)) (C := RX10) (T := TX10) (N := 49) hx hb hts iw_X10 hown hK.1 (va_one hM.1) 0 rfl rfl 24 (by decide) (hts _ fl_X10_71) (fun _ h9 => h9) rfl dX10_post_29 ?_
  refine lv_iload hx hb dX10_post_32 (lv_at hl 0 rfl) ?_
  refine lv_iload hx hb dX10_post_34 (lv_at hl 5 rfl) ?_
  have ha_13 : va_at (DG E) vwCl (rf 24, .inl (E.2.2 0, 16, .inl (A 24))) _ := hM.2 24 (by decide) (by decide) (by decide)
  refine rr_iast (D := DG E) hx hb hK.1 0 ha_13 hS (by show G (rf 24) ≠ 0; rw [hR.2 24 (by decide) (by decide) (by decide)]; decide) rfl hi_9 dX10_post_36 (fun H locs hn ho hz hS => ?_)
  rw [en_11] at hn
  obtain ⟨g_13, eg_13⟩ : ∃ z : Nat → Int32, z = upd (A 24) n_11 p3 := ⟨_, rfl⟩
  have sg_13 : g_13 n_11 = p3 := by rw [eg_13]; exact upd_s
  have ng_13 : ∀ k, k ≠ n_11 → g_13 k = (A 24) k := fun k hk => by rw [eg_13]; exact upd_n hk
  have hn : va_at (DG E) vwCl (rf 24, .inl (E.2.2 0, 16, .inl g_13)) H := by rw [eg_13]; exact hn
  have hM : MH E h0 rf t0 t1 t2 (uA (uA (uA A 22 g_10) 23 g_12) 24 g_13) cd pk H := hM.w hR 24 (by decide) (by decide) (by decide) hn ho
  refine lv_aload_n hx hb dX10_post_37 rfl (lv_at hl 1 rfl) ?_
  refine va_get (D := DG E) (ci := 10) (v := .ref (rf 25)) (C := RX10) (T := TX10) (N := 49) hx hb hts iw_X10 hown hK.1 (va_one hM.1) 0 rfl rfl 25 (by decide) (hts _ fl_X10_74) (fun _ h9 => h9) rfl dX10_post_38 ?_
  refine lv_iload hx hb dX10_post_41 (lv_at hl 0 rfl) ?_
  refine lv_iload hx hb dX10_post_43 (lv_at hl 6 rfl) ?_
  have ha_14 : va_at (DG E) vwCl (rf 25, .inl (E.2.2 0, 16, .inl (A 25))) _ := hM.2 25 (by decide) (by decide) (by decide)
  refine rr_iast (D := DG E) hx hb hK.1 0 ha_14 hS (by show G (rf 25) ≠ 0; rw [hR.2 25 (by decide) (by decide) (by decide)]; decide) rfl hi_9 dX10_post_45 (fun H locs hn ho hz hS => ?_)
  rw [en_11] at hn
  obtain ⟨g_14, eg_14⟩ : ∃ z : Nat → Int32, z = upd (A 25) n_11 p4 := ⟨_, rfl⟩
  have sg_14 : g_14 n_11 = p4 := by rw [eg_14]; exact upd_s
  have ng_14 : ∀ k, k ≠ n_11 → g_14 k = (A 25) k := fun k hk => by rw [eg_14]; exact upd_n hk
  have hn : va_at (DG E) vwCl (rf 25, .inl (E.2.2 0, 16, .inl g_14)) H := by rw [eg_14]; exact hn
  have hM : MH E h0 rf t0 t1 t2 (uA (uA (uA (uA A 22 g_10) 23 g_12) 24 g_13) 25 g_14) cd pk H := hM.w hR 25 (by decide) (by decide) (by decide) hn ho
  refine lv_aload_n hx hb dX10_post_46 rfl (lv_at hl 1 rfl) ?_
  refine va_get (D := DG E) (ci := 10) (v := .ref (rf 26)) (C := RX10) (T := TX10) (N := 49) hx hb hts iw_X10 hown hK.1 (va_one hM.1) 0 rfl rfl 26 (by decide) (hts _ fl_X10_77) (fun _ h9 => h9) rfl dX10_post_47 ?_
  refine lv_iload hx hb dX10_post_50 (lv_at hl 0 rfl) ?_
  refine lv_iload hx hb dX10_post_52 (lv_at hl 7 rfl) ?_
  have ha_15 : va_at (DG E) vwCl (rf 26, .inl (E.2.2 0, 16, .inl (A 26))) _ := hM.2 26 (by decide) (by decide) (by decide)
  refine rr_iast (D := DG E) hx hb hK.1 0 ha_15 hS (by show G (rf 26) ≠ 0; rw [hR.2 26 (by decide) (by decide) (by decide)]; decide) rfl hi_9 dX10_post_54 (fun H locs hn ho hz hS => ?_)
  rw [en_11] at hn
  obtain ⟨g_15, eg_15⟩ : ∃ z : Nat → Int32, z = upd (A 26) n_11 p5 := ⟨_, rfl⟩
  have sg_15 : g_15 n_11 = p5 := by rw [eg_15]; exact upd_s
  have ng_15 : ∀ k, k ≠ n_11 → g_15 k = (A 26) k := fun k hk => by rw [eg_15]; exact upd_n hk
  have hn : va_at (DG E) vwCl (rf 26, .inl (E.2.2 0, 16, .inl g_15)) H := by rw [eg_15]; exact hn
  have hM : MH E h0 rf t0 t1 t2 (uA (uA (uA (uA (uA A 22 g_10) 23 g_12) 24 g_13) 25 g_14) 26 g_15) cd pk H := hM.w hR 26 (by decide) (by decide) (by decide) hn ho
  refine lv_aload_n hx hb dX10_post_55 rfl (lv_at hl 1 rfl) ?_
  refine va_get (D := DG E) (ci := 10) (v := .ref (rf 27)) (C := RX10) (T := TX10) (N := 49) hx hb hts iw_X10 hown hK.1 (va_one hM.1) 0 rfl rfl 27 (by decide) (hts _ fl_X10_80) (fun _ h9 => h9) rfl dX10_post_56 ?_
  refine lv_iload hx hb dX10_post_59 (lv_at hl 0 rfl) ?_
  refine lv_iload hx hb dX10_post_61 (lv_at hl 8 rfl) ?_
  have ha_16 : va_at (DG E) vwCl (rf 27, .inl (E.2.2 0, 16, .inl (A 27))) _ := hM.2 27 (by decide) (by decide) (by decide)
  refine rr_iast (D := DG E) hx hb hK.1 0 ha_16 hS (by show G (rf 27) ≠ 0; rw [hR.2 27 (by decide) (by decide) (by decide)]; decide) rfl hi_9 dX10_post_63 (fun H locs hn ho hz hS => ?_)
  rw [en_11] at hn
  obtain ⟨g_16, eg_16⟩ : ∃ z : Nat → Int32, z = upd (A 27) n_11 p6 := ⟨_, rfl⟩
  have sg_16 : g_16 n_11 = p6 := by rw [eg_16]; exact upd_s
  have ng_16 : ∀ k, k ≠ n_11 → g_16 k = (A 27) k := fun k hk => by rw [eg_16]; exact upd_n hk
  have hn : va_at (DG E) vwCl (rf 27, .inl (E.2.2 0, 16, .inl g_16)) H := by rw [eg_16]; exact hn
  have hM : MH E h0 rf t0 t1 t2 (uA (uA (uA (uA (uA (uA A 22 g_10) 23 g_12) 24 g_13) 25 g_14) 26 g_15) 27 g_16) cd pk H := hM.w hR 27 (by decide) (by decide) (by decide) hn ho
  refine lv_aload_n hx hb dX10_post_64 rfl (lv_at hl 1 rfl) ?_
  refine va_get (D := DG E) (ci := 10) (v := .ref (rf 28)) (C := RX10) (T := TX10) (N := 49) hx hb hts iw_X10 hown hK.1 (va_one hM.1) 0 rfl rfl 28 (by decide) (hts _ fl_X10_83) (fun _ h9 => h9) rfl dX10_post_65 ?_
  refine lv_iload hx hb dX10_post_68 (lv_at hl 0 rfl) ?_
  refine lv_aload_n hx hb dX10_post_70 rfl (lv_at hl 1 rfl) ?_
  refine va_get (D := DG E) (ci := 10) (v := .ref (rf 21)) (C := RX10) (T := TX10) (N := 49) hx hb hts iw_X10 hown hK.1 (va_one hM.1) 0 rfl rfl 21 (by decide) (hts _ fl_X10_62) (fun _ h9 => h9) rfl dX10_post_71 ?_
  refine lv_iload_n hx hb dX10_post_74 rfl (lv_at hl 2 rfl) ?_
  have ha_17 : va_at (DG E) vwCl (rf 21, .inl (E.2.2 0, 4, .inl (A 21))) _ := hM.2 21 (by decide) (by decide) (by decide)
  refine va_iald (D := DG E) hx hb hK.1 (va_one ha_17) 0 0 rfl rfl hi_3 dX10_post_75 ?_
  refine W.eq (g2 := F0 m 76 ls [.int ((A 21) n_1), .int x_8, .ref (rf 28)]) (by rw [en_1]) ?_
  have ha_18 : va_at (DG E) vwCl (rf 28, .inl (E.2.2 0, 16, .inl (A 28))) _ := hM.2 28 (by decide) (by decide) (by decide)
  refine rr_iast (D := DG E) hx hb hK.1 0 ha_18 hS (by show G (rf 28) ≠ 0; rw [hR.2 28 (by decide) (by decide) (by decide)]; decide) rfl hi_9 dX10_post_76 (fun H locs hn ho hz hS => ?_)
  rw [en_11] at hn
  obtain ⟨g_18, eg_18⟩ : ∃ z : Nat → Int32, z = upd (A 28) n_11 ((A 21) n_1) := ⟨_, rfl⟩
  have sg_18 : g_18 n_11 = ((A 21) n_1) := by rw [eg_18]; exact upd_s
  have ng_18 : ∀ k, k ≠ n_11 → g_18 k = (A 28) k := fun k hk => by rw [eg_18]; exact upd_n hk
  have hn : va_at (DG E) vwCl (rf 28, .inl (E.2.2 0, 16, .inl g_18)) H := by rw [eg_18]; exact hn
  have hM : MH E h0 rf t0 t1 t2 (uA (uA (uA (uA (uA (uA (uA A 22 g_10) 23 g_12) 24 g_13) 25 g_14) 26 g_15) 27 g_16) 28 g_18) cd pk H := hM.w hR 28 (by decide) (by decide) (by decide) hn ho
  refine lv_aload_n hx hb dX10_post_77 rfl (lv_at hl 1 rfl) ?_
  refine va_get (D := DG E) (ci := 10) (v := .ref (rf 29)) (C := RX10) (T := TX10) (N := 49) hx hb hts iw_X10 hown hK.1 (va_one hM.1) 0 rfl rfl 29 (by decide) (hts _ fl_X10_86) (fun _ h9 => h9) rfl dX10_post_78 ?_
  refine lv_iload hx hb dX10_post_81 (lv_at hl 0 rfl) ?_
  refine lv_aload_n hx hb dX10_post_83 rfl (lv_at hl 1 rfl) ?_
  refine va_get (D := DG E) (ci := 10) (v := .ref (rf 11)) (C := RX10) (T := TX10) (N := 49) hx hb hts iw_X10 hown hK.1 (va_one hM.1) 0 rfl rfl 11 (by decide) (hts _ fl_X10_31) (fun _ h9 => h9) rfl dX10_post_84 ?_
  refine lv_iload_n hx hb dX10_post_87 rfl (lv_at hl 2 rfl) ?_
  have ha_19 : va_at (DG E) vwCl (rf 11, .inl (E.2.2 0, 4, .inl (A 11))) _ := hM.2 11 (by decide) (by decide) (by decide)
  refine va_iald (D := DG E) hx hb hK.1 (va_one ha_19) 0 0 rfl rfl hi_3 dX10_post_88 ?_
  refine W.eq (g2 := F0 m 89 ls [.int ((A 11) n_1), .int x_8, .ref (rf 29)]) (by rw [en_1]) ?_
  have ha_20 : va_at (DG E) vwCl (rf 29, .inl (E.2.2 0, 16, .inl (A 29))) _ := hM.2 29 (by decide) (by decide) (by decide)
  refine rr_iast (D := DG E) hx hb hK.1 0 ha_20 hS (by show G (rf 29) ≠ 0; rw [hR.2 29 (by decide) (by decide) (by decide)]; decide) rfl hi_9 dX10_post_89 (fun H locs hn ho hz hS => ?_)
  rw [en_11] at hn
  obtain ⟨g_20, eg_20⟩ : ∃ z : Nat → Int32, z = upd (A 29) n_11 ((A 11) n_1) := ⟨_, rfl⟩
  have sg_20 : g_20 n_11 = ((A 11) n_1) := by rw [eg_20]; exact upd_s
  have ng_20 : ∀ k, k ≠ n_11 → g_20 k = (A 29) k := fun k hk => by rw [eg_20]; exact upd_n hk
  have hn : va_at (DG E) vwCl (rf 29, .inl (E.2.2 0, 16, .inl g_20)) H := by rw [eg_20]; exact hn
  have hM : MH E h0 rf t0 t1 t2 (uA (uA (uA (uA (uA (uA (uA (uA A 22 g_10) 23 g_12) 24 g_13) 25 g_14) 26 g_15) 27 g_16) 28 g_18) 29 g_20) cd pk H := hM.w hR 29 (by decide) (by decide) (by decide) hn ho
  refine lv_aload_n hx hb dX10_post_90 rfl (lv_at hl 1 rfl) ?_
  refine va_get (D := DG E) (ci := 10) (v := .ref (rf 11)) (C := RX10) (T := TX10) (N := 49) hx hb hts iw_X10 hown hK.1 (va_one hM.1) 0 rfl rfl 11 (by decide) (hts _ fl_X10_31) (fun _ h9 => h9) rfl dX10_post_91 ?_
  refine lv_iload_n hx hb dX10_post_94 rfl (lv_at hl 2 rfl) ?_
  refine lv_aload_n hx hb dX10_post_95 rfl (lv_at hl 1 rfl) ?_
  refine va_get (D := DG E) (ci := 10) (v := .ref (rf 11)) (C := RX10) (T := TX10) (N := 49) hx hb hts iw_X10 hown hK.1 (va_one hM.1) 0 rfl rfl 11 (by decide) (hts _ fl_X10_31) (fun _ h9 => h9) rfl dX10_post_96 ?_
  refine lv_iload_n hx hb dX10_post_99 rfl (lv_at hl 2 rfl) ?_
  have ha_21 : va_at (DG E) vwCl (rf 11, .inl (E.2.2 0, 4, .inl (A 11))) _ := hM.2 11 (by decide) (by decide) (by decide)
  refine va_iald (D := DG E) hx hb hK.1 (va_one ha_21) 0 0 rfl rfl hi_3 dX10_post_100 ?_
  refine W.eq (g2 := F0 m 101 ls [.int ((A 11) n_1), .int p0, .ref (rf 11)]) (by rw [en_1]) ?_
  refine lv_aload_n hx hb dX10_post_101 rfl (lv_at hl 1 rfl) ?_
  refine lv_iload hx hb dX10_post_102 (lv_at hl 0 rfl) ?_
  have hI6_22 : I6 g_10 g_12 g_13 g_14 g_15 := by
    intro n9 hn9
    have h9 : 0 ≤ ((A 22) n9).toInt ∧ ((A 22) n9).toInt ≤ 3 ∧ 0 ≤ ((A 23) n9).toInt ∧ 0 ≤ ((A 24) n9).toInt ∧ ((A 24) n9).toInt ≤ 12 ∧ ((A 23) n9).toInt + ((A 24) n9).toInt ≤ 32 ∧ (((A 22) n9).toInt = 0 ∨ (0 ≤ ((A 25) n9).toInt ∧ ((A 25) n9).toInt ≤ 5)) ∧ -1 ≤ ((A 26) n9).toInt ∧ ((A 26) n9).toInt ≤ 31 := hI6 n9 hn9
    show 0 ≤ (g_10 n9).toInt ∧ (g_10 n9).toInt ≤ 3 ∧ 0 ≤ (g_12 n9).toInt ∧ 0 ≤ (g_13 n9).toInt ∧ (g_13 n9).toInt ≤ 12 ∧ (g_12 n9).toInt + (g_13 n9).toInt ≤ 32 ∧ ((g_10 n9).toInt = 0 ∨ (0 ≤ (g_14 n9).toInt ∧ (g_14 n9).toInt ≤ 5)) ∧ -1 ≤ (g_15 n9).toInt ∧ (g_15 n9).toInt ≤ 31
    by_cases ezn_11 : n9 = n_11
    · rw [ezn_11] at h9 ⊢
      rw [sg_10]
      rw [sg_12]
      rw [sg_13]
      rw [sg_14]
      rw [sg_15]
      clear h9
      exact ⟨by omega, by omega, by omega, by omega, by omega, by omega, by omega, by omega, by omega⟩
    · rw [ng_10 n9 ezn_11]
      rw [ng_12 n9 ezn_11]
      rw [ng_13 n9 ezn_11]
      rw [ng_14 n9 ezn_11]
      rw [ng_15 n9 ezn_11]
      exact h9
  refine va_calli (rnV (fun H => MH E h0 rf t0 t1 t2 (uA (uA (uA (uA (uA (uA (uA (uA A 22 g_10) 23 g_12) 24 g_13) 25 g_14) 26 g_15) 27 g_16) 28 g_18) 29 g_20) cd pk H) (As := [.int x_8]) (rest := [.int ((A 11) n_1), .int p0, .ref (rf 11)]) ⟨hx, hb, hml, hown, hts⟩ (u_X10_numbersOf l E z0 G hGz h0 rf hR t0 t1 t2 (uA (uA (uA (uA (uA (uA (uA (uA A 22 g_10) 23 g_12) 24 g_13) 25 g_14) 26 g_15) 27 g_16) 28 g_18) 29 g_20) cd pk x_8 hI6_22 (show 0 ≤ x_8.toInt ∧ x_8.toInt ≤ 15 from by first | decide | omega)) (cwV 1 hts (gdV ml_X10_178 im_X10_numbersOf se_X10_X10_numbersOf in_X10 co_X10_numbersOf rfl) rfl rfl rfl (by decide +kernel) ⟨Nat.le_of_ble_eq_true rfl, Nat.le_of_ble_eq_true rfl⟩) hM (fun U hU hW => hK.go hW hS hAz hU) (va_recv hK.1 (va_one hM.1) (ci := 10) (q0 := 0) rfl rfl) rfl rfl hl.1 rfl (lv_room (Nat.le_of_ble_eq_true rfl)) dX10_post_104 ⟨Nat.le_of_ble_eq_true rfl, Nat.le_of_ble_eq_true rfl⟩) hS (fun q _ h => h.elim) (fun q h => h.elim) (fun r_23 ur_23 t H locs ht hvm hwr_23 hB hz hk hS => ?_)
  have hM := hM.kept (fun q hq => hk q hq (fun h => h))
  have hDr_23 : D_X10_numbersOf (uA (uA (uA (uA (uA (uA (uA (uA A 22 g_10) 23 g_12) 24 g_13) 25 g_14) 26 g_15) 27 g_16) 28 g_18) 29 g_20) cd pk x_8 r_23 := hwr_23.2.2
  have hpr_23_0 : 0 ≤ r_23.toInt ∧ r_23.toInt ≤ 3 := hwr_23.1
  have hpr_23_1 : ∀ n : Nat, (n : Int) = x_8.toInt → r_23.toInt = NB g_13 n := hwr_23.2.1
  have iahpr_23_1 := hpr_23_1 n_11 (by omega)
  refine lv_iadd hx hb dX10_post_107 ?_
  refine lv_topi (fun x_24 ex_24 => ?_)
  have fx_24 : x_24.toInt = ((A 11) n_1).toInt + r_23.toInt := by have h9 := s_add (x := ((A 11) n_1)) (y := r_23) (by omega) (by omega); rw [ex_24]; exact h9
  refine lv_bipush (v := 64) hx hb dX10_post_108 (by decide) ?_
  refine lv_irem hx hb dX10_post_110 (by decide) ?_
  refine lv_topi (fun x_25 ex_25 => ?_)
  have fx_25 : x_25.toInt = x_24.toInt % 64 := by have h9 := s_rem (x := x_24) 64 (by decide) (by decide) (by omega); rw [ex_25]; exact h9
  have ha_26 : va_at (DG E) vwCl (rf 11, .inl (E.2.2 0, 4, .inl (A 11))) _ := hM.2 11 (by decide) (by decide) (by decide)
  refine rr_iast (D := DG E) hx hb hK.1 0 ha_26 hS (by show G (rf 11) ≠ 0; rw [hR.2 11 (by decide) (by decide) (by decide)]; decide) rfl hi_3 dX10_post_111 (fun H locs hn ho hz hS => ?_)
  rw [en_1] at hn
  obtain ⟨g_26, eg_26⟩ : ∃ z : Nat → Int32, z = upd (A 11) n_1 x_25 := ⟨_, rfl⟩
  have sg_26 : g_26 n_1 = x_25 := by rw [eg_26]; exact upd_s
  have ng_26 : ∀ k, k ≠ n_1 → g_26 k = (A 11) k := fun k hk => by rw [eg_26]; exact upd_n hk
  have hn : va_at (DG E) vwCl (rf 11, .inl (E.2.2 0, 4, .inl g_26)) H := by rw [eg_26]; exact hn
  have hM : MH E h0 rf t0 t1 t2 (uA (uA (uA (uA (uA (uA (uA (uA (uA A 22 g_10) 23 g_12) 24 g_13) 25 g_14) 26 g_15) 27 g_16) 28 g_18) 29 g_20) 11 g_26) cd pk H := hM.w hR 11 (by decide) (by decide) (by decide) hn ho
  refine lv_aload_n hx hb dX10_post_112 rfl (lv_at hl 1 rfl) ?_
  refine va_get (D := DG E) (ci := 10) (v := .ref (rf 20)) (C := RX10) (T := TX10) (N := 49) hx hb hts iw_X10 hown hK.1 (va_one hM.1) 0 rfl rfl 20 (by decide) (hts _ fl_X10_59) (fun _ h9 => h9) rfl dX10_post_113 ?_
  refine lv_iload_n hx hb dX10_post_116 rfl (lv_at hl 2 rfl) ?_
  refine lv_dup2_11 hx hb dX10_post_117 rfl rfl ?_
  have ha_27 : va_at (DG E) vwCl (rf 20, .inl (E.2.2 0, 4, .inl (A 20))) _ := hM.2 20 (by decide) (by decide) (by decide)
  refine va_iald (D := DG E) hx hb hK.1 (va_one ha_27) 0 0 rfl rfl hi_3 dX10_post_118 ?_
  refine W.eq (g2 := F0 m 119 ls [.int ((A 20) n_1), .int p0, .ref (rf 20)]) (by rw [en_1]) ?_
  refine lv_iconst (v := 1) hx hb dX10_post_119 (by decide) ?_
  refine lv_iadd hx hb dX10_post_120 ?_
  refine lv_topi (fun x_28 ex_28 => ?_)
  have fx_28 : x_28.toInt = ((A 20) n_1).toInt + 1 := by have h9 := s_add (x := ((A 20) n_1)) (y := 1) (by rw [i_1]; omega) (by rw [i_1]; omega); rw [i_1] at h9; rw [ex_28]; exact h9
  have ha_29 : va_at (DG E) vwCl (rf 20, .inl (E.2.2 0, 4, .inl (A 20))) _ := hM.2 20 (by decide) (by decide) (by decide)
  refine rr_iast (D := DG E) hx hb hK.1 0 ha_29 hS (by show G (rf 20) ≠ 0; rw [hR.2 20 (by decide) (by decide) (by decide)]; decide) rfl hi_3 dX10_post_121 (fun H locs hn ho hz hS => ?_)
  rw [en_1] at hn
  obtain ⟨g_29, eg_29⟩ : ∃ z : Nat → Int32, z = upd (A 20) n_1 x_28 := ⟨_, rfl⟩
  have sg_29 : g_29 n_1 = x_28 := by rw [eg_29]; exact upd_s
  have ng_29 : ∀ k, k ≠ n_1 → g_29 k = (A 20) k := fun k hk => by rw [eg_29]; exact upd_n hk
  have hn : va_at (DG E) vwCl (rf 20, .inl (E.2.2 0, 4, .inl g_29)) H := by rw [eg_29]; exact hn
  have hM : MH E h0 rf t0 t1 t2 (uA (uA (uA (uA (uA (uA (uA (uA (uA (uA A 22 g_10) 23 g_12) 24 g_13) 25 g_14) 26 g_15) 27 g_16) 28 g_18) 29 g_20) 11 g_26) 20 g_29) cd pk H := hM.w hR 20 (by decide) (by decide) (by decide) hn ho
  refine lv_aload_n hx hb dX10_post_122 rfl (lv_at hl 1 rfl) ?_
  refine va_get (D := DG E) (ci := 10) (v := .ref (rf 21)) (C := RX10) (T := TX10) (N := 49) hx hb hts iw_X10 hown hK.1 (va_one hM.1) 0 rfl rfl 21 (by decide) (hts _ fl_X10_62) (fun _ h9 => h9) rfl dX10_post_123 ?_
  refine lv_iload_n hx hb dX10_post_126 rfl (lv_at hl 2 rfl) ?_
  refine lv_dup2_11 hx hb dX10_post_127 rfl rfl ?_
  have ha_30 : va_at (DG E) vwCl (rf 21, .inl (E.2.2 0, 4, .inl (A 21))) _ := hM.2 21 (by decide) (by decide) (by decide)
  refine va_iald (D := DG E) hx hb hK.1 (va_one ha_30) 0 0 rfl rfl hi_3 dX10_post_128 ?_
  refine W.eq (g2 := F0 m 129 ls [.int ((A 21) n_1), .int p0, .ref (rf 21)]) (by rw [en_1]) ?_
  refine lv_iconst (v := 1) hx hb dX10_post_129 (by decide) ?_
  refine lv_iadd hx hb dX10_post_130 ?_
  refine lv_topi (fun x_31 ex_31 => ?_)
  have ha_32 : va_at (DG E) vwCl (rf 21, .inl (E.2.2 0, 4, .inl (A 21))) _ := hM.2 21 (by decide) (by decide) (by decide)
  refine rr_iast (D := DG E) hx hb hK.1 0 ha_32 hS (by show G (rf 21) ≠ 0; rw [hR.2 21 (by decide) (by decide) (by decide)]; decide) rfl hi_3 dX10_post_131 (fun H locs hn ho hz hS => ?_)
  rw [en_1] at hn
  obtain ⟨g_32, eg_32⟩ : ∃ z : Nat → Int32, z = upd (A 21) n_1 x_31 := ⟨_, rfl⟩
  have sg_32 : g_32 n_1 = x_31 := by rw [eg_32]; exact upd_s
  have ng_32 : ∀ k, k ≠ n_1 → g_32 k = (A 21) k := fun k hk => by rw [eg_32]; exact upd_n hk
  have hn : va_at (DG E) vwCl (rf 21, .inl (E.2.2 0, 4, .inl g_32)) H := by rw [eg_32]; exact hn
  have hM : MH E h0 rf t0 t1 t2 (uA (uA (uA (uA (uA (uA (uA (uA (uA (uA (uA A 22 g_10) 23 g_12) 24 g_13) 25 g_14) 26 g_15) 27 g_16) 28 g_18) 29 g_20) 11 g_26) 20 g_29) 21 g_32) cd pk H := hM.w hR 21 (by decide) (by decide) (by decide) hn ho
  refine lv_aload_n hx hb dX10_post_132 rfl (lv_at hl 1 rfl) ?_
  refine va_get (D := DG E) (ci := 10) (v := .ref (rf 21)) (C := RX10) (T := TX10) (N := 49) hx hb hts iw_X10 hown hK.1 (va_one hM.1) 0 rfl rfl 21 (by decide) (hts _ fl_X10_62) (fun _ h9 => h9) rfl dX10_post_133 ?_
  refine lv_iload_n hx hb dX10_post_136 rfl (lv_at hl 2 rfl) ?_
  have ha_33 : va_at (DG E) vwCl (rf 21, .inl (E.2.2 0, 4, .inl g_32)) _ := hM.2 21 (by decide) (by decide) (by decide)
  refine va_iald (D := DG E) hx hb hK.1 (va_one ha_33) 0 0 rfl rfl hi_3 dX10_post_137 ?_
  refine W.eq (g2 := F0 m 138 ls [.int x_31]) (by rw [en_1, sg_32]) ?_
  refine lv_iconst (v := 1) hx hb dX10_post_138 (by decide) ?_
  refine lv_isub hx hb dX10_post_139 ?_
  refine lv_topi (fun x_34 ex_34 => ?_)
  have hI4_35 : I4 (A 10) g_29 g_20 g_13 g_26 (A 12) (A 13) := by
    intro k hk
    by_cases e : k = n_1
    · rw [e]
      refine ⟨fun _ => ?_, Or.inl hst0⟩
      have e20 : (g_29 n_1).toInt = ((A 20) n_1).toInt + 1 := by rw [sg_29]; omega
      rw [e20]
      refine ((hI4 n_1 (by omega)).1 hst0).post (by omega) n_11 (by omega) ng_20 ng_13 sg_20 ⟨by rw [sg_13]; omega, by rw [sg_13]; omega⟩ ?_
      rw [sg_26]; omega
    · exact (hI4 k hk).cg rfl (ng_29 k e) (fun i hi => ng_20 _ (by omega)) (fun i hi => ng_13 _ (by omega)) (ng_26 k e) rfl rfl
  have hI8_36 : I8 g_29 (A 30) (A 37) (A 36) := by
    intro n9 hn9
    have h9 : 0 ≤ ((A 20) n9).toInt ∧ ((A 20) n9).toInt ≤ 4 ∧ 0 ≤ ((A 30) n9).toInt ∧ ((A 30) n9).toInt ≤ 4 ∧ 0 ≤ ((A 37) n9).toInt ∧ ((A 37) n9).toInt ≤ 2 ∧ (((A 36) n9).toInt = 0 ∨ 1 ≤ ((A 30) n9).toInt) := hI8 n9 hn9
    show 0 ≤ (g_29 n9).toInt ∧ (g_29 n9).toInt ≤ 4 ∧ 0 ≤ ((A 30) n9).toInt ∧ ((A 30) n9).toInt ≤ 4 ∧ 0 ≤ ((A 37) n9).toInt ∧ ((A 37) n9).toInt ≤ 2 ∧ (((A 36) n9).toInt = 0 ∨ 1 ≤ ((A 30) n9).toInt)
    by_cases ezn_1 : n9 = n_1
    · rw [ezn_1] at h9 ⊢
      rw [sg_29]
      exact ⟨by first | exact h9.1 | omega, by first | exact h9.2.1 | omega, by first | exact h9.2.2.1 | omega, by first | exact h9.2.2.2.1 | omega, by first | exact h9.2.2.2.2.1 | omega, by first | exact h9.2.2.2.2.2.1 | omega, by first | exact h9.2.2.2.2.2.2 | omega⟩
    · rw [ng_29 n9 ezn_1]
      exact h9
  exact W.iret (v := x_34) hx hb hr (fun t ht hW => ⟨⟨x_34, (g_26, g_29, g_32, g_10, g_12, g_13, g_14, g_15, g_16, g_18, g_20), rfl, ⟨hI4_35, hI6_22, hI8_36, ⟨n_1, hn_1, x_2, ex_2, fx_2, x_8, ex_8, fx_8, n_11, hn_11, g_10, eg_10, g_12, eg_12, g_13, eg_13, g_14, eg_14, g_15, eg_15, g_16, eg_16, g_18, eg_18, g_20, eg_20, r_23, hDr_23, hpr_23_0, hpr_23_1, x_24, ex_24, fx_24, x_25, ex_25, fx_25, g_26, eg_26, x_28, ex_28, fx_28, g_29, eg_29, x_31, ex_31, g_32, eg_32, x_34, ex_34, rfl, rfl, rfl, rfl⟩⟩, (by show MH E h0 rf t0 t1 t2 (uA (uA (uA (uA (uA (uA (uA (uA (uA (uA (uA A 11 g_26) 20 g_29) 21 g_32) 22 g_10) 23 g_12) 24 g_13) 25 g_14) 26 g_15) 27 g_16) 28 g_18) 29 g_20) cd pk t.heap; rw [ht]; exact hM.cge (funext fun j => (cgj j 29 rfl (fun a0 => (cgj j 28 rfl (fun a1 => (cgj j 27 rfl (fun a2 => (cgj j 26 rfl (fun a3 => (cgj j 25 rfl (fun a4 => (cgj j 24 rfl (fun a5 => (cgj j 23 rfl (fun a6 => (cgj j 22 rfl (fun a7 => (cgj j 21 rfl (fun a8 => (cgj j 20 rfl (fun a9 => (cgj j 11 rfl (fun a10 => (by simp only [uA_n a0, uA_n a1, uA_n a2, uA_n a3, uA_n a4, uA_n a5, uA_n a6, uA_n a7, uA_n a8, uA_n a9, uA_n a10])))))))))))))))))))))))))⟩, hS.F ht⟩) hS.2.2 dX10_post_140
end
