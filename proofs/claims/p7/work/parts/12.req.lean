theorem dX9_require_0 : decode cX9_require 0 = .ok (.iload_n 0, 1) := by decide +kernel
theorem dX9_require_1 : decode cX9_require 1 = .ok (.ifCond .ne 11, 3) := by decide +kernel
theorem dX9_require_4 : decode cX9_require 4 = .ok (.new 188, 3) := by decide +kernel
theorem dX9_require_7 : decode cX9_require 7 = .ok (.dup, 1) := by decide +kernel
theorem dX9_require_8 : decode cX9_require 8 = .ok (.invokespecial 190, 3) := by decide +kernel
theorem dX9_require_11 : decode cX9_require 11 = .ok (.athrow, 1) := by decide +kernel
theorem dX9_require_12 : decode cX9_require 12 = .ok (.return_, 1) := by decide +kernel
theorem dX9_requireState_0 : decode cX9_requireState 0 = .ok (.iload_n 0, 1) := by decide +kernel
theorem dX9_requireState_1 : decode cX9_requireState 1 = .ok (.ifCond .ne 11, 3) := by decide +kernel
theorem dX9_requireState_4 : decode cX9_requireState 4 = .ok (.new 191, 3) := by decide +kernel
theorem dX9_requireState_7 : decode cX9_requireState 7 = .ok (.dup, 1) := by decide +kernel
theorem dX9_requireState_8 : decode cX9_requireState 8 = .ok (.invokespecial 193, 3) := by decide +kernel
theorem dX9_requireState_11 : decode cX9_requireState 11 = .ok (.athrow, 1) := by decide +kernel
theorem dX9_requireState_12 : decode cX9_requireState 12 = .ok (.return_, 1) := by decide +kernel
set_option maxHeartbeats 4000000 in
set_option maxRecDepth 100000 in
theorem c_X9_require (l : Launch) (hst : l.stackTraces = false) (E : EE) (z0 : Nat) (p0 : Int32) : vx_Met l yX9_require [Cond.code yX9_require cX9_require 1 none] ({ frames := 6, cells := 1, slots := 6, locals := 81 } : Room) (va_Pc [.int p0] (fun U => True ∧ KS E z0 U)) (va_Qv (fun (_ : Unit) => ¬ p0 = 0) (fun _ _ => True) (fun _ : Nat => False)) (vx_X (fun (_ : Unit) => p0 = 0) (fun En _ _ => En = IAE) (fun _ : Nat => False)) 1 6 (fun _ : Nat => False) := by
  refine vx_ofW (cc := cX9_require) (maxL := 1) (ret := none) (by decide) rfl ?_
  intro p e s m args below meth c s₁ B hml hne hv
  obtain ⟨rfl, -, hK⟩ := hv
  have hx := B.exec
  have hb := B.bytes
  have hr := B.returns
  have hts : ∀ w ∈ TS, w.before ([.int p0] : List Value).toArray s = true := fun w hw => hK.2.1 w hw _
  have hown : s.vm.findClass RX9 = some m.cls := findClass_of_methodNamed B.named
  have hlocks := B.notSynchronized
  have hS : va_S (fun _ : Nat => False) s.heap s.heap [] := va_S.rf
  have hl := lv_entry ([.int p0]) (n := 1) (Nat.le_of_ble_eq_true rfl)
  rw [lg_entry_eq]
  generalize (lg_sl ([.int p0]) ++ List.replicate (1 - (lg_sl ([.int p0])).length) Slot.unset).toArray = ls at hl ⊢
  have hl : lv_has ls 1 [(0, .int p0)] := hl
  refine lv_iload_n hx hb dX9_require_0 rfl (lv_at hl 0 rfl) ?_
  refine lv_if_ne (tgt := 12) hx hb dX9_require_1 (by decide) (fun c1 => ?_) (fun c1 => ?_)
  · refine vx_ret ?_
    refine W.widen (k := 1) (n := 6) (by decide) (by decide) ?_
    exact W.vret hx hb hr (fun t ht hW => ⟨⟨(), rfl, c1, trivial⟩, hS.F ht⟩) hS.2.2 dX9_require_12
  · exact vx_throw0 (A := AZ z0) hx hb hst (own := RX9) (cls := IAE) (names := upn) (ik := 188) (ic := 190) hown (by decide +kernel) (by decide +kernel) (hts _ cl_X9_188) (hts _ in_IllegalArgumentException) (fun w hw => hts w (tw_IAE w hw)) tg_IAE hK.2.2.1 hK.2.2.2 va_S.rf (by rw [hml]; exact hl.1) dX9_require_4 dX9_require_7 dX9_require_8 dX9_require_11 (fun x hx => (hne x hx).elim) (by decide) (by decide) (by decide) (by decide) hlocks (fun t hA hz hk => ⟨(), c1, rfl, ⟨hz, fun q hq _ => hk q hq⟩⟩) (fun z hz => nomatch hz) (by decide) (by decide)
set_option maxHeartbeats 4000000 in
set_option maxRecDepth 100000 in
theorem c_X9_requireState (l : Launch) (hst : l.stackTraces = false) (E : EE) (z0 : Nat) (p0 : Int32) : vx_Met l yX9_requireState [Cond.code yX9_requireState cX9_requireState 1 none] ({ frames := 6, cells := 1, slots := 6, locals := 81 } : Room) (va_Pc [.int p0] (fun U => True ∧ KS E z0 U)) (va_Qv (fun (_ : Unit) => ¬ p0 = 0) (fun _ _ => True) (fun _ : Nat => False)) (vx_X (fun (_ : Unit) => p0 = 0) (fun En _ _ => En = ISE) (fun _ : Nat => False)) 1 6 (fun _ : Nat => False) := by
  refine vx_ofW (cc := cX9_requireState) (maxL := 1) (ret := none) (by decide) rfl ?_
  intro p e s m args below meth c s₁ B hml hne hv
  obtain ⟨rfl, -, hK⟩ := hv
  have hx := B.exec
  have hb := B.bytes
  have hr := B.returns
  have hts : ∀ w ∈ TS, w.before ([.int p0] : List Value).toArray s = true := fun w hw => hK.2.1 w hw _
  have hown : s.vm.findClass RX9 = some m.cls := findClass_of_methodNamed B.named
  have hlocks := B.notSynchronized
  have hS : va_S (fun _ : Nat => False) s.heap s.heap [] := va_S.rf
  have hl := lv_entry ([.int p0]) (n := 1) (Nat.le_of_ble_eq_true rfl)
  rw [lg_entry_eq]
  generalize (lg_sl ([.int p0]) ++ List.replicate (1 - (lg_sl ([.int p0])).length) Slot.unset).toArray = ls at hl ⊢
  have hl : lv_has ls 1 [(0, .int p0)] := hl
  refine lv_iload_n hx hb dX9_requireState_0 rfl (lv_at hl 0 rfl) ?_
  refine lv_if_ne (tgt := 12) hx hb dX9_requireState_1 (by decide) (fun c1 => ?_) (fun c1 => ?_)
  · refine vx_ret ?_
    refine W.widen (k := 1) (n := 6) (by decide) (by decide) ?_
    exact W.vret hx hb hr (fun t ht hW => ⟨⟨(), rfl, c1, trivial⟩, hS.F ht⟩) hS.2.2 dX9_requireState_12
  · exact vx_throw0 (A := AZ z0) hx hb hst (own := RX9) (cls := ISE) (names := upn) (ik := 191) (ic := 193) hown (by decide +kernel) (by decide +kernel) (hts _ cl_X9_191) (hts _ in_IllegalStateException) (fun w hw => hts w (tw_ISE w hw)) tg_ISE hK.2.2.1 hK.2.2.2 va_S.rf (by rw [hml]; exact hl.1) dX9_requireState_4 dX9_requireState_7 dX9_requireState_8 dX9_requireState_11 (fun x hx => (hne x hx).elim) (by decide) (by decide) (by decide) (by decide) hlocks (fun t hA hz hk => ⟨(), c1, rfl, ⟨hz, fun q hq _ => hk q hq⟩⟩) (fun z hz => nomatch hz) (by decide) (by decide)
