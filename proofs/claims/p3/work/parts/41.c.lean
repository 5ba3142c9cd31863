theorem dX9_after_0 : decode cX9_after 0 = .ok (.iload_n 0, 1) := by decide +kernel
theorem dX9_after_1 : decode cX9_after 1 = .ok (.iload_n 1, 1) := by decide +kernel
theorem dX9_after_2 : decode cX9_after 2 = .ok (.iadd, 1) := by decide +kernel
theorem dX9_after_3 : decode cX9_after 3 = .ok (.bipush 63, 2) := by decide +kernel
theorem dX9_after_5 : decode cX9_after 5 = .ok (.iand, 1) := by decide +kernel
theorem dX9_after_6 : decode cX9_after 6 = .ok (.ireturn, 1) := by decide +kernel
set_option maxHeartbeats 4000000 in
set_option maxRecDepth 100000 in
theorem c_X9_after (l : Launch) (p0 p1 : Int32) : Met l yX9_after [Cond.code yX9_after cX9_after 2 (some .int)] ({ frames := 0, cells := 0, slots := 0, locals := 0 } : Room) (fun v _ => v = ([.int p0, .int p1] : List Value).toArray) (QcRead ((p0 + p1) &&& 63)) 0 0 (fun _ => False) := by
  refine Met.ofW (cc := cX9_after) (maxL := 2) (ret := (some .int)) (by decide) rfl ?_
  intro p e s m args below meth c s₁ B hml hv
  subst hv
  have hx := B.exec
  have hb := B.bytes
  have hr := B.returns
  have hlocks := B.notSynchronized
  have hl := lv_entry ([.int p0, .int p1]) (n := 2) (Nat.le_of_ble_eq_true rfl)
  rw [lg_entry_eq]
  generalize (lg_sl ([.int p0, .int p1]) ++ List.replicate (2 - (lg_sl ([.int p0, .int p1])).length) Slot.unset).toArray = ls at hl ⊢
  have hl : lv_has ls 2 [(0, .int p0), (1, .int p1)] := hl
  refine lv_iload_n hx hb dX9_after_0 rfl (lv_at hl 0 rfl) ?_
  refine lv_iload_n hx hb dX9_after_1 rfl (lv_at hl 1 rfl) ?_
  refine lv_iadd hx hb dX9_after_2 ?_
  refine lv_bipush (v := 63) hx hb dX9_after_3 (by decide) ?_
  refine lv_iand hx hb dX9_after_5 ?_
  exact W.iret (v := ((p0 + p1) &&& 63)) hx hb hr (fun t ht hW => ⟨rfl, ht⟩) (fun q hq => nomatch hq) dX9_after_6
theorem dX9_distance_0 : decode cX9_distance 0 = .ok (.iload_n 1, 1) := by decide +kernel
theorem dX9_distance_1 : decode cX9_distance 1 = .ok (.iload_n 0, 1) := by decide +kernel
theorem dX9_distance_2 : decode cX9_distance 2 = .ok (.isub, 1) := by decide +kernel
theorem dX9_distance_3 : decode cX9_distance 3 = .ok (.bipush 63, 2) := by decide +kernel
theorem dX9_distance_5 : decode cX9_distance 5 = .ok (.iand, 1) := by decide +kernel
theorem dX9_distance_6 : decode cX9_distance 6 = .ok (.ireturn, 1) := by decide +kernel
set_option maxHeartbeats 4000000 in
set_option maxRecDepth 100000 in
theorem c_X9_distance (l : Launch) (p0 p1 : Int32) : Met l yX9_distance [Cond.code yX9_distance cX9_distance 2 (some .int)] ({ frames := 0, cells := 0, slots := 0, locals := 0 } : Room) (fun v _ => v = ([.int p0, .int p1] : List Value).toArray) (QcRead ((p1 - p0) &&& 63)) 0 0 (fun _ => False) := by
  refine Met.ofW (cc := cX9_distance) (maxL := 2) (ret := (some .int)) (by decide) rfl ?_
  intro p e s m args below meth c s₁ B hml hv
  subst hv
  have hx := B.exec
  have hb := B.bytes
  have hr := B.returns
  have hlocks := B.notSynchronized
  have hl := lv_entry ([.int p0, .int p1]) (n := 2) (Nat.le_of_ble_eq_true rfl)
  rw [lg_entry_eq]
  generalize (lg_sl ([.int p0, .int p1]) ++ List.replicate (2 - (lg_sl ([.int p0, .int p1])).length) Slot.unset).toArray = ls at hl ⊢
  have hl : lv_has ls 2 [(0, .int p0), (1, .int p1)] := hl
  refine lv_iload_n hx hb dX9_distance_0 rfl (lv_at hl 1 rfl) ?_
  refine lv_iload_n hx hb dX9_distance_1 rfl (lv_at hl 0 rfl) ?_
  refine lv_isub hx hb dX9_distance_2 ?_
  refine lv_bipush (v := 63) hx hb dX9_distance_3 (by decide) ?_
  refine lv_iand hx hb dX9_distance_5 ?_
  exact W.iret (v := ((p1 - p0) &&& 63)) hx hb hr (fun t ht hW => ⟨rfl, ht⟩) (fun q hq => nomatch hq) dX9_distance_6
theorem dX9_numbersFor_0 : decode cX9_numbersFor 0 = .ok (.iload_n 0, 1) := by decide +kernel
theorem dX9_numbersFor_1 : decode cX9_numbersFor 1 = .ok (.iconst 4, 1) := by decide +kernel
theorem dX9_numbersFor_2 : decode cX9_numbersFor 2 = .ok (.iadd, 1) := by decide +kernel
theorem dX9_numbersFor_3 : decode cX9_numbersFor 3 = .ok (.iconst 1, 1) := by decide +kernel
theorem dX9_numbersFor_4 : decode cX9_numbersFor 4 = .ok (.isub, 1) := by decide +kernel
theorem dX9_numbersFor_5 : decode cX9_numbersFor 5 = .ok (.iconst 4, 1) := by decide +kernel
theorem dX9_numbersFor_6 : decode cX9_numbersFor 6 = .ok (.idiv, 1) := by decide +kernel
theorem dX9_numbersFor_7 : decode cX9_numbersFor 7 = .ok (.ireturn, 1) := by decide +kernel
set_option maxHeartbeats 4000000 in
set_option maxRecDepth 100000 in
theorem c_X9_numbersFor (l : Launch) (p0 : Int32) : Met l yX9_numbersFor [Cond.code yX9_numbersFor cX9_numbersFor 1 (some .int)] ({ frames := 0, cells := 0, slots := 0, locals := 0 } : Room) (fun v _ => v = ([.int p0] : List Value).toArray) (QcRead (((p0 + 4) - 1) / 4)) 0 0 (fun _ => False) := by
  refine Met.ofW (cc := cX9_numbersFor) (maxL := 1) (ret := (some .int)) (by decide) rfl ?_
  intro p e s m args below meth c s₁ B hml hv
  subst hv
  have hx := B.exec
  have hb := B.bytes
  have hr := B.returns
  have hlocks := B.notSynchronized
  have hl := lv_entry ([.int p0]) (n := 1) (Nat.le_of_ble_eq_true rfl)
  rw [lg_entry_eq]
  generalize (lg_sl ([.int p0]) ++ List.replicate (1 - (lg_sl ([.int p0])).length) Slot.unset).toArray = ls at hl ⊢
  have hl : lv_has ls 1 [(0, .int p0)] := hl
  refine lv_iload_n hx hb dX9_numbersFor_0 rfl (lv_at hl 0 rfl) ?_
  refine lv_iconst (v := 4) hx hb dX9_numbersFor_1 (by decide) ?_
  refine lv_iadd hx hb dX9_numbersFor_2 ?_
  refine lv_iconst (v := 1) hx hb dX9_numbersFor_3 (by decide) ?_
  refine lv_isub hx hb dX9_numbersFor_4 ?_
  refine lv_iconst (v := 4) hx hb dX9_numbersFor_5 (by decide) ?_
  refine lv_idiv hx hb dX9_numbersFor_6 (by decide) ?_
  exact W.iret (v := (((p0 + 4) - 1) / 4)) hx hb hr (fun t ht hW => ⟨rfl, ht⟩) (fun q hq => nomatch hq) dX9_numbersFor_7
theorem dX9_before_0 : decode cX9_before 0 = .ok (.iload_n 0, 1) := by decide +kernel
theorem dX9_before_1 : decode cX9_before 1 = .ok (.iconst (-1), 1) := by decide +kernel
theorem dX9_before_2 : decode cX9_before 2 = .ok (.invokestatic 203, 3) := by decide +kernel
theorem dX9_before_5 : decode cX9_before 5 = .ok (.ireturn, 1) := by decide +kernel
set_option maxHeartbeats 4000000 in
set_option maxRecDepth 100000 in
theorem t_X9_before (l : Launch) (E : EE) (z0 : Nat) (p0 : Int32) : Met l yX9_before [Cond.code yX9_before cX9_before 1 (some .int)] ({ frames := 1, cells := 0, slots := 0, locals := 21 } : Room) (va_Pc [.int p0] (fun U => True ∧ KS E z0 U)) (va_Qi (fun (r : Int32) (_ : Unit) => 0 ≤ r.toInt ∧ r.toInt ≤ 63) (fun _ _ => True) (fun _ : Nat => False)) 0 0 (fun _ : Nat => False) := by
  refine Met.ofW (cc := cX9_before) (maxL := 1) (ret := (some .int)) (by decide) rfl ?_
  intro p e s m args below meth c s₁ B hml hv
  obtain ⟨rfl, -, hK⟩ := hv
  have hx := B.exec
  have hb := B.bytes
  have hr := B.returns
  have hts : ∀ w ∈ TS, w.before ([.int p0] : List Value).toArray s = true := fun w hw => hK.2.1 w hw _
  have hown : s.vm.findClass RX9 = some m.cls := findClass_of_methodNamed B.named
  have hS : va_S (fun _ : Nat => False) s.heap s.heap [] := va_S.rf
  have hl := lv_entry ([.int p0]) (n := 1) (Nat.le_of_ble_eq_true rfl)
  rw [lg_entry_eq]
  generalize (lg_sl ([.int p0]) ++ List.replicate (1 - (lg_sl ([.int p0])).length) Slot.unset).toArray = ls at hl ⊢
  have hl : lv_has ls 1 [(0, .int p0)] := hl
  refine lv_iload_n hx hb dX9_before_0 rfl (lv_at hl 0 rfl) ?_
  refine lv_iconst (v := (-1)) hx hb dX9_before_1 (by decide) ?_
  refine W.callR (W.runS (As := [.int p0, .int (-1)]) (rest := []) ⟨hx, hb, hml, hown, hts⟩ (c_X9_after l p0 ((-1))) (cwS 2 hts (gdS ml_X9_203 st_X9_after in_X9 co_X9_after rfl) rfl rfl rfl (by decide +kernel) ⟨Nat.le_of_ble_eq_true rfl, Nat.le_of_ble_eq_true rfl⟩) preEq rfl rfl hl.1 rfl (lv_room (Nat.le_of_ble_eq_true rfl)) dX9_before_2 ⟨Nat.le_of_ble_eq_true rfl, Nat.le_of_ble_eq_true rfl⟩) ?_
  refine W.eq (g2 := F0 m 5 ls [.int ((p0 + (-1)) &&& 63)]) (by rfl) ?_
  exact W.iret (v := (p0 + (-1)) &&& 63) hx hb hr (fun t ht hW => ⟨⟨_, (), rfl, s_and63 _, trivial⟩, hS.F ht⟩) hS.2.2 dX9_before_5
theorem dX6_become_0 : decode cX6_become 0 = .ok (.aload_n 0, 1) := by decide +kernel
theorem dX6_become_1 : decode cX6_become 1 = .ok (.iload_n 1, 1) := by decide +kernel
theorem dX6_become_2 : decode cX6_become 2 = .ok (.putfield 7, 3) := by decide +kernel
theorem dX6_become_5 : decode cX6_become 5 = .ok (.aload_n 0, 1) := by decide +kernel
theorem dX6_become_6 : decode cX6_become 6 = .ok (.iload_n 2, 1) := by decide +kernel
theorem dX6_become_7 : decode cX6_become 7 = .ok (.putfield 13, 3) := by decide +kernel
theorem dX6_become_10 : decode cX6_become 10 = .ok (.aload_n 0, 1) := by decide +kernel
theorem dX6_become_11 : decode cX6_become 11 = .ok (.iload_n 3, 1) := by decide +kernel
theorem dX6_become_12 : decode cX6_become 12 = .ok (.putfield 16, 3) := by decide +kernel
theorem dX6_become_15 : decode cX6_become 15 = .ok (.return_, 1) := by decide +kernel
set_option maxHeartbeats 8000000 in
set_option maxRecDepth 100000 in
theorem t_X6_become (l : Launch) (E : EE) (z0 : Nat) (G : Nat → Nat) (hGz : ∀ q, G q ≠ 0 → z0 ≤ q) (h0 : Nat) (p0 : Int32) (p1 : Int32) (p2 : Int32) (hG : G h0 = 7) : Met l yX6_become [Cond.code yX6_become cX6_become 4 none] ({ frames := 0, cells := 0, slots := 0, locals := 0 } : Room) (va_Pc [.ref h0, .int p0, .int p1, .int p2] (fun U => (TH E (T1 E) G [] U.heap) ∧ KS E z0 U)) (va_Qv (fun (_ : Unit) => True) (fun _ t => TH E (T1 E) G [] t.heap) (fun q : Nat => G q ∈ ([7] : List Nat))) 0 0 (fun q : Nat => G q ∈ ([7] : List Nat)) := by
  refine Met.ofW (cc := cX6_become) (maxL := 4) (ret := none) (by decide) rfl ?_
  intro p e s m args below meth c s₁ B hml hv
  obtain ⟨rfl, hT, hK⟩ := hv
  have hx := B.exec
  have hb := B.bytes
  have hr := B.returns
  have hts : ∀ w ∈ TS, w.before ([.ref h0, .int p0, .int p1, .int p2] : List Value).toArray s = true := fun w hw => hK.2.1 w hw _
  have hown : s.vm.findClass RX6 = some m.cls := findClass_of_methodNamed B.named
  have hlocks := B.notSynchronized
  have hS : va_S (fun q : Nat => G q ∈ ([7] : List Nat)) s.heap s.heap [] := va_S.rf
  have hAz : ∀ q, (fun q : Nat => G q ∈ ([7] : List Nat)) q → z0 ≤ q := zL hGz (by decide)
  have hl := lv_entry ([.ref h0, .int p0, .int p1, .int p2]) (n := 4) (Nat.le_of_ble_eq_true rfl)
  rw [lg_entry_eq]
  generalize (lg_sl ([.ref h0, .int p0, .int p1, .int p2]) ++ List.replicate (4 - (lg_sl ([.ref h0, .int p0, .int p1, .int p2])).length) Slot.unset).toArray = ls at hl ⊢
  have hl : lv_has ls 4 [(0, .ref h0), (1, .int p0), (2, .int p1), (3, .int p2)] := hl
  refine lv_aload_n hx hb dX6_become_0 rfl (lv_at hl 0 rfl) ?_
  refine lv_iload_n hx hb dX6_become_1 rfl (lv_at hl 1 rfl) ?_
  obtain ⟨v0_1, v1_1, v2_1, ha_1⟩ := tr_7 hT hG
  refine rr_put (D := DG E) (ci := 6) (v := .int p0) (ty := .int) (C := RX6) (T := TX6) (N := 3) hx hb hts iw_X6 tyX6 tyX6_ok nmX6 hown hK.1 ha_1 hS (by show G h0 ∈ ([7] : List Nat); rw [hG]; decide) rfl 0 (by decide) (hts _ fl_X6_7) (fun _ h9 => h9) rfl (by decide +kernel) rfl rfl (Nat.le_of_ble_eq_true rfl) dX6_become_2 (fun H locs hn ho hz hS => ?_)
  have hr_2 : va_at (DG E) vwCl (h0, .inr (6, [.int p0, .int v1_1, .int v2_1])) H := hn
  have hT : TH E (T1 E) G [] H := hT.set hG (show T1 E G 7 _ from ⟨p0, v1_1, v2_1, rfl⟩) hr_2 ho
  refine lv_aload_n hx hb dX6_become_5 rfl (lv_at hl 0 rfl) ?_
  refine lv_iload_n hx hb dX6_become_6 rfl (lv_at hl 2 rfl) ?_
  refine rr_put (D := DG E) (ci := 6) (v := .int p1) (ty := .int) (C := RX6) (T := TX6) (N := 3) hx hb hts iw_X6 tyX6 tyX6_ok nmX6 hown hK.1 hr_2 hS (by show G h0 ∈ ([7] : List Nat); rw [hG]; decide) rfl 1 (by decide) (hts _ fl_X6_13) (fun _ h9 => h9) rfl (by decide +kernel) rfl rfl (Nat.le_of_ble_eq_true rfl) dX6_become_7 (fun H locs hn ho hz hS => ?_)
  have hr_3 : va_at (DG E) vwCl (h0, .inr (6, [.int p0, .int p1, .int v2_1])) H := hn
  have hT : TH E (T1 E) G [] H := hT.set hG (show T1 E G 7 _ from ⟨p0, p1, v2_1, rfl⟩) hr_3 ho
  refine lv_aload_n hx hb dX6_become_10 rfl (lv_at hl 0 rfl) ?_
  refine lv_iload_n hx hb dX6_become_11 rfl (lv_at hl 3 rfl) ?_
  refine rr_put (D := DG E) (ci := 6) (v := .int p2) (ty := .int) (C := RX6) (T := TX6) (N := 3) hx hb hts iw_X6 tyX6 tyX6_ok nmX6 hown hK.1 hr_3 hS (by show G h0 ∈ ([7] : List Nat); rw [hG]; decide) rfl 2 (by decide) (hts _ fl_X6_16) (fun _ h9 => h9) rfl (by decide +kernel) rfl rfl (Nat.le_of_ble_eq_true rfl) dX6_become_12 (fun H locs hn ho hz hS => ?_)
  have hr_4 : va_at (DG E) vwCl (h0, .inr (6, [.int p0, .int p1, .int p2])) H := hn
  have hT : TH E (T1 E) G [] H := hT.set hG (show T1 E G 7 _ from ⟨p0, p1, p2, rfl⟩) hr_4 ho
  exact W.vret hx hb hr (fun t ht hW => ⟨⟨(), rfl, trivial, (by show TH E (T1 E) G [] t.heap; rw [ht]; exact hT)⟩, hS.F ht⟩) hS.2.2 dX6_become_15
theorem dX6_allows_0 : decode cX6_allows 0 = .ok (.aload_n 0, 1) := by decide +kernel
theorem dX6_allows_1 : decode cX6_allows 1 = .ok (.getfield 13, 3) := by decide +kernel
theorem dX6_allows_4 : decode cX6_allows 4 = .ok (.ifCond .le 39, 3) := by decide +kernel
theorem dX6_allows_7 : decode cX6_allows 7 = .ok (.iload_n 1, 1) := by decide +kernel
theorem dX6_allows_8 : decode cX6_allows 8 = .ok (.aload_n 0, 1) := by decide +kernel
theorem dX6_allows_9 : decode cX6_allows 9 = .ok (.getfield 7, 3) := by decide +kernel
theorem dX6_allows_12 : decode cX6_allows 12 = .ok (.if_icmp .lt 31, 3) := by decide +kernel
theorem dX6_allows_15 : decode cX6_allows 15 = .ok (.iload_n 1, 1) := by decide +kernel
theorem dX6_allows_16 : decode cX6_allows 16 = .ok (.iload_n 2, 1) := by decide +kernel
theorem dX6_allows_17 : decode cX6_allows 17 = .ok (.iadd, 1) := by decide +kernel
theorem dX6_allows_18 : decode cX6_allows 18 = .ok (.aload_n 0, 1) := by decide +kernel
theorem dX6_allows_19 : decode cX6_allows 19 = .ok (.getfield 7, 3) := by decide +kernel
theorem dX6_allows_22 : decode cX6_allows 22 = .ok (.aload_n 0, 1) := by decide +kernel
theorem dX6_allows_23 : decode cX6_allows 23 = .ok (.getfield 13, 3) := by decide +kernel
theorem dX6_allows_26 : decode cX6_allows 26 = .ok (.iadd, 1) := by decide +kernel
theorem dX6_allows_27 : decode cX6_allows 27 = .ok (.if_icmp .gt 16, 3) := by decide +kernel
theorem dX6_allows_30 : decode cX6_allows 30 = .ok (.aload_n 0, 1) := by decide +kernel
theorem dX6_allows_31 : decode cX6_allows 31 = .ok (.getfield 16, 3) := by decide +kernel
theorem dX6_allows_34 : decode cX6_allows 34 = .ok (.iload_n 3, 1) := by decide +kernel
theorem dX6_allows_35 : decode cX6_allows 35 = .ok (.iand, 1) := by decide +kernel
theorem dX6_allows_36 : decode cX6_allows 36 = .ok (.ifCond .eq 7, 3) := by decide +kernel
theorem dX6_allows_39 : decode cX6_allows 39 = .ok (.iconst 1, 1) := by decide +kernel
theorem dX6_allows_40 : decode cX6_allows 40 = .ok (.goto 4, 3) := by decide +kernel
theorem dX6_allows_43 : decode cX6_allows 43 = .ok (.iconst 0, 1) := by decide +kernel
theorem dX6_allows_44 : decode cX6_allows 44 = .ok (.ireturn, 1) := by decide +kernel
set_option maxHeartbeats 8000000 in
set_option maxRecDepth 100000 in
theorem t_X6_allows (l : Launch) (E : EE) (z0 : Nat) (G : Nat → Nat) (hGz : ∀ q, G q ≠ 0 → z0 ≤ q) (h0 : Nat) (p0 : Int32) (p1 : Int32) (p2 : Int32) (hG : G h0 = 7) : Met l yX6_allows [Cond.code yX6_allows cX6_allows 4 (some .boolean)] ({ frames := 0, cells := 0, slots := 0, locals := 0 } : Room) (va_Pc [.ref h0, .int p0, .int p1, .int p2] (fun U => (TH E (T1 E) G [] U.heap) ∧ KS E z0 U)) (va_Qi (fun (r : Int32) (_ : Unit) => r = 0 ∨ r = 1) (fun _ t => True) (fun _ : Nat => False)) 0 0 (fun _ : Nat => False) := by
  refine Met.ofW (cc := cX6_allows) (maxL := 4) (ret := (some .boolean)) (by decide) rfl ?_
  intro p e s m args below meth c s₁ B hml hv
  obtain ⟨rfl, hT, hK⟩ := hv
  have hx := B.exec
  have hb := B.bytes
  have hr := B.returns
  have hts : ∀ w ∈ TS, w.before ([.ref h0, .int p0, .int p1, .int p2] : List Value).toArray s = true := fun w hw => hK.2.1 w hw _
  have hown : s.vm.findClass RX6 = some m.cls := findClass_of_methodNamed B.named
  have hlocks := B.notSynchronized
  have hS : va_S (fun _ : Nat => False) s.heap s.heap [] := va_S.rf
  have hAz : ∀ q, (fun _ : Nat => False) q → z0 ≤ q := fun _ h => h.elim
  have hl := lv_entry ([.ref h0, .int p0, .int p1, .int p2]) (n := 4) (Nat.le_of_ble_eq_true rfl)
  rw [lg_entry_eq]
  generalize (lg_sl ([.ref h0, .int p0, .int p1, .int p2]) ++ List.replicate (4 - (lg_sl ([.ref h0, .int p0, .int p1, .int p2])).length) Slot.unset).toArray = ls at hl ⊢
  have hl : lv_has ls 4 [(0, .ref h0), (1, .int p0), (2, .int p1), (3, .int p2)] := hl
  refine lv_aload_n hx hb dX6_allows_0 rfl (lv_at hl 0 rfl) ?_
  obtain ⟨v0_1, v1_1, v2_1, ha_1⟩ := tr_7 hT hG
  refine va_get (D := DG E) (ci := 6) (v := .int v1_1) (C := RX6) (T := TX6) (N := 3) hx hb hts iw_X6 hown hK.1 (va_one ha_1) 0 rfl rfl 1 (by decide) (hts _ fl_X6_13) (fun _ h9 => h9) rfl dX6_allows_1 ?_
  refine lv_if_le (tgt := 43) hx hb dX6_allows_4 (by decide) (fun c_2 => ?_) (fun c_2 => ?_)
  · simp only [lt_I, le_I, eq_I, i_0, i_1, i_2, i_3, i_4, i_5, i_6, i_7, i_8, i_10, i_12, i_16, i_20, i_23, i_24, i_31, i_32, i_63, i_64, i_m1] at c_2
    refine lv_iconst (v := 0) hx hb dX6_allows_43 (by decide) ?_
    exact W.zret (v := 0) (ty := .boolean) hx hb hr rfl (fun t ht hW => ⟨⟨0, (), rfl, (by decide), trivial⟩, hS.F ht⟩) hS.2.2 dX6_allows_44
  · simp only [lt_I, le_I, eq_I, i_0, i_1, i_2, i_3, i_4, i_5, i_6, i_7, i_8, i_10, i_12, i_16, i_20, i_23, i_24, i_31, i_32, i_63, i_64, i_m1] at c_2
    refine lv_iload_n hx hb dX6_allows_7 rfl (lv_at hl 1 rfl) ?_
    refine lv_aload_n hx hb dX6_allows_8 rfl (lv_at hl 0 rfl) ?_
    refine va_get (D := DG E) (ci := 6) (v := .int v0_1) (C := RX6) (T := TX6) (N := 3) hx hb hts iw_X6 hown hK.1 (va_one ha_1) 0 rfl rfl 0 (by decide) (hts _ fl_X6_7) (fun _ h9 => h9) rfl dX6_allows_9 ?_
    refine lv_icmp_lt (tgt := 43) hx hb dX6_allows_12 (by decide) (fun c_3 => ?_) (fun c_3 => ?_)
    · simp only [lt_I, le_I, eq_I, i_0, i_1, i_2, i_3, i_4, i_5, i_6, i_7, i_8, i_10, i_12, i_16, i_20, i_23, i_24, i_31, i_32, i_63, i_64, i_m1] at c_3
      refine lv_iconst (v := 0) hx hb dX6_allows_43 (by decide) ?_
      exact W.zret (v := 0) (ty := .boolean) hx hb hr rfl (fun t ht hW => ⟨⟨0, (), rfl, (by decide), trivial⟩, hS.F ht⟩) hS.2.2 dX6_allows_44
    · simp only [lt_I, le_I, eq_I, i_0, i_1, i_2, i_3, i_4, i_5, i_6, i_7, i_8, i_10, i_12, i_16, i_20, i_23, i_24, i_31, i_32, i_63, i_64, i_m1] at c_3
      refine lv_iload_n hx hb dX6_allows_15 rfl (lv_at hl 1 rfl) ?_
      refine lv_iload_n hx hb dX6_allows_16 rfl (lv_at hl 2 rfl) ?_
      refine lv_iadd hx hb dX6_allows_17 ?_
      refine lv_topi (fun x_4 ex_4 => ?_)
      refine lv_aload_n hx hb dX6_allows_18 rfl (lv_at hl 0 rfl) ?_
      refine va_get (D := DG E) (ci := 6) (v := .int v0_1) (C := RX6) (T := TX6) (N := 3) hx hb hts iw_X6 hown hK.1 (va_one ha_1) 0 rfl rfl 0 (by decide) (hts _ fl_X6_7) (fun _ h9 => h9) rfl dX6_allows_19 ?_
      refine lv_aload_n hx hb dX6_allows_22 rfl (lv_at hl 0 rfl) ?_
      refine va_get (D := DG E) (ci := 6) (v := .int v1_1) (C := RX6) (T := TX6) (N := 3) hx hb hts iw_X6 hown hK.1 (va_one ha_1) 0 rfl rfl 1 (by decide) (hts _ fl_X6_13) (fun _ h9 => h9) rfl dX6_allows_23 ?_
      refine lv_iadd hx hb dX6_allows_26 ?_
      refine lv_topi (fun x_5 ex_5 => ?_)
      refine lv_icmp_gt (tgt := 43) hx hb dX6_allows_27 (by decide) (fun c_6 => ?_) (fun c_6 => ?_)
      · simp only [lt_I, le_I, eq_I, i_0, i_1, i_2, i_3, i_4, i_5, i_6, i_7, i_8, i_10, i_12, i_16, i_20, i_23, i_24, i_31, i_32, i_63, i_64, i_m1] at c_6
        refine lv_iconst (v := 0) hx hb dX6_allows_43 (by decide) ?_
        exact W.zret (v := 0) (ty := .boolean) hx hb hr rfl (fun t ht hW => ⟨⟨0, (), rfl, (by decide), trivial⟩, hS.F ht⟩) hS.2.2 dX6_allows_44
      · simp only [lt_I, le_I, eq_I, i_0, i_1, i_2, i_3, i_4, i_5, i_6, i_7, i_8, i_10, i_12, i_16, i_20, i_23, i_24, i_31, i_32, i_63, i_64, i_m1] at c_6
        refine lv_aload_n hx hb dX6_allows_30 rfl (lv_at hl 0 rfl) ?_
        refine va_get (D := DG E) (ci := 6) (v := .int v2_1) (C := RX6) (T := TX6) (N := 3) hx hb hts iw_X6 hown hK.1 (va_one ha_1) 0 rfl rfl 2 (by decide) (hts _ fl_X6_16) (fun _ h9 => h9) rfl dX6_allows_31 ?_
        refine lv_iload_n hx hb dX6_allows_34 rfl (lv_at hl 3 rfl) ?_
        refine lv_iand hx hb dX6_allows_35 ?_
        refine lv_topi (fun x_7 ex_7 => ?_)
        refine lv_if_eq (tgt := 43) hx hb dX6_allows_36 (by decide) (fun c_8 => ?_) (fun c_8 => ?_)
        · simp only [lt_I, le_I, eq_I, i_0, i_1, i_2, i_3, i_4, i_5, i_6, i_7, i_8, i_10, i_12, i_16, i_20, i_23, i_24, i_31, i_32, i_63, i_64, i_m1] at c_8
          refine lv_iconst (v := 0) hx hb dX6_allows_43 (by decide) ?_
          exact W.zret (v := 0) (ty := .boolean) hx hb hr rfl (fun t ht hW => ⟨⟨0, (), rfl, (by decide), trivial⟩, hS.F ht⟩) hS.2.2 dX6_allows_44
        · simp only [lt_I, le_I, eq_I, i_0, i_1, i_2, i_3, i_4, i_5, i_6, i_7, i_8, i_10, i_12, i_16, i_20, i_23, i_24, i_31, i_32, i_63, i_64, i_m1] at c_8
          refine lv_iconst (v := 1) hx hb dX6_allows_39 (by decide) ?_
          refine lv_goto (tgt := 44) hx hb dX6_allows_40 (by decide) ?_
          exact W.zret (v := 1) (ty := .boolean) hx hb hr rfl (fun t ht hW => ⟨⟨1, (), rfl, (by decide), trivial⟩, hS.F ht⟩) hS.2.2 dX6_allows_44
theorem dX1_at_0 : decode cX1_at 0 = .ok (.iload_n 1, 1) := by decide +kernel
theorem dX1_at_1 : decode cX1_at 1 = .ok (.invokestatic 25, 3) := by decide +kernel
theorem dX1_at_4 : decode cX1_at 4 = .ok (.ifCond .eq 12, 3) := by decide +kernel
theorem dX1_at_7 : decode cX1_at 7 = .ok (.aload_n 0, 1) := by decide +kernel
theorem dX1_at_8 : decode cX1_at 8 = .ok (.getfield 9, 3) := by decide +kernel
theorem dX1_at_11 : decode cX1_at 11 = .ok (.iload_n 1, 1) := by decide +kernel
theorem dX1_at_12 : decode cX1_at 12 = .ok (.iaload, 1) := by decide +kernel
theorem dX1_at_13 : decode cX1_at 13 = .ok (.goto 4, 3) := by decide +kernel
theorem dX1_at_16 : decode cX1_at 16 = .ok (.iconst 0, 1) := by decide +kernel
theorem dX1_at_17 : decode cX1_at 17 = .ok (.ireturn, 1) := by decide +kernel
set_option maxHeartbeats 8000000 in
set_option maxRecDepth 100000 in
theorem t_X1_at (l : Launch) (E : EE) (z0 : Nat) (G : Nat → Nat) (hGz : ∀ q, G q ≠ 0 → z0 ≤ q) (h0 : Nat) (p0 : Int32) (hG : G h0 = 5) : Met l yX1_at [Cond.code yX1_at cX1_at 2 (some .int)] ({ frames := 1, cells := 0, slots := 0, locals := 20 } : Room) (va_Pc [.ref h0, .int p0] (fun U => (TH E (T1 E) G [] U.heap) ∧ KS E z0 U)) (va_Qi (fun (r : Int32) (_ : Unit) => True) (fun _ t => True) (fun _ : Nat => False)) 0 0 (fun _ : Nat => False) := by
  refine Met.ofW (cc := cX1_at) (maxL := 2) (ret := (some .int)) (by decide) rfl ?_
  intro p e s m args below meth c s₁ B hml hv
  obtain ⟨rfl, hT, hK⟩ := hv
  have hx := B.exec
  have hb := B.bytes
  have hr := B.returns
  have hts : ∀ w ∈ TS, w.before ([.ref h0, .int p0] : List Value).toArray s = true := fun w hw => hK.2.1 w hw _
  have hown : s.vm.findClass RX1 = some m.cls := findClass_of_methodNamed B.named
  have hlocks := B.notSynchronized
  have hS : va_S (fun _ : Nat => False) s.heap s.heap [] := va_S.rf
  have hAz : ∀ q, (fun _ : Nat => False) q → z0 ≤ q := fun _ h => h.elim
  have hl := lv_entry ([.ref h0, .int p0]) (n := 2) (Nat.le_of_ble_eq_true rfl)
  rw [lg_entry_eq]
  generalize (lg_sl ([.ref h0, .int p0]) ++ List.replicate (2 - (lg_sl ([.ref h0, .int p0])).length) Slot.unset).toArray = ls at hl ⊢
  have hl : lv_has ls 2 [(0, .ref h0), (1, .int p0)] := hl
  refine lv_iload_n hx hb dX1_at_0 rfl (lv_at hl 1 rfl) ?_
  refine rnSN (As := [.int p0]) (rest := []) ⟨hx, hb, hml, hown, hts⟩ (c_X9_isCell l p0) ⟨va_cnB (host := RX9) 1 hts (gd1 co_X9_isCell rfl) rfl rfl rfl (hK.2.1 _ mn_X1_25 #[]) (hts _ in_X9) (by decide +kernel) ⟨Nat.le_of_ble_eq_true rfl, Nat.le_of_ble_eq_true rfl⟩, hts _ st_X9_isCell, trivial⟩ rfl rfl hl.1 rfl (lv_room (Nat.le_of_ble_eq_true rfl)) dX1_at_1 ⟨Nat.le_of_ble_eq_true rfl, Nat.le_of_ble_eq_true rfl⟩ ?_
  refine W.eq (g2 := F0 m 4 ls [.int (bI (0 ≤ p0.toInt ∧ p0.toInt < 32))]) (by rfl) ?_
  refine lv_if_eq (tgt := 16) hx hb dX1_at_4 (by decide) (fun c_1 => ?_) (fun c_1 => ?_)
  · have c_1 := bI_0 c_1
    refine lv_iconst (v := 0) hx hb dX1_at_16 (by decide) ?_
    exact W.iret (v := 0) hx hb hr (fun t ht hW => ⟨⟨0, (), rfl, trivial, trivial⟩, hS.F ht⟩) hS.2.2 dX1_at_17
  · have c_1 := bI_n c_1
    refine lv_aload_n hx hb dX1_at_7 rfl (lv_at hl 0 rfl) ?_
    obtain ⟨v0_2, v1_2, v2_2, v3_2, v4_2, ha_2, hg0_2, hg1_2, hg2_2, hb3_2, hb4_2⟩ := tr_5 hT hG
    refine va_get (D := DG E) (ci := 1) (v := .ref v0_2) (C := RX1) (T := TX1) (N := 5) hx hb hts iw_X1 hown hK.1 (va_one ha_2) 0 rfl rfl 0 (by decide) (hts _ fl_X1_9) (fun _ h9 => h9) rfl dX1_at_8 ?_
    refine lv_iload_n hx hb dX1_at_11 rfl (lv_at hl 1 rfl) ?_
    obtain ⟨f_3, ha_3⟩ := tr_14 hT hg0_2
    refine va_iald (D := DG E) hx hb hK.1 (va_one ha_3) 0 0 rfl rfl (show vp_in p0 32 from vp_in_iff.mpr (by omega)) dX1_at_12 ?_
    refine W.eq (g2 := F0 m 13 ls [.int (f_3 (p0 : Int32).toNatClampNeg)]) (by rfl) ?_
    refine lv_topi (fun x_4 ex_4 => ?_)
    refine lv_goto (tgt := 17) hx hb dX1_at_13 (by decide) ?_
    exact W.iret (v := x_4) hx hb hr (fun t ht hW => ⟨⟨x_4, (), rfl, trivial, trivial⟩, hS.F ht⟩) hS.2.2 dX1_at_17
theorem dX1_put_0 : decode cX1_put 0 = .ok (.iload_n 1, 1) := by decide +kernel
theorem dX1_put_1 : decode cX1_put 1 = .ok (.invokestatic 25, 3) := by decide +kernel
theorem dX1_put_4 : decode cX1_put 4 = .ok (.ifCond .eq 10, 3) := by decide +kernel
theorem dX1_put_7 : decode cX1_put 7 = .ok (.aload_n 0, 1) := by decide +kernel
theorem dX1_put_8 : decode cX1_put 8 = .ok (.getfield 9, 3) := by decide +kernel
theorem dX1_put_11 : decode cX1_put 11 = .ok (.iload_n 1, 1) := by decide +kernel
theorem dX1_put_12 : decode cX1_put 12 = .ok (.iload_n 2, 1) := by decide +kernel
theorem dX1_put_13 : decode cX1_put 13 = .ok (.iastore, 1) := by decide +kernel
theorem dX1_put_14 : decode cX1_put 14 = .ok (.return_, 1) := by decide +kernel
set_option maxHeartbeats 8000000 in
set_option maxRecDepth 100000 in
theorem t_X1_put (l : Launch) (E : EE) (z0 : Nat) (G : Nat → Nat) (hGz : ∀ q, G q ≠ 0 → z0 ≤ q) (h0 : Nat) (p0 : Int32) (p1 : Int32) (hG : G h0 = 5) : Met l yX1_put [Cond.code yX1_put cX1_put 3 none] ({ frames := 1, cells := 0, slots := 0, locals := 20 } : Room) (va_Pc [.ref h0, .int p0, .int p1] (fun U => (TH E (T1 E) G [] U.heap) ∧ KS E z0 U)) (va_Qv (fun (_ : Unit) => True) (fun _ t => TH E (T1 E) G [] t.heap) (fun q : Nat => G q ∈ ([14] : List Nat))) 0 0 (fun q : Nat => G q ∈ ([14] : List Nat)) := by
  refine Met.ofW (cc := cX1_put) (maxL := 3) (ret := none) (by decide) rfl ?_
  intro p e s m args below meth c s₁ B hml hv
  obtain ⟨rfl, hT, hK⟩ := hv
  have hx := B.exec
  have hb := B.bytes
  have hr := B.returns
  have hts : ∀ w ∈ TS, w.before ([.ref h0, .int p0, .int p1] : List Value).toArray s = true := fun w hw => hK.2.1 w hw _
  have hown : s.vm.findClass RX1 = some m.cls := findClass_of_methodNamed B.named
  have hlocks := B.notSynchronized
  have hS : va_S (fun q : Nat => G q ∈ ([14] : List Nat)) s.heap s.heap [] := va_S.rf
  have hAz : ∀ q, (fun q : Nat => G q ∈ ([14] : List Nat)) q → z0 ≤ q := zL hGz (by decide)
  have hl := lv_entry ([.ref h0, .int p0, .int p1]) (n := 3) (Nat.le_of_ble_eq_true rfl)
  rw [lg_entry_eq]
  generalize (lg_sl ([.ref h0, .int p0, .int p1]) ++ List.replicate (3 - (lg_sl ([.ref h0, .int p0, .int p1])).length) Slot.unset).toArray = ls at hl ⊢
  have hl : lv_has ls 3 [(0, .ref h0), (1, .int p0), (2, .int p1)] := hl
  refine lv_iload_n hx hb dX1_put_0 rfl (lv_at hl 1 rfl) ?_
  refine rnSN (As := [.int p0]) (rest := []) ⟨hx, hb, hml, hown, hts⟩ (c_X9_isCell l p0) ⟨va_cnB (host := RX9) 1 hts (gd1 co_X9_isCell rfl) rfl rfl rfl (hK.2.1 _ mn_X1_25 #[]) (hts _ in_X9) (by decide +kernel) ⟨Nat.le_of_ble_eq_true rfl, Nat.le_of_ble_eq_true rfl⟩, hts _ st_X9_isCell, trivial⟩ rfl rfl hl.1 rfl (lv_room (Nat.le_of_ble_eq_true rfl)) dX1_put_1 ⟨Nat.le_of_ble_eq_true rfl, Nat.le_of_ble_eq_true rfl⟩ ?_
  refine W.eq (g2 := F0 m 4 ls [.int (bI (0 ≤ p0.toInt ∧ p0.toInt < 32))]) (by rfl) ?_
  refine lv_if_eq (tgt := 14) hx hb dX1_put_4 (by decide) (fun c_1 => ?_) (fun c_1 => ?_)
  · have c_1 := bI_0 c_1
    exact W.vret hx hb hr (fun t ht hW => ⟨⟨(), rfl, trivial, (by show TH E (T1 E) G [] t.heap; rw [ht]; exact hT)⟩, hS.F ht⟩) hS.2.2 dX1_put_14
  · have c_1 := bI_n c_1
    refine lv_aload_n hx hb dX1_put_7 rfl (lv_at hl 0 rfl) ?_
    obtain ⟨v0_2, v1_2, v2_2, v3_2, v4_2, ha_2, hg0_2, hg1_2, hg2_2, hb3_2, hb4_2⟩ := tr_5 hT hG
    refine va_get (D := DG E) (ci := 1) (v := .ref v0_2) (C := RX1) (T := TX1) (N := 5) hx hb hts iw_X1 hown hK.1 (va_one ha_2) 0 rfl rfl 0 (by decide) (hts _ fl_X1_9) (fun _ h9 => h9) rfl dX1_put_8 ?_
    refine lv_iload_n hx hb dX1_put_11 rfl (lv_at hl 1 rfl) ?_
    refine lv_iload_n hx hb dX1_put_12 rfl (lv_at hl 2 rfl) ?_
    obtain ⟨f_3, ha_3⟩ := tr_14 hT hg0_2
    refine rr_iast (D := DG E) hx hb hK.1 0 ha_3 hS (by show G v0_2 ∈ ([14] : List Nat); rw [hg0_2]; decide) rfl (show vp_in p0 32 from vp_in_iff.mpr (by omega)) dX1_put_13 (fun H locs hn ho hz hS => ?_)
    have hT : TH E (T1 E) G [] H := hT.set hg0_2 (show T1 E G 14 _ from ⟨_, rfl⟩) hn ho
    have ha_2 := ha_2.kept (ho _ (ne_G hG hg0_2 (by decide)))
    exact W.vret hx hb hr (fun t ht hW => ⟨⟨(), rfl, trivial, (by show TH E (T1 E) G [] t.heap; rw [ht]; exact hT)⟩, hS.F ht⟩) hS.2.2 dX1_put_14
theorem dX1_allows_0 : decode cX1_allows 0 = .ok (.iload_n 1, 1) := by decide +kernel
theorem dX1_allows_1 : decode cX1_allows 1 = .ok (.invokestatic 29, 3) := by decide +kernel
theorem dX1_allows_4 : decode cX1_allows 4 = .ok (.ifCond .eq 23, 3) := by decide +kernel
theorem dX1_allows_7 : decode cX1_allows 7 = .ok (.aload_n 0, 1) := by decide +kernel
theorem dX1_allows_8 : decode cX1_allows 8 = .ok (.getfield 17, 3) := by decide +kernel
theorem dX1_allows_11 : decode cX1_allows 11 = .ok (.iload_n 1, 1) := by decide +kernel
theorem dX1_allows_12 : decode cX1_allows 12 = .ok (.aaload, 1) := by decide +kernel
theorem dX1_allows_13 : decode cX1_allows 13 = .ok (.iload_n 2, 1) := by decide +kernel
theorem dX1_allows_14 : decode cX1_allows 14 = .ok (.iload_n 3, 1) := by decide +kernel
theorem dX1_allows_15 : decode cX1_allows 15 = .ok (.iload 4, 2) := by decide +kernel
theorem dX1_allows_17 : decode cX1_allows 17 = .ok (.invokevirtual 32, 3) := by decide +kernel
theorem dX1_allows_20 : decode cX1_allows 20 = .ok (.ifCond .eq 7, 3) := by decide +kernel
theorem dX1_allows_23 : decode cX1_allows 23 = .ok (.iconst 1, 1) := by decide +kernel
theorem dX1_allows_24 : decode cX1_allows 24 = .ok (.goto 4, 3) := by decide +kernel
theorem dX1_allows_27 : decode cX1_allows 27 = .ok (.iconst 0, 1) := by decide +kernel
theorem dX1_allows_28 : decode cX1_allows 28 = .ok (.ireturn, 1) := by decide +kernel
set_option maxHeartbeats 8000000 in
set_option maxRecDepth 100000 in
theorem t_X1_allows (l : Launch) (E : EE) (z0 : Nat) (G : Nat → Nat) (hGz : ∀ q, G q ≠ 0 → z0 ≤ q) (h0 : Nat) (p0 : Int32) (p1 : Int32) (p2 : Int32) (p3 : Int32) (hG : G h0 = 5) : Met l yX1_allows [Cond.code yX1_allows cX1_allows 5 (some .boolean)] ({ frames := 1, cells := 0, slots := 0, locals := 23 } : Room) (va_Pc [.ref h0, .int p0, .int p1, .int p2, .int p3] (fun U => (TH E (T1 E) G [] U.heap) ∧ KS E z0 U)) (va_Qi (fun (r : Int32) (_ : Unit) => r = 0 ∨ r = 1) (fun _ t => True) (fun _ : Nat => False)) 0 0 (fun _ : Nat => False) := by
  refine Met.ofW (cc := cX1_allows) (maxL := 5) (ret := (some .boolean)) (by decide) rfl ?_
  intro p e s m args below meth c s₁ B hml hv
  obtain ⟨rfl, hT, hK⟩ := hv
  have hx := B.exec
  have hb := B.bytes
  have hr := B.returns
  have hts : ∀ w ∈ TS, w.before ([.ref h0, .int p0, .int p1, .int p2, .int p3] : List Value).toArray s = true := fun w hw => hK.2.1 w hw _
  have hown : s.vm.findClass RX1 = some m.cls := findClass_of_methodNamed B.named
  have hlocks := B.notSynchronized
  have hS : va_S (fun _ : Nat => False) s.heap s.heap [] := va_S.rf
  have hAz : ∀ q, (fun _ : Nat => False) q → z0 ≤ q := fun _ h => h.elim
  have hl := lv_entry ([.ref h0, .int p0, .int p1, .int p2, .int p3]) (n := 5) (Nat.le_of_ble_eq_true rfl)
  rw [lg_entry_eq]
  generalize (lg_sl ([.ref h0, .int p0, .int p1, .int p2, .int p3]) ++ List.replicate (5 - (lg_sl ([.ref h0, .int p0, .int p1, .int p2, .int p3])).length) Slot.unset).toArray = ls at hl ⊢
  have hl : lv_has ls 5 [(0, .ref h0), (1, .int p0), (2, .int p1), (3, .int p2), (4, .int p3)] := hl
  refine lv_iload_n hx hb dX1_allows_0 rfl (lv_at hl 1 rfl) ?_
  refine rnSN (As := [.int p0]) (rest := []) ⟨hx, hb, hml, hown, hts⟩ (c_X9_isRegion l p0) ⟨va_cnB (host := RX9) 1 hts (gd1 co_X9_isRegion rfl) rfl rfl rfl (hK.2.1 _ mn_X1_29 #[]) (hts _ in_X9) (by decide +kernel) ⟨Nat.le_of_ble_eq_true rfl, Nat.le_of_ble_eq_true rfl⟩, hts _ st_X9_isRegion, trivial⟩ rfl rfl hl.1 rfl (lv_room (Nat.le_of_ble_eq_true rfl)) dX1_allows_1 ⟨Nat.le_of_ble_eq_true rfl, Nat.le_of_ble_eq_true rfl⟩ ?_
  refine W.eq (g2 := F0 m 4 ls [.int (bI (0 ≤ p0.toInt ∧ p0.toInt < 6))]) (by rfl) ?_
  refine lv_if_eq (tgt := 27) hx hb dX1_allows_4 (by decide) (fun c_1 => ?_) (fun c_1 => ?_)
  · have c_1 := bI_0 c_1
    refine lv_iconst (v := 0) hx hb dX1_allows_27 (by decide) ?_
    exact W.zret (v := 0) (ty := .boolean) hx hb hr rfl (fun t ht hW => ⟨⟨0, (), rfl, (by decide), trivial⟩, hS.F ht⟩) hS.2.2 dX1_allows_28
  · have c_1 := bI_n c_1
    refine lv_aload_n hx hb dX1_allows_7 rfl (lv_at hl 0 rfl) ?_
    obtain ⟨v0_2, v1_2, v2_2, v3_2, v4_2, ha_2, hg0_2, hg1_2, hg2_2, hb3_2, hb4_2⟩ := tr_5 hT hG
    refine va_get (D := DG E) (ci := 1) (v := .ref v1_2) (C := RX1) (T := TX1) (N := 5) hx hb hts iw_X1 hown hK.1 (va_one ha_2) 0 rfl rfl 1 (by decide) (hts _ fl_X1_17) (fun _ h9 => h9) rfl dX1_allows_8 ?_
    refine lv_iload_n hx hb dX1_allows_11 rfl (lv_at hl 1 rfl) ?_
    obtain ⟨f_3, ha_3, he_3⟩ := tr_6 hT hg1_2
    obtain ⟨j_4, hj_4, ej_4⟩ := vp_in_of (show vp_in p0 6 from vp_in_iff.mpr (by omega)) (by decide)
    obtain ⟨b_4, eb_4, gb_4⟩ := he_3 j_4 hj_4
    have cj_4 : f_3 (p0 : Int32).toNatClampNeg = some b_4 := by rw [ej_4, nI_clamp (by omega)]; exact eb_4
    refine va_aldq (D := DG E) hx hb hK.1 (va_one ha_3) 0 4 rfl rfl (show vp_in p0 6 from vp_in_iff.mpr (by omega)) dX1_allows_12 ?_
    rw [cj_4]
    refine W.eq (g2 := F0 m 13 ls [.ref b_4]) (by rfl) ?_
    refine lv_iload_n hx hb dX1_allows_13 rfl (lv_at hl 2 rfl) ?_
    refine lv_iload_n hx hb dX1_allows_14 rfl (lv_at hl 3 rfl) ?_
    refine lv_iload hx hb dX1_allows_15 (lv_at hl 4 rfl) ?_
    obtain ⟨v0_5, v1_5, v2_5, ha_5⟩ := tr_7 hT gb_4
    refine va_calli (rnV (fun H => TH E (T1 E) G [] H) (As := [.int p1, .int p2, .int p3]) (rest := []) ⟨hx, hb, hml, hown, hts⟩ (t_X6_allows l E z0 G hGz b_4 p1 p2 p3 gb_4) (cwV 3 hts (gdV ml_X1_32 im_X6_allows se_X6_X6_allows in_X6 co_X6_allows rfl) rfl rfl rfl (by decide +kernel) ⟨Nat.le_of_ble_eq_true rfl, Nat.le_of_ble_eq_true rfl⟩) hT (fun U hU hW => hK.go hW hS hAz hU) (va_recv hK.1 (va_one ha_5) (ci := 6) (q0 := 0) rfl rfl) rfl rfl hl.1 rfl (lv_room (Nat.le_of_ble_eq_true rfl)) dX1_allows_17 ⟨Nat.le_of_ble_eq_true rfl, Nat.le_of_ble_eq_true rfl⟩) hS (fun q _ h => h.elim) (fun q h => h.elim) (fun r_6 _ t H locs ht hvm hwr_6 hB hz hk hS => ?_)
    have hT : TH E (T1 E) G [] H := hT.kept (fun q hq => hk q hq (fun h => h))
    have ha_2 := ha_2.kept (hk _ ha_2.lt (fun h => h))
    have ha_3 := ha_3.kept (hk _ ha_3.lt (fun h => h))
    have ha_5 := ha_5.kept (hk _ ha_5.lt (fun h => h))
    have hzr_6 := s_rng hwr_6
    refine lv_if_eq (tgt := 27) hx hb dX1_allows_20 (by decide) (fun c_7 => ?_) (fun c_7 => ?_)
    · simp only [lt_I, le_I, eq_I, i_0, i_1, i_2, i_3, i_4, i_5, i_6, i_7, i_8, i_10, i_12, i_16, i_20, i_23, i_24, i_31, i_32, i_63, i_64, i_m1] at c_7
      refine lv_iconst (v := 0) hx hb dX1_allows_27 (by decide) ?_
      exact W.zret (v := 0) (ty := .boolean) hx hb hr rfl (fun t ht hW => ⟨⟨0, (), rfl, (by decide), trivial⟩, hS.F ht⟩) hS.2.2 dX1_allows_28
    · simp only [lt_I, le_I, eq_I, i_0, i_1, i_2, i_3, i_4, i_5, i_6, i_7, i_8, i_10, i_12, i_16, i_20, i_23, i_24, i_31, i_32, i_63, i_64, i_m1] at c_7
      refine lv_iconst (v := 1) hx hb dX1_allows_23 (by decide) ?_
      refine lv_goto (tgt := 28) hx hb dX1_allows_24 (by decide) ?_
      exact W.zret (v := 1) (ty := .boolean) hx hb hr rfl (fun t ht hW => ⟨⟨1, (), rfl, (by decide), trivial⟩, hS.F ht⟩) hS.2.2 dX1_allows_28
theorem dX1_complete_0 : decode cX1_complete 0 = .ok (.aload_n 0, 1) := by decide +kernel
theorem dX1_complete_1 : decode cX1_complete 1 = .ok (.getfield 36, 3) := by decide +kernel
theorem dX1_complete_4 : decode cX1_complete 4 = .ok (.bipush 16, 2) := by decide +kernel
theorem dX1_complete_6 : decode cX1_complete 6 = .ok (.if_icmp .ne 4, 3) := by decide +kernel
theorem dX1_complete_9 : decode cX1_complete 9 = .ok (.return_, 1) := by decide +kernel
theorem dX1_complete_10 : decode cX1_complete 10 = .ok (.aload_n 0, 1) := by decide +kernel
theorem dX1_complete_11 : decode cX1_complete 11 = .ok (.getfield 40, 3) := by decide +kernel
theorem dX1_complete_14 : decode cX1_complete 14 = .ok (.aload_n 0, 1) := by decide +kernel
theorem dX1_complete_15 : decode cX1_complete 15 = .ok (.getfield 36, 3) := by decide +kernel
theorem dX1_complete_18 : decode cX1_complete 18 = .ok (.iadd, 1) := by decide +kernel
theorem dX1_complete_19 : decode cX1_complete 19 = .ok (.bipush 16, 2) := by decide +kernel
theorem dX1_complete_21 : decode cX1_complete 21 = .ok (.irem, 1) := by decide +kernel
theorem dX1_complete_22 : decode cX1_complete 22 = .ok (.iconst 5, 1) := by decide +kernel
theorem dX1_complete_23 : decode cX1_complete 23 = .ok (.imul, 1) := by decide +kernel
theorem dX1_complete_24 : decode cX1_complete 24 = .ok (.istore 4, 2) := by decide +kernel
theorem dX1_complete_26 : decode cX1_complete 26 = .ok (.aload_n 0, 1) := by decide +kernel
theorem dX1_complete_27 : decode cX1_complete 27 = .ok (.getfield 21, 3) := by decide +kernel
theorem dX1_complete_30 : decode cX1_complete 30 = .ok (.iload 4, 2) := by decide +kernel
theorem dX1_complete_32 : decode cX1_complete 32 = .ok (.iload_n 1, 1) := by decide +kernel
theorem dX1_complete_33 : decode cX1_complete 33 = .ok (.iastore, 1) := by decide +kernel
theorem dX1_complete_34 : decode cX1_complete 34 = .ok (.aload_n 0, 1) := by decide +kernel
theorem dX1_complete_35 : decode cX1_complete 35 = .ok (.getfield 21, 3) := by decide +kernel
theorem dX1_complete_38 : decode cX1_complete 38 = .ok (.iload 4, 2) := by decide +kernel
theorem dX1_complete_40 : decode cX1_complete 40 = .ok (.iconst 1, 1) := by decide +kernel
theorem dX1_complete_41 : decode cX1_complete 41 = .ok (.iadd, 1) := by decide +kernel
theorem dX1_complete_42 : decode cX1_complete 42 = .ok (.aload_n 2, 1) := by decide +kernel
theorem dX1_complete_43 : decode cX1_complete 43 = .ok (.getfield 43, 3) := by decide +kernel
theorem dX1_complete_46 : decode cX1_complete 46 = .ok (.iastore, 1) := by decide +kernel
theorem dX1_complete_47 : decode cX1_complete 47 = .ok (.aload_n 0, 1) := by decide +kernel
theorem dX1_complete_48 : decode cX1_complete 48 = .ok (.getfield 21, 3) := by decide +kernel
theorem dX1_complete_51 : decode cX1_complete 51 = .ok (.iload 4, 2) := by decide +kernel
theorem dX1_complete_53 : decode cX1_complete 53 = .ok (.iconst 2, 1) := by decide +kernel
theorem dX1_complete_54 : decode cX1_complete 54 = .ok (.iadd, 1) := by decide +kernel
theorem dX1_complete_55 : decode cX1_complete 55 = .ok (.aload_n 2, 1) := by decide +kernel
theorem dX1_complete_56 : decode cX1_complete 56 = .ok (.getfield 48, 3) := by decide +kernel
theorem dX1_complete_59 : decode cX1_complete 59 = .ok (.iastore, 1) := by decide +kernel
theorem dX1_complete_60 : decode cX1_complete 60 = .ok (.aload_n 0, 1) := by decide +kernel
theorem dX1_complete_61 : decode cX1_complete 61 = .ok (.getfield 21, 3) := by decide +kernel
theorem dX1_complete_64 : decode cX1_complete 64 = .ok (.iload 4, 2) := by decide +kernel
theorem dX1_complete_66 : decode cX1_complete 66 = .ok (.iconst 3, 1) := by decide +kernel
theorem dX1_complete_67 : decode cX1_complete 67 = .ok (.iadd, 1) := by decide +kernel
theorem dX1_complete_68 : decode cX1_complete 68 = .ok (.iload_n 3, 1) := by decide +kernel
theorem dX1_complete_69 : decode cX1_complete 69 = .ok (.iastore, 1) := by decide +kernel
theorem dX1_complete_70 : decode cX1_complete 70 = .ok (.aload_n 0, 1) := by decide +kernel
theorem dX1_complete_71 : decode cX1_complete 71 = .ok (.getfield 21, 3) := by decide +kernel
theorem dX1_complete_74 : decode cX1_complete 74 = .ok (.iload 4, 2) := by decide +kernel
theorem dX1_complete_76 : decode cX1_complete 76 = .ok (.iconst 4, 1) := by decide +kernel
theorem dX1_complete_77 : decode cX1_complete 77 = .ok (.iadd, 1) := by decide +kernel
theorem dX1_complete_78 : decode cX1_complete 78 = .ok (.aload_n 2, 1) := by decide +kernel
theorem dX1_complete_79 : decode cX1_complete 79 = .ok (.getfield 43, 3) := by decide +kernel
theorem dX1_complete_82 : decode cX1_complete 82 = .ok (.iconst 4, 1) := by decide +kernel
theorem dX1_complete_83 : decode cX1_complete 83 = .ok (.if_icmp .ne 10, 3) := by decide +kernel
theorem dX1_complete_86 : decode cX1_complete 86 = .ok (.aload_n 2, 1) := by decide +kernel
theorem dX1_complete_87 : decode cX1_complete 87 = .ok (.getfield 51, 3) := by decide +kernel
theorem dX1_complete_90 : decode cX1_complete 90 = .ok (.goto 7, 3) := by decide +kernel
theorem dX1_complete_93 : decode cX1_complete 93 = .ok (.aload_n 2, 1) := by decide +kernel
theorem dX1_complete_94 : decode cX1_complete 94 = .ok (.getfield 54, 3) := by decide +kernel
theorem dX1_complete_97 : decode cX1_complete 97 = .ok (.iastore, 1) := by decide +kernel
theorem dX1_complete_98 : decode cX1_complete 98 = .ok (.aload_n 0, 1) := by decide +kernel
theorem dX1_complete_99 : decode cX1_complete 99 = .ok (.dup, 1) := by decide +kernel
theorem dX1_complete_100 : decode cX1_complete 100 = .ok (.getfield 36, 3) := by decide +kernel
theorem dX1_complete_103 : decode cX1_complete 103 = .ok (.iconst 1, 1) := by decide +kernel
theorem dX1_complete_104 : decode cX1_complete 104 = .ok (.iadd, 1) := by decide +kernel
theorem dX1_complete_105 : decode cX1_complete 105 = .ok (.putfield 36, 3) := by decide +kernel
theorem dX1_complete_108 : decode cX1_complete 108 = .ok (.return_, 1) := by decide +kernel
set_option maxHeartbeats 8000000 in
set_option maxRecDepth 100000 in
theorem t_X1_complete (l : Launch) (E : EE) (z0 : Nat) (G : Nat → Nat) (hGz : ∀ q, G q ≠ 0 → z0 ≤ q) (h0 : Nat) (p0 : Int32) (p1 : Nat) (p2 : Int32) (hG : G h0 = 5) (hG1 : G p1 = 13) : Met l yX1_complete [Cond.code yX1_complete cX1_complete 5 none] ({ frames := 0, cells := 0, slots := 0, locals := 0 } : Room) (va_Pc [.ref h0, .int p0, .ref p1, .int p2] (fun U => (TH E (T1 E) G [] U.heap) ∧ KS E z0 U)) (va_Qv (fun (_ : Unit) => True) (fun _ t => TH E (T1 E) G [] t.heap) (fun q : Nat => G q ∈ ([5, 15] : List Nat))) 0 0 (fun q : Nat => G q ∈ ([5, 15] : List Nat)) := by
  refine Met.ofW (cc := cX1_complete) (maxL := 5) (ret := none) (by decide) rfl ?_
  intro p e s m args below meth c s₁ B hml hv
  obtain ⟨rfl, hT, hK⟩ := hv
  have hx := B.exec
  have hb := B.bytes
  have hr := B.returns
  have hts : ∀ w ∈ TS, w.before ([.ref h0, .int p0, .ref p1, .int p2] : List Value).toArray s = true := fun w hw => hK.2.1 w hw _
  have hown : s.vm.findClass RX1 = some m.cls := findClass_of_methodNamed B.named
  have hlocks := B.notSynchronized
  have hS : va_S (fun q : Nat => G q ∈ ([5, 15] : List Nat)) s.heap s.heap [] := va_S.rf
  have hAz : ∀ q, (fun q : Nat => G q ∈ ([5, 15] : List Nat)) q → z0 ≤ q := zL hGz (by decide)
  have hl := lv_entry ([.ref h0, .int p0, .ref p1, .int p2]) (n := 5) (Nat.le_of_ble_eq_true rfl)
  rw [lg_entry_eq]
  generalize (lg_sl ([.ref h0, .int p0, .ref p1, .int p2]) ++ List.replicate (5 - (lg_sl ([.ref h0, .int p0, .ref p1, .int p2])).length) Slot.unset).toArray = ls at hl ⊢
  have hl : lv_has ls 5 [(0, .ref h0), (1, .int p0), (2, .ref p1), (3, .int p2)] := hl
  refine lv_aload_n hx hb dX1_complete_0 rfl (lv_at hl 0 rfl) ?_
  obtain ⟨v0_1, v1_1, v2_1, v3_1, v4_1, ha_1, hg0_1, hg1_1, hg2_1, hb3_1, hb4_1⟩ := tr_5 hT hG
  refine va_get (D := DG E) (ci := 1) (v := .int v4_1) (C := RX1) (T := TX1) (N := 5) hx hb hts iw_X1 hown hK.1 (va_one ha_1) 0 rfl rfl 4 (by decide) (hts _ fl_X1_36) (fun _ h9 => h9) rfl dX1_complete_1 ?_
  refine lv_bipush (v := 16) hx hb dX1_complete_4 (by decide) ?_
  refine lv_icmp_ne (tgt := 10) hx hb dX1_complete_6 (by decide) (fun c_2 => ?_) (fun c_2 => ?_)
  · simp only [lt_I, le_I, eq_I, i_0, i_1, i_2, i_3, i_4, i_5, i_6, i_7, i_8, i_10, i_12, i_16, i_20, i_23, i_24, i_31, i_32, i_63, i_64, i_m1] at c_2
    refine lv_aload_n hx hb dX1_complete_10 rfl (lv_at hl 0 rfl) ?_
    refine va_get (D := DG E) (ci := 1) (v := .int v3_1) (C := RX1) (T := TX1) (N := 5) hx hb hts iw_X1 hown hK.1 (va_one ha_1) 0 rfl rfl 3 (by decide) (hts _ fl_X1_40) (fun _ h9 => h9) rfl dX1_complete_11 ?_
    refine lv_aload_n hx hb dX1_complete_14 rfl (lv_at hl 0 rfl) ?_
    refine va_get (D := DG E) (ci := 1) (v := .int v4_1) (C := RX1) (T := TX1) (N := 5) hx hb hts iw_X1 hown hK.1 (va_one ha_1) 0 rfl rfl 4 (by decide) (hts _ fl_X1_36) (fun _ h9 => h9) rfl dX1_complete_15 ?_
    refine lv_iadd hx hb dX1_complete_18 ?_
    refine lv_topi (fun x_3 ex_3 => ?_)
    have fx_3 : x_3.toInt = v3_1.toInt + v4_1.toInt := by have h9 := s_add (x := v3_1) (y := v4_1) (by omega) (by omega); rw [ex_3]; exact h9
    refine lv_bipush (v := 16) hx hb dX1_complete_19 (by decide) ?_
    refine lv_irem hx hb dX1_complete_21 (by decide) ?_
    refine lv_topi (fun x_4 ex_4 => ?_)
    have fx_4 : x_4.toInt = x_3.toInt % 16 := by have h9 := s_rem (x := x_3) 16 (by decide) (by decide) (by omega); rw [ex_4]; exact h9
    refine lv_iconst (v := 5) hx hb dX1_complete_22 (by decide) ?_
    refine lv_imul hx hb dX1_complete_23 ?_
    refine lv_topi (fun x_5 ex_5 => ?_)
    have fx_5 : x_5.toInt = x_4.toInt * 5 := by rw [ex_5]; exact s_mulR i_5 (by omega) (by omega)
    refine lv_istore (lv' := [(4, .int x_5), (0, .ref h0), (1, .int p0), (2, .ref p1), (3, .int p2)]) hx hb dX1_complete_24 hl (by decide) rfl (fun ls hl => ?_)
    refine lv_aload_n hx hb dX1_complete_26 rfl (lv_at hl 1 rfl) ?_
    refine va_get (D := DG E) (ci := 1) (v := .ref v2_1) (C := RX1) (T := TX1) (N := 5) hx hb hts iw_X1 hown hK.1 (va_one ha_1) 0 rfl rfl 2 (by decide) (hts _ fl_X1_21) (fun _ h9 => h9) rfl dX1_complete_27 ?_
    refine lv_iload hx hb dX1_complete_30 (lv_at hl 0 rfl) ?_
    refine lv_iload_n hx hb dX1_complete_32 rfl (lv_at hl 2 rfl) ?_
    obtain ⟨f_6, ha_6⟩ := tr_15 hT hg2_1
    refine rr_iast (D := DG E) hx hb hK.1 0 ha_6 hS (by show G v2_1 ∈ ([5, 15] : List Nat); rw [hg2_1]; decide) rfl (show vp_in x_5 80 from vp_in_iff.mpr (by omega)) dX1_complete_33 (fun H locs hn ho hz hS => ?_)
    have hT : TH E (T1 E) G [] H := hT.set hg2_1 (show T1 E G 15 _ from ⟨_, rfl⟩) hn ho
    have ha_1 := ha_1.kept (ho _ (ne_G hG hg2_1 (by decide)))
    refine lv_aload_n hx hb dX1_complete_34 rfl (lv_at hl 1 rfl) ?_
    refine va_get (D := DG E) (ci := 1) (v := .ref v2_1) (C := RX1) (T := TX1) (N := 5) hx hb hts iw_X1 hown hK.1 (va_one ha_1) 0 rfl rfl 2 (by decide) (hts _ fl_X1_21) (fun _ h9 => h9) rfl dX1_complete_35 ?_
    refine lv_iload hx hb dX1_complete_38 (lv_at hl 0 rfl) ?_
    refine lv_iconst (v := 1) hx hb dX1_complete_40 (by decide) ?_
    refine lv_iadd hx hb dX1_complete_41 ?_
    refine lv_topi (fun x_7 ex_7 => ?_)
    have fx_7 : x_7.toInt = x_5.toInt + 1 := by have h9 := s_add (x := x_5) (y := 1) (by rw [i_1]; omega) (by rw [i_1]; omega); rw [i_1] at h9; rw [ex_7]; exact h9
    refine lv_aload_n hx hb dX1_complete_42 rfl (lv_at hl 3 rfl) ?_
    obtain ⟨v0_8, v1_8, v2_8, v3_8, v4_8, v5_8, v6_8, v7_8, v8_8, v9_8, ha_8, hb3_8⟩ := tr_13 hT hG1
    refine va_get (D := DG E) (ci := 4) (v := .int v0_8) (C := RX4) (T := TX4) (N := 10) hx hb hts iw_X4 hown hK.1 (va_one ha_8) 0 rfl rfl 0 (by decide) (hts _ fl_X1_43) (fun _ h9 => h9) rfl dX1_complete_43 ?_
    obtain ⟨f_9, ha_9⟩ := tr_15 hT hg2_1
    refine rr_iast (D := DG E) hx hb hK.1 0 ha_9 hS (by show G v2_1 ∈ ([5, 15] : List Nat); rw [hg2_1]; decide) rfl (show vp_in x_7 80 from vp_in_iff.mpr (by omega)) dX1_complete_46 (fun H locs hn ho hz hS => ?_)
    have hT : TH E (T1 E) G [] H := hT.set hg2_1 (show T1 E G 15 _ from ⟨_, rfl⟩) hn ho
    have ha_1 := ha_1.kept (ho _ (ne_G hG hg2_1 (by decide)))
    have ha_8 := ha_8.kept (ho _ (ne_G hG1 hg2_1 (by decide)))
    refine lv_aload_n hx hb dX1_complete_47 rfl (lv_at hl 1 rfl) ?_
    refine va_get (D := DG E) (ci := 1) (v := .ref v2_1) (C := RX1) (T := TX1) (N := 5) hx hb hts iw_X1 hown hK.1 (va_one ha_1) 0 rfl rfl 2 (by decide) (hts _ fl_X1_21) (fun _ h9 => h9) rfl dX1_complete_48 ?_
    refine lv_iload hx hb dX1_complete_51 (lv_at hl 0 rfl) ?_
    refine lv_iconst (v := 2) hx hb dX1_complete_53 (by decide) ?_
    refine lv_iadd hx hb dX1_complete_54 ?_
    refine lv_topi (fun x_10 ex_10 => ?_)
    have fx_10 : x_10.toInt = x_5.toInt + 2 := by have h9 := s_add (x := x_5) (y := 2) (by rw [i_2]; omega) (by rw [i_2]; omega); rw [i_2] at h9; rw [ex_10]; exact h9
    refine lv_aload_n hx hb dX1_complete_55 rfl (lv_at hl 3 rfl) ?_
    refine va_get (D := DG E) (ci := 4) (v := .int v1_8) (C := RX4) (T := TX4) (N := 10) hx hb hts iw_X4 hown hK.1 (va_one ha_8) 0 rfl rfl 1 (by decide) (hts _ fl_X1_48) (fun _ h9 => h9) rfl dX1_complete_56 ?_
    obtain ⟨f_11, ha_11⟩ := tr_15 hT hg2_1
    refine rr_iast (D := DG E) hx hb hK.1 0 ha_11 hS (by show G v2_1 ∈ ([5, 15] : List Nat); rw [hg2_1]; decide) rfl (show vp_in x_10 80 from vp_in_iff.mpr (by omega)) dX1_complete_59 (fun H locs hn ho hz hS => ?_)
    have hT : TH E (T1 E) G [] H := hT.set hg2_1 (show T1 E G 15 _ from ⟨_, rfl⟩) hn ho
    have ha_1 := ha_1.kept (ho _ (ne_G hG hg2_1 (by decide)))
    have ha_8 := ha_8.kept (ho _ (ne_G hG1 hg2_1 (by decide)))
    refine lv_aload_n hx hb dX1_complete_60 rfl (lv_at hl 1 rfl) ?_
    refine va_get (D := DG E) (ci := 1) (v := .ref v2_1) (C := RX1) (T := TX1) (N := 5) hx hb hts iw_X1 hown hK.1 (va_one ha_1) 0 rfl rfl 2 (by decide) (hts _ fl_X1_21) (fun _ h9 => h9) rfl dX1_complete_61 ?_
    refine lv_iload hx hb dX1_complete_64 (lv_at hl 0 rfl) ?_
    refine lv_iconst (v := 3) hx hb dX1_complete_66 (by decide) ?_
    refine lv_iadd hx hb dX1_complete_67 ?_
    refine lv_topi (fun x_12 ex_12 => ?_)
    have fx_12 : x_12.toInt = x_5.toInt + 3 := by have h9 := s_add (x := x_5) (y := 3) (by rw [i_3]; omega) (by rw [i_3]; omega); rw [i_3] at h9; rw [ex_12]; exact h9
    refine lv_iload_n hx hb dX1_complete_68 rfl (lv_at hl 4 rfl) ?_
    obtain ⟨f_13, ha_13⟩ := tr_15 hT hg2_1
    refine rr_iast (D := DG E) hx hb hK.1 0 ha_13 hS (by show G v2_1 ∈ ([5, 15] : List Nat); rw [hg2_1]; decide) rfl (show vp_in x_12 80 from vp_in_iff.mpr (by omega)) dX1_complete_69 (fun H locs hn ho hz hS => ?_)
    have hT : TH E (T1 E) G [] H := hT.set hg2_1 (show T1 E G 15 _ from ⟨_, rfl⟩) hn ho
    have ha_1 := ha_1.kept (ho _ (ne_G hG hg2_1 (by decide)))
    have ha_8 := ha_8.kept (ho _ (ne_G hG1 hg2_1 (by decide)))
    refine lv_aload_n hx hb dX1_complete_70 rfl (lv_at hl 1 rfl) ?_
    refine va_get (D := DG E) (ci := 1) (v := .ref v2_1) (C := RX1) (T := TX1) (N := 5) hx hb hts iw_X1 hown hK.1 (va_one ha_1) 0 rfl rfl 2 (by decide) (hts _ fl_X1_21) (fun _ h9 => h9) rfl dX1_complete_71 ?_
    refine lv_iload hx hb dX1_complete_74 (lv_at hl 0 rfl) ?_
    refine lv_iconst (v := 4) hx hb dX1_complete_76 (by decide) ?_
    refine lv_iadd hx hb dX1_complete_77 ?_
    refine lv_topi (fun x_14 ex_14 => ?_)
    have fx_14 : x_14.toInt = x_5.toInt + 4 := by have h9 := s_add (x := x_5) (y := 4) (by rw [i_4]; omega) (by rw [i_4]; omega); rw [i_4] at h9; rw [ex_14]; exact h9
    refine lv_aload_n hx hb dX1_complete_78 rfl (lv_at hl 3 rfl) ?_
    refine va_get (D := DG E) (ci := 4) (v := .int v0_8) (C := RX4) (T := TX4) (N := 10) hx hb hts iw_X4 hown hK.1 (va_one ha_8) 0 rfl rfl 0 (by decide) (hts _ fl_X1_43) (fun _ h9 => h9) rfl dX1_complete_79 ?_
    refine lv_iconst (v := 4) hx hb dX1_complete_82 (by decide) ?_
    refine lv_icmp_ne (tgt := 93) hx hb dX1_complete_83 (by decide) (fun c_15 => ?_) (fun c_15 => ?_)
    · simp only [lt_I, le_I, eq_I, i_0, i_1, i_2, i_3, i_4, i_5, i_6, i_7, i_8, i_10, i_12, i_16, i_20, i_23, i_24, i_31, i_32, i_63, i_64, i_m1] at c_15
      refine lv_aload_n hx hb dX1_complete_93 rfl (lv_at hl 3 rfl) ?_
      refine va_get (D := DG E) (ci := 4) (v := .int v3_8) (C := RX4) (T := TX4) (N := 10) hx hb hts iw_X4 hown hK.1 (va_one ha_8) 0 rfl rfl 3 (by decide) (hts _ fl_X1_54) (fun _ h9 => h9) rfl dX1_complete_94 ?_
      obtain ⟨f_16, ha_16⟩ := tr_15 hT hg2_1
      refine rr_iast (D := DG E) hx hb hK.1 0 ha_16 hS (by show G v2_1 ∈ ([5, 15] : List Nat); rw [hg2_1]; decide) rfl (show vp_in x_14 80 from vp_in_iff.mpr (by omega)) dX1_complete_97 (fun H locs hn ho hz hS => ?_)
      have hT : TH E (T1 E) G [] H := hT.set hg2_1 (show T1 E G 15 _ from ⟨_, rfl⟩) hn ho
      have ha_1 := ha_1.kept (ho _ (ne_G hG hg2_1 (by decide)))
      have ha_8 := ha_8.kept (ho _ (ne_G hG1 hg2_1 (by decide)))
      refine lv_aload_n hx hb dX1_complete_98 rfl (lv_at hl 1 rfl) ?_
      refine lv_dup hx hb dX1_complete_99 rfl ?_
      refine va_get (D := DG E) (ci := 1) (v := .int v4_1) (C := RX1) (T := TX1) (N := 5) hx hb hts iw_X1 hown hK.1 (va_one ha_1) 0 rfl rfl 4 (by decide) (hts _ fl_X1_36) (fun _ h9 => h9) rfl dX1_complete_100 ?_
      refine lv_iconst (v := 1) hx hb dX1_complete_103 (by decide) ?_
      refine lv_iadd hx hb dX1_complete_104 ?_
      refine lv_topi (fun x_17 ex_17 => ?_)
      have fx_17 : x_17.toInt = v4_1.toInt + 1 := by have h9 := s_add (x := v4_1) (y := 1) (by rw [i_1]; omega) (by rw [i_1]; omega); rw [i_1] at h9; rw [ex_17]; exact h9
      refine rr_put (D := DG E) (ci := 1) (v := .int x_17) (ty := .int) (C := RX1) (T := TX1) (N := 5) hx hb hts iw_X1 tyX1 tyX1_ok nmX1 hown hK.1 ha_1 hS (by show G h0 ∈ ([5, 15] : List Nat); rw [hG]; decide) rfl 4 (by decide) (hts _ fl_X1_36) (fun _ h9 => h9) rfl (by decide +kernel) rfl rfl (Nat.le_of_ble_eq_true rfl) dX1_complete_105 (fun H locs hn ho hz hS => ?_)
      have hr_18 : va_at (DG E) vwCl (h0, .inr (1, [.ref v0_1, .ref v1_1, .ref v2_1, .int v3_1, .int x_17])) H := hn
      have hT : TH E (T1 E) G [] H := hT.set hG (show T1 E G 5 _ from ⟨v0_1, v1_1, v2_1, v3_1, x_17, rfl, hg0_1, hg1_1, hg2_1, (by omega), (by omega)⟩) hr_18 ho
      have ha_8 := ha_8.kept (ho _ (ne_G hG1 hG (by decide)))
      exact W.vret hx hb hr (fun t ht hW => ⟨⟨(), rfl, trivial, (by show TH E (T1 E) G [] t.heap; rw [ht]; exact hT)⟩, hS.F ht⟩) hS.2.2 dX1_complete_108
    · simp only [lt_I, le_I, eq_I, i_0, i_1, i_2, i_3, i_4, i_5, i_6, i_7, i_8, i_10, i_12, i_16, i_20, i_23, i_24, i_31, i_32, i_63, i_64, i_m1] at c_15
      refine lv_aload_n hx hb dX1_complete_86 rfl (lv_at hl 3 rfl) ?_
      refine va_get (D := DG E) (ci := 4) (v := .int v9_8) (C := RX4) (T := TX4) (N := 10) hx hb hts iw_X4 hown hK.1 (va_one ha_8) 0 rfl rfl 9 (by decide) (hts _ fl_X1_51) (fun _ h9 => h9) rfl dX1_complete_87 ?_
      refine lv_goto (tgt := 97) hx hb dX1_complete_90 (by decide) ?_
      obtain ⟨f_19, ha_19⟩ := tr_15 hT hg2_1
      refine rr_iast (D := DG E) hx hb hK.1 0 ha_19 hS (by show G v2_1 ∈ ([5, 15] : List Nat); rw [hg2_1]; decide) rfl (show vp_in x_14 80 from vp_in_iff.mpr (by omega)) dX1_complete_97 (fun H locs hn ho hz hS => ?_)
      have hT : TH E (T1 E) G [] H := hT.set hg2_1 (show T1 E G 15 _ from ⟨_, rfl⟩) hn ho
      have ha_1 := ha_1.kept (ho _ (ne_G hG hg2_1 (by decide)))
      have ha_8 := ha_8.kept (ho _ (ne_G hG1 hg2_1 (by decide)))
      refine lv_aload_n hx hb dX1_complete_98 rfl (lv_at hl 1 rfl) ?_
      refine lv_dup hx hb dX1_complete_99 rfl ?_
      refine va_get (D := DG E) (ci := 1) (v := .int v4_1) (C := RX1) (T := TX1) (N := 5) hx hb hts iw_X1 hown hK.1 (va_one ha_1) 0 rfl rfl 4 (by decide) (hts _ fl_X1_36) (fun _ h9 => h9) rfl dX1_complete_100 ?_
      refine lv_iconst (v := 1) hx hb dX1_complete_103 (by decide) ?_
      refine lv_iadd hx hb dX1_complete_104 ?_
      refine lv_topi (fun x_20 ex_20 => ?_)
      have fx_20 : x_20.toInt = v4_1.toInt + 1 := by have h9 := s_add (x := v4_1) (y := 1) (by rw [i_1]; omega) (by rw [i_1]; omega); rw [i_1] at h9; rw [ex_20]; exact h9
      refine rr_put (D := DG E) (ci := 1) (v := .int x_20) (ty := .int) (C := RX1) (T := TX1) (N := 5) hx hb hts iw_X1 tyX1 tyX1_ok nmX1 hown hK.1 ha_1 hS (by show G h0 ∈ ([5, 15] : List Nat); rw [hG]; decide) rfl 4 (by decide) (hts _ fl_X1_36) (fun _ h9 => h9) rfl (by decide +kernel) rfl rfl (Nat.le_of_ble_eq_true rfl) dX1_complete_105 (fun H locs hn ho hz hS => ?_)
      have hr_21 : va_at (DG E) vwCl (h0, .inr (1, [.ref v0_1, .ref v1_1, .ref v2_1, .int v3_1, .int x_20])) H := hn
      have hT : TH E (T1 E) G [] H := hT.set hG (show T1 E G 5 _ from ⟨v0_1, v1_1, v2_1, v3_1, x_20, rfl, hg0_1, hg1_1, hg2_1, (by omega), (by omega)⟩) hr_21 ho
      have ha_8 := ha_8.kept (ho _ (ne_G hG1 hG (by decide)))
      exact W.vret hx hb hr (fun t ht hW => ⟨⟨(), rfl, trivial, (by show TH E (T1 E) G [] t.heap; rw [ht]; exact hT)⟩, hS.F ht⟩) hS.2.2 dX1_complete_108
  · simp only [lt_I, le_I, eq_I, i_0, i_1, i_2, i_3, i_4, i_5, i_6, i_7, i_8, i_10, i_12, i_16, i_20, i_23, i_24, i_31, i_32, i_63, i_64, i_m1] at c_2
    exact W.vret hx hb hr (fun t ht hW => ⟨⟨(), rfl, trivial, (by show TH E (T1 E) G [] t.heap; rw [ht]; exact hT)⟩, hS.F ht⟩) hS.2.2 dX1_complete_9
theorem dX1_tellFirst_0 : decode cX1_tellFirst 0 = .ok (.aload_n 0, 1) := by decide +kernel
theorem dX1_tellFirst_1 : decode cX1_tellFirst 1 = .ok (.getfield 21, 3) := by decide +kernel
theorem dX1_tellFirst_4 : decode cX1_tellFirst 4 = .ok (.aload_n 0, 1) := by decide +kernel
theorem dX1_tellFirst_5 : decode cX1_tellFirst 5 = .ok (.getfield 40, 3) := by decide +kernel
theorem dX1_tellFirst_8 : decode cX1_tellFirst 8 = .ok (.iconst 5, 1) := by decide +kernel
theorem dX1_tellFirst_9 : decode cX1_tellFirst 9 = .ok (.imul, 1) := by decide +kernel
theorem dX1_tellFirst_10 : decode cX1_tellFirst 10 = .ok (.iload_n 1, 1) := by decide +kernel
theorem dX1_tellFirst_11 : decode cX1_tellFirst 11 = .ok (.iadd, 1) := by decide +kernel
theorem dX1_tellFirst_12 : decode cX1_tellFirst 12 = .ok (.iaload, 1) := by decide +kernel
theorem dX1_tellFirst_13 : decode cX1_tellFirst 13 = .ok (.ireturn, 1) := by decide +kernel
set_option maxHeartbeats 8000000 in
set_option maxRecDepth 100000 in
theorem t_X1_tellFirst (l : Launch) (E : EE) (z0 : Nat) (G : Nat → Nat) (hGz : ∀ q, G q ≠ 0 → z0 ≤ q) (h0 : Nat) (p0 : Int32) (hG : G h0 = 5) (hy0 : 0 ≤ p0.toInt ∧ p0.toInt ≤ 4) : Met l yX1_tellFirst [Cond.code yX1_tellFirst cX1_tellFirst 2 (some .int)] ({ frames := 0, cells := 0, slots := 0, locals := 0 } : Room) (va_Pc [.ref h0, .int p0] (fun U => (TH E (T1 E) G [] U.heap) ∧ KS E z0 U)) (va_Qi (fun (r : Int32) (_ : Unit) => True) (fun _ t => True) (fun _ : Nat => False)) 0 0 (fun _ : Nat => False) := by
  refine Met.ofW (cc := cX1_tellFirst) (maxL := 2) (ret := (some .int)) (by decide) rfl ?_
  intro p e s m args below meth c s₁ B hml hv
  obtain ⟨rfl, hT, hK⟩ := hv
  have hx := B.exec
  have hb := B.bytes
  have hr := B.returns
  have hts : ∀ w ∈ TS, w.before ([.ref h0, .int p0] : List Value).toArray s = true := fun w hw => hK.2.1 w hw _
  have hown : s.vm.findClass RX1 = some m.cls := findClass_of_methodNamed B.named
  have hlocks := B.notSynchronized
  have hS : va_S (fun _ : Nat => False) s.heap s.heap [] := va_S.rf
  have hAz : ∀ q, (fun _ : Nat => False) q → z0 ≤ q := fun _ h => h.elim
  have hl := lv_entry ([.ref h0, .int p0]) (n := 2) (Nat.le_of_ble_eq_true rfl)
  rw [lg_entry_eq]
  generalize (lg_sl ([.ref h0, .int p0]) ++ List.replicate (2 - (lg_sl ([.ref h0, .int p0])).length) Slot.unset).toArray = ls at hl ⊢
  have hl : lv_has ls 2 [(0, .ref h0), (1, .int p0)] := hl
  refine lv_aload_n hx hb dX1_tellFirst_0 rfl (lv_at hl 0 rfl) ?_
  obtain ⟨v0_1, v1_1, v2_1, v3_1, v4_1, ha_1, hg0_1, hg1_1, hg2_1, hb3_1, hb4_1⟩ := tr_5 hT hG
  refine va_get (D := DG E) (ci := 1) (v := .ref v2_1) (C := RX1) (T := TX1) (N := 5) hx hb hts iw_X1 hown hK.1 (va_one ha_1) 0 rfl rfl 2 (by decide) (hts _ fl_X1_21) (fun _ h9 => h9) rfl dX1_tellFirst_1 ?_
  refine lv_aload_n hx hb dX1_tellFirst_4 rfl (lv_at hl 0 rfl) ?_
  refine va_get (D := DG E) (ci := 1) (v := .int v3_1) (C := RX1) (T := TX1) (N := 5) hx hb hts iw_X1 hown hK.1 (va_one ha_1) 0 rfl rfl 3 (by decide) (hts _ fl_X1_40) (fun _ h9 => h9) rfl dX1_tellFirst_5 ?_
  refine lv_iconst (v := 5) hx hb dX1_tellFirst_8 (by decide) ?_
  refine lv_imul hx hb dX1_tellFirst_9 ?_
  refine lv_topi (fun x_2 ex_2 => ?_)
  have fx_2 : x_2.toInt = v3_1.toInt * 5 := by rw [ex_2]; exact s_mulR i_5 (by omega) (by omega)
  refine lv_iload_n hx hb dX1_tellFirst_10 rfl (lv_at hl 1 rfl) ?_
  refine lv_iadd hx hb dX1_tellFirst_11 ?_
  refine lv_topi (fun x_3 ex_3 => ?_)
  have fx_3 : x_3.toInt = x_2.toInt + p0.toInt := by have h9 := s_add (x := x_2) (y := p0) (by omega) (by omega); rw [ex_3]; exact h9
  obtain ⟨f_4, ha_4⟩ := tr_15 hT hg2_1
  refine va_iald (D := DG E) hx hb hK.1 (va_one ha_4) 0 0 rfl rfl (show vp_in x_3 80 from vp_in_iff.mpr (by omega)) dX1_tellFirst_12 ?_
  refine W.eq (g2 := F0 m 13 ls [.int (f_4 (x_3 : Int32).toNatClampNeg)]) (by rfl) ?_
  refine lv_topi (fun x_5 ex_5 => ?_)
  exact W.iret (v := x_5) hx hb hr (fun t ht hW => ⟨⟨x_5, (), rfl, trivial, trivial⟩, hS.F ht⟩) hS.2.2 dX1_tellFirst_13
theorem dX1_dropFirst_0 : decode cX1_dropFirst 0 = .ok (.aload_n 0, 1) := by decide +kernel
theorem dX1_dropFirst_1 : decode cX1_dropFirst 1 = .ok (.aload_n 0, 1) := by decide +kernel
theorem dX1_dropFirst_2 : decode cX1_dropFirst 2 = .ok (.getfield 40, 3) := by decide +kernel
theorem dX1_dropFirst_5 : decode cX1_dropFirst 5 = .ok (.iconst 1, 1) := by decide +kernel
theorem dX1_dropFirst_6 : decode cX1_dropFirst 6 = .ok (.iadd, 1) := by decide +kernel
theorem dX1_dropFirst_7 : decode cX1_dropFirst 7 = .ok (.bipush 16, 2) := by decide +kernel
theorem dX1_dropFirst_9 : decode cX1_dropFirst 9 = .ok (.irem, 1) := by decide +kernel
theorem dX1_dropFirst_10 : decode cX1_dropFirst 10 = .ok (.putfield 40, 3) := by decide +kernel
theorem dX1_dropFirst_13 : decode cX1_dropFirst 13 = .ok (.aload_n 0, 1) := by decide +kernel
theorem dX1_dropFirst_14 : decode cX1_dropFirst 14 = .ok (.dup, 1) := by decide +kernel
theorem dX1_dropFirst_15 : decode cX1_dropFirst 15 = .ok (.getfield 36, 3) := by decide +kernel
theorem dX1_dropFirst_18 : decode cX1_dropFirst 18 = .ok (.iconst 1, 1) := by decide +kernel
theorem dX1_dropFirst_19 : decode cX1_dropFirst 19 = .ok (.isub, 1) := by decide +kernel
theorem dX1_dropFirst_20 : decode cX1_dropFirst 20 = .ok (.putfield 36, 3) := by decide +kernel
theorem dX1_dropFirst_23 : decode cX1_dropFirst 23 = .ok (.return_, 1) := by decide +kernel
set_option maxHeartbeats 8000000 in
set_option maxRecDepth 100000 in
theorem t_X1_dropFirst (l : Launch) (E : EE) (z0 : Nat) (G : Nat → Nat) (hGz : ∀ q, G q ≠ 0 → z0 ≤ q) (h0 : Nat) (hG : G h0 = 5) (e0 : Nat) (e1 : Nat) (e2 : Nat) (e3 : Int32) (e4 : Int32) (ge0 : G e0 = 14) (ge1 : G e1 = 6) (ge2 : G e2 = 15) (be3 : (0 ≤ e3.toInt ∧ e3.toInt ≤ 15)) (be4 : (0 ≤ e4.toInt ∧ e4.toInt ≤ 16)) (hy0 : 1 ≤ e4.toInt) : Met l yX1_dropFirst [Cond.code yX1_dropFirst cX1_dropFirst 1 none] ({ frames := 0, cells := 0, slots := 0, locals := 0 } : Room) (va_Pc [.ref h0] (fun U => (TH E (T1 E) G [] U.heap ∧ va_at (DG E) vwCl (h0, .inr (1, [.ref e0, .ref e1, .ref e2, .int e3, .int e4])) U.heap) ∧ KS E z0 U)) (va_Qv (fun (_ : Unit) => True) (fun _ t => TH E (T1 E) G [] t.heap) (fun q : Nat => G q ∈ ([5] : List Nat))) 0 0 (fun q : Nat => G q ∈ ([5] : List Nat)) := by
  refine Met.ofW (cc := cX1_dropFirst) (maxL := 1) (ret := none) (by decide) rfl ?_
  intro p e s m args below meth c s₁ B hml hv
  obtain ⟨rfl, ⟨hT, hx0⟩, hK⟩ := hv
  have hx := B.exec
  have hb := B.bytes
  have hr := B.returns
  have hts : ∀ w ∈ TS, w.before ([.ref h0] : List Value).toArray s = true := fun w hw => hK.2.1 w hw _
  have hown : s.vm.findClass RX1 = some m.cls := findClass_of_methodNamed B.named
  have hlocks := B.notSynchronized
  have hS : va_S (fun q : Nat => G q ∈ ([5] : List Nat)) s.heap s.heap [] := va_S.rf
  have hAz : ∀ q, (fun q : Nat => G q ∈ ([5] : List Nat)) q → z0 ≤ q := zL hGz (by decide)
  have hl := lv_entry ([.ref h0]) (n := 1) (Nat.le_of_ble_eq_true rfl)
  rw [lg_entry_eq]
  generalize (lg_sl ([.ref h0]) ++ List.replicate (1 - (lg_sl ([.ref h0])).length) Slot.unset).toArray = ls at hl ⊢
  have hl : lv_has ls 1 [(0, .ref h0)] := hl
  refine lv_aload_n hx hb dX1_dropFirst_0 rfl (lv_at hl 0 rfl) ?_
  refine lv_aload_n hx hb dX1_dropFirst_1 rfl (lv_at hl 0 rfl) ?_
  refine va_get (D := DG E) (ci := 1) (v := .int e3) (C := RX1) (T := TX1) (N := 5) hx hb hts iw_X1 hown hK.1 (va_one hx0) 0 rfl rfl 3 (by decide) (hts _ fl_X1_40) (fun _ h9 => h9) rfl dX1_dropFirst_2 ?_
  refine lv_iconst (v := 1) hx hb dX1_dropFirst_5 (by decide) ?_
  refine lv_iadd hx hb dX1_dropFirst_6 ?_
  refine lv_topi (fun x_1 ex_1 => ?_)
  have fx_1 : x_1.toInt = e3.toInt + 1 := by have h9 := s_add (x := e3) (y := 1) (by rw [i_1]; omega) (by rw [i_1]; omega); rw [i_1] at h9; rw [ex_1]; exact h9
  refine lv_bipush (v := 16) hx hb dX1_dropFirst_7 (by decide) ?_
  refine lv_irem hx hb dX1_dropFirst_9 (by decide) ?_
  refine lv_topi (fun x_2 ex_2 => ?_)
  have fx_2 : x_2.toInt = x_1.toInt % 16 := by have h9 := s_rem (x := x_1) 16 (by decide) (by decide) (by omega); rw [ex_2]; exact h9
  refine rr_put (D := DG E) (ci := 1) (v := .int x_2) (ty := .int) (C := RX1) (T := TX1) (N := 5) hx hb hts iw_X1 tyX1 tyX1_ok nmX1 hown hK.1 hx0 hS (by show G h0 ∈ ([5] : List Nat); rw [hG]; decide) rfl 3 (by decide) (hts _ fl_X1_40) (fun _ h9 => h9) rfl (by decide +kernel) rfl rfl (Nat.le_of_ble_eq_true rfl) dX1_dropFirst_10 (fun H locs hn ho hz hS => ?_)
  have hr_3 : va_at (DG E) vwCl (h0, .inr (1, [.ref e0, .ref e1, .ref e2, .int x_2, .int e4])) H := hn
  have hT : TH E (T1 E) G [] H := hT.set hG (show T1 E G 5 _ from ⟨e0, e1, e2, x_2, e4, rfl, ge0, ge1, ge2, (by omega), (by omega)⟩) hr_3 ho
  refine lv_aload_n hx hb dX1_dropFirst_13 rfl (lv_at hl 0 rfl) ?_
  refine lv_dup hx hb dX1_dropFirst_14 rfl ?_
  refine va_get (D := DG E) (ci := 1) (v := .int e4) (C := RX1) (T := TX1) (N := 5) hx hb hts iw_X1 hown hK.1 (va_one hr_3) 0 rfl rfl 4 (by decide) (hts _ fl_X1_36) (fun _ h9 => h9) rfl dX1_dropFirst_15 ?_
  refine lv_iconst (v := 1) hx hb dX1_dropFirst_18 (by decide) ?_
  refine lv_isub hx hb dX1_dropFirst_19 ?_
  refine lv_topi (fun x_4 ex_4 => ?_)
  have fx_4 : x_4.toInt = e4.toInt - 1 := by have h9 := s_sub (x := e4) (y := 1) (by rw [i_1]; omega) (by rw [i_1]; omega); rw [i_1] at h9; rw [ex_4]; exact h9
  refine rr_put (D := DG E) (ci := 1) (v := .int x_4) (ty := .int) (C := RX1) (T := TX1) (N := 5) hx hb hts iw_X1 tyX1 tyX1_ok nmX1 hown hK.1 hr_3 hS (by show G h0 ∈ ([5] : List Nat); rw [hG]; decide) rfl 4 (by decide) (hts _ fl_X1_36) (fun _ h9 => h9) rfl (by decide +kernel) rfl rfl (Nat.le_of_ble_eq_true rfl) dX1_dropFirst_20 (fun H locs hn ho hz hS => ?_)
  have hr_5 : va_at (DG E) vwCl (h0, .inr (1, [.ref e0, .ref e1, .ref e2, .int x_2, .int x_4])) H := hn
  have hT : TH E (T1 E) G [] H := hT.set hG (show T1 E G 5 _ from ⟨e0, e1, e2, x_2, x_4, rfl, ge0, ge1, ge2, (by omega), (by omega)⟩) hr_5 ho
  exact W.vret hx hb hr (fun t ht hW => ⟨⟨(), rfl, trivial, (by show TH E (T1 E) G [] t.heap; rw [ht]; exact hT)⟩, hS.F ht⟩) hS.2.2 dX1_dropFirst_23
theorem dX2_become_0 : decode cX2_become 0 = .ok (.aload_n 0, 1) := by decide +kernel
theorem dX2_become_1 : decode cX2_become 1 = .ok (.iload_n 1, 1) := by decide +kernel
theorem dX2_become_2 : decode cX2_become 2 = .ok (.putfield 15, 3) := by decide +kernel
theorem dX2_become_5 : decode cX2_become 5 = .ok (.aload_n 0, 1) := by decide +kernel
theorem dX2_become_6 : decode cX2_become 6 = .ok (.iload_n 2, 1) := by decide +kernel
theorem dX2_become_7 : decode cX2_become 7 = .ok (.putfield 19, 3) := by decide +kernel
theorem dX2_become_10 : decode cX2_become 10 = .ok (.aload_n 0, 1) := by decide +kernel
theorem dX2_become_11 : decode cX2_become 11 = .ok (.iload_n 3, 1) := by decide +kernel
theorem dX2_become_12 : decode cX2_become 12 = .ok (.putfield 22, 3) := by decide +kernel
theorem dX2_become_15 : decode cX2_become 15 = .ok (.aload_n 0, 1) := by decide +kernel
theorem dX2_become_16 : decode cX2_become 16 = .ok (.iconst 0, 1) := by decide +kernel
theorem dX2_become_17 : decode cX2_become 17 = .ok (.putfield 25, 3) := by decide +kernel
theorem dX2_become_20 : decode cX2_become 20 = .ok (.aload_n 0, 1) := by decide +kernel
theorem dX2_become_21 : decode cX2_become 21 = .ok (.iconst (-1), 1) := by decide +kernel
theorem dX2_become_22 : decode cX2_become 22 = .ok (.putfield 28, 3) := by decide +kernel
theorem dX2_become_25 : decode cX2_become 25 = .ok (.aload_n 0, 1) := by decide +kernel
theorem dX2_become_26 : decode cX2_become 26 = .ok (.iconst (-1), 1) := by decide +kernel
theorem dX2_become_27 : decode cX2_become 27 = .ok (.putfield 31, 3) := by decide +kernel
theorem dX2_become_30 : decode cX2_become 30 = .ok (.aload_n 0, 1) := by decide +kernel
theorem dX2_become_31 : decode cX2_become 31 = .ok (.iconst 0, 1) := by decide +kernel
theorem dX2_become_32 : decode cX2_become 32 = .ok (.putfield 34, 3) := by decide +kernel
theorem dX2_become_35 : decode cX2_become 35 = .ok (.return_, 1) := by decide +kernel
set_option maxHeartbeats 8000000 in
set_option maxRecDepth 100000 in
theorem t_X2_become (l : Launch) (E : EE) (z0 : Nat) (G : Nat → Nat) (hGz : ∀ q, G q ≠ 0 → z0 ≤ q) (h0 : Nat) (p0 : Int32) (p1 : Int32) (p2 : Int32) (hG : G h0 = 31) (hy0 : 0 ≤ p0.toInt ∧ p0.toInt ≤ 3) : Met l yX2_become [Cond.code yX2_become cX2_become 4 none] ({ frames := 0, cells := 0, slots := 0, locals := 0 } : Room) (va_Pc [.ref h0, .int p0, .int p1, .int p2] (fun U => (TH E (T1 E) G [] U.heap) ∧ KS E z0 U)) (va_Qv (fun (_ : Unit) => True) (fun _ t => TH E (T1 E) G [] t.heap) (fun q : Nat => G q ∈ ([31] : List Nat))) 0 0 (fun q : Nat => G q ∈ ([31] : List Nat)) := by
  refine Met.ofW (cc := cX2_become) (maxL := 4) (ret := none) (by decide) rfl ?_
  intro p e s m args below meth c s₁ B hml hv
  obtain ⟨rfl, hT, hK⟩ := hv
  have hx := B.exec
  have hb := B.bytes
  have hr := B.returns
  have hts : ∀ w ∈ TS, w.before ([.ref h0, .int p0, .int p1, .int p2] : List Value).toArray s = true := fun w hw => hK.2.1 w hw _
  have hown : s.vm.findClass RX2 = some m.cls := findClass_of_methodNamed B.named
  have hlocks := B.notSynchronized
  have hS : va_S (fun q : Nat => G q ∈ ([31] : List Nat)) s.heap s.heap [] := va_S.rf
  have hAz : ∀ q, (fun q : Nat => G q ∈ ([31] : List Nat)) q → z0 ≤ q := zL hGz (by decide)
  have hl := lv_entry ([.ref h0, .int p0, .int p1, .int p2]) (n := 4) (Nat.le_of_ble_eq_true rfl)
  rw [lg_entry_eq]
  generalize (lg_sl ([.ref h0, .int p0, .int p1, .int p2]) ++ List.replicate (4 - (lg_sl ([.ref h0, .int p0, .int p1, .int p2])).length) Slot.unset).toArray = ls at hl ⊢
  have hl : lv_has ls 4 [(0, .ref h0), (1, .int p0), (2, .int p1), (3, .int p2)] := hl
  refine lv_aload_n hx hb dX2_become_0 rfl (lv_at hl 0 rfl) ?_
  refine lv_iload_n hx hb dX2_become_1 rfl (lv_at hl 1 rfl) ?_
  obtain ⟨v0_1, v1_1, v2_1, v3_1, v4_1, v5_1, v6_1, v7_1, ha_1, hb0_1, hb3_1, hg7_1⟩ := tr_31 hT hG
  refine rr_put (D := DG E) (ci := 2) (v := .int p0) (ty := .int) (C := RX2) (T := TX2) (N := 8) hx hb hts iw_X2 tyX2 tyX2_ok nmX2 hown hK.1 ha_1 hS (by show G h0 ∈ ([31] : List Nat); rw [hG]; decide) rfl 0 (by decide) (hts _ fl_X2_15) (fun _ h9 => h9) rfl (by decide +kernel) rfl rfl (Nat.le_of_ble_eq_true rfl) dX2_become_2 (fun H locs hn ho hz hS => ?_)
  have hr_2 : va_at (DG E) vwCl (h0, .inr (2, [.int p0, .int v1_1, .int v2_1, .int v3_1, .int v4_1, .int v5_1, .int v6_1, .ref v7_1])) H := hn
  have hT : TH E (T1 E) G [] H := hT.set hG (show T1 E G 31 _ from ⟨p0, v1_1, v2_1, v3_1, v4_1, v5_1, v6_1, v7_1, rfl, (by omega), (by omega), hg7_1⟩) hr_2 ho
  refine lv_aload_n hx hb dX2_become_5 rfl (lv_at hl 0 rfl) ?_
  refine lv_iload_n hx hb dX2_become_6 rfl (lv_at hl 2 rfl) ?_
  refine rr_put (D := DG E) (ci := 2) (v := .int p1) (ty := .int) (C := RX2) (T := TX2) (N := 8) hx hb hts iw_X2 tyX2 tyX2_ok nmX2 hown hK.1 hr_2 hS (by show G h0 ∈ ([31] : List Nat); rw [hG]; decide) rfl 1 (by decide) (hts _ fl_X2_19) (fun _ h9 => h9) rfl (by decide +kernel) rfl rfl (Nat.le_of_ble_eq_true rfl) dX2_become_7 (fun H locs hn ho hz hS => ?_)
  have hr_3 : va_at (DG E) vwCl (h0, .inr (2, [.int p0, .int p1, .int v2_1, .int v3_1, .int v4_1, .int v5_1, .int v6_1, .ref v7_1])) H := hn
  have hT : TH E (T1 E) G [] H := hT.set hG (show T1 E G 31 _ from ⟨p0, p1, v2_1, v3_1, v4_1, v5_1, v6_1, v7_1, rfl, (by omega), (by omega), hg7_1⟩) hr_3 ho
  refine lv_aload_n hx hb dX2_become_10 rfl (lv_at hl 0 rfl) ?_
  refine lv_iload_n hx hb dX2_become_11 rfl (lv_at hl 3 rfl) ?_
  refine rr_put (D := DG E) (ci := 2) (v := .int p2) (ty := .int) (C := RX2) (T := TX2) (N := 8) hx hb hts iw_X2 tyX2 tyX2_ok nmX2 hown hK.1 hr_3 hS (by show G h0 ∈ ([31] : List Nat); rw [hG]; decide) rfl 2 (by decide) (hts _ fl_X2_22) (fun _ h9 => h9) rfl (by decide +kernel) rfl rfl (Nat.le_of_ble_eq_true rfl) dX2_become_12 (fun H locs hn ho hz hS => ?_)
  have hr_4 : va_at (DG E) vwCl (h0, .inr (2, [.int p0, .int p1, .int p2, .int v3_1, .int v4_1, .int v5_1, .int v6_1, .ref v7_1])) H := hn
  have hT : TH E (T1 E) G [] H := hT.set hG (show T1 E G 31 _ from ⟨p0, p1, p2, v3_1, v4_1, v5_1, v6_1, v7_1, rfl, (by omega), (by omega), hg7_1⟩) hr_4 ho
  refine lv_aload_n hx hb dX2_become_15 rfl (lv_at hl 0 rfl) ?_
  refine lv_iconst (v := 0) hx hb dX2_become_16 (by decide) ?_
  refine rr_put (D := DG E) (ci := 2) (v := .int 0) (ty := .int) (C := RX2) (T := TX2) (N := 8) hx hb hts iw_X2 tyX2 tyX2_ok nmX2 hown hK.1 hr_4 hS (by show G h0 ∈ ([31] : List Nat); rw [hG]; decide) rfl 3 (by decide) (hts _ fl_X2_25) (fun _ h9 => h9) rfl (by decide +kernel) rfl rfl (Nat.le_of_ble_eq_true rfl) dX2_become_17 (fun H locs hn ho hz hS => ?_)
  have hr_5 : va_at (DG E) vwCl (h0, .inr (2, [.int p0, .int p1, .int p2, .int 0, .int v4_1, .int v5_1, .int v6_1, .ref v7_1])) H := hn
  have hT : TH E (T1 E) G [] H := hT.set hG (show T1 E G 31 _ from ⟨p0, p1, p2, 0, v4_1, v5_1, v6_1, v7_1, rfl, (by omega), (by decide), hg7_1⟩) hr_5 ho
  refine lv_aload_n hx hb dX2_become_20 rfl (lv_at hl 0 rfl) ?_
  refine lv_iconst (v := (-1)) hx hb dX2_become_21 (by decide) ?_
  refine rr_put (D := DG E) (ci := 2) (v := .int (-1)) (ty := .int) (C := RX2) (T := TX2) (N := 8) hx hb hts iw_X2 tyX2 tyX2_ok nmX2 hown hK.1 hr_5 hS (by show G h0 ∈ ([31] : List Nat); rw [hG]; decide) rfl 4 (by decide) (hts _ fl_X2_28) (fun _ h9 => h9) rfl (by decide +kernel) rfl rfl (Nat.le_of_ble_eq_true rfl) dX2_become_22 (fun H locs hn ho hz hS => ?_)
  have hr_6 : va_at (DG E) vwCl (h0, .inr (2, [.int p0, .int p1, .int p2, .int 0, .int (-1), .int v5_1, .int v6_1, .ref v7_1])) H := hn
  have hT : TH E (T1 E) G [] H := hT.set hG (show T1 E G 31 _ from ⟨p0, p1, p2, 0, (-1), v5_1, v6_1, v7_1, rfl, (by omega), (by decide), hg7_1⟩) hr_6 ho
  refine lv_aload_n hx hb dX2_become_25 rfl (lv_at hl 0 rfl) ?_
  refine lv_iconst (v := (-1)) hx hb dX2_become_26 (by decide) ?_
  refine rr_put (D := DG E) (ci := 2) (v := .int (-1)) (ty := .int) (C := RX2) (T := TX2) (N := 8) hx hb hts iw_X2 tyX2 tyX2_ok nmX2 hown hK.1 hr_6 hS (by show G h0 ∈ ([31] : List Nat); rw [hG]; decide) rfl 5 (by decide) (hts _ fl_X2_31) (fun _ h9 => h9) rfl (by decide +kernel) rfl rfl (Nat.le_of_ble_eq_true rfl) dX2_become_27 (fun H locs hn ho hz hS => ?_)
  have hr_7 : va_at (DG E) vwCl (h0, .inr (2, [.int p0, .int p1, .int p2, .int 0, .int (-1), .int (-1), .int v6_1, .ref v7_1])) H := hn
  have hT : TH E (T1 E) G [] H := hT.set hG (show T1 E G 31 _ from ⟨p0, p1, p2, 0, (-1), (-1), v6_1, v7_1, rfl, (by omega), (by decide), hg7_1⟩) hr_7 ho
  refine lv_aload_n hx hb dX2_become_30 rfl (lv_at hl 0 rfl) ?_
  refine lv_iconst (v := 0) hx hb dX2_become_31 (by decide) ?_
  refine rr_put (D := DG E) (ci := 2) (v := .int 0) (ty := .int) (C := RX2) (T := TX2) (N := 8) hx hb hts iw_X2 tyX2 tyX2_ok nmX2 hown hK.1 hr_7 hS (by show G h0 ∈ ([31] : List Nat); rw [hG]; decide) rfl 6 (by decide) (hts _ fl_X2_34) (fun _ h9 => h9) rfl (by decide +kernel) rfl rfl (Nat.le_of_ble_eq_true rfl) dX2_become_32 (fun H locs hn ho hz hS => ?_)
  have hr_8 : va_at (DG E) vwCl (h0, .inr (2, [.int p0, .int p1, .int p2, .int 0, .int (-1), .int (-1), .int 0, .ref v7_1])) H := hn
  have hT : TH E (T1 E) G [] H := hT.set hG (show T1 E G 31 _ from ⟨p0, p1, p2, 0, (-1), (-1), 0, v7_1, rfl, (by omega), (by decide), hg7_1⟩) hr_8 ho
  exact W.vret hx hb hr (fun t ht hW => ⟨⟨(), rfl, trivial, (by show TH E (T1 E) G [] t.heap; rw [ht]; exact hT)⟩, hS.F ht⟩) hS.2.2 dX2_become_35
theorem dX2_becomeLike_0 : decode cX2_becomeLike 0 = .ok (.aload_n 0, 1) := by decide +kernel
theorem dX2_becomeLike_1 : decode cX2_becomeLike 1 = .ok (.aload_n 1, 1) := by decide +kernel
theorem dX2_becomeLike_2 : decode cX2_becomeLike 2 = .ok (.getfield 15, 3) := by decide +kernel
theorem dX2_becomeLike_5 : decode cX2_becomeLike 5 = .ok (.aload_n 1, 1) := by decide +kernel
theorem dX2_becomeLike_6 : decode cX2_becomeLike 6 = .ok (.getfield 19, 3) := by decide +kernel
theorem dX2_becomeLike_9 : decode cX2_becomeLike 9 = .ok (.aload_n 1, 1) := by decide +kernel
theorem dX2_becomeLike_10 : decode cX2_becomeLike 10 = .ok (.getfield 22, 3) := by decide +kernel
theorem dX2_becomeLike_13 : decode cX2_becomeLike 13 = .ok (.invokevirtual 37, 3) := by decide +kernel
theorem dX2_becomeLike_16 : decode cX2_becomeLike 16 = .ok (.aload_n 0, 1) := by decide +kernel
theorem dX2_becomeLike_17 : decode cX2_becomeLike 17 = .ok (.aload_n 1, 1) := by decide +kernel
theorem dX2_becomeLike_18 : decode cX2_becomeLike 18 = .ok (.getfield 25, 3) := by decide +kernel
theorem dX2_becomeLike_21 : decode cX2_becomeLike 21 = .ok (.putfield 25, 3) := by decide +kernel
theorem dX2_becomeLike_24 : decode cX2_becomeLike 24 = .ok (.aload_n 0, 1) := by decide +kernel
theorem dX2_becomeLike_25 : decode cX2_becomeLike 25 = .ok (.aload_n 1, 1) := by decide +kernel
theorem dX2_becomeLike_26 : decode cX2_becomeLike 26 = .ok (.getfield 28, 3) := by decide +kernel
theorem dX2_becomeLike_29 : decode cX2_becomeLike 29 = .ok (.putfield 28, 3) := by decide +kernel
theorem dX2_becomeLike_32 : decode cX2_becomeLike 32 = .ok (.aload_n 0, 1) := by decide +kernel
theorem dX2_becomeLike_33 : decode cX2_becomeLike 33 = .ok (.aload_n 1, 1) := by decide +kernel
theorem dX2_becomeLike_34 : decode cX2_becomeLike 34 = .ok (.getfield 31, 3) := by decide +kernel
theorem dX2_becomeLike_37 : decode cX2_becomeLike 37 = .ok (.putfield 31, 3) := by decide +kernel
theorem dX2_becomeLike_40 : decode cX2_becomeLike 40 = .ok (.aload_n 0, 1) := by decide +kernel
theorem dX2_becomeLike_41 : decode cX2_becomeLike 41 = .ok (.aload_n 1, 1) := by decide +kernel
theorem dX2_becomeLike_42 : decode cX2_becomeLike 42 = .ok (.getfield 34, 3) := by decide +kernel
theorem dX2_becomeLike_45 : decode cX2_becomeLike 45 = .ok (.putfield 34, 3) := by decide +kernel
theorem dX2_becomeLike_48 : decode cX2_becomeLike 48 = .ok (.iconst 0, 1) := by decide +kernel
theorem dX2_becomeLike_49 : decode cX2_becomeLike 49 = .ok (.istore_n 2, 1) := by decide +kernel
theorem dX2_becomeLike_50 : decode cX2_becomeLike 50 = .ok (.iload_n 2, 1) := by decide +kernel
theorem dX2_becomeLike_51 : decode cX2_becomeLike 51 = .ok (.iconst 4, 1) := by decide +kernel
theorem dX2_becomeLike_52 : decode cX2_becomeLike 52 = .ok (.if_icmp .ge 21, 3) := by decide +kernel
theorem dX2_becomeLike_55 : decode cX2_becomeLike 55 = .ok (.aload_n 0, 1) := by decide +kernel
theorem dX2_becomeLike_56 : decode cX2_becomeLike 56 = .ok (.getfield 9, 3) := by decide +kernel
theorem dX2_becomeLike_59 : decode cX2_becomeLike 59 = .ok (.iload_n 2, 1) := by decide +kernel
theorem dX2_becomeLike_60 : decode cX2_becomeLike 60 = .ok (.aload_n 1, 1) := by decide +kernel
theorem dX2_becomeLike_61 : decode cX2_becomeLike 61 = .ok (.getfield 9, 3) := by decide +kernel
theorem dX2_becomeLike_64 : decode cX2_becomeLike 64 = .ok (.iload_n 2, 1) := by decide +kernel
theorem dX2_becomeLike_65 : decode cX2_becomeLike 65 = .ok (.iaload, 1) := by decide +kernel
theorem dX2_becomeLike_66 : decode cX2_becomeLike 66 = .ok (.iastore, 1) := by decide +kernel
theorem dX2_becomeLike_67 : decode cX2_becomeLike 67 = .ok (.iinc 2 1, 3) := by decide +kernel
theorem dX2_becomeLike_70 : decode cX2_becomeLike 70 = .ok (.goto (-20), 3) := by decide +kernel
theorem dX2_becomeLike_73 : decode cX2_becomeLike 73 = .ok (.return_, 1) := by decide +kernel
set_option maxHeartbeats 8000000 in
set_option maxRecDepth 100000 in
theorem t_X2_becomeLike (l : Launch) (E : EE) (z0 : Nat) (G : Nat → Nat) (hGz : ∀ q, G q ≠ 0 → z0 ≤ q) (h0 : Nat) (p0 : Nat) (hG : G h0 = 31) (hG0 : G p0 = 31) : Met l yX2_becomeLike [Cond.code yX2_becomeLike cX2_becomeLike 3 none] ({ frames := 1, cells := 0, slots := 0, locals := 23 } : Room) (va_Pc [.ref h0, .ref p0] (fun U => (TH E (T1 E) G [] U.heap) ∧ KS E z0 U)) (va_Qv (fun (_ : Unit) => True) (fun _ t => TH E (T1 E) G [] t.heap) (fun q : Nat => G q ∈ ([31, 32] : List Nat))) 0 0 (fun q : Nat => G q ∈ ([31, 32] : List Nat)) := by
  refine Met.ofW (cc := cX2_becomeLike) (maxL := 3) (ret := none) (by decide) rfl ?_
  intro p e s m args below meth c s₁ B hml hv
  obtain ⟨rfl, hT, hK⟩ := hv
  have hx := B.exec
  have hb := B.bytes
  have hr := B.returns
  have hts : ∀ w ∈ TS, w.before ([.ref h0, .ref p0] : List Value).toArray s = true := fun w hw => hK.2.1 w hw _
  have hown : s.vm.findClass RX2 = some m.cls := findClass_of_methodNamed B.named
  have hlocks := B.notSynchronized
  have hS : va_S (fun q : Nat => G q ∈ ([31, 32] : List Nat)) s.heap s.heap [] := va_S.rf
  have hAz : ∀ q, (fun q : Nat => G q ∈ ([31, 32] : List Nat)) q → z0 ≤ q := zL hGz (by decide)
  have hl := lv_entry ([.ref h0, .ref p0]) (n := 3) (Nat.le_of_ble_eq_true rfl)
  rw [lg_entry_eq]
  generalize (lg_sl ([.ref h0, .ref p0]) ++ List.replicate (3 - (lg_sl ([.ref h0, .ref p0])).length) Slot.unset).toArray = ls at hl ⊢
  have hl : lv_has ls 3 [(0, .ref h0), (1, .ref p0)] := hl
  refine lv_aload_n hx hb dX2_becomeLike_0 rfl (lv_at hl 0 rfl) ?_
  refine lv_aload_n hx hb dX2_becomeLike_1 rfl (lv_at hl 1 rfl) ?_
  obtain ⟨v0_1, v1_1, v2_1, v3_1, v4_1, v5_1, v6_1, v7_1, ha_1, hb0_1, hb3_1, hg7_1⟩ := tr_31 hT hG0
  refine va_get (D := DG E) (ci := 2) (v := .int v0_1) (C := RX2) (T := TX2) (N := 8) hx hb hts iw_X2 hown hK.1 (va_one ha_1) 0 rfl rfl 0 (by decide) (hts _ fl_X2_15) (fun _ h9 => h9) rfl dX2_becomeLike_2 ?_
  refine lv_aload_n hx hb dX2_becomeLike_5 rfl (lv_at hl 1 rfl) ?_
  refine va_get (D := DG E) (ci := 2) (v := .int v1_1) (C := RX2) (T := TX2) (N := 8) hx hb hts iw_X2 hown hK.1 (va_one ha_1) 0 rfl rfl 1 (by decide) (hts _ fl_X2_19) (fun _ h9 => h9) rfl dX2_becomeLike_6 ?_
  refine lv_aload_n hx hb dX2_becomeLike_9 rfl (lv_at hl 1 rfl) ?_
  refine va_get (D := DG E) (ci := 2) (v := .int v2_1) (C := RX2) (T := TX2) (N := 8) hx hb hts iw_X2 hown hK.1 (va_one ha_1) 0 rfl rfl 2 (by decide) (hts _ fl_X2_22) (fun _ h9 => h9) rfl dX2_becomeLike_10 ?_
  obtain ⟨v0_2, v1_2, v2_2, v3_2, v4_2, v5_2, v6_2, v7_2, ha_2, hb0_2, hb3_2, hg7_2⟩ := tr_31 hT hG
  refine va_callv (rnV (fun H => TH E (T1 E) G [] H) (As := [.int v0_1, .int v1_1, .int v2_1]) (rest := []) ⟨hx, hb, hml, hown, hts⟩ (t_X2_become l E z0 G hGz h0 v0_1 v1_1 v2_1 hG (by first | omega | decide)) (cwV 3 hts (gdV ml_X2_37 im_X2_become se_X2_X2_become in_X2 co_X2_become rfl) rfl rfl rfl (by decide +kernel) ⟨Nat.le_of_ble_eq_true rfl, Nat.le_of_ble_eq_true rfl⟩) hT (fun U hU hW => hK.go hW hS hAz hU) (va_recv hK.1 (va_one ha_2) (ci := 2) (q0 := 0) rfl rfl) rfl rfl hl.1 rfl (lv_room (Nat.le_of_ble_eq_true rfl)) dX2_becomeLike_13 ⟨Nat.le_of_ble_eq_true rfl, Nat.le_of_ble_eq_true rfl⟩) hS (fun q _ h => mL (L' := [31]) (L := [31, 32]) (by decide) h) (fun q h => mL (L' := [31]) (L := [31, 32]) (by decide) h) (fun _ t H locs ht hvm hwr_3 hB hz hk hS => ?_)
  have hT : TH E (T1 E) G [] H := by rw [ht] at hB; exact hB
  refine lv_aload_n hx hb dX2_becomeLike_16 rfl (lv_at hl 0 rfl) ?_
  refine lv_aload_n hx hb dX2_becomeLike_17 rfl (lv_at hl 1 rfl) ?_
  obtain ⟨v0_4, v1_4, v2_4, v3_4, v4_4, v5_4, v6_4, v7_4, ha_4, hb0_4, hb3_4, hg7_4⟩ := tr_31 hT hG0
  refine va_get (D := DG E) (ci := 2) (v := .int v3_4) (C := RX2) (T := TX2) (N := 8) hx hb hts iw_X2 hown hK.1 (va_one ha_4) 0 rfl rfl 3 (by decide) (hts _ fl_X2_25) (fun _ h9 => h9) rfl dX2_becomeLike_18 ?_
  obtain ⟨v0_5, v1_5, v2_5, v3_5, v4_5, v5_5, v6_5, v7_5, ha_5, hb0_5, hb3_5, hg7_5⟩ := tr_31 hT hG
  refine rr_put (D := DG E) (ci := 2) (v := .int v3_4) (ty := .int) (C := RX2) (T := TX2) (N := 8) hx hb hts iw_X2 tyX2 tyX2_ok nmX2 hown hK.1 ha_5 hS (by show G h0 ∈ ([31, 32] : List Nat); rw [hG]; decide) rfl 3 (by decide) (hts _ fl_X2_25) (fun _ h9 => h9) rfl (by decide +kernel) rfl rfl (Nat.le_of_ble_eq_true rfl) dX2_becomeLike_21 (fun H locs hn ho hz hS => ?_)
  have hr_6 : va_at (DG E) vwCl (h0, .inr (2, [.int v0_5, .int v1_5, .int v2_5, .int v3_4, .int v4_5, .int v5_5, .int v6_5, .ref v7_5])) H := hn
  have hT : TH E (T1 E) G [] H := hT.set hG (show T1 E G 31 _ from ⟨v0_5, v1_5, v2_5, v3_4, v4_5, v5_5, v6_5, v7_5, rfl, (by omega), (by omega), hg7_5⟩) hr_6 ho
  refine lv_aload_n hx hb dX2_becomeLike_24 rfl (lv_at hl 0 rfl) ?_
  refine lv_aload_n hx hb dX2_becomeLike_25 rfl (lv_at hl 1 rfl) ?_
  obtain ⟨v0_7, v1_7, v2_7, v3_7, v4_7, v5_7, v6_7, v7_7, ha_7, hb0_7, hb3_7, hg7_7⟩ := tr_31 hT hG0
  refine va_get (D := DG E) (ci := 2) (v := .int v4_7) (C := RX2) (T := TX2) (N := 8) hx hb hts iw_X2 hown hK.1 (va_one ha_7) 0 rfl rfl 4 (by decide) (hts _ fl_X2_28) (fun _ h9 => h9) rfl dX2_becomeLike_26 ?_
  refine rr_put (D := DG E) (ci := 2) (v := .int v4_7) (ty := .int) (C := RX2) (T := TX2) (N := 8) hx hb hts iw_X2 tyX2 tyX2_ok nmX2 hown hK.1 hr_6 hS (by show G h0 ∈ ([31, 32] : List Nat); rw [hG]; decide) rfl 4 (by decide) (hts _ fl_X2_28) (fun _ h9 => h9) rfl (by decide +kernel) rfl rfl (Nat.le_of_ble_eq_true rfl) dX2_becomeLike_29 (fun H locs hn ho hz hS => ?_)
  have hr_8 : va_at (DG E) vwCl (h0, .inr (2, [.int v0_5, .int v1_5, .int v2_5, .int v3_4, .int v4_7, .int v5_5, .int v6_5, .ref v7_5])) H := hn
  have hT : TH E (T1 E) G [] H := hT.set hG (show T1 E G 31 _ from ⟨v0_5, v1_5, v2_5, v3_4, v4_7, v5_5, v6_5, v7_5, rfl, (by omega), (by omega), hg7_5⟩) hr_8 ho
  refine lv_aload_n hx hb dX2_becomeLike_32 rfl (lv_at hl 0 rfl) ?_
  refine lv_aload_n hx hb dX2_becomeLike_33 rfl (lv_at hl 1 rfl) ?_
  obtain ⟨v0_9, v1_9, v2_9, v3_9, v4_9, v5_9, v6_9, v7_9, ha_9, hb0_9, hb3_9, hg7_9⟩ := tr_31 hT hG0
  refine va_get (D := DG E) (ci := 2) (v := .int v5_9) (C := RX2) (T := TX2) (N := 8) hx hb hts iw_X2 hown hK.1 (va_one ha_9) 0 rfl rfl 5 (by decide) (hts _ fl_X2_31) (fun _ h9 => h9) rfl dX2_becomeLike_34 ?_
  refine rr_put (D := DG E) (ci := 2) (v := .int v5_9) (ty := .int) (C := RX2) (T := TX2) (N := 8) hx hb hts iw_X2 tyX2 tyX2_ok nmX2 hown hK.1 hr_8 hS (by show G h0 ∈ ([31, 32] : List Nat); rw [hG]; decide) rfl 5 (by decide) (hts _ fl_X2_31) (fun _ h9 => h9) rfl (by decide +kernel) rfl rfl (Nat.le_of_ble_eq_true rfl) dX2_becomeLike_37 (fun H locs hn ho hz hS => ?_)
  have hr_10 : va_at (DG E) vwCl (h0, .inr (2, [.int v0_5, .int v1_5, .int v2_5, .int v3_4, .int v4_7, .int v5_9, .int v6_5, .ref v7_5])) H := hn
  have hT : TH E (T1 E) G [] H := hT.set hG (show T1 E G 31 _ from ⟨v0_5, v1_5, v2_5, v3_4, v4_7, v5_9, v6_5, v7_5, rfl, (by omega), (by omega), hg7_5⟩) hr_10 ho
  refine lv_aload_n hx hb dX2_becomeLike_40 rfl (lv_at hl 0 rfl) ?_
  refine lv_aload_n hx hb dX2_becomeLike_41 rfl (lv_at hl 1 rfl) ?_
  obtain ⟨v0_11, v1_11, v2_11, v3_11, v4_11, v5_11, v6_11, v7_11, ha_11, hb0_11, hb3_11, hg7_11⟩ := tr_31 hT hG0
  refine va_get (D := DG E) (ci := 2) (v := .int v6_11) (C := RX2) (T := TX2) (N := 8) hx hb hts iw_X2 hown hK.1 (va_one ha_11) 0 rfl rfl 6 (by decide) (hts _ fl_X2_34) (fun _ h9 => h9) rfl dX2_becomeLike_42 ?_
  refine rr_put (D := DG E) (ci := 2) (v := .int v6_11) (ty := .int) (C := RX2) (T := TX2) (N := 8) hx hb hts iw_X2 tyX2 tyX2_ok nmX2 hown hK.1 hr_10 hS (by show G h0 ∈ ([31, 32] : List Nat); rw [hG]; decide) rfl 6 (by decide) (hts _ fl_X2_34) (fun _ h9 => h9) rfl (by decide +kernel) rfl rfl (Nat.le_of_ble_eq_true rfl) dX2_becomeLike_45 (fun H locs hn ho hz hS => ?_)
  have hr_12 : va_at (DG E) vwCl (h0, .inr (2, [.int v0_5, .int v1_5, .int v2_5, .int v3_4, .int v4_7, .int v5_9, .int v6_11, .ref v7_5])) H := hn
  have hT : TH E (T1 E) G [] H := hT.set hG (show T1 E G 31 _ from ⟨v0_5, v1_5, v2_5, v3_4, v4_7, v5_9, v6_11, v7_5, rfl, (by omega), (by omega), hg7_5⟩) hr_12 ho
  refine lv_iconst (v := 0) hx hb dX2_becomeLike_48 (by decide) ?_
  refine lv_istore_n (lv' := [(2, .int 0), (0, .ref h0), (1, .ref p0)]) hx hb dX2_becomeLike_49 rfl hl (by decide) rfl (fun ls hl => ?_)
  refine lv_iload_n hx hb dX2_becomeLike_50 rfl (lv_at hl 0 rfl) ?_
  refine lv_iconst (v := 4) hx hb dX2_becomeLike_51 (by decide) ?_
  refine lv_icmp_ge (tgt := 73) hx hb dX2_becomeLike_52 (by decide) (fun c_13 => absurd c_13 (by decide)) (fun c_13 => ?_)
  refine lv_aload_n hx hb dX2_becomeLike_55 rfl (lv_at hl 1 rfl) ?_
  refine va_get (D := DG E) (ci := 2) (v := .ref v7_5) (C := RX2) (T := TX2) (N := 8) hx hb hts iw_X2 hown hK.1 (va_one hr_12) 0 rfl rfl 7 (by decide) (hts _ fl_X2_9) (fun _ h9 => h9) rfl dX2_becomeLike_56 ?_
  refine lv_iload_n hx hb dX2_becomeLike_59 rfl (lv_at hl 0 rfl) ?_
  refine lv_aload_n hx hb dX2_becomeLike_60 rfl (lv_at hl 2 rfl) ?_
  obtain ⟨v0_14, v1_14, v2_14, v3_14, v4_14, v5_14, v6_14, v7_14, ha_14, hb0_14, hb3_14, hg7_14⟩ := tr_31 hT hG0
  refine va_get (D := DG E) (ci := 2) (v := .ref v7_14) (C := RX2) (T := TX2) (N := 8) hx hb hts iw_X2 hown hK.1 (va_one ha_14) 0 rfl rfl 7 (by decide) (hts _ fl_X2_9) (fun _ h9 => h9) rfl dX2_becomeLike_61 ?_
  refine lv_iload_n hx hb dX2_becomeLike_64 rfl (lv_at hl 0 rfl) ?_
  obtain ⟨f_15, ha_15⟩ := tr_32 hT hg7_14
  refine va_iald (D := DG E) hx hb hK.1 (va_one ha_15) 0 0 rfl rfl (show vp_in (0) 4 from vp_in_iff.mpr ⟨by decide, by decide⟩) dX2_becomeLike_65 ?_
  refine W.eq (g2 := F0 m 66 ls [.int (f_15 (0 : Int32).toNatClampNeg), .int 0, .ref v7_5]) (by rfl) ?_
  refine lv_topi (fun x_16 ex_16 => ?_)
  obtain ⟨f_17, ha_17⟩ := tr_32 hT hg7_5
  refine rr_iast (D := DG E) hx hb hK.1 0 ha_17 hS (by show G v7_5 ∈ ([31, 32] : List Nat); rw [hg7_5]; decide) rfl (show vp_in (0) 4 from vp_in_iff.mpr ⟨by decide, by decide⟩) dX2_becomeLike_66 (fun H locs hn ho hz hS => ?_)
  have hT : TH E (T1 E) G [] H := hT.set hg7_5 (show T1 E G 32 _ from ⟨_, rfl⟩) hn ho
  have hr_12 := hr_12.kept (ho _ (ne_G hG hg7_5 (by decide)))
  have ha_14 := ha_14.kept (ho _ (ne_G hG0 hg7_5 (by decide)))
  refine lv_iinc (v := 1) (lv' := [(2, .int 1), (0, .ref h0), (1, .ref p0)]) hx hb dX2_becomeLike_67 hl (k := 0) rfl (by decide) (by decide) rfl (fun ls hl => ?_)
  refine lv_goto (tgt := 50) hx hb dX2_becomeLike_70 (by decide) ?_
  refine lv_iload_n hx hb dX2_becomeLike_50 rfl (lv_at hl 0 rfl) ?_
  refine lv_iconst (v := 4) hx hb dX2_becomeLike_51 (by decide) ?_
  refine lv_icmp_ge (tgt := 73) hx hb dX2_becomeLike_52 (by decide) (fun c_18 => absurd c_18 (by decide)) (fun c_18 => ?_)
  refine lv_aload_n hx hb dX2_becomeLike_55 rfl (lv_at hl 1 rfl) ?_
  refine va_get (D := DG E) (ci := 2) (v := .ref v7_5) (C := RX2) (T := TX2) (N := 8) hx hb hts iw_X2 hown hK.1 (va_one hr_12) 0 rfl rfl 7 (by decide) (hts _ fl_X2_9) (fun _ h9 => h9) rfl dX2_becomeLike_56 ?_
  refine lv_iload_n hx hb dX2_becomeLike_59 rfl (lv_at hl 0 rfl) ?_
  refine lv_aload_n hx hb dX2_becomeLike_60 rfl (lv_at hl 2 rfl) ?_
  refine va_get (D := DG E) (ci := 2) (v := .ref v7_14) (C := RX2) (T := TX2) (N := 8) hx hb hts iw_X2 hown hK.1 (va_one ha_14) 0 rfl rfl 7 (by decide) (hts _ fl_X2_9) (fun _ h9 => h9) rfl dX2_becomeLike_61 ?_
  refine lv_iload_n hx hb dX2_becomeLike_64 rfl (lv_at hl 0 rfl) ?_
  obtain ⟨f_19, ha_19⟩ := tr_32 hT hg7_14
  refine va_iald (D := DG E) hx hb hK.1 (va_one ha_19) 0 0 rfl rfl (show vp_in (1) 4 from vp_in_iff.mpr ⟨by decide, by decide⟩) dX2_becomeLike_65 ?_
  refine W.eq (g2 := F0 m 66 ls [.int (f_19 (1 : Int32).toNatClampNeg), .int 1, .ref v7_5]) (by rfl) ?_
  refine lv_topi (fun x_20 ex_20 => ?_)
  obtain ⟨f_21, ha_21⟩ := tr_32 hT hg7_5
  refine rr_iast (D := DG E) hx hb hK.1 0 ha_21 hS (by show G v7_5 ∈ ([31, 32] : List Nat); rw [hg7_5]; decide) rfl (show vp_in (1) 4 from vp_in_iff.mpr ⟨by decide, by decide⟩) dX2_becomeLike_66 (fun H locs hn ho hz hS => ?_)
  have hT : TH E (T1 E) G [] H := hT.set hg7_5 (show T1 E G 32 _ from ⟨_, rfl⟩) hn ho
  have hr_12 := hr_12.kept (ho _ (ne_G hG hg7_5 (by decide)))
  have ha_14 := ha_14.kept (ho _ (ne_G hG0 hg7_5 (by decide)))
  refine lv_iinc (v := 2) (lv' := [(2, .int 2), (0, .ref h0), (1, .ref p0)]) hx hb dX2_becomeLike_67 hl (k := 0) rfl (by decide) (by decide) rfl (fun ls hl => ?_)
  refine lv_goto (tgt := 50) hx hb dX2_becomeLike_70 (by decide) ?_
  refine lv_iload_n hx hb dX2_becomeLike_50 rfl (lv_at hl 0 rfl) ?_
  refine lv_iconst (v := 4) hx hb dX2_becomeLike_51 (by decide) ?_
  refine lv_icmp_ge (tgt := 73) hx hb dX2_becomeLike_52 (by decide) (fun c_22 => absurd c_22 (by decide)) (fun c_22 => ?_)
  refine lv_aload_n hx hb dX2_becomeLike_55 rfl (lv_at hl 1 rfl) ?_
  refine va_get (D := DG E) (ci := 2) (v := .ref v7_5) (C := RX2) (T := TX2) (N := 8) hx hb hts iw_X2 hown hK.1 (va_one hr_12) 0 rfl rfl 7 (by decide) (hts _ fl_X2_9) (fun _ h9 => h9) rfl dX2_becomeLike_56 ?_
  refine lv_iload_n hx hb dX2_becomeLike_59 rfl (lv_at hl 0 rfl) ?_
  refine lv_aload_n hx hb dX2_becomeLike_60 rfl (lv_at hl 2 rfl) ?_
  refine va_get (D := DG E) (ci := 2) (v := .ref v7_14) (C := RX2) (T := TX2) (N := 8) hx hb hts iw_X2 hown hK.1 (va_one ha_14) 0 rfl rfl 7 (by decide) (hts _ fl_X2_9) (fun _ h9 => h9) rfl dX2_becomeLike_61 ?_
  refine lv_iload_n hx hb dX2_becomeLike_64 rfl (lv_at hl 0 rfl) ?_
  obtain ⟨f_23, ha_23⟩ := tr_32 hT hg7_14
  refine va_iald (D := DG E) hx hb hK.1 (va_one ha_23) 0 0 rfl rfl (show vp_in (2) 4 from vp_in_iff.mpr ⟨by decide, by decide⟩) dX2_becomeLike_65 ?_
  refine W.eq (g2 := F0 m 66 ls [.int (f_23 (2 : Int32).toNatClampNeg), .int 2, .ref v7_5]) (by rfl) ?_
  refine lv_topi (fun x_24 ex_24 => ?_)
  obtain ⟨f_25, ha_25⟩ := tr_32 hT hg7_5
  refine rr_iast (D := DG E) hx hb hK.1 0 ha_25 hS (by show G v7_5 ∈ ([31, 32] : List Nat); rw [hg7_5]; decide) rfl (show vp_in (2) 4 from vp_in_iff.mpr ⟨by decide, by decide⟩) dX2_becomeLike_66 (fun H locs hn ho hz hS => ?_)
  have hT : TH E (T1 E) G [] H := hT.set hg7_5 (show T1 E G 32 _ from ⟨_, rfl⟩) hn ho
  have hr_12 := hr_12.kept (ho _ (ne_G hG hg7_5 (by decide)))
  have ha_14 := ha_14.kept (ho _ (ne_G hG0 hg7_5 (by decide)))
  refine lv_iinc (v := 3) (lv' := [(2, .int 3), (0, .ref h0), (1, .ref p0)]) hx hb dX2_becomeLike_67 hl (k := 0) rfl (by decide) (by decide) rfl (fun ls hl => ?_)
  refine lv_goto (tgt := 50) hx hb dX2_becomeLike_70 (by decide) ?_
  refine lv_iload_n hx hb dX2_becomeLike_50 rfl (lv_at hl 0 rfl) ?_
  refine lv_iconst (v := 4) hx hb dX2_becomeLike_51 (by decide) ?_
  refine lv_icmp_ge (tgt := 73) hx hb dX2_becomeLike_52 (by decide) (fun c_26 => absurd c_26 (by decide)) (fun c_26 => ?_)
  refine lv_aload_n hx hb dX2_becomeLike_55 rfl (lv_at hl 1 rfl) ?_
  refine va_get (D := DG E) (ci := 2) (v := .ref v7_5) (C := RX2) (T := TX2) (N := 8) hx hb hts iw_X2 hown hK.1 (va_one hr_12) 0 rfl rfl 7 (by decide) (hts _ fl_X2_9) (fun _ h9 => h9) rfl dX2_becomeLike_56 ?_
  refine lv_iload_n hx hb dX2_becomeLike_59 rfl (lv_at hl 0 rfl) ?_
  refine lv_aload_n hx hb dX2_becomeLike_60 rfl (lv_at hl 2 rfl) ?_
  refine va_get (D := DG E) (ci := 2) (v := .ref v7_14) (C := RX2) (T := TX2) (N := 8) hx hb hts iw_X2 hown hK.1 (va_one ha_14) 0 rfl rfl 7 (by decide) (hts _ fl_X2_9) (fun _ h9 => h9) rfl dX2_becomeLike_61 ?_
  refine lv_iload_n hx hb dX2_becomeLike_64 rfl (lv_at hl 0 rfl) ?_
  obtain ⟨f_27, ha_27⟩ := tr_32 hT hg7_14
  refine va_iald (D := DG E) hx hb hK.1 (va_one ha_27) 0 0 rfl rfl (show vp_in (3) 4 from vp_in_iff.mpr ⟨by decide, by decide⟩) dX2_becomeLike_65 ?_
  refine W.eq (g2 := F0 m 66 ls [.int (f_27 (3 : Int32).toNatClampNeg), .int 3, .ref v7_5]) (by rfl) ?_
  refine lv_topi (fun x_28 ex_28 => ?_)
  obtain ⟨f_29, ha_29⟩ := tr_32 hT hg7_5
  refine rr_iast (D := DG E) hx hb hK.1 0 ha_29 hS (by show G v7_5 ∈ ([31, 32] : List Nat); rw [hg7_5]; decide) rfl (show vp_in (3) 4 from vp_in_iff.mpr ⟨by decide, by decide⟩) dX2_becomeLike_66 (fun H locs hn ho hz hS => ?_)
  have hT : TH E (T1 E) G [] H := hT.set hg7_5 (show T1 E G 32 _ from ⟨_, rfl⟩) hn ho
  have hr_12 := hr_12.kept (ho _ (ne_G hG hg7_5 (by decide)))
  have ha_14 := ha_14.kept (ho _ (ne_G hG0 hg7_5 (by decide)))
  refine lv_iinc (v := 4) (lv' := [(2, .int 4), (0, .ref h0), (1, .ref p0)]) hx hb dX2_becomeLike_67 hl (k := 0) rfl (by decide) (by decide) rfl (fun ls hl => ?_)
  refine lv_goto (tgt := 50) hx hb dX2_becomeLike_70 (by decide) ?_
  refine lv_iload_n hx hb dX2_becomeLike_50 rfl (lv_at hl 0 rfl) ?_
  refine lv_iconst (v := 4) hx hb dX2_becomeLike_51 (by decide) ?_
  refine lv_icmp_ge (tgt := 73) hx hb dX2_becomeLike_52 (by decide) (fun c_30 => ?_) (fun c_30 => absurd c_30 (by decide))
  exact W.vret hx hb hr (fun t ht hW => ⟨⟨(), rfl, trivial, (by show TH E (T1 E) G [] t.heap; rw [ht]; exact hT)⟩, hS.F ht⟩) hS.2.2 dX2_becomeLike_73
theorem dX2_load_0 : decode cX2_load 0 = .ok (.aload_n 0, 1) := by decide +kernel
theorem dX2_load_1 : decode cX2_load 1 = .ok (.iload_n 3, 1) := by decide +kernel
theorem dX2_load_2 : decode cX2_load 2 = .ok (.iconst 4, 1) := by decide +kernel
theorem dX2_load_3 : decode cX2_load 3 = .ok (.invokestatic 41, 3) := by decide +kernel
theorem dX2_load_6 : decode cX2_load 6 = .ok (.putfield 25, 3) := by decide +kernel
theorem dX2_load_9 : decode cX2_load 9 = .ok (.iconst 0, 1) := by decide +kernel
theorem dX2_load_10 : decode cX2_load 10 = .ok (.istore 4, 2) := by decide +kernel
theorem dX2_load_12 : decode cX2_load 12 = .ok (.iload 4, 2) := by decide +kernel
theorem dX2_load_14 : decode cX2_load 14 = .ok (.aload_n 0, 1) := by decide +kernel
theorem dX2_load_15 : decode cX2_load 15 = .ok (.getfield 25, 3) := by decide +kernel
theorem dX2_load_18 : decode cX2_load 18 = .ok (.if_icmp .ge 24, 3) := by decide +kernel
theorem dX2_load_21 : decode cX2_load 21 = .ok (.aload_n 0, 1) := by decide +kernel
theorem dX2_load_22 : decode cX2_load 22 = .ok (.getfield 9, 3) := by decide +kernel
theorem dX2_load_25 : decode cX2_load 25 = .ok (.iload 4, 2) := by decide +kernel
theorem dX2_load_27 : decode cX2_load 27 = .ok (.aload_n 1, 1) := by decide +kernel
theorem dX2_load_28 : decode cX2_load 28 = .ok (.iload_n 2, 1) := by decide +kernel
theorem dX2_load_29 : decode cX2_load 29 = .ok (.iload 4, 2) := by decide +kernel
theorem dX2_load_31 : decode cX2_load 31 = .ok (.iadd, 1) := by decide +kernel
theorem dX2_load_32 : decode cX2_load 32 = .ok (.invokevirtual 47, 3) := by decide +kernel
theorem dX2_load_35 : decode cX2_load 35 = .ok (.iastore, 1) := by decide +kernel
theorem dX2_load_36 : decode cX2_load 36 = .ok (.iinc 4 1, 3) := by decide +kernel
theorem dX2_load_39 : decode cX2_load 39 = .ok (.goto (-27), 3) := by decide +kernel
theorem dX2_load_42 : decode cX2_load 42 = .ok (.return_, 1) := by decide +kernel
set_option maxHeartbeats 8000000 in
set_option maxRecDepth 100000 in
theorem t_X2_load (l : Launch) (E : EE) (z0 : Nat) (G : Nat → Nat) (hGz : ∀ q, G q ≠ 0 → z0 ≤ q) (h0 : Nat) (p0 : Nat) (p1 : Int32) (p2 : Int32) (hG : G h0 = 31) (hG0 : G p0 = 5) : Met l yX2_load [Cond.code yX2_load cX2_load 5 none] ({ frames := 2, cells := 0, slots := 0, locals := 41 } : Room) (va_Pc [.ref h0, .ref p0, .int p1, .int p2] (fun U => (TH E (T1 E) G [] U.heap) ∧ KS E z0 U)) (va_Qv (fun (_ : Unit) => True) (fun _ t => TH E (T1 E) G [] t.heap) (fun q : Nat => G q ∈ ([31, 32] : List Nat))) 0 0 (fun q : Nat => G q ∈ ([31, 32] : List Nat)) := by
  refine Met.ofW (cc := cX2_load) (maxL := 5) (ret := none) (by decide) rfl ?_
  intro p e s m args below meth c s₁ B hml hv
  obtain ⟨rfl, hT, hK⟩ := hv
  have hx := B.exec
  have hb := B.bytes
  have hr := B.returns
  have hts : ∀ w ∈ TS, w.before ([.ref h0, .ref p0, .int p1, .int p2] : List Value).toArray s = true := fun w hw => hK.2.1 w hw _
  have hown : s.vm.findClass RX2 = some m.cls := findClass_of_methodNamed B.named
  have hlocks := B.notSynchronized
  have hS : va_S (fun q : Nat => G q ∈ ([31, 32] : List Nat)) s.heap s.heap [] := va_S.rf
  have hAz : ∀ q, (fun q : Nat => G q ∈ ([31, 32] : List Nat)) q → z0 ≤ q := zL hGz (by decide)
  have hl := lv_entry ([.ref h0, .ref p0, .int p1, .int p2]) (n := 5) (Nat.le_of_ble_eq_true rfl)
  rw [lg_entry_eq]
  generalize (lg_sl ([.ref h0, .ref p0, .int p1, .int p2]) ++ List.replicate (5 - (lg_sl ([.ref h0, .ref p0, .int p1, .int p2])).length) Slot.unset).toArray = ls at hl ⊢
  have hl : lv_has ls 5 [(0, .ref h0), (1, .ref p0), (2, .int p1), (3, .int p2)] := hl
  refine lv_aload_n hx hb dX2_load_0 rfl (lv_at hl 0 rfl) ?_
  refine lv_iload_n hx hb dX2_load_1 rfl (lv_at hl 3 rfl) ?_
  refine lv_iconst (v := 4) hx hb dX2_load_2 (by decide) ?_
  refine va_mmin hx hb (by rw [hml]; exact hl.1.symm) hown (hts _ ml_X2_41) (hts _ st_Math_min) (hts _ in_Math) (hts _ co_Math_min) (Nat.le_of_ble_eq_true rfl) (Nat.le_of_ble_eq_true rfl) (Nat.zero_le _) (Nat.zero_le _) dX2_load_3 ?_
  refine lv_topi (fun x_1 ex_1 => ?_)
  have fx_1 := s_min ex_1; rw [i_4] at fx_1
  obtain ⟨v0_2, v1_2, v2_2, v3_2, v4_2, v5_2, v6_2, v7_2, ha_2, hb0_2, hb3_2, hg7_2⟩ := tr_31 hT hG
  refine rr_put (D := DG E) (ci := 2) (v := .int x_1) (ty := .int) (C := RX2) (T := TX2) (N := 8) hx hb hts iw_X2 tyX2 tyX2_ok nmX2 hown hK.1 ha_2 hS (by show G h0 ∈ ([31, 32] : List Nat); rw [hG]; decide) rfl 3 (by decide) (hts _ fl_X2_25) (fun _ h9 => h9) rfl (by decide +kernel) rfl rfl (Nat.le_of_ble_eq_true rfl) dX2_load_6 (fun H locs hn ho hz hS => ?_)
  have hr_3 : va_at (DG E) vwCl (h0, .inr (2, [.int v0_2, .int v1_2, .int v2_2, .int x_1, .int v4_2, .int v5_2, .int v6_2, .ref v7_2])) H := hn
  have hT : TH E (T1 E) G [] H := hT.set hG (show T1 E G 31 _ from ⟨v0_2, v1_2, v2_2, x_1, v4_2, v5_2, v6_2, v7_2, rfl, (by omega), (by omega), hg7_2⟩) hr_3 ho
  refine lv_iconst (v := 0) hx hb dX2_load_9 (by decide) ?_
  refine lv_istore (lv' := [(4, .int 0), (0, .ref h0), (1, .ref p0), (2, .int p1), (3, .int p2)]) hx hb dX2_load_10 hl (by decide) rfl (fun ls hl => ?_)
  refine lv_iload hx hb dX2_load_12 (lv_at hl 0 rfl) ?_
  refine lv_aload_n hx hb dX2_load_14 rfl (lv_at hl 1 rfl) ?_
  refine va_get (D := DG E) (ci := 2) (v := .int x_1) (C := RX2) (T := TX2) (N := 8) hx hb hts iw_X2 hown hK.1 (va_one hr_3) 0 rfl rfl 3 (by decide) (hts _ fl_X2_25) (fun _ h9 => h9) rfl dX2_load_15 ?_
  refine lv_icmp_ge (tgt := 42) hx hb dX2_load_18 (by decide) (fun c_4 => ?_) (fun c_4 => ?_)
  · simp only [lt_I, le_I, eq_I, i_0, i_1, i_2, i_3, i_4, i_5, i_6, i_7, i_8, i_10, i_12, i_16, i_20, i_23, i_24, i_31, i_32, i_63, i_64, i_m1] at c_4
    exact W.vret hx hb hr (fun t ht hW => ⟨⟨(), rfl, trivial, (by show TH E (T1 E) G [] t.heap; rw [ht]; exact hT)⟩, hS.F ht⟩) hS.2.2 dX2_load_42
  · simp only [lt_I, le_I, eq_I, i_0, i_1, i_2, i_3, i_4, i_5, i_6, i_7, i_8, i_10, i_12, i_16, i_20, i_23, i_24, i_31, i_32, i_63, i_64, i_m1] at c_4
    refine lv_aload_n hx hb dX2_load_21 rfl (lv_at hl 1 rfl) ?_
    refine va_get (D := DG E) (ci := 2) (v := .ref v7_2) (C := RX2) (T := TX2) (N := 8) hx hb hts iw_X2 hown hK.1 (va_one hr_3) 0 rfl rfl 7 (by decide) (hts _ fl_X2_9) (fun _ h9 => h9) rfl dX2_load_22 ?_
    refine lv_iload hx hb dX2_load_25 (lv_at hl 0 rfl) ?_
    refine lv_aload_n hx hb dX2_load_27 rfl (lv_at hl 2 rfl) ?_
    refine lv_iload_n hx hb dX2_load_28 rfl (lv_at hl 3 rfl) ?_
    refine lv_iload hx hb dX2_load_29 (lv_at hl 0 rfl) ?_
    refine lv_iadd hx hb dX2_load_31 ?_
    refine lv_topi (fun x_5 ex_5 => ?_)
    obtain ⟨v0_6, v1_6, v2_6, v3_6, v4_6, ha_6, hg0_6, hg1_6, hg2_6, hb3_6, hb4_6⟩ := tr_5 hT hG0
    refine va_calli (rnV (fun H => TH E (T1 E) G [] H) (As := [.int x_5]) (rest := [.int 0, .ref v7_2]) ⟨hx, hb, hml, hown, hts⟩ (t_X1_at l E z0 G hGz p0 x_5 hG0) (cwV 1 hts (gdV ml_X2_47 im_X1_at se_X1_X1_at in_X1 co_X1_at rfl) rfl rfl rfl (by decide +kernel) ⟨Nat.le_of_ble_eq_true rfl, Nat.le_of_ble_eq_true rfl⟩) hT (fun U hU hW => hK.go hW hS hAz hU) (va_recv hK.1 (va_one ha_6) (ci := 1) (q0 := 0) rfl rfl) rfl rfl hl.1 rfl (lv_room (Nat.le_of_ble_eq_true rfl)) dX2_load_32 ⟨Nat.le_of_ble_eq_true rfl, Nat.le_of_ble_eq_true rfl⟩) hS (fun q _ h => h.elim) (fun q h => h.elim) (fun r_7 _ t H locs ht hvm hwr_7 hB hz hk hS => ?_)
    have hT : TH E (T1 E) G [] H := hT.kept (fun q hq => hk q hq (fun h => h))
    have hr_3 := hr_3.kept (hk _ hr_3.lt (fun h => h))
    have ha_6 := ha_6.kept (hk _ ha_6.lt (fun h => h))
    obtain ⟨f_8, ha_8⟩ := tr_32 hT hg7_2
    refine rr_iast (D := DG E) hx hb hK.1 0 ha_8 hS (by show G v7_2 ∈ ([31, 32] : List Nat); rw [hg7_2]; decide) rfl (show vp_in (0) 4 from vp_in_iff.mpr ⟨by decide, by decide⟩) dX2_load_35 (fun H locs hn ho hz hS => ?_)
    have hT : TH E (T1 E) G [] H := hT.set hg7_2 (show T1 E G 32 _ from ⟨_, rfl⟩) hn ho
    have hr_3 := hr_3.kept (ho _ (ne_G hG hg7_2 (by decide)))
    have ha_6 := ha_6.kept (ho _ (ne_G hG0 hg7_2 (by decide)))
    refine lv_iinc (v := 1) (lv' := [(4, .int 1), (0, .ref h0), (1, .ref p0), (2, .int p1), (3, .int p2)]) hx hb dX2_load_36 hl (k := 0) rfl (by decide) (by decide) rfl (fun ls hl => ?_)
    refine lv_goto (tgt := 12) hx hb dX2_load_39 (by decide) ?_
    refine lv_iload hx hb dX2_load_12 (lv_at hl 0 rfl) ?_
    refine lv_aload_n hx hb dX2_load_14 rfl (lv_at hl 1 rfl) ?_
    refine va_get (D := DG E) (ci := 2) (v := .int x_1) (C := RX2) (T := TX2) (N := 8) hx hb hts iw_X2 hown hK.1 (va_one hr_3) 0 rfl rfl 3 (by decide) (hts _ fl_X2_25) (fun _ h9 => h9) rfl dX2_load_15 ?_
    refine lv_icmp_ge (tgt := 42) hx hb dX2_load_18 (by decide) (fun c_9 => ?_) (fun c_9 => ?_)
    · simp only [lt_I, le_I, eq_I, i_0, i_1, i_2, i_3, i_4, i_5, i_6, i_7, i_8, i_10, i_12, i_16, i_20, i_23, i_24, i_31, i_32, i_63, i_64, i_m1] at c_9
      exact W.vret hx hb hr (fun t ht hW => ⟨⟨(), rfl, trivial, (by show TH E (T1 E) G [] t.heap; rw [ht]; exact hT)⟩, hS.F ht⟩) hS.2.2 dX2_load_42
    · simp only [lt_I, le_I, eq_I, i_0, i_1, i_2, i_3, i_4, i_5, i_6, i_7, i_8, i_10, i_12, i_16, i_20, i_23, i_24, i_31, i_32, i_63, i_64, i_m1] at c_9
      refine lv_aload_n hx hb dX2_load_21 rfl (lv_at hl 1 rfl) ?_
      refine va_get (D := DG E) (ci := 2) (v := .ref v7_2) (C := RX2) (T := TX2) (N := 8) hx hb hts iw_X2 hown hK.1 (va_one hr_3) 0 rfl rfl 7 (by decide) (hts _ fl_X2_9) (fun _ h9 => h9) rfl dX2_load_22 ?_
      refine lv_iload hx hb dX2_load_25 (lv_at hl 0 rfl) ?_
      refine lv_aload_n hx hb dX2_load_27 rfl (lv_at hl 2 rfl) ?_
      refine lv_iload_n hx hb dX2_load_28 rfl (lv_at hl 3 rfl) ?_
      refine lv_iload hx hb dX2_load_29 (lv_at hl 0 rfl) ?_
      refine lv_iadd hx hb dX2_load_31 ?_
      refine lv_topi (fun x_10 ex_10 => ?_)
      refine va_calli (rnV (fun H => TH E (T1 E) G [] H) (As := [.int x_10]) (rest := [.int 1, .ref v7_2]) ⟨hx, hb, hml, hown, hts⟩ (t_X1_at l E z0 G hGz p0 x_10 hG0) (cwV 1 hts (gdV ml_X2_47 im_X1_at se_X1_X1_at in_X1 co_X1_at rfl) rfl rfl rfl (by decide +kernel) ⟨Nat.le_of_ble_eq_true rfl, Nat.le_of_ble_eq_true rfl⟩) hT (fun U hU hW => hK.go hW hS hAz hU) (va_recv hK.1 (va_one ha_6) (ci := 1) (q0 := 0) rfl rfl) rfl rfl hl.1 rfl (lv_room (Nat.le_of_ble_eq_true rfl)) dX2_load_32 ⟨Nat.le_of_ble_eq_true rfl, Nat.le_of_ble_eq_true rfl⟩) hS (fun q _ h => h.elim) (fun q h => h.elim) (fun r_11 _ t H locs ht hvm hwr_11 hB hz hk hS => ?_)
      have hT : TH E (T1 E) G [] H := hT.kept (fun q hq => hk q hq (fun h => h))
      have hr_3 := hr_3.kept (hk _ hr_3.lt (fun h => h))
      have ha_6 := ha_6.kept (hk _ ha_6.lt (fun h => h))
      obtain ⟨f_12, ha_12⟩ := tr_32 hT hg7_2
      refine rr_iast (D := DG E) hx hb hK.1 0 ha_12 hS (by show G v7_2 ∈ ([31, 32] : List Nat); rw [hg7_2]; decide) rfl (show vp_in (1) 4 from vp_in_iff.mpr ⟨by decide, by decide⟩) dX2_load_35 (fun H locs hn ho hz hS => ?_)
      have hT : TH E (T1 E) G [] H := hT.set hg7_2 (show T1 E G 32 _ from ⟨_, rfl⟩) hn ho
      have hr_3 := hr_3.kept (ho _ (ne_G hG hg7_2 (by decide)))
      have ha_6 := ha_6.kept (ho _ (ne_G hG0 hg7_2 (by decide)))
      refine lv_iinc (v := 2) (lv' := [(4, .int 2), (0, .ref h0), (1, .ref p0), (2, .int p1), (3, .int p2)]) hx hb dX2_load_36 hl (k := 0) rfl (by decide) (by decide) rfl (fun ls hl => ?_)
      refine lv_goto (tgt := 12) hx hb dX2_load_39 (by decide) ?_
      refine lv_iload hx hb dX2_load_12 (lv_at hl 0 rfl) ?_
      refine lv_aload_n hx hb dX2_load_14 rfl (lv_at hl 1 rfl) ?_
      refine va_get (D := DG E) (ci := 2) (v := .int x_1) (C := RX2) (T := TX2) (N := 8) hx hb hts iw_X2 hown hK.1 (va_one hr_3) 0 rfl rfl 3 (by decide) (hts _ fl_X2_25) (fun _ h9 => h9) rfl dX2_load_15 ?_
      refine lv_icmp_ge (tgt := 42) hx hb dX2_load_18 (by decide) (fun c_13 => ?_) (fun c_13 => ?_)
      · simp only [lt_I, le_I, eq_I, i_0, i_1, i_2, i_3, i_4, i_5, i_6, i_7, i_8, i_10, i_12, i_16, i_20, i_23, i_24, i_31, i_32, i_63, i_64, i_m1] at c_13
        exact W.vret hx hb hr (fun t ht hW => ⟨⟨(), rfl, trivial, (by show TH E (T1 E) G [] t.heap; rw [ht]; exact hT)⟩, hS.F ht⟩) hS.2.2 dX2_load_42
      · simp only [lt_I, le_I, eq_I, i_0, i_1, i_2, i_3, i_4, i_5, i_6, i_7, i_8, i_10, i_12, i_16, i_20, i_23, i_24, i_31, i_32, i_63, i_64, i_m1] at c_13
        refine lv_aload_n hx hb dX2_load_21 rfl (lv_at hl 1 rfl) ?_
        refine va_get (D := DG E) (ci := 2) (v := .ref v7_2) (C := RX2) (T := TX2) (N := 8) hx hb hts iw_X2 hown hK.1 (va_one hr_3) 0 rfl rfl 7 (by decide) (hts _ fl_X2_9) (fun _ h9 => h9) rfl dX2_load_22 ?_
        refine lv_iload hx hb dX2_load_25 (lv_at hl 0 rfl) ?_
        refine lv_aload_n hx hb dX2_load_27 rfl (lv_at hl 2 rfl) ?_
        refine lv_iload_n hx hb dX2_load_28 rfl (lv_at hl 3 rfl) ?_
        refine lv_iload hx hb dX2_load_29 (lv_at hl 0 rfl) ?_
        refine lv_iadd hx hb dX2_load_31 ?_
        refine lv_topi (fun x_14 ex_14 => ?_)
        refine va_calli (rnV (fun H => TH E (T1 E) G [] H) (As := [.int x_14]) (rest := [.int 2, .ref v7_2]) ⟨hx, hb, hml, hown, hts⟩ (t_X1_at l E z0 G hGz p0 x_14 hG0) (cwV 1 hts (gdV ml_X2_47 im_X1_at se_X1_X1_at in_X1 co_X1_at rfl) rfl rfl rfl (by decide +kernel) ⟨Nat.le_of_ble_eq_true rfl, Nat.le_of_ble_eq_true rfl⟩) hT (fun U hU hW => hK.go hW hS hAz hU) (va_recv hK.1 (va_one ha_6) (ci := 1) (q0 := 0) rfl rfl) rfl rfl hl.1 rfl (lv_room (Nat.le_of_ble_eq_true rfl)) dX2_load_32 ⟨Nat.le_of_ble_eq_true rfl, Nat.le_of_ble_eq_true rfl⟩) hS (fun q _ h => h.elim) (fun q h => h.elim) (fun r_15 _ t H locs ht hvm hwr_15 hB hz hk hS => ?_)
        have hT : TH E (T1 E) G [] H := hT.kept (fun q hq => hk q hq (fun h => h))
        have hr_3 := hr_3.kept (hk _ hr_3.lt (fun h => h))
        have ha_6 := ha_6.kept (hk _ ha_6.lt (fun h => h))
        obtain ⟨f_16, ha_16⟩ := tr_32 hT hg7_2
        refine rr_iast (D := DG E) hx hb hK.1 0 ha_16 hS (by show G v7_2 ∈ ([31, 32] : List Nat); rw [hg7_2]; decide) rfl (show vp_in (2) 4 from vp_in_iff.mpr ⟨by decide, by decide⟩) dX2_load_35 (fun H locs hn ho hz hS => ?_)
        have hT : TH E (T1 E) G [] H := hT.set hg7_2 (show T1 E G 32 _ from ⟨_, rfl⟩) hn ho
        have hr_3 := hr_3.kept (ho _ (ne_G hG hg7_2 (by decide)))
        have ha_6 := ha_6.kept (ho _ (ne_G hG0 hg7_2 (by decide)))
        refine lv_iinc (v := 3) (lv' := [(4, .int 3), (0, .ref h0), (1, .ref p0), (2, .int p1), (3, .int p2)]) hx hb dX2_load_36 hl (k := 0) rfl (by decide) (by decide) rfl (fun ls hl => ?_)
        refine lv_goto (tgt := 12) hx hb dX2_load_39 (by decide) ?_
        refine lv_iload hx hb dX2_load_12 (lv_at hl 0 rfl) ?_
        refine lv_aload_n hx hb dX2_load_14 rfl (lv_at hl 1 rfl) ?_
        refine va_get (D := DG E) (ci := 2) (v := .int x_1) (C := RX2) (T := TX2) (N := 8) hx hb hts iw_X2 hown hK.1 (va_one hr_3) 0 rfl rfl 3 (by decide) (hts _ fl_X2_25) (fun _ h9 => h9) rfl dX2_load_15 ?_
        refine lv_icmp_ge (tgt := 42) hx hb dX2_load_18 (by decide) (fun c_17 => ?_) (fun c_17 => ?_)
        · simp only [lt_I, le_I, eq_I, i_0, i_1, i_2, i_3, i_4, i_5, i_6, i_7, i_8, i_10, i_12, i_16, i_20, i_23, i_24, i_31, i_32, i_63, i_64, i_m1] at c_17
          exact W.vret hx hb hr (fun t ht hW => ⟨⟨(), rfl, trivial, (by show TH E (T1 E) G [] t.heap; rw [ht]; exact hT)⟩, hS.F ht⟩) hS.2.2 dX2_load_42
        · simp only [lt_I, le_I, eq_I, i_0, i_1, i_2, i_3, i_4, i_5, i_6, i_7, i_8, i_10, i_12, i_16, i_20, i_23, i_24, i_31, i_32, i_63, i_64, i_m1] at c_17
          refine lv_aload_n hx hb dX2_load_21 rfl (lv_at hl 1 rfl) ?_
          refine va_get (D := DG E) (ci := 2) (v := .ref v7_2) (C := RX2) (T := TX2) (N := 8) hx hb hts iw_X2 hown hK.1 (va_one hr_3) 0 rfl rfl 7 (by decide) (hts _ fl_X2_9) (fun _ h9 => h9) rfl dX2_load_22 ?_
          refine lv_iload hx hb dX2_load_25 (lv_at hl 0 rfl) ?_
          refine lv_aload_n hx hb dX2_load_27 rfl (lv_at hl 2 rfl) ?_
          refine lv_iload_n hx hb dX2_load_28 rfl (lv_at hl 3 rfl) ?_
          refine lv_iload hx hb dX2_load_29 (lv_at hl 0 rfl) ?_
          refine lv_iadd hx hb dX2_load_31 ?_
          refine lv_topi (fun x_18 ex_18 => ?_)
          refine va_calli (rnV (fun H => TH E (T1 E) G [] H) (As := [.int x_18]) (rest := [.int 3, .ref v7_2]) ⟨hx, hb, hml, hown, hts⟩ (t_X1_at l E z0 G hGz p0 x_18 hG0) (cwV 1 hts (gdV ml_X2_47 im_X1_at se_X1_X1_at in_X1 co_X1_at rfl) rfl rfl rfl (by decide +kernel) ⟨Nat.le_of_ble_eq_true rfl, Nat.le_of_ble_eq_true rfl⟩) hT (fun U hU hW => hK.go hW hS hAz hU) (va_recv hK.1 (va_one ha_6) (ci := 1) (q0 := 0) rfl rfl) rfl rfl hl.1 rfl (lv_room (Nat.le_of_ble_eq_true rfl)) dX2_load_32 ⟨Nat.le_of_ble_eq_true rfl, Nat.le_of_ble_eq_true rfl⟩) hS (fun q _ h => h.elim) (fun q h => h.elim) (fun r_19 _ t H locs ht hvm hwr_19 hB hz hk hS => ?_)
          have hT : TH E (T1 E) G [] H := hT.kept (fun q hq => hk q hq (fun h => h))
          have hr_3 := hr_3.kept (hk _ hr_3.lt (fun h => h))
          have ha_6 := ha_6.kept (hk _ ha_6.lt (fun h => h))
          obtain ⟨f_20, ha_20⟩ := tr_32 hT hg7_2
          refine rr_iast (D := DG E) hx hb hK.1 0 ha_20 hS (by show G v7_2 ∈ ([31, 32] : List Nat); rw [hg7_2]; decide) rfl (show vp_in (3) 4 from vp_in_iff.mpr ⟨by decide, by decide⟩) dX2_load_35 (fun H locs hn ho hz hS => ?_)
          have hT : TH E (T1 E) G [] H := hT.set hg7_2 (show T1 E G 32 _ from ⟨_, rfl⟩) hn ho
          have hr_3 := hr_3.kept (ho _ (ne_G hG hg7_2 (by decide)))
          have ha_6 := ha_6.kept (ho _ (ne_G hG0 hg7_2 (by decide)))
          refine lv_iinc (v := 4) (lv' := [(4, .int 4), (0, .ref h0), (1, .ref p0), (2, .int p1), (3, .int p2)]) hx hb dX2_load_36 hl (k := 0) rfl (by decide) (by decide) rfl (fun ls hl => ?_)
          refine lv_goto (tgt := 12) hx hb dX2_load_39 (by decide) ?_
          refine lv_iload hx hb dX2_load_12 (lv_at hl 0 rfl) ?_
          refine lv_aload_n hx hb dX2_load_14 rfl (lv_at hl 1 rfl) ?_
          refine va_get (D := DG E) (ci := 2) (v := .int x_1) (C := RX2) (T := TX2) (N := 8) hx hb hts iw_X2 hown hK.1 (va_one hr_3) 0 rfl rfl 3 (by decide) (hts _ fl_X2_25) (fun _ h9 => h9) rfl dX2_load_15 ?_
          refine lv_icmp_ge (tgt := 42) hx hb dX2_load_18 (by decide) (fun c_21 => ?_) (fun c_21 => by exfalso; simp only [lt_I, le_I, eq_I, i_0, i_1, i_2, i_3, i_4, i_5, i_6, i_7, i_8, i_10, i_12, i_16, i_20, i_23, i_24, i_31, i_32, i_63, i_64, i_m1] at c_21; omega)
          simp only [lt_I, le_I, eq_I, i_0, i_1, i_2, i_3, i_4, i_5, i_6, i_7, i_8, i_10, i_12, i_16, i_20, i_23, i_24, i_31, i_32, i_63, i_64, i_m1] at c_21
          exact W.vret hx hb hr (fun t ht hW => ⟨⟨(), rfl, trivial, (by show TH E (T1 E) G [] t.heap; rw [ht]; exact hT)⟩, hS.F ht⟩) hS.2.2 dX2_load_42
theorem dX2_unload_0 : decode cX2_unload 0 = .ok (.iconst 0, 1) := by decide +kernel
theorem dX2_unload_1 : decode cX2_unload 1 = .ok (.istore 4, 2) := by decide +kernel
theorem dX2_unload_3 : decode cX2_unload 3 = .ok (.iload 4, 2) := by decide +kernel
theorem dX2_unload_5 : decode cX2_unload 5 = .ok (.aload_n 0, 1) := by decide +kernel
theorem dX2_unload_6 : decode cX2_unload 6 = .ok (.getfield 25, 3) := by decide +kernel
theorem dX2_unload_9 : decode cX2_unload 9 = .ok (.if_icmp .ge 36, 3) := by decide +kernel
theorem dX2_unload_12 : decode cX2_unload 12 = .ok (.iload 4, 2) := by decide +kernel
theorem dX2_unload_14 : decode cX2_unload 14 = .ok (.iload_n 3, 1) := by decide +kernel
theorem dX2_unload_15 : decode cX2_unload 15 = .ok (.if_icmp .ge 30, 3) := by decide +kernel
theorem dX2_unload_18 : decode cX2_unload 18 = .ok (.iload 4, 2) := by decide +kernel
theorem dX2_unload_20 : decode cX2_unload 20 = .ok (.iconst 4, 1) := by decide +kernel
theorem dX2_unload_21 : decode cX2_unload 21 = .ok (.if_icmp .ge 24, 3) := by decide +kernel
theorem dX2_unload_24 : decode cX2_unload 24 = .ok (.aload_n 1, 1) := by decide +kernel
theorem dX2_unload_25 : decode cX2_unload 25 = .ok (.iload_n 2, 1) := by decide +kernel
theorem dX2_unload_26 : decode cX2_unload 26 = .ok (.iload 4, 2) := by decide +kernel
theorem dX2_unload_28 : decode cX2_unload 28 = .ok (.iadd, 1) := by decide +kernel
theorem dX2_unload_29 : decode cX2_unload 29 = .ok (.aload_n 0, 1) := by decide +kernel
theorem dX2_unload_30 : decode cX2_unload 30 = .ok (.getfield 9, 3) := by decide +kernel
theorem dX2_unload_33 : decode cX2_unload 33 = .ok (.iload 4, 2) := by decide +kernel
theorem dX2_unload_35 : decode cX2_unload 35 = .ok (.iaload, 1) := by decide +kernel
theorem dX2_unload_36 : decode cX2_unload 36 = .ok (.invokevirtual 53, 3) := by decide +kernel
theorem dX2_unload_39 : decode cX2_unload 39 = .ok (.iinc 4 1, 3) := by decide +kernel
theorem dX2_unload_42 : decode cX2_unload 42 = .ok (.goto (-39), 3) := by decide +kernel
theorem dX2_unload_45 : decode cX2_unload 45 = .ok (.return_, 1) := by decide +kernel
set_option maxHeartbeats 8000000 in
set_option maxRecDepth 100000 in
theorem t_X2_unload (l : Launch) (E : EE) (z0 : Nat) (G : Nat → Nat) (hGz : ∀ q, G q ≠ 0 → z0 ≤ q) (h0 : Nat) (p0 : Nat) (p1 : Int32) (p2 : Int32) (hG : G h0 = 31) (hG0 : G p0 = 5) : Met l yX2_unload [Cond.code yX2_unload cX2_unload 5 none] ({ frames := 2, cells := 0, slots := 0, locals := 42 } : Room) (va_Pc [.ref h0, .ref p0, .int p1, .int p2] (fun U => (TH E (T1 E) G [] U.heap) ∧ KS E z0 U)) (va_Qv (fun (_ : Unit) => True) (fun _ t => TH E (T1 E) G [] t.heap) (fun q : Nat => G q ∈ ([14] : List Nat))) 0 0 (fun q : Nat => G q ∈ ([14] : List Nat)) := by
  refine Met.ofW (cc := cX2_unload) (maxL := 5) (ret := none) (by decide) rfl ?_
  intro p e s m args below meth c s₁ B hml hv
  obtain ⟨rfl, hT, hK⟩ := hv
  have hx := B.exec
  have hb := B.bytes
  have hr := B.returns
  have hts : ∀ w ∈ TS, w.before ([.ref h0, .ref p0, .int p1, .int p2] : List Value).toArray s = true := fun w hw => hK.2.1 w hw _
  have hown : s.vm.findClass RX2 = some m.cls := findClass_of_methodNamed B.named
  have hlocks := B.notSynchronized
  have hS : va_S (fun q : Nat => G q ∈ ([14] : List Nat)) s.heap s.heap [] := va_S.rf
  have hAz : ∀ q, (fun q : Nat => G q ∈ ([14] : List Nat)) q → z0 ≤ q := zL hGz (by decide)
  have hl := lv_entry ([.ref h0, .ref p0, .int p1, .int p2]) (n := 5) (Nat.le_of_ble_eq_true rfl)
  rw [lg_entry_eq]
  generalize (lg_sl ([.ref h0, .ref p0, .int p1, .int p2]) ++ List.replicate (5 - (lg_sl ([.ref h0, .ref p0, .int p1, .int p2])).length) Slot.unset).toArray = ls at hl ⊢
  have hl : lv_has ls 5 [(0, .ref h0), (1, .ref p0), (2, .int p1), (3, .int p2)] := hl
  refine lv_iconst (v := 0) hx hb dX2_unload_0 (by decide) ?_
  refine lv_istore (lv' := [(4, .int 0), (0, .ref h0), (1, .ref p0), (2, .int p1), (3, .int p2)]) hx hb dX2_unload_1 hl (by decide) rfl (fun ls hl => ?_)
  refine lv_iload hx hb dX2_unload_3 (lv_at hl 0 rfl) ?_
  refine lv_aload_n hx hb dX2_unload_5 rfl (lv_at hl 1 rfl) ?_
  obtain ⟨v0_1, v1_1, v2_1, v3_1, v4_1, v5_1, v6_1, v7_1, ha_1, hb0_1, hb3_1, hg7_1⟩ := tr_31 hT hG
  refine va_get (D := DG E) (ci := 2) (v := .int v3_1) (C := RX2) (T := TX2) (N := 8) hx hb hts iw_X2 hown hK.1 (va_one ha_1) 0 rfl rfl 3 (by decide) (hts _ fl_X2_25) (fun _ h9 => h9) rfl dX2_unload_6 ?_
  refine lv_icmp_ge (tgt := 45) hx hb dX2_unload_9 (by decide) (fun c_2 => ?_) (fun c_2 => ?_)
  · simp only [lt_I, le_I, eq_I, i_0, i_1, i_2, i_3, i_4, i_5, i_6, i_7, i_8, i_10, i_12, i_16, i_20, i_23, i_24, i_31, i_32, i_63, i_64, i_m1] at c_2
    exact W.vret hx hb hr (fun t ht hW => ⟨⟨(), rfl, trivial, (by show TH E (T1 E) G [] t.heap; rw [ht]; exact hT)⟩, hS.F ht⟩) hS.2.2 dX2_unload_45
  · simp only [lt_I, le_I, eq_I, i_0, i_1, i_2, i_3, i_4, i_5, i_6, i_7, i_8, i_10, i_12, i_16, i_20, i_23, i_24, i_31, i_32, i_63, i_64, i_m1] at c_2
    refine lv_iload hx hb dX2_unload_12 (lv_at hl 0 rfl) ?_
    refine lv_iload_n hx hb dX2_unload_14 rfl (lv_at hl 4 rfl) ?_
    refine lv_icmp_ge (tgt := 45) hx hb dX2_unload_15 (by decide) (fun c_3 => ?_) (fun c_3 => ?_)
    · simp only [lt_I, le_I, eq_I, i_0, i_1, i_2, i_3, i_4, i_5, i_6, i_7, i_8, i_10, i_12, i_16, i_20, i_23, i_24, i_31, i_32, i_63, i_64, i_m1] at c_3
      exact W.vret hx hb hr (fun t ht hW => ⟨⟨(), rfl, trivial, (by show TH E (T1 E) G [] t.heap; rw [ht]; exact hT)⟩, hS.F ht⟩) hS.2.2 dX2_unload_45
    · simp only [lt_I, le_I, eq_I, i_0, i_1, i_2, i_3, i_4, i_5, i_6, i_7, i_8, i_10, i_12, i_16, i_20, i_23, i_24, i_31, i_32, i_63, i_64, i_m1] at c_3
      refine lv_iload hx hb dX2_unload_18 (lv_at hl 0 rfl) ?_
      refine lv_iconst (v := 4) hx hb dX2_unload_20 (by decide) ?_
      refine lv_icmp_ge (tgt := 45) hx hb dX2_unload_21 (by decide) (fun c_4 => absurd c_4 (by decide)) (fun c_4 => ?_)
      refine lv_aload_n hx hb dX2_unload_24 rfl (lv_at hl 2 rfl) ?_
      refine lv_iload_n hx hb dX2_unload_25 rfl (lv_at hl 3 rfl) ?_
      refine lv_iload hx hb dX2_unload_26 (lv_at hl 0 rfl) ?_
      refine lv_iadd hx hb dX2_unload_28 ?_
      refine lv_topi (fun x_5 ex_5 => ?_)
      refine lv_aload_n hx hb dX2_unload_29 rfl (lv_at hl 1 rfl) ?_
      refine va_get (D := DG E) (ci := 2) (v := .ref v7_1) (C := RX2) (T := TX2) (N := 8) hx hb hts iw_X2 hown hK.1 (va_one ha_1) 0 rfl rfl 7 (by decide) (hts _ fl_X2_9) (fun _ h9 => h9) rfl dX2_unload_30 ?_
      refine lv_iload hx hb dX2_unload_33 (lv_at hl 0 rfl) ?_
      obtain ⟨f_6, ha_6⟩ := tr_32 hT hg7_1
      refine va_iald (D := DG E) hx hb hK.1 (va_one ha_6) 0 0 rfl rfl (show vp_in (0) 4 from vp_in_iff.mpr ⟨by decide, by decide⟩) dX2_unload_35 ?_
      refine W.eq (g2 := F0 m 36 ls [.int (f_6 (0 : Int32).toNatClampNeg), .int x_5, .ref p0]) (by rfl) ?_
      refine lv_topi (fun x_7 ex_7 => ?_)
      obtain ⟨v0_8, v1_8, v2_8, v3_8, v4_8, ha_8, hg0_8, hg1_8, hg2_8, hb3_8, hb4_8⟩ := tr_5 hT hG0
      refine va_callv (rnV (fun H => TH E (T1 E) G [] H) (As := [.int x_5, .int x_7]) (rest := []) ⟨hx, hb, hml, hown, hts⟩ (t_X1_put l E z0 G hGz p0 x_5 x_7 hG0) (cwV 2 hts (gdV ml_X2_53 im_X1_put se_X1_X1_put in_X1 co_X1_put rfl) rfl rfl rfl (by decide +kernel) ⟨Nat.le_of_ble_eq_true rfl, Nat.le_of_ble_eq_true rfl⟩) hT (fun U hU hW => hK.go hW hS hAz hU) (va_recv hK.1 (va_one ha_8) (ci := 1) (q0 := 0) rfl rfl) rfl rfl hl.1 rfl (lv_room (Nat.le_of_ble_eq_true rfl)) dX2_unload_36 ⟨Nat.le_of_ble_eq_true rfl, Nat.le_of_ble_eq_true rfl⟩) hS (fun q _ h => mL (L' := [14]) (L := [14]) (by decide) h) (fun q h => mL (L' := [14]) (L := [14]) (by decide) h) (fun _ t H locs ht hvm hwr_9 hB hz hk hS => ?_)
      have hT : TH E (T1 E) G [] H := by rw [ht] at hB; exact hB
      have ha_1 := ha_1.kept (hk _ ha_1.lt (nL hG (by decide)))
      have ha_6 := ha_6.kept (hk _ ha_6.lt (nL hg7_1 (by decide)))
      have ha_8 := ha_8.kept (hk _ ha_8.lt (nL hG0 (by decide)))
      refine lv_iinc (v := 1) (lv' := [(4, .int 1), (0, .ref h0), (1, .ref p0), (2, .int p1), (3, .int p2)]) hx hb dX2_unload_39 hl (k := 0) rfl (by decide) (by decide) rfl (fun ls hl => ?_)
      refine lv_goto (tgt := 3) hx hb dX2_unload_42 (by decide) ?_
      refine lv_iload hx hb dX2_unload_3 (lv_at hl 0 rfl) ?_
      refine lv_aload_n hx hb dX2_unload_5 rfl (lv_at hl 1 rfl) ?_
      refine va_get (D := DG E) (ci := 2) (v := .int v3_1) (C := RX2) (T := TX2) (N := 8) hx hb hts iw_X2 hown hK.1 (va_one ha_1) 0 rfl rfl 3 (by decide) (hts _ fl_X2_25) (fun _ h9 => h9) rfl dX2_unload_6 ?_
      refine lv_icmp_ge (tgt := 45) hx hb dX2_unload_9 (by decide) (fun c_10 => ?_) (fun c_10 => ?_)
      · simp only [lt_I, le_I, eq_I, i_0, i_1, i_2, i_3, i_4, i_5, i_6, i_7, i_8, i_10, i_12, i_16, i_20, i_23, i_24, i_31, i_32, i_63, i_64, i_m1] at c_10
        exact W.vret hx hb hr (fun t ht hW => ⟨⟨(), rfl, trivial, (by show TH E (T1 E) G [] t.heap; rw [ht]; exact hT)⟩, hS.F ht⟩) hS.2.2 dX2_unload_45
      · simp only [lt_I, le_I, eq_I, i_0, i_1, i_2, i_3, i_4, i_5, i_6, i_7, i_8, i_10, i_12, i_16, i_20, i_23, i_24, i_31, i_32, i_63, i_64, i_m1] at c_10
        refine lv_iload hx hb dX2_unload_12 (lv_at hl 0 rfl) ?_
        refine lv_iload_n hx hb dX2_unload_14 rfl (lv_at hl 4 rfl) ?_
        refine lv_icmp_ge (tgt := 45) hx hb dX2_unload_15 (by decide) (fun c_11 => ?_) (fun c_11 => ?_)
        · simp only [lt_I, le_I, eq_I, i_0, i_1, i_2, i_3, i_4, i_5, i_6, i_7, i_8, i_10, i_12, i_16, i_20, i_23, i_24, i_31, i_32, i_63, i_64, i_m1] at c_11
          exact W.vret hx hb hr (fun t ht hW => ⟨⟨(), rfl, trivial, (by show TH E (T1 E) G [] t.heap; rw [ht]; exact hT)⟩, hS.F ht⟩) hS.2.2 dX2_unload_45
        · simp only [lt_I, le_I, eq_I, i_0, i_1, i_2, i_3, i_4, i_5, i_6, i_7, i_8, i_10, i_12, i_16, i_20, i_23, i_24, i_31, i_32, i_63, i_64, i_m1] at c_11
          refine lv_iload hx hb dX2_unload_18 (lv_at hl 0 rfl) ?_
          refine lv_iconst (v := 4) hx hb dX2_unload_20 (by decide) ?_
          refine lv_icmp_ge (tgt := 45) hx hb dX2_unload_21 (by decide) (fun c_12 => absurd c_12 (by decide)) (fun c_12 => ?_)
          refine lv_aload_n hx hb dX2_unload_24 rfl (lv_at hl 2 rfl) ?_
          refine lv_iload_n hx hb dX2_unload_25 rfl (lv_at hl 3 rfl) ?_
          refine lv_iload hx hb dX2_unload_26 (lv_at hl 0 rfl) ?_
          refine lv_iadd hx hb dX2_unload_28 ?_
          refine lv_topi (fun x_13 ex_13 => ?_)
          refine lv_aload_n hx hb dX2_unload_29 rfl (lv_at hl 1 rfl) ?_
          refine va_get (D := DG E) (ci := 2) (v := .ref v7_1) (C := RX2) (T := TX2) (N := 8) hx hb hts iw_X2 hown hK.1 (va_one ha_1) 0 rfl rfl 7 (by decide) (hts _ fl_X2_9) (fun _ h9 => h9) rfl dX2_unload_30 ?_
          refine lv_iload hx hb dX2_unload_33 (lv_at hl 0 rfl) ?_
          refine va_iald (D := DG E) hx hb hK.1 (va_one ha_6) 0 0 rfl rfl (show vp_in (1) 4 from vp_in_iff.mpr ⟨by decide, by decide⟩) dX2_unload_35 ?_
          refine W.eq (g2 := F0 m 36 ls [.int (f_6 (1 : Int32).toNatClampNeg), .int x_13, .ref p0]) (by rfl) ?_
          refine lv_topi (fun x_14 ex_14 => ?_)
          refine va_callv (rnV (fun H => TH E (T1 E) G [] H) (As := [.int x_13, .int x_14]) (rest := []) ⟨hx, hb, hml, hown, hts⟩ (t_X1_put l E z0 G hGz p0 x_13 x_14 hG0) (cwV 2 hts (gdV ml_X2_53 im_X1_put se_X1_X1_put in_X1 co_X1_put rfl) rfl rfl rfl (by decide +kernel) ⟨Nat.le_of_ble_eq_true rfl, Nat.le_of_ble_eq_true rfl⟩) hT (fun U hU hW => hK.go hW hS hAz hU) (va_recv hK.1 (va_one ha_8) (ci := 1) (q0 := 0) rfl rfl) rfl rfl hl.1 rfl (lv_room (Nat.le_of_ble_eq_true rfl)) dX2_unload_36 ⟨Nat.le_of_ble_eq_true rfl, Nat.le_of_ble_eq_true rfl⟩) hS (fun q _ h => mL (L' := [14]) (L := [14]) (by decide) h) (fun q h => mL (L' := [14]) (L := [14]) (by decide) h) (fun _ t H locs ht hvm hwr_15 hB hz hk hS => ?_)
          have hT : TH E (T1 E) G [] H := by rw [ht] at hB; exact hB
          have ha_1 := ha_1.kept (hk _ ha_1.lt (nL hG (by decide)))
          have ha_6 := ha_6.kept (hk _ ha_6.lt (nL hg7_1 (by decide)))
          have ha_8 := ha_8.kept (hk _ ha_8.lt (nL hG0 (by decide)))
          refine lv_iinc (v := 2) (lv' := [(4, .int 2), (0, .ref h0), (1, .ref p0), (2, .int p1), (3, .int p2)]) hx hb dX2_unload_39 hl (k := 0) rfl (by decide) (by decide) rfl (fun ls hl => ?_)
          refine lv_goto (tgt := 3) hx hb dX2_unload_42 (by decide) ?_
          refine lv_iload hx hb dX2_unload_3 (lv_at hl 0 rfl) ?_
          refine lv_aload_n hx hb dX2_unload_5 rfl (lv_at hl 1 rfl) ?_
          refine va_get (D := DG E) (ci := 2) (v := .int v3_1) (C := RX2) (T := TX2) (N := 8) hx hb hts iw_X2 hown hK.1 (va_one ha_1) 0 rfl rfl 3 (by decide) (hts _ fl_X2_25) (fun _ h9 => h9) rfl dX2_unload_6 ?_
          refine lv_icmp_ge (tgt := 45) hx hb dX2_unload_9 (by decide) (fun c_16 => ?_) (fun c_16 => ?_)
          · simp only [lt_I, le_I, eq_I, i_0, i_1, i_2, i_3, i_4, i_5, i_6, i_7, i_8, i_10, i_12, i_16, i_20, i_23, i_24, i_31, i_32, i_63, i_64, i_m1] at c_16
            exact W.vret hx hb hr (fun t ht hW => ⟨⟨(), rfl, trivial, (by show TH E (T1 E) G [] t.heap; rw [ht]; exact hT)⟩, hS.F ht⟩) hS.2.2 dX2_unload_45
          · simp only [lt_I, le_I, eq_I, i_0, i_1, i_2, i_3, i_4, i_5, i_6, i_7, i_8, i_10, i_12, i_16, i_20, i_23, i_24, i_31, i_32, i_63, i_64, i_m1] at c_16
            refine lv_iload hx hb dX2_unload_12 (lv_at hl 0 rfl) ?_
            refine lv_iload_n hx hb dX2_unload_14 rfl (lv_at hl 4 rfl) ?_
            refine lv_icmp_ge (tgt := 45) hx hb dX2_unload_15 (by decide) (fun c_17 => ?_) (fun c_17 => ?_)
            · simp only [lt_I, le_I, eq_I, i_0, i_1, i_2, i_3, i_4, i_5, i_6, i_7, i_8, i_10, i_12, i_16, i_20, i_23, i_24, i_31, i_32, i_63, i_64, i_m1] at c_17
              exact W.vret hx hb hr (fun t ht hW => ⟨⟨(), rfl, trivial, (by show TH E (T1 E) G [] t.heap; rw [ht]; exact hT)⟩, hS.F ht⟩) hS.2.2 dX2_unload_45
            · simp only [lt_I, le_I, eq_I, i_0, i_1, i_2, i_3, i_4, i_5, i_6, i_7, i_8, i_10, i_12, i_16, i_20, i_23, i_24, i_31, i_32, i_63, i_64, i_m1] at c_17
              refine lv_iload hx hb dX2_unload_18 (lv_at hl 0 rfl) ?_
              refine lv_iconst (v := 4) hx hb dX2_unload_20 (by decide) ?_
              refine lv_icmp_ge (tgt := 45) hx hb dX2_unload_21 (by decide) (fun c_18 => absurd c_18 (by decide)) (fun c_18 => ?_)
              refine lv_aload_n hx hb dX2_unload_24 rfl (lv_at hl 2 rfl) ?_
              refine lv_iload_n hx hb dX2_unload_25 rfl (lv_at hl 3 rfl) ?_
              refine lv_iload hx hb dX2_unload_26 (lv_at hl 0 rfl) ?_
              refine lv_iadd hx hb dX2_unload_28 ?_
              refine lv_topi (fun x_19 ex_19 => ?_)
              refine lv_aload_n hx hb dX2_unload_29 rfl (lv_at hl 1 rfl) ?_
              refine va_get (D := DG E) (ci := 2) (v := .ref v7_1) (C := RX2) (T := TX2) (N := 8) hx hb hts iw_X2 hown hK.1 (va_one ha_1) 0 rfl rfl 7 (by decide) (hts _ fl_X2_9) (fun _ h9 => h9) rfl dX2_unload_30 ?_
              refine lv_iload hx hb dX2_unload_33 (lv_at hl 0 rfl) ?_
              refine va_iald (D := DG E) hx hb hK.1 (va_one ha_6) 0 0 rfl rfl (show vp_in (2) 4 from vp_in_iff.mpr ⟨by decide, by decide⟩) dX2_unload_35 ?_
              refine W.eq (g2 := F0 m 36 ls [.int (f_6 (2 : Int32).toNatClampNeg), .int x_19, .ref p0]) (by rfl) ?_
              refine lv_topi (fun x_20 ex_20 => ?_)
              refine va_callv (rnV (fun H => TH E (T1 E) G [] H) (As := [.int x_19, .int x_20]) (rest := []) ⟨hx, hb, hml, hown, hts⟩ (t_X1_put l E z0 G hGz p0 x_19 x_20 hG0) (cwV 2 hts (gdV ml_X2_53 im_X1_put se_X1_X1_put in_X1 co_X1_put rfl) rfl rfl rfl (by decide +kernel) ⟨Nat.le_of_ble_eq_true rfl, Nat.le_of_ble_eq_true rfl⟩) hT (fun U hU hW => hK.go hW hS hAz hU) (va_recv hK.1 (va_one ha_8) (ci := 1) (q0 := 0) rfl rfl) rfl rfl hl.1 rfl (lv_room (Nat.le_of_ble_eq_true rfl)) dX2_unload_36 ⟨Nat.le_of_ble_eq_true rfl, Nat.le_of_ble_eq_true rfl⟩) hS (fun q _ h => mL (L' := [14]) (L := [14]) (by decide) h) (fun q h => mL (L' := [14]) (L := [14]) (by decide) h) (fun _ t H locs ht hvm hwr_21 hB hz hk hS => ?_)
              have hT : TH E (T1 E) G [] H := by rw [ht] at hB; exact hB
              have ha_1 := ha_1.kept (hk _ ha_1.lt (nL hG (by decide)))
              have ha_6 := ha_6.kept (hk _ ha_6.lt (nL hg7_1 (by decide)))
              have ha_8 := ha_8.kept (hk _ ha_8.lt (nL hG0 (by decide)))
              refine lv_iinc (v := 3) (lv' := [(4, .int 3), (0, .ref h0), (1, .ref p0), (2, .int p1), (3, .int p2)]) hx hb dX2_unload_39 hl (k := 0) rfl (by decide) (by decide) rfl (fun ls hl => ?_)
              refine lv_goto (tgt := 3) hx hb dX2_unload_42 (by decide) ?_
              refine lv_iload hx hb dX2_unload_3 (lv_at hl 0 rfl) ?_
              refine lv_aload_n hx hb dX2_unload_5 rfl (lv_at hl 1 rfl) ?_
              refine va_get (D := DG E) (ci := 2) (v := .int v3_1) (C := RX2) (T := TX2) (N := 8) hx hb hts iw_X2 hown hK.1 (va_one ha_1) 0 rfl rfl 3 (by decide) (hts _ fl_X2_25) (fun _ h9 => h9) rfl dX2_unload_6 ?_
              refine lv_icmp_ge (tgt := 45) hx hb dX2_unload_9 (by decide) (fun c_22 => ?_) (fun c_22 => ?_)
              · simp only [lt_I, le_I, eq_I, i_0, i_1, i_2, i_3, i_4, i_5, i_6, i_7, i_8, i_10, i_12, i_16, i_20, i_23, i_24, i_31, i_32, i_63, i_64, i_m1] at c_22
                exact W.vret hx hb hr (fun t ht hW => ⟨⟨(), rfl, trivial, (by show TH E (T1 E) G [] t.heap; rw [ht]; exact hT)⟩, hS.F ht⟩) hS.2.2 dX2_unload_45
              · simp only [lt_I, le_I, eq_I, i_0, i_1, i_2, i_3, i_4, i_5, i_6, i_7, i_8, i_10, i_12, i_16, i_20, i_23, i_24, i_31, i_32, i_63, i_64, i_m1] at c_22
                refine lv_iload hx hb dX2_unload_12 (lv_at hl 0 rfl) ?_
                refine lv_iload_n hx hb dX2_unload_14 rfl (lv_at hl 4 rfl) ?_
                refine lv_icmp_ge (tgt := 45) hx hb dX2_unload_15 (by decide) (fun c_23 => ?_) (fun c_23 => ?_)
                · simp only [lt_I, le_I, eq_I, i_0, i_1, i_2, i_3, i_4, i_5, i_6, i_7, i_8, i_10, i_12, i_16, i_20, i_23, i_24, i_31, i_32, i_63, i_64, i_m1] at c_23
                  exact W.vret hx hb hr (fun t ht hW => ⟨⟨(), rfl, trivial, (by show TH E (T1 E) G [] t.heap; rw [ht]; exact hT)⟩, hS.F ht⟩) hS.2.2 dX2_unload_45
                · simp only [lt_I, le_I, eq_I, i_0, i_1, i_2, i_3, i_4, i_5, i_6, i_7, i_8, i_10, i_12, i_16, i_20, i_23, i_24, i_31, i_32, i_63, i_64, i_m1] at c_23
                  refine lv_iload hx hb dX2_unload_18 (lv_at hl 0 rfl) ?_
                  refine lv_iconst (v := 4) hx hb dX2_unload_20 (by decide) ?_
                  refine lv_icmp_ge (tgt := 45) hx hb dX2_unload_21 (by decide) (fun c_24 => absurd c_24 (by decide)) (fun c_24 => ?_)
                  refine lv_aload_n hx hb dX2_unload_24 rfl (lv_at hl 2 rfl) ?_
                  refine lv_iload_n hx hb dX2_unload_25 rfl (lv_at hl 3 rfl) ?_
                  refine lv_iload hx hb dX2_unload_26 (lv_at hl 0 rfl) ?_
                  refine lv_iadd hx hb dX2_unload_28 ?_
                  refine lv_topi (fun x_25 ex_25 => ?_)
                  refine lv_aload_n hx hb dX2_unload_29 rfl (lv_at hl 1 rfl) ?_
                  refine va_get (D := DG E) (ci := 2) (v := .ref v7_1) (C := RX2) (T := TX2) (N := 8) hx hb hts iw_X2 hown hK.1 (va_one ha_1) 0 rfl rfl 7 (by decide) (hts _ fl_X2_9) (fun _ h9 => h9) rfl dX2_unload_30 ?_
                  refine lv_iload hx hb dX2_unload_33 (lv_at hl 0 rfl) ?_
                  refine va_iald (D := DG E) hx hb hK.1 (va_one ha_6) 0 0 rfl rfl (show vp_in (3) 4 from vp_in_iff.mpr ⟨by decide, by decide⟩) dX2_unload_35 ?_
                  refine W.eq (g2 := F0 m 36 ls [.int (f_6 (3 : Int32).toNatClampNeg), .int x_25, .ref p0]) (by rfl) ?_
                  refine lv_topi (fun x_26 ex_26 => ?_)
                  refine va_callv (rnV (fun H => TH E (T1 E) G [] H) (As := [.int x_25, .int x_26]) (rest := []) ⟨hx, hb, hml, hown, hts⟩ (t_X1_put l E z0 G hGz p0 x_25 x_26 hG0) (cwV 2 hts (gdV ml_X2_53 im_X1_put se_X1_X1_put in_X1 co_X1_put rfl) rfl rfl rfl (by decide +kernel) ⟨Nat.le_of_ble_eq_true rfl, Nat.le_of_ble_eq_true rfl⟩) hT (fun U hU hW => hK.go hW hS hAz hU) (va_recv hK.1 (va_one ha_8) (ci := 1) (q0 := 0) rfl rfl) rfl rfl hl.1 rfl (lv_room (Nat.le_of_ble_eq_true rfl)) dX2_unload_36 ⟨Nat.le_of_ble_eq_true rfl, Nat.le_of_ble_eq_true rfl⟩) hS (fun q _ h => mL (L' := [14]) (L := [14]) (by decide) h) (fun q h => mL (L' := [14]) (L := [14]) (by decide) h) (fun _ t H locs ht hvm hwr_27 hB hz hk hS => ?_)
                  have hT : TH E (T1 E) G [] H := by rw [ht] at hB; exact hB
                  have ha_1 := ha_1.kept (hk _ ha_1.lt (nL hG (by decide)))
                  have ha_6 := ha_6.kept (hk _ ha_6.lt (nL hg7_1 (by decide)))
                  have ha_8 := ha_8.kept (hk _ ha_8.lt (nL hG0 (by decide)))
                  refine lv_iinc (v := 4) (lv' := [(4, .int 4), (0, .ref h0), (1, .ref p0), (2, .int p1), (3, .int p2)]) hx hb dX2_unload_39 hl (k := 0) rfl (by decide) (by decide) rfl (fun ls hl => ?_)
                  refine lv_goto (tgt := 3) hx hb dX2_unload_42 (by decide) ?_
                  refine lv_iload hx hb dX2_unload_3 (lv_at hl 0 rfl) ?_
                  refine lv_aload_n hx hb dX2_unload_5 rfl (lv_at hl 1 rfl) ?_
                  refine va_get (D := DG E) (ci := 2) (v := .int v3_1) (C := RX2) (T := TX2) (N := 8) hx hb hts iw_X2 hown hK.1 (va_one ha_1) 0 rfl rfl 3 (by decide) (hts _ fl_X2_25) (fun _ h9 => h9) rfl dX2_unload_6 ?_
                  refine lv_icmp_ge (tgt := 45) hx hb dX2_unload_9 (by decide) (fun c_28 => ?_) (fun c_28 => ?_)
                  · simp only [lt_I, le_I, eq_I, i_0, i_1, i_2, i_3, i_4, i_5, i_6, i_7, i_8, i_10, i_12, i_16, i_20, i_23, i_24, i_31, i_32, i_63, i_64, i_m1] at c_28
                    exact W.vret hx hb hr (fun t ht hW => ⟨⟨(), rfl, trivial, (by show TH E (T1 E) G [] t.heap; rw [ht]; exact hT)⟩, hS.F ht⟩) hS.2.2 dX2_unload_45
                  · simp only [lt_I, le_I, eq_I, i_0, i_1, i_2, i_3, i_4, i_5, i_6, i_7, i_8, i_10, i_12, i_16, i_20, i_23, i_24, i_31, i_32, i_63, i_64, i_m1] at c_28
                    refine lv_iload hx hb dX2_unload_12 (lv_at hl 0 rfl) ?_
                    refine lv_iload_n hx hb dX2_unload_14 rfl (lv_at hl 4 rfl) ?_
                    refine lv_icmp_ge (tgt := 45) hx hb dX2_unload_15 (by decide) (fun c_29 => ?_) (fun c_29 => ?_)
                    · simp only [lt_I, le_I, eq_I, i_0, i_1, i_2, i_3, i_4, i_5, i_6, i_7, i_8, i_10, i_12, i_16, i_20, i_23, i_24, i_31, i_32, i_63, i_64, i_m1] at c_29
                      exact W.vret hx hb hr (fun t ht hW => ⟨⟨(), rfl, trivial, (by show TH E (T1 E) G [] t.heap; rw [ht]; exact hT)⟩, hS.F ht⟩) hS.2.2 dX2_unload_45
                    · simp only [lt_I, le_I, eq_I, i_0, i_1, i_2, i_3, i_4, i_5, i_6, i_7, i_8, i_10, i_12, i_16, i_20, i_23, i_24, i_31, i_32, i_63, i_64, i_m1] at c_29
                      refine lv_iload hx hb dX2_unload_18 (lv_at hl 0 rfl) ?_
                      refine lv_iconst (v := 4) hx hb dX2_unload_20 (by decide) ?_
                      refine lv_icmp_ge (tgt := 45) hx hb dX2_unload_21 (by decide) (fun c_30 => ?_) (fun c_30 => absurd c_30 (by decide))
                      exact W.vret hx hb hr (fun t ht hW => ⟨⟨(), rfl, trivial, (by show TH E (T1 E) G [] t.heap; rw [ht]; exact hT)⟩, hS.F ht⟩) hS.2.2 dX2_unload_45
theorem dX2_isFirst_0 : decode cX2_isFirst 0 = .ok (.aload_n 0, 1) := by decide +kernel
theorem dX2_isFirst_1 : decode cX2_isFirst 1 = .ok (.getfield 28, 3) := by decide +kernel
theorem dX2_isFirst_4 : decode cX2_isFirst 4 = .ok (.iconst 1, 1) := by decide +kernel
theorem dX2_isFirst_5 : decode cX2_isFirst 5 = .ok (.iand, 1) := by decide +kernel
theorem dX2_isFirst_6 : decode cX2_isFirst 6 = .ok (.ifCond .eq 7, 3) := by decide +kernel
theorem dX2_isFirst_9 : decode cX2_isFirst 9 = .ok (.iconst 1, 1) := by decide +kernel
theorem dX2_isFirst_10 : decode cX2_isFirst 10 = .ok (.goto 4, 3) := by decide +kernel
theorem dX2_isFirst_13 : decode cX2_isFirst 13 = .ok (.iconst 0, 1) := by decide +kernel
theorem dX2_isFirst_14 : decode cX2_isFirst 14 = .ok (.ireturn, 1) := by decide +kernel
set_option maxHeartbeats 8000000 in
set_option maxRecDepth 100000 in
theorem t_X2_isFirst (l : Launch) (E : EE) (z0 : Nat) (G : Nat → Nat) (hGz : ∀ q, G q ≠ 0 → z0 ≤ q) (h0 : Nat) (hG : G h0 = 31) : Met l yX2_isFirst [Cond.code yX2_isFirst cX2_isFirst 1 (some .boolean)] ({ frames := 0, cells := 0, slots := 0, locals := 0 } : Room) (va_Pc [.ref h0] (fun U => (TH E (T1 E) G [] U.heap) ∧ KS E z0 U)) (va_Qi (fun (r : Int32) (_ : Unit) => r = 0 ∨ r = 1) (fun _ t => True) (fun _ : Nat => False)) 0 0 (fun _ : Nat => False) := by
  refine Met.ofW (cc := cX2_isFirst) (maxL := 1) (ret := (some .boolean)) (by decide) rfl ?_
  intro p e s m args below meth c s₁ B hml hv
  obtain ⟨rfl, hT, hK⟩ := hv
  have hx := B.exec
  have hb := B.bytes
  have hr := B.returns
  have hts : ∀ w ∈ TS, w.before ([.ref h0] : List Value).toArray s = true := fun w hw => hK.2.1 w hw _
  have hown : s.vm.findClass RX2 = some m.cls := findClass_of_methodNamed B.named
  have hlocks := B.notSynchronized
  have hS : va_S (fun _ : Nat => False) s.heap s.heap [] := va_S.rf
  have hAz : ∀ q, (fun _ : Nat => False) q → z0 ≤ q := fun _ h => h.elim
  have hl := lv_entry ([.ref h0]) (n := 1) (Nat.le_of_ble_eq_true rfl)
  rw [lg_entry_eq]
  generalize (lg_sl ([.ref h0]) ++ List.replicate (1 - (lg_sl ([.ref h0])).length) Slot.unset).toArray = ls at hl ⊢
  have hl : lv_has ls 1 [(0, .ref h0)] := hl
  refine lv_aload_n hx hb dX2_isFirst_0 rfl (lv_at hl 0 rfl) ?_
  obtain ⟨v0_1, v1_1, v2_1, v3_1, v4_1, v5_1, v6_1, v7_1, ha_1, hb0_1, hb3_1, hg7_1⟩ := tr_31 hT hG
  refine va_get (D := DG E) (ci := 2) (v := .int v4_1) (C := RX2) (T := TX2) (N := 8) hx hb hts iw_X2 hown hK.1 (va_one ha_1) 0 rfl rfl 4 (by decide) (hts _ fl_X2_28) (fun _ h9 => h9) rfl dX2_isFirst_1 ?_
  refine lv_iconst (v := 1) hx hb dX2_isFirst_4 (by decide) ?_
  refine lv_iand hx hb dX2_isFirst_5 ?_
  refine lv_topi (fun x_2 ex_2 => ?_)
  refine lv_if_eq (tgt := 13) hx hb dX2_isFirst_6 (by decide) (fun c_3 => ?_) (fun c_3 => ?_)
  · simp only [lt_I, le_I, eq_I, i_0, i_1, i_2, i_3, i_4, i_5, i_6, i_7, i_8, i_10, i_12, i_16, i_20, i_23, i_24, i_31, i_32, i_63, i_64, i_m1] at c_3
    refine lv_iconst (v := 0) hx hb dX2_isFirst_13 (by decide) ?_
    exact W.zret (v := 0) (ty := .boolean) hx hb hr rfl (fun t ht hW => ⟨⟨0, (), rfl, (by decide), trivial⟩, hS.F ht⟩) hS.2.2 dX2_isFirst_14
  · simp only [lt_I, le_I, eq_I, i_0, i_1, i_2, i_3, i_4, i_5, i_6, i_7, i_8, i_10, i_12, i_16, i_20, i_23, i_24, i_31, i_32, i_63, i_64, i_m1] at c_3
    refine lv_iconst (v := 1) hx hb dX2_isFirst_9 (by decide) ?_
    refine lv_goto (tgt := 14) hx hb dX2_isFirst_10 (by decide) ?_
    exact W.zret (v := 1) (ty := .boolean) hx hb hr rfl (fun t ht hW => ⟨⟨1, (), rfl, (by decide), trivial⟩, hS.F ht⟩) hS.2.2 dX2_isFirst_14
theorem dX2_isLast_0 : decode cX2_isLast 0 = .ok (.aload_n 0, 1) := by decide +kernel
theorem dX2_isLast_1 : decode cX2_isLast 1 = .ok (.getfield 28, 3) := by decide +kernel
theorem dX2_isLast_4 : decode cX2_isLast 4 = .ok (.iconst 2, 1) := by decide +kernel
theorem dX2_isLast_5 : decode cX2_isLast 5 = .ok (.iand, 1) := by decide +kernel
theorem dX2_isLast_6 : decode cX2_isLast 6 = .ok (.ifCond .eq 7, 3) := by decide +kernel
theorem dX2_isLast_9 : decode cX2_isLast 9 = .ok (.iconst 1, 1) := by decide +kernel
theorem dX2_isLast_10 : decode cX2_isLast 10 = .ok (.goto 4, 3) := by decide +kernel
theorem dX2_isLast_13 : decode cX2_isLast 13 = .ok (.iconst 0, 1) := by decide +kernel
theorem dX2_isLast_14 : decode cX2_isLast 14 = .ok (.ireturn, 1) := by decide +kernel
set_option maxHeartbeats 8000000 in
set_option maxRecDepth 100000 in
theorem t_X2_isLast (l : Launch) (E : EE) (z0 : Nat) (G : Nat → Nat) (hGz : ∀ q, G q ≠ 0 → z0 ≤ q) (h0 : Nat) (hG : G h0 = 31) : Met l yX2_isLast [Cond.code yX2_isLast cX2_isLast 1 (some .boolean)] ({ frames := 0, cells := 0, slots := 0, locals := 0 } : Room) (va_Pc [.ref h0] (fun U => (TH E (T1 E) G [] U.heap) ∧ KS E z0 U)) (va_Qi (fun (r : Int32) (_ : Unit) => r = 0 ∨ r = 1) (fun _ t => True) (fun _ : Nat => False)) 0 0 (fun _ : Nat => False) := by
  refine Met.ofW (cc := cX2_isLast) (maxL := 1) (ret := (some .boolean)) (by decide) rfl ?_
  intro p e s m args below meth c s₁ B hml hv
  obtain ⟨rfl, hT, hK⟩ := hv
  have hx := B.exec
  have hb := B.bytes
  have hr := B.returns
  have hts : ∀ w ∈ TS, w.before ([.ref h0] : List Value).toArray s = true := fun w hw => hK.2.1 w hw _
  have hown : s.vm.findClass RX2 = some m.cls := findClass_of_methodNamed B.named
  have hlocks := B.notSynchronized
  have hS : va_S (fun _ : Nat => False) s.heap s.heap [] := va_S.rf
  have hAz : ∀ q, (fun _ : Nat => False) q → z0 ≤ q := fun _ h => h.elim
  have hl := lv_entry ([.ref h0]) (n := 1) (Nat.le_of_ble_eq_true rfl)
  rw [lg_entry_eq]
  generalize (lg_sl ([.ref h0]) ++ List.replicate (1 - (lg_sl ([.ref h0])).length) Slot.unset).toArray = ls at hl ⊢
  have hl : lv_has ls 1 [(0, .ref h0)] := hl
  refine lv_aload_n hx hb dX2_isLast_0 rfl (lv_at hl 0 rfl) ?_
  obtain ⟨v0_1, v1_1, v2_1, v3_1, v4_1, v5_1, v6_1, v7_1, ha_1, hb0_1, hb3_1, hg7_1⟩ := tr_31 hT hG
  refine va_get (D := DG E) (ci := 2) (v := .int v4_1) (C := RX2) (T := TX2) (N := 8) hx hb hts iw_X2 hown hK.1 (va_one ha_1) 0 rfl rfl 4 (by decide) (hts _ fl_X2_28) (fun _ h9 => h9) rfl dX2_isLast_1 ?_
  refine lv_iconst (v := 2) hx hb dX2_isLast_4 (by decide) ?_
  refine lv_iand hx hb dX2_isLast_5 ?_
  refine lv_topi (fun x_2 ex_2 => ?_)
  refine lv_if_eq (tgt := 13) hx hb dX2_isLast_6 (by decide) (fun c_3 => ?_) (fun c_3 => ?_)
  · simp only [lt_I, le_I, eq_I, i_0, i_1, i_2, i_3, i_4, i_5, i_6, i_7, i_8, i_10, i_12, i_16, i_20, i_23, i_24, i_31, i_32, i_63, i_64, i_m1] at c_3
    refine lv_iconst (v := 0) hx hb dX2_isLast_13 (by decide) ?_
    exact W.zret (v := 0) (ty := .boolean) hx hb hr rfl (fun t ht hW => ⟨⟨0, (), rfl, (by decide), trivial⟩, hS.F ht⟩) hS.2.2 dX2_isLast_14
  · simp only [lt_I, le_I, eq_I, i_0, i_1, i_2, i_3, i_4, i_5, i_6, i_7, i_8, i_10, i_12, i_16, i_20, i_23, i_24, i_31, i_32, i_63, i_64, i_m1] at c_3
    refine lv_iconst (v := 1) hx hb dX2_isLast_9 (by decide) ?_
    refine lv_goto (tgt := 14) hx hb dX2_isLast_10 (by decide) ?_
    exact W.zret (v := 1) (ty := .boolean) hx hb hr rfl (fun t ht hW => ⟨⟨1, (), rfl, (by decide), trivial⟩, hS.F ht⟩) hS.2.2 dX2_isLast_14
theorem dX2_isAllowed_0 : decode cX2_isAllowed 0 = .ok (.aload_n 0, 1) := by decide +kernel
theorem dX2_isAllowed_1 : decode cX2_isAllowed 1 = .ok (.getfield 19, 3) := by decide +kernel
theorem dX2_isAllowed_4 : decode cX2_isAllowed 4 = .ok (.lookupswitch 64 #[(1, 28), (2, 46)], 28) := by decide +kernel
theorem dX2_isAllowed_32 : decode cX2_isAllowed 32 = .ok (.aload_n 1, 1) := by decide +kernel
theorem dX2_isAllowed_33 : decode cX2_isAllowed 33 = .ok (.aload_n 0, 1) := by decide +kernel
theorem dX2_isAllowed_34 : decode cX2_isAllowed 34 = .ok (.getfield 28, 3) := by decide +kernel
theorem dX2_isAllowed_37 : decode cX2_isAllowed 37 = .ok (.aload_n 0, 1) := by decide +kernel
theorem dX2_isAllowed_38 : decode cX2_isAllowed 38 = .ok (.getfield 31, 3) := by decide +kernel
theorem dX2_isAllowed_41 : decode cX2_isAllowed 41 = .ok (.aload_n 0, 1) := by decide +kernel
theorem dX2_isAllowed_42 : decode cX2_isAllowed 42 = .ok (.getfield 25, 3) := by decide +kernel
theorem dX2_isAllowed_45 : decode cX2_isAllowed 45 = .ok (.iconst 1, 1) := by decide +kernel
theorem dX2_isAllowed_46 : decode cX2_isAllowed 46 = .ok (.invokevirtual 57, 3) := by decide +kernel
theorem dX2_isAllowed_49 : decode cX2_isAllowed 49 = .ok (.ireturn, 1) := by decide +kernel
theorem dX2_isAllowed_50 : decode cX2_isAllowed 50 = .ok (.aload_n 1, 1) := by decide +kernel
theorem dX2_isAllowed_51 : decode cX2_isAllowed 51 = .ok (.aload_n 0, 1) := by decide +kernel
theorem dX2_isAllowed_52 : decode cX2_isAllowed 52 = .ok (.getfield 28, 3) := by decide +kernel
theorem dX2_isAllowed_55 : decode cX2_isAllowed 55 = .ok (.aload_n 0, 1) := by decide +kernel
theorem dX2_isAllowed_56 : decode cX2_isAllowed 56 = .ok (.getfield 31, 3) := by decide +kernel
theorem dX2_isAllowed_59 : decode cX2_isAllowed 59 = .ok (.aload_n 0, 1) := by decide +kernel
theorem dX2_isAllowed_60 : decode cX2_isAllowed 60 = .ok (.getfield 25, 3) := by decide +kernel
theorem dX2_isAllowed_63 : decode cX2_isAllowed 63 = .ok (.iconst 2, 1) := by decide +kernel
theorem dX2_isAllowed_64 : decode cX2_isAllowed 64 = .ok (.invokevirtual 57, 3) := by decide +kernel
theorem dX2_isAllowed_67 : decode cX2_isAllowed 67 = .ok (.ireturn, 1) := by decide +kernel
theorem dX2_isAllowed_68 : decode cX2_isAllowed 68 = .ok (.aload_n 1, 1) := by decide +kernel
theorem dX2_isAllowed_69 : decode cX2_isAllowed 69 = .ok (.aload_n 0, 1) := by decide +kernel
theorem dX2_isAllowed_70 : decode cX2_isAllowed 70 = .ok (.getfield 28, 3) := by decide +kernel
theorem dX2_isAllowed_73 : decode cX2_isAllowed 73 = .ok (.aload_n 0, 1) := by decide +kernel
theorem dX2_isAllowed_74 : decode cX2_isAllowed 74 = .ok (.getfield 31, 3) := by decide +kernel
theorem dX2_isAllowed_77 : decode cX2_isAllowed 77 = .ok (.iconst 1, 1) := by decide +kernel
theorem dX2_isAllowed_78 : decode cX2_isAllowed 78 = .ok (.iconst 4, 1) := by decide +kernel
theorem dX2_isAllowed_79 : decode cX2_isAllowed 79 = .ok (.invokevirtual 57, 3) := by decide +kernel
theorem dX2_isAllowed_82 : decode cX2_isAllowed 82 = .ok (.ireturn, 1) := by decide +kernel
set_option maxHeartbeats 8000000 in
set_option maxRecDepth 100000 in
theorem t_X2_isAllowed (l : Launch) (E : EE) (z0 : Nat) (G : Nat → Nat) (hGz : ∀ q, G q ≠ 0 → z0 ≤ q) (h0 : Nat) (p0 : Nat) (hG : G h0 = 31) (hG0 : G p0 = 5) : Met l yX2_isAllowed [Cond.code yX2_isAllowed cX2_isAllowed 2 (some .boolean)] ({ frames := 2, cells := 0, slots := 0, locals := 47 } : Room) (va_Pc [.ref h0, .ref p0] (fun U => (TH E (T1 E) G [] U.heap) ∧ KS E z0 U)) (va_Qi (fun (r : Int32) (_ : Unit) => r = 0 ∨ r = 1) (fun _ t => True) (fun _ : Nat => False)) 0 0 (fun _ : Nat => False) := by
  refine Met.ofW (cc := cX2_isAllowed) (maxL := 2) (ret := (some .boolean)) (by decide) rfl ?_
  intro p e s m args below meth c s₁ B hml hv
  obtain ⟨rfl, hT, hK⟩ := hv
  have hx := B.exec
  have hb := B.bytes
  have hr := B.returns
  have hts : ∀ w ∈ TS, w.before ([.ref h0, .ref p0] : List Value).toArray s = true := fun w hw => hK.2.1 w hw _
  have hown : s.vm.findClass RX2 = some m.cls := findClass_of_methodNamed B.named
  have hlocks := B.notSynchronized
  have hS : va_S (fun _ : Nat => False) s.heap s.heap [] := va_S.rf
  have hAz : ∀ q, (fun _ : Nat => False) q → z0 ≤ q := fun _ h => h.elim
  have hl := lv_entry ([.ref h0, .ref p0]) (n := 2) (Nat.le_of_ble_eq_true rfl)
  rw [lg_entry_eq]
  generalize (lg_sl ([.ref h0, .ref p0]) ++ List.replicate (2 - (lg_sl ([.ref h0, .ref p0])).length) Slot.unset).toArray = ls at hl ⊢
  have hl : lv_has ls 2 [(0, .ref h0), (1, .ref p0)] := hl
  refine lv_aload_n hx hb dX2_isAllowed_0 rfl (lv_at hl 0 rfl) ?_
  obtain ⟨v0_1, v1_1, v2_1, v3_1, v4_1, v5_1, v6_1, v7_1, ha_1, hb0_1, hb3_1, hg7_1⟩ := tr_31 hT hG
  refine va_get (D := DG E) (ci := 2) (v := .int v1_1) (C := RX2) (T := TX2) (N := 8) hx hb hts iw_X2 hown hK.1 (va_one ha_1) 0 rfl rfl 1 (by decide) (hts _ fl_X2_19) (fun _ h9 => h9) rfl dX2_isAllowed_1 ?_
  rcases (show v1_1.toInt = 1 ∨ v1_1.toInt = 2 ∨ (v1_1.toInt ≠ 1 ∧ v1_1.toInt ≠ 2) by omega) with c_2 | c_2 | ⟨c_20, c_21⟩
  · refine lv_lookup (tgt := 32) (off := 28) hx hb dX2_isAllowed_4 (by decide) (by rw [c_2]; rfl) (by decide) ?_
    refine lv_aload_n hx hb dX2_isAllowed_32 rfl (lv_at hl 1 rfl) ?_
    refine lv_aload_n hx hb dX2_isAllowed_33 rfl (lv_at hl 0 rfl) ?_
    refine va_get (D := DG E) (ci := 2) (v := .int v4_1) (C := RX2) (T := TX2) (N := 8) hx hb hts iw_X2 hown hK.1 (va_one ha_1) 0 rfl rfl 4 (by decide) (hts _ fl_X2_28) (fun _ h9 => h9) rfl dX2_isAllowed_34 ?_
    refine lv_aload_n hx hb dX2_isAllowed_37 rfl (lv_at hl 0 rfl) ?_
    refine va_get (D := DG E) (ci := 2) (v := .int v5_1) (C := RX2) (T := TX2) (N := 8) hx hb hts iw_X2 hown hK.1 (va_one ha_1) 0 rfl rfl 5 (by decide) (hts _ fl_X2_31) (fun _ h9 => h9) rfl dX2_isAllowed_38 ?_
    refine lv_aload_n hx hb dX2_isAllowed_41 rfl (lv_at hl 0 rfl) ?_
    refine va_get (D := DG E) (ci := 2) (v := .int v3_1) (C := RX2) (T := TX2) (N := 8) hx hb hts iw_X2 hown hK.1 (va_one ha_1) 0 rfl rfl 3 (by decide) (hts _ fl_X2_25) (fun _ h9 => h9) rfl dX2_isAllowed_42 ?_
    refine lv_iconst (v := 1) hx hb dX2_isAllowed_45 (by decide) ?_
    obtain ⟨v0_3, v1_3, v2_3, v3_3, v4_3, ha_3, hg0_3, hg1_3, hg2_3, hb3_3, hb4_3⟩ := tr_5 hT hG0
    refine va_calli (rnV (fun H => TH E (T1 E) G [] H) (As := [.int v4_1, .int v5_1, .int v3_1, .int 1]) (rest := []) ⟨hx, hb, hml, hown, hts⟩ (t_X1_allows l E z0 G hGz p0 v4_1 v5_1 v3_1 1 hG0) (cwV 4 hts (gdV ml_X2_57 im_X1_allows se_X1_X1_allows in_X1 co_X1_allows rfl) rfl rfl rfl (by decide +kernel) ⟨Nat.le_of_ble_eq_true rfl, Nat.le_of_ble_eq_true rfl⟩) hT (fun U hU hW => hK.go hW hS hAz hU) (va_recv hK.1 (va_one ha_3) (ci := 1) (q0 := 0) rfl rfl) rfl rfl hl.1 rfl (lv_room (Nat.le_of_ble_eq_true rfl)) dX2_isAllowed_46 ⟨Nat.le_of_ble_eq_true rfl, Nat.le_of_ble_eq_true rfl⟩) hS (fun q _ h => h.elim) (fun q h => h.elim) (fun r_4 _ t H locs ht hvm hwr_4 hB hz hk hS => ?_)
    have hT : TH E (T1 E) G [] H := hT.kept (fun q hq => hk q hq (fun h => h))
    have ha_1 := ha_1.kept (hk _ ha_1.lt (fun h => h))
    have ha_3 := ha_3.kept (hk _ ha_3.lt (fun h => h))
    have hzr_4 := s_rng hwr_4
    rcases hwr_4 with rfl | rfl
    · exact W.zret (v := 0) (ty := .boolean) hx hb hr rfl (fun t ht hW => ⟨⟨0, (), rfl, (by decide), trivial⟩, hS.F ht⟩) hS.2.2 dX2_isAllowed_49
    · exact W.zret (v := 1) (ty := .boolean) hx hb hr rfl (fun t ht hW => ⟨⟨1, (), rfl, (by decide), trivial⟩, hS.F ht⟩) hS.2.2 dX2_isAllowed_49
  · refine lv_lookup (tgt := 50) (off := 46) hx hb dX2_isAllowed_4 (by decide) (by rw [c_2]; rfl) (by decide) ?_
    refine lv_aload_n hx hb dX2_isAllowed_50 rfl (lv_at hl 1 rfl) ?_
    refine lv_aload_n hx hb dX2_isAllowed_51 rfl (lv_at hl 0 rfl) ?_
    refine va_get (D := DG E) (ci := 2) (v := .int v4_1) (C := RX2) (T := TX2) (N := 8) hx hb hts iw_X2 hown hK.1 (va_one ha_1) 0 rfl rfl 4 (by decide) (hts _ fl_X2_28) (fun _ h9 => h9) rfl dX2_isAllowed_52 ?_
    refine lv_aload_n hx hb dX2_isAllowed_55 rfl (lv_at hl 0 rfl) ?_
    refine va_get (D := DG E) (ci := 2) (v := .int v5_1) (C := RX2) (T := TX2) (N := 8) hx hb hts iw_X2 hown hK.1 (va_one ha_1) 0 rfl rfl 5 (by decide) (hts _ fl_X2_31) (fun _ h9 => h9) rfl dX2_isAllowed_56 ?_
    refine lv_aload_n hx hb dX2_isAllowed_59 rfl (lv_at hl 0 rfl) ?_
    refine va_get (D := DG E) (ci := 2) (v := .int v3_1) (C := RX2) (T := TX2) (N := 8) hx hb hts iw_X2 hown hK.1 (va_one ha_1) 0 rfl rfl 3 (by decide) (hts _ fl_X2_25) (fun _ h9 => h9) rfl dX2_isAllowed_60 ?_
    refine lv_iconst (v := 2) hx hb dX2_isAllowed_63 (by decide) ?_
    obtain ⟨v0_5, v1_5, v2_5, v3_5, v4_5, ha_5, hg0_5, hg1_5, hg2_5, hb3_5, hb4_5⟩ := tr_5 hT hG0
    refine va_calli (rnV (fun H => TH E (T1 E) G [] H) (As := [.int v4_1, .int v5_1, .int v3_1, .int 2]) (rest := []) ⟨hx, hb, hml, hown, hts⟩ (t_X1_allows l E z0 G hGz p0 v4_1 v5_1 v3_1 2 hG0) (cwV 4 hts (gdV ml_X2_57 im_X1_allows se_X1_X1_allows in_X1 co_X1_allows rfl) rfl rfl rfl (by decide +kernel) ⟨Nat.le_of_ble_eq_true rfl, Nat.le_of_ble_eq_true rfl⟩) hT (fun U hU hW => hK.go hW hS hAz hU) (va_recv hK.1 (va_one ha_5) (ci := 1) (q0 := 0) rfl rfl) rfl rfl hl.1 rfl (lv_room (Nat.le_of_ble_eq_true rfl)) dX2_isAllowed_64 ⟨Nat.le_of_ble_eq_true rfl, Nat.le_of_ble_eq_true rfl⟩) hS (fun q _ h => h.elim) (fun q h => h.elim) (fun r_6 _ t H locs ht hvm hwr_6 hB hz hk hS => ?_)
    have hT : TH E (T1 E) G [] H := hT.kept (fun q hq => hk q hq (fun h => h))
    have ha_1 := ha_1.kept (hk _ ha_1.lt (fun h => h))
    have ha_5 := ha_5.kept (hk _ ha_5.lt (fun h => h))
    have hzr_6 := s_rng hwr_6
    rcases hwr_6 with rfl | rfl
    · exact W.zret (v := 0) (ty := .boolean) hx hb hr rfl (fun t ht hW => ⟨⟨0, (), rfl, (by decide), trivial⟩, hS.F ht⟩) hS.2.2 dX2_isAllowed_67
    · exact W.zret (v := 1) (ty := .boolean) hx hb hr rfl (fun t ht hW => ⟨⟨1, (), rfl, (by decide), trivial⟩, hS.F ht⟩) hS.2.2 dX2_isAllowed_67
  · refine lv_lookup (tgt := 68) (off := 64) hx hb dX2_isAllowed_4 (by decide) (by simp [Op.lookupswitch.offset, c_20, Ne.symm c_20, c_21, Ne.symm c_21]) (by decide) ?_
    refine lv_aload_n hx hb dX2_isAllowed_68 rfl (lv_at hl 1 rfl) ?_
    refine lv_aload_n hx hb dX2_isAllowed_69 rfl (lv_at hl 0 rfl) ?_
    refine va_get (D := DG E) (ci := 2) (v := .int v4_1) (C := RX2) (T := TX2) (N := 8) hx hb hts iw_X2 hown hK.1 (va_one ha_1) 0 rfl rfl 4 (by decide) (hts _ fl_X2_28) (fun _ h9 => h9) rfl dX2_isAllowed_70 ?_
    refine lv_aload_n hx hb dX2_isAllowed_73 rfl (lv_at hl 0 rfl) ?_
    refine va_get (D := DG E) (ci := 2) (v := .int v5_1) (C := RX2) (T := TX2) (N := 8) hx hb hts iw_X2 hown hK.1 (va_one ha_1) 0 rfl rfl 5 (by decide) (hts _ fl_X2_31) (fun _ h9 => h9) rfl dX2_isAllowed_74 ?_
    refine lv_iconst (v := 1) hx hb dX2_isAllowed_77 (by decide) ?_
    refine lv_iconst (v := 4) hx hb dX2_isAllowed_78 (by decide) ?_
    obtain ⟨v0_7, v1_7, v2_7, v3_7, v4_7, ha_7, hg0_7, hg1_7, hg2_7, hb3_7, hb4_7⟩ := tr_5 hT hG0
    refine va_calli (rnV (fun H => TH E (T1 E) G [] H) (As := [.int v4_1, .int v5_1, .int 1, .int 4]) (rest := []) ⟨hx, hb, hml, hown, hts⟩ (t_X1_allows l E z0 G hGz p0 v4_1 v5_1 1 4 hG0) (cwV 4 hts (gdV ml_X2_57 im_X1_allows se_X1_X1_allows in_X1 co_X1_allows rfl) rfl rfl rfl (by decide +kernel) ⟨Nat.le_of_ble_eq_true rfl, Nat.le_of_ble_eq_true rfl⟩) hT (fun U hU hW => hK.go hW hS hAz hU) (va_recv hK.1 (va_one ha_7) (ci := 1) (q0 := 0) rfl rfl) rfl rfl hl.1 rfl (lv_room (Nat.le_of_ble_eq_true rfl)) dX2_isAllowed_79 ⟨Nat.le_of_ble_eq_true rfl, Nat.le_of_ble_eq_true rfl⟩) hS (fun q _ h => h.elim) (fun q h => h.elim) (fun r_8 _ t H locs ht hvm hwr_8 hB hz hk hS => ?_)
    have hT : TH E (T1 E) G [] H := hT.kept (fun q hq => hk q hq (fun h => h))
    have ha_1 := ha_1.kept (hk _ ha_1.lt (fun h => h))
    have ha_7 := ha_7.kept (hk _ ha_7.lt (fun h => h))
    have hzr_8 := s_rng hwr_8
    rcases hwr_8 with rfl | rfl
    · exact W.zret (v := 0) (ty := .boolean) hx hb hr rfl (fun t ht hW => ⟨⟨0, (), rfl, (by decide), trivial⟩, hS.F ht⟩) hS.2.2 dX2_isAllowed_82
    · exact W.zret (v := 1) (ty := .boolean) hx hb hr rfl (fun t ht hW => ⟨⟨1, (), rfl, (by decide), trivial⟩, hS.F ht⟩) hS.2.2 dX2_isAllowed_82
theorem dX2_tell_0 : decode cX2_tell 0 = .ok (.iload_n 1, 1) := by decide +kernel
theorem dX2_tell_1 : decode cX2_tell 1 = .ok (.tableswitch 69 0 5 #[39, 44, 49, 54, 59, 64], 39) := by decide +kernel
theorem dX2_tell_40 : decode cX2_tell 40 = .ok (.aload_n 0, 1) := by decide +kernel
theorem dX2_tell_41 : decode cX2_tell 41 = .ok (.getfield 15, 3) := by decide +kernel
theorem dX2_tell_44 : decode cX2_tell 44 = .ok (.ireturn, 1) := by decide +kernel
theorem dX2_tell_45 : decode cX2_tell 45 = .ok (.aload_n 0, 1) := by decide +kernel
theorem dX2_tell_46 : decode cX2_tell 46 = .ok (.getfield 19, 3) := by decide +kernel
theorem dX2_tell_49 : decode cX2_tell 49 = .ok (.ireturn, 1) := by decide +kernel
theorem dX2_tell_50 : decode cX2_tell 50 = .ok (.aload_n 0, 1) := by decide +kernel
theorem dX2_tell_51 : decode cX2_tell 51 = .ok (.getfield 22, 3) := by decide +kernel
theorem dX2_tell_54 : decode cX2_tell 54 = .ok (.ireturn, 1) := by decide +kernel
theorem dX2_tell_55 : decode cX2_tell 55 = .ok (.aload_n 0, 1) := by decide +kernel
theorem dX2_tell_56 : decode cX2_tell 56 = .ok (.getfield 25, 3) := by decide +kernel
theorem dX2_tell_59 : decode cX2_tell 59 = .ok (.ireturn, 1) := by decide +kernel
theorem dX2_tell_60 : decode cX2_tell 60 = .ok (.aload_n 0, 1) := by decide +kernel
theorem dX2_tell_61 : decode cX2_tell 61 = .ok (.getfield 28, 3) := by decide +kernel
theorem dX2_tell_64 : decode cX2_tell 64 = .ok (.ireturn, 1) := by decide +kernel
theorem dX2_tell_65 : decode cX2_tell 65 = .ok (.aload_n 0, 1) := by decide +kernel
theorem dX2_tell_66 : decode cX2_tell 66 = .ok (.getfield 31, 3) := by decide +kernel
theorem dX2_tell_69 : decode cX2_tell 69 = .ok (.ireturn, 1) := by decide +kernel
theorem dX2_tell_70 : decode cX2_tell 70 = .ok (.iconst (-1), 1) := by decide +kernel
theorem dX2_tell_71 : decode cX2_tell 71 = .ok (.ireturn, 1) := by decide +kernel
set_option maxHeartbeats 8000000 in
set_option maxRecDepth 100000 in
theorem t_X2_tell (l : Launch) (E : EE) (z0 : Nat) (G : Nat → Nat) (hGz : ∀ q, G q ≠ 0 → z0 ≤ q) (h0 : Nat) (p0 : Int32) (hG : G h0 = 31) : Met l yX2_tell [Cond.code yX2_tell cX2_tell 2 (some .int)] ({ frames := 0, cells := 0, slots := 0, locals := 0 } : Room) (va_Pc [.ref h0, .int p0] (fun U => (TH E (T1 E) G [] U.heap) ∧ KS E z0 U)) (va_Qi (fun (r : Int32) (_ : Unit) => True) (fun _ t => True) (fun _ : Nat => False)) 0 0 (fun _ : Nat => False) := by
  refine Met.ofW (cc := cX2_tell) (maxL := 2) (ret := (some .int)) (by decide) rfl ?_
  intro p e s m args below meth c s₁ B hml hv
  obtain ⟨rfl, hT, hK⟩ := hv
  have hx := B.exec
  have hb := B.bytes
  have hr := B.returns
  have hts : ∀ w ∈ TS, w.before ([.ref h0, .int p0] : List Value).toArray s = true := fun w hw => hK.2.1 w hw _
  have hown : s.vm.findClass RX2 = some m.cls := findClass_of_methodNamed B.named
  have hlocks := B.notSynchronized
  have hS : va_S (fun _ : Nat => False) s.heap s.heap [] := va_S.rf
  have hAz : ∀ q, (fun _ : Nat => False) q → z0 ≤ q := fun _ h => h.elim
  have hl := lv_entry ([.ref h0, .int p0]) (n := 2) (Nat.le_of_ble_eq_true rfl)
  rw [lg_entry_eq]
  generalize (lg_sl ([.ref h0, .int p0]) ++ List.replicate (2 - (lg_sl ([.ref h0, .int p0])).length) Slot.unset).toArray = ls at hl ⊢
  have hl : lv_has ls 2 [(0, .ref h0), (1, .int p0)] := hl
  refine lv_iload_n hx hb dX2_tell_0 rfl (lv_at hl 1 rfl) ?_
  rcases (show p0.toInt = 0 ∨ p0.toInt = 1 ∨ p0.toInt = 2 ∨ p0.toInt = 3 ∨ p0.toInt = 4 ∨ p0.toInt = 5 ∨ (p0.toInt < 0 ∨ 5 < p0.toInt) by omega) with c_1 | c_1 | c_1 | c_1 | c_1 | c_1 | c_1
  · refine lv_tableIn (tgt := 40) (off := 39) hx hb dX2_tell_1 (by omega) (by omega) (by rw [c_1]; rfl) (by decide) ?_
    refine lv_aload_n hx hb dX2_tell_40 rfl (lv_at hl 0 rfl) ?_
    obtain ⟨v0_2, v1_2, v2_2, v3_2, v4_2, v5_2, v6_2, v7_2, ha_2, hb0_2, hb3_2, hg7_2⟩ := tr_31 hT hG
    refine va_get (D := DG E) (ci := 2) (v := .int v0_2) (C := RX2) (T := TX2) (N := 8) hx hb hts iw_X2 hown hK.1 (va_one ha_2) 0 rfl rfl 0 (by decide) (hts _ fl_X2_15) (fun _ h9 => h9) rfl dX2_tell_41 ?_
    exact W.iret (v := v0_2) hx hb hr (fun t ht hW => ⟨⟨v0_2, (), rfl, trivial, trivial⟩, hS.F ht⟩) hS.2.2 dX2_tell_44
  · refine lv_tableIn (tgt := 45) (off := 44) hx hb dX2_tell_1 (by omega) (by omega) (by rw [c_1]; rfl) (by decide) ?_
    refine lv_aload_n hx hb dX2_tell_45 rfl (lv_at hl 0 rfl) ?_
    obtain ⟨v0_3, v1_3, v2_3, v3_3, v4_3, v5_3, v6_3, v7_3, ha_3, hb0_3, hb3_3, hg7_3⟩ := tr_31 hT hG
    refine va_get (D := DG E) (ci := 2) (v := .int v1_3) (C := RX2) (T := TX2) (N := 8) hx hb hts iw_X2 hown hK.1 (va_one ha_3) 0 rfl rfl 1 (by decide) (hts _ fl_X2_19) (fun _ h9 => h9) rfl dX2_tell_46 ?_
    exact W.iret (v := v1_3) hx hb hr (fun t ht hW => ⟨⟨v1_3, (), rfl, trivial, trivial⟩, hS.F ht⟩) hS.2.2 dX2_tell_49
  · refine lv_tableIn (tgt := 50) (off := 49) hx hb dX2_tell_1 (by omega) (by omega) (by rw [c_1]; rfl) (by decide) ?_
    refine lv_aload_n hx hb dX2_tell_50 rfl (lv_at hl 0 rfl) ?_
    obtain ⟨v0_4, v1_4, v2_4, v3_4, v4_4, v5_4, v6_4, v7_4, ha_4, hb0_4, hb3_4, hg7_4⟩ := tr_31 hT hG
    refine va_get (D := DG E) (ci := 2) (v := .int v2_4) (C := RX2) (T := TX2) (N := 8) hx hb hts iw_X2 hown hK.1 (va_one ha_4) 0 rfl rfl 2 (by decide) (hts _ fl_X2_22) (fun _ h9 => h9) rfl dX2_tell_51 ?_
    exact W.iret (v := v2_4) hx hb hr (fun t ht hW => ⟨⟨v2_4, (), rfl, trivial, trivial⟩, hS.F ht⟩) hS.2.2 dX2_tell_54
  · refine lv_tableIn (tgt := 55) (off := 54) hx hb dX2_tell_1 (by omega) (by omega) (by rw [c_1]; rfl) (by decide) ?_
    refine lv_aload_n hx hb dX2_tell_55 rfl (lv_at hl 0 rfl) ?_
    obtain ⟨v0_5, v1_5, v2_5, v3_5, v4_5, v5_5, v6_5, v7_5, ha_5, hb0_5, hb3_5, hg7_5⟩ := tr_31 hT hG
    refine va_get (D := DG E) (ci := 2) (v := .int v3_5) (C := RX2) (T := TX2) (N := 8) hx hb hts iw_X2 hown hK.1 (va_one ha_5) 0 rfl rfl 3 (by decide) (hts _ fl_X2_25) (fun _ h9 => h9) rfl dX2_tell_56 ?_
    exact W.iret (v := v3_5) hx hb hr (fun t ht hW => ⟨⟨v3_5, (), rfl, trivial, trivial⟩, hS.F ht⟩) hS.2.2 dX2_tell_59
  · refine lv_tableIn (tgt := 60) (off := 59) hx hb dX2_tell_1 (by omega) (by omega) (by rw [c_1]; rfl) (by decide) ?_
    refine lv_aload_n hx hb dX2_tell_60 rfl (lv_at hl 0 rfl) ?_
    obtain ⟨v0_6, v1_6, v2_6, v3_6, v4_6, v5_6, v6_6, v7_6, ha_6, hb0_6, hb3_6, hg7_6⟩ := tr_31 hT hG
    refine va_get (D := DG E) (ci := 2) (v := .int v4_6) (C := RX2) (T := TX2) (N := 8) hx hb hts iw_X2 hown hK.1 (va_one ha_6) 0 rfl rfl 4 (by decide) (hts _ fl_X2_28) (fun _ h9 => h9) rfl dX2_tell_61 ?_
    exact W.iret (v := v4_6) hx hb hr (fun t ht hW => ⟨⟨v4_6, (), rfl, trivial, trivial⟩, hS.F ht⟩) hS.2.2 dX2_tell_64
  · refine lv_tableIn (tgt := 65) (off := 64) hx hb dX2_tell_1 (by omega) (by omega) (by rw [c_1]; rfl) (by decide) ?_
    refine lv_aload_n hx hb dX2_tell_65 rfl (lv_at hl 0 rfl) ?_
    obtain ⟨v0_7, v1_7, v2_7, v3_7, v4_7, v5_7, v6_7, v7_7, ha_7, hb0_7, hb3_7, hg7_7⟩ := tr_31 hT hG
    refine va_get (D := DG E) (ci := 2) (v := .int v5_7) (C := RX2) (T := TX2) (N := 8) hx hb hts iw_X2 hown hK.1 (va_one ha_7) 0 rfl rfl 5 (by decide) (hts _ fl_X2_31) (fun _ h9 => h9) rfl dX2_tell_66 ?_
    exact W.iret (v := v5_7) hx hb hr (fun t ht hW => ⟨⟨v5_7, (), rfl, trivial, trivial⟩, hS.F ht⟩) hS.2.2 dX2_tell_69
  · refine lv_tableOut (tgt := 70) hx hb dX2_tell_1 c_1 (by decide) ?_
    refine lv_iconst (v := (-1)) hx hb dX2_tell_70 (by decide) ?_
    exact W.iret (v := (-1)) hx hb hr (fun t ht hW => ⟨⟨(-1), (), rfl, trivial, trivial⟩, hS.F ht⟩) hS.2.2 dX2_tell_71
